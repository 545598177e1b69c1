/-! ROWS: an instruction each, over V. -/
/-- a local's value -/
def lk : List (Nat × Value) → Nat → Option Value
  | [], _ => none
  | q :: l, i => match Nat.beq q.1 i with
    | true => some q.2
    | false => lk l i
theorem lk_mem : ∀ (l : List (Nat × Value)) (i : Nat) (x : Value), lk l i = some x → (i, x) ∈ l
  | [], i, x, h => by cases h
  | q :: l, i, x, h => by
    rw [lk] at h
    cases e : Nat.beq q.1 i with
    | true =>
      rw [e] at h
      have e2 : q.1 = i := Nat.eq_of_beq_eq_true e
      cases h
      subst e2
      exact List.mem_cons_self
    | false =>
      rw [e] at h
      exact List.mem_cons_of_mem _ (lk_mem l i x h)
theorem lk_at {ls : Array Slot} {nL : Nat} {l : List (Nat × Value)} {i : Nat} {x : Value} (h : lv_has ls nL l) (hk : lk l i = some x) : ls[i]? = some (.val x) := h.2.2 (i, x) (lk_mem l i x hk)
section VR
variable {v : EE} {M : MT} {Z : ZT} {pc : Nat} {L : List (Nat × Value)} {st : List Value} {σ : SS}
theorem v_sub {L' : List (Nat × Value)} (ks : List Nat) (hk : lv_pick L ks = L') (k : V v M Z pc L' st σ) : V v M Z pc L st σ := by
  intro p l e R s m args below meth c A cells slots Q hZ hC H locs ls hl hP hS
  exact k p l e R s m args below meth c A cells slots Q hZ hC H locs ls (lv_sub hl ks hk) hP hS
theorem v_st {σ' : SS} (h : σ = σ') (k : V v M Z pc L st σ') : V v M Z pc L st σ := h ▸ k

theorem v_iconst {n : Int} {x : Int32} (hd : decode (mCode M) pc = .ok (.iconst n, 1)) (hv : Int32.ofInt n = x) (k : V v M Z (pc + 1) L (.int x :: st) σ) : V v M Z pc L st σ := by
  intro p l e R s m args below meth c A cells slots Q hZ hC H locs ls hl hP hS
  exact lv_iconst hC.1.1 hC.1.2.1 hd hv (k p l e R s m args below meth c A cells slots Q hZ hC H locs ls hl hP hS)
theorem v_bipush {n : Int} {x : Int32} (hd : decode (mCode M) pc = .ok (.bipush n, 2)) (hv : (Int8.ofInt n).toInt32 = x) (k : V v M Z (pc + 2) L (.int x :: st) σ) : V v M Z pc L st σ := by
  intro p l e R s m args below meth c A cells slots Q hZ hC H locs ls hl hP hS
  exact lv_bipush hC.1.1 hC.1.2.1 hd hv (k p l e R s m args below meth c A cells slots Q hZ hC H locs ls hl hP hS)
theorem v_sipush {n : Int} {x : Int32} (hd : decode (mCode M) pc = .ok (.sipush n, 3)) (hv : (Int16.ofInt n).toInt32 = x) (k : V v M Z (pc + 3) L (.int x :: st) σ) : V v M Z pc L st σ := by
  intro p l e R s m args below meth c A cells slots Q hZ hC H locs ls hl hP hS
  exact lv_sipush hC.1.1 hC.1.2.1 hd hv (k p l e R s m args below meth c A cells slots Q hZ hC H locs ls hl hP hS)
theorem v_lconst {n : Fin 2} {x : Int64} (hd : decode (mCode M) pc = .ok (.lconst n, 1)) (hv : Int64.ofNat (n : Nat) = x) (k : V v M Z (pc + 1) L (.long x :: st) σ) : V v M Z pc L st σ := by
  intro p l e R s m args below meth c A cells slots Q hZ hC H locs ls hl hP hS
  exact lv_lconst hC.1.1 hC.1.2.1 hd hv (k p l e R s m args below meth c A cells slots Q hZ hC H locs ls hl hP hS)
theorem v_ldc2 {n : Nat} {x : Int64} (hm : Cond.constantLong (mOwn M) n x ∈ mWs M) (hd : decode (mCode M) pc = .ok (.ldc2_w n, 3)) (k : V v M Z (pc + 3) L (.long x :: st) σ) : V v M Z pc L st σ := by
  intro p l e R s m args below meth c A cells slots Q hZ hC H locs ls hl hP hS
  exact lv_ldc2 hC.1.1 hC.1.2.1 hC.1.2.2.2.1 (hC.1.2.2.2.2 _ hm) hd (k p l e R s m args below meth c A cells slots Q hZ hC H locs ls hl hP hS)
theorem v_ldcw {n : Nat} {x : Int32} (hm : Cond.constant (mOwn M) n x ∈ mWs M) (hd : decode (mCode M) pc = .ok (.ldc_w n, 3)) (k : V v M Z (pc + 3) L (.int x :: st) σ) : V v M Z pc L st σ := by
  intro p l e R s m args below meth c A cells slots Q hZ hC H locs ls hl hP hS
  exact lv_ldcw hC.1.1 hC.1.2.1 hC.1.2.2.2.1 (hC.1.2.2.2.2 _ hm) hd (k p l e R s m args below meth c A cells slots Q hZ hC H locs ls hl hP hS)
theorem v_iload_n {i : Fin 4} {x : Int32} (hd : decode (mCode M) pc = .ok (.iload_n i, 1)) (hk : lk L (i : Nat) = some (.int x)) (k : V v M Z (pc + 1) L (.int x :: st) σ) : V v M Z pc L st σ := by
  intro p l e R s m args below meth c A cells slots Q hZ hC H locs ls hl hP hS
  exact lv_iload_n hC.1.1 hC.1.2.1 hd rfl (lk_at hl hk) (k p l e R s m args below meth c A cells slots Q hZ hC H locs ls hl hP hS)
theorem v_iload {i : Nat} {x : Int32} (hd : decode (mCode M) pc = .ok (.iload i, 2)) (hk : lk L i = some (.int x)) (k : V v M Z (pc + 2) L (.int x :: st) σ) : V v M Z pc L st σ := by
  intro p l e R s m args below meth c A cells slots Q hZ hC H locs ls hl hP hS
  exact lv_iload hC.1.1 hC.1.2.1 hd (lk_at hl hk) (k p l e R s m args below meth c A cells slots Q hZ hC H locs ls hl hP hS)
theorem v_lload_n {i : Fin 4} {x : Int64} (hd : decode (mCode M) pc = .ok (.lload_n i, 1)) (hk : lk L (i : Nat) = some (.long x)) (k : V v M Z (pc + 1) L (.long x :: st) σ) : V v M Z pc L st σ := by
  intro p l e R s m args below meth c A cells slots Q hZ hC H locs ls hl hP hS
  exact lv_lload_n hC.1.1 hC.1.2.1 hd rfl (lk_at hl hk) (k p l e R s m args below meth c A cells slots Q hZ hC H locs ls hl hP hS)
theorem v_lload {i : Nat} {x : Int64} (hd : decode (mCode M) pc = .ok (.lload i, 2)) (hk : lk L i = some (.long x)) (k : V v M Z (pc + 2) L (.long x :: st) σ) : V v M Z pc L st σ := by
  intro p l e R s m args below meth c A cells slots Q hZ hC H locs ls hl hP hS
  exact lv_lload hC.1.1 hC.1.2.1 hd (lk_at hl hk) (k p l e R s m args below meth c A cells slots Q hZ hC H locs ls hl hP hS)
theorem v_aload_n {i : Fin 4} {x : Nat} (hd : decode (mCode M) pc = .ok (.aload_n i, 1)) (hk : lk L (i : Nat) = some (.ref x)) (k : V v M Z (pc + 1) L (.ref x :: st) σ) : V v M Z pc L st σ := by
  intro p l e R s m args below meth c A cells slots Q hZ hC H locs ls hl hP hS
  exact lv_aload_n hC.1.1 hC.1.2.1 hd rfl (lk_at hl hk) (k p l e R s m args below meth c A cells slots Q hZ hC H locs ls hl hP hS)
theorem v_aload {i : Nat} {x : Nat} (hd : decode (mCode M) pc = .ok (.aload i, 2)) (hk : lk L i = some (.ref x)) (k : V v M Z (pc + 2) L (.ref x :: st) σ) : V v M Z pc L st σ := by
  intro p l e R s m args below meth c A cells slots Q hZ hC H locs ls hl hP hS
  exact lv_aload hC.1.1 hC.1.2.1 hd (lk_at hl hk) (k p l e R s m args below meth c A cells slots Q hZ hC H locs ls hl hP hS)
theorem v_istore_n {j : Fin 4} {i : Nat} {x : Int32} {L' : List (Nat × Value)} (hd : decode (mCode M) pc = .ok (.istore_n j, 1)) (hi : (j : Nat) = i) (hn : i < mL M) (hL : (i, Value.int x) :: L.filter (fun q => !(q.1 == i) && !(q.1 + 1 == i && q.2.category == 2)) = L') (k : V v M Z (pc + 1) L' st σ) : V v M Z pc L (.int x :: st) σ := by
  intro p l e R s m args below meth c A cells slots Q hZ hC H locs ls hl hP hS
  exact lv_istore_n hC.1.1 hC.1.2.1 hd hi hl hn hL (fun ls hl => k p l e R s m args below meth c A cells slots Q hZ hC H locs ls hl hP hS)
theorem v_astore_n {j : Fin 4} {i : Nat} {x : Nat} {L' : List (Nat × Value)} (hd : decode (mCode M) pc = .ok (.astore_n j, 1)) (hi : (j : Nat) = i) (hn : i < mL M) (hL : (i, Value.ref x) :: L.filter (fun q => !(q.1 == i) && !(q.1 + 1 == i && q.2.category == 2)) = L') (k : V v M Z (pc + 1) L' st σ) : V v M Z pc L (.ref x :: st) σ := by
  intro p l e R s m args below meth c A cells slots Q hZ hC H locs ls hl hP hS
  exact lv_astore_n hC.1.1 hC.1.2.1 hd hi hl hn hL (fun ls hl => k p l e R s m args below meth c A cells slots Q hZ hC H locs ls hl hP hS)
theorem v_istore {i : Nat} {x : Int32} {L' : List (Nat × Value)} (hd : decode (mCode M) pc = .ok (.istore i, 2)) (hn : i < mL M) (hL : (i, Value.int x) :: L.filter (fun q => !(q.1 == i) && !(q.1 + 1 == i && q.2.category == 2)) = L') (k : V v M Z (pc + 2) L' st σ) : V v M Z pc L (.int x :: st) σ := by
  intro p l e R s m args below meth c A cells slots Q hZ hC H locs ls hl hP hS
  exact lv_istore hC.1.1 hC.1.2.1 hd hl hn hL (fun ls hl => k p l e R s m args below meth c A cells slots Q hZ hC H locs ls hl hP hS)
theorem v_lstore_n {j : Fin 4} {i : Nat} {x : Int64} {L' : List (Nat × Value)} (hd : decode (mCode M) pc = .ok (.lstore_n j, 1)) (hi : (j : Nat) = i) (hn : i + 1 < mL M) (hL : (i, Value.long x) :: L.filter (fun q => !(q.1 == i) && (!(q.1 == i + 1) && !(q.1 + 1 == i && q.2.category == 2))) = L') (k : V v M Z (pc + 1) L' st σ) : V v M Z pc L (.long x :: st) σ := by
  intro p l e R s m args below meth c A cells slots Q hZ hC H locs ls hl hP hS
  exact lv_lstore_n hC.1.1 hC.1.2.1 hd hi hl hn hL (fun ls hl => k p l e R s m args below meth c A cells slots Q hZ hC H locs ls hl hP hS)
theorem v_lstore {i : Nat} {x : Int64} {L' : List (Nat × Value)} (hd : decode (mCode M) pc = .ok (.lstore i, 2)) (hn : i + 1 < mL M) (hL : (i, Value.long x) :: L.filter (fun q => !(q.1 == i) && (!(q.1 == i + 1) && !(q.1 + 1 == i && q.2.category == 2))) = L') (k : V v M Z (pc + 2) L' st σ) : V v M Z pc L (.long x :: st) σ := by
  intro p l e R s m args below meth c A cells slots Q hZ hC H locs ls hl hP hS
  exact lv_lstore hC.1.1 hC.1.2.1 hd hl hn hL (fun ls hl => k p l e R s m args below meth c A cells slots Q hZ hC H locs ls hl hP hS)
theorem lk_place : ∀ (l : List (Nat × Value)) (i : Nat) (x : Value), lk l i = some x → ∃ k : Nat, l[k]? = some (i, x) := fun l i x h => List.getElem?_of_mem (lk_mem l i x h)
theorem v_iinc {i : Nat} {n : Int} {x y : Int32} {L' : List (Nat × Value)} (hd : decode (mCode M) pc = .ok (.iinc i n, 3)) (hk : lk L i = some (.int x)) (hv : x + Int32.ofInt n = y) (hn : i < mL M) (hL : (i, Value.int y) :: L.filter (fun q => !(q.1 == i) && !(q.1 + 1 == i && q.2.category == 2)) = L') (k : V v M Z (pc + 3) L' st σ) : V v M Z pc L st σ := by
  intro p l e R s m args below meth c A cells slots Q hZ hC H locs ls hl hP hS
  obtain ⟨k9, hk9⟩ := lk_place L i _ hk
  exact lv_iinc hC.1.1 hC.1.2.1 hd hl hk9 hv hn hL (fun ls hl => k p l e R s m args below meth c A cells slots Q hZ hC H locs ls hl hP hS)
theorem v_iadd {x y : Int32} (hd : decode (mCode M) pc = .ok (.iadd, 1)) (k : V v M Z (pc + 1) L (.int (x + y) :: st) σ) : V v M Z pc L (.int y :: .int x :: st) σ := by
  intro p l e R s m args below meth c A cells slots Q hZ hC H locs ls hl hP hS
  exact lv_iadd hC.1.1 hC.1.2.1 hd (k p l e R s m args below meth c A cells slots Q hZ hC H locs ls hl hP hS)
theorem v_isub {x y : Int32} (hd : decode (mCode M) pc = .ok (.isub, 1)) (k : V v M Z (pc + 1) L (.int (x - y) :: st) σ) : V v M Z pc L (.int y :: .int x :: st) σ := by
  intro p l e R s m args below meth c A cells slots Q hZ hC H locs ls hl hP hS
  exact lv_isub hC.1.1 hC.1.2.1 hd (k p l e R s m args below meth c A cells slots Q hZ hC H locs ls hl hP hS)
theorem v_imul {x y : Int32} (hd : decode (mCode M) pc = .ok (.imul, 1)) (k : V v M Z (pc + 1) L (.int (x * y) :: st) σ) : V v M Z pc L (.int y :: .int x :: st) σ := by
  intro p l e R s m args below meth c A cells slots Q hZ hC H locs ls hl hP hS
  exact lv_imul hC.1.1 hC.1.2.1 hd (k p l e R s m args below meth c A cells slots Q hZ hC H locs ls hl hP hS)
theorem v_iand {x y : Int32} (hd : decode (mCode M) pc = .ok (.iand, 1)) (k : V v M Z (pc + 1) L (.int (x &&& y) :: st) σ) : V v M Z pc L (.int y :: .int x :: st) σ := by
  intro p l e R s m args below meth c A cells slots Q hZ hC H locs ls hl hP hS
  exact lv_iand hC.1.1 hC.1.2.1 hd (k p l e R s m args below meth c A cells slots Q hZ hC H locs ls hl hP hS)
theorem v_ior {x y : Int32} (hd : decode (mCode M) pc = .ok (.ior, 1)) (k : V v M Z (pc + 1) L (.int (x ||| y) :: st) σ) : V v M Z pc L (.int y :: .int x :: st) σ := by
  intro p l e R s m args below meth c A cells slots Q hZ hC H locs ls hl hP hS
  exact lv_ior hC.1.1 hC.1.2.1 hd (k p l e R s m args below meth c A cells slots Q hZ hC H locs ls hl hP hS)
theorem v_ixor {x y : Int32} (hd : decode (mCode M) pc = .ok (.ixor, 1)) (k : V v M Z (pc + 1) L (.int (x ^^^ y) :: st) σ) : V v M Z pc L (.int y :: .int x :: st) σ := by
  intro p l e R s m args below meth c A cells slots Q hZ hC H locs ls hl hP hS
  exact lv_ixor hC.1.1 hC.1.2.1 hd (k p l e R s m args below meth c A cells slots Q hZ hC H locs ls hl hP hS)
theorem v_ladd {x y : Int64} (hd : decode (mCode M) pc = .ok (.ladd, 1)) (k : V v M Z (pc + 1) L (.long (x + y) :: st) σ) : V v M Z pc L (.long y :: .long x :: st) σ := by
  intro p l e R s m args below meth c A cells slots Q hZ hC H locs ls hl hP hS
  exact lv_ladd hC.1.1 hC.1.2.1 hd (k p l e R s m args below meth c A cells slots Q hZ hC H locs ls hl hP hS)
theorem v_lmul {x y : Int64} (hd : decode (mCode M) pc = .ok (.lmul, 1)) (k : V v M Z (pc + 1) L (.long (x * y) :: st) σ) : V v M Z pc L (.long y :: .long x :: st) σ := by
  intro p l e R s m args below meth c A cells slots Q hZ hC H locs ls hl hP hS
  exact lv_lmul hC.1.1 hC.1.2.1 hd (k p l e R s m args below meth c A cells slots Q hZ hC H locs ls hl hP hS)
theorem v_land {x y : Int64} (hd : decode (mCode M) pc = .ok (.land, 1)) (k : V v M Z (pc + 1) L (.long (x &&& y) :: st) σ) : V v M Z pc L (.long y :: .long x :: st) σ := by
  intro p l e R s m args below meth c A cells slots Q hZ hC H locs ls hl hP hS
  exact lv_land hC.1.1 hC.1.2.1 hd (k p l e R s m args below meth c A cells slots Q hZ hC H locs ls hl hP hS)
theorem v_lor {x y : Int64} (hd : decode (mCode M) pc = .ok (.lor, 1)) (k : V v M Z (pc + 1) L (.long (x ||| y) :: st) σ) : V v M Z pc L (.long y :: .long x :: st) σ := by
  intro p l e R s m args below meth c A cells slots Q hZ hC H locs ls hl hP hS
  exact lv_lor hC.1.1 hC.1.2.1 hd (k p l e R s m args below meth c A cells slots Q hZ hC H locs ls hl hP hS)
theorem v_idiv {x y : Int32} (hd : decode (mCode M) pc = .ok (.idiv, 1)) (hne : ¬ y = 0) (k : V v M Z (pc + 1) L (.int (x / y) :: st) σ) : V v M Z pc L (.int y :: .int x :: st) σ := by
  intro p l e R s m args below meth c A cells slots Q hZ hC H locs ls hl hP hS
  exact lv_idiv hC.1.1 hC.1.2.1 hd hne (k p l e R s m args below meth c A cells slots Q hZ hC H locs ls hl hP hS)
theorem v_irem {x y : Int32} (hd : decode (mCode M) pc = .ok (.irem, 1)) (hne : ¬ y = 0) (k : V v M Z (pc + 1) L (.int (x - x / y * y) :: st) σ) : V v M Z pc L (.int y :: .int x :: st) σ := by
  intro p l e R s m args below meth c A cells slots Q hZ hC H locs ls hl hP hS
  exact lv_irem hC.1.1 hC.1.2.1 hd hne (k p l e R s m args below meth c A cells slots Q hZ hC H locs ls hl hP hS)
theorem v_ldiv {x y : Int64} (hd : decode (mCode M) pc = .ok (.ldiv, 1)) (hne : ¬ y = 0) (k : V v M Z (pc + 1) L (.long (x / y) :: st) σ) : V v M Z pc L (.long y :: .long x :: st) σ := by
  intro p l e R s m args below meth c A cells slots Q hZ hC H locs ls hl hP hS
  exact lv_ldiv hC.1.1 hC.1.2.1 hd hne (k p l e R s m args below meth c A cells slots Q hZ hC H locs ls hl hP hS)
theorem v_lrem {x y : Int64} (hd : decode (mCode M) pc = .ok (.lrem, 1)) (hne : ¬ y = 0) (k : V v M Z (pc + 1) L (.long (x - x / y * y) :: st) σ) : V v M Z pc L (.long y :: .long x :: st) σ := by
  intro p l e R s m args below meth c A cells slots Q hZ hC H locs ls hl hP hS
  exact lv_lrem hC.1.1 hC.1.2.1 hd hne (k p l e R s m args below meth c A cells slots Q hZ hC H locs ls hl hP hS)
theorem v_ishl {x y : Int32} (hd : decode (mCode M) pc = .ok (.ishl, 1)) (k : V v M Z (pc + 1) L (.int (x <<< (y &&& 31)) :: st) σ) : V v M Z pc L (.int y :: .int x :: st) σ := by
  intro p l e R s m args below meth c A cells slots Q hZ hC H locs ls hl hP hS
  exact lv_ishl hC.1.1 hC.1.2.1 hd (k p l e R s m args below meth c A cells slots Q hZ hC H locs ls hl hP hS)
theorem v_ishr {x y : Int32} (hd : decode (mCode M) pc = .ok (.ishr, 1)) (k : V v M Z (pc + 1) L (.int (x >>> (y &&& 31)) :: st) σ) : V v M Z pc L (.int y :: .int x :: st) σ := by
  intro p l e R s m args below meth c A cells slots Q hZ hC H locs ls hl hP hS
  exact lv_ishr hC.1.1 hC.1.2.1 hd (k p l e R s m args below meth c A cells slots Q hZ hC H locs ls hl hP hS)
theorem v_iushr {x y z : Int32} (hd : decode (mCode M) pc = .ok (.iushr, 1)) (hv : (x.toUInt32 >>> (y.toUInt32 &&& Int32.toUInt32 31)).toInt32 = z) (k : V v M Z (pc + 1) L (.int z :: st) σ) : V v M Z pc L (.int y :: .int x :: st) σ := by
  intro p l e R s m args below meth c A cells slots Q hZ hC H locs ls hl hP hS
  exact lv_iushr hC.1.1 hC.1.2.1 hd hv (k p l e R s m args below meth c A cells slots Q hZ hC H locs ls hl hP hS)
theorem v_lshl {x z : Int64} {y : Int32} (hd : decode (mCode M) pc = .ok (.lshl, 1)) (hv : x <<< (y.toInt64 &&& 63) = z) (k : V v M Z (pc + 1) L (.long z :: st) σ) : V v M Z pc L (.int y :: .long x :: st) σ := by
  intro p l e R s m args below meth c A cells slots Q hZ hC H locs ls hl hP hS
  exact lv_lshl hC.1.1 hC.1.2.1 hd hv (k p l e R s m args below meth c A cells slots Q hZ hC H locs ls hl hP hS)
theorem v_lshr {x z : Int64} {y : Int32} (hd : decode (mCode M) pc = .ok (.lshr, 1)) (hv : x >>> (y.toInt64 &&& 63) = z) (k : V v M Z (pc + 1) L (.long z :: st) σ) : V v M Z pc L (.int y :: .long x :: st) σ := by
  intro p l e R s m args below meth c A cells slots Q hZ hC H locs ls hl hP hS
  exact lv_lshr hC.1.1 hC.1.2.1 hd hv (k p l e R s m args below meth c A cells slots Q hZ hC H locs ls hl hP hS)
theorem v_i2l {x : Int32} (hd : decode (mCode M) pc = .ok (.i2l, 1)) (k : V v M Z (pc + 1) L (.long x.toInt64 :: st) σ) : V v M Z pc L (.int x :: st) σ := by
  intro p l e R s m args below meth c A cells slots Q hZ hC H locs ls hl hP hS
  exact lv_i2l hC.1.1 hC.1.2.1 hd rfl (k p l e R s m args below meth c A cells slots Q hZ hC H locs ls hl hP hS)
theorem v_l2i {x : Int64} (hd : decode (mCode M) pc = .ok (.l2i, 1)) (k : V v M Z (pc + 1) L (.int x.toInt32 :: st) σ) : V v M Z pc L (.long x :: st) σ := by
  intro p l e R s m args below meth c A cells slots Q hZ hC H locs ls hl hP hS
  exact lv_l2i hC.1.1 hC.1.2.1 hd rfl (k p l e R s m args below meth c A cells slots Q hZ hC H locs ls hl hP hS)
theorem v_i2b {x : Int32} (hd : decode (mCode M) pc = .ok (.i2b, 1)) (k : V v M Z (pc + 1) L (.int x.toInt8.toInt32 :: st) σ) : V v M Z pc L (.int x :: st) σ := by
  intro p l e R s m args below meth c A cells slots Q hZ hC H locs ls hl hP hS
  exact lv_i2b hC.1.1 hC.1.2.1 hd rfl (k p l e R s m args below meth c A cells slots Q hZ hC H locs ls hl hP hS)
theorem v_lcmp {x y : Int64} (hd : decode (mCode M) pc = .ok (.lcmp, 1)) (k : V v M Z (pc + 1) L (.int (lg_cmp x y) :: st) σ) : V v M Z pc L (.long y :: .long x :: st) σ := by
  intro p l e R s m args below meth c A cells slots Q hZ hC H locs ls hl hP hS
  exact W.lcmp hC.1.1 hC.1.2.1 hd (k p l e R s m args below meth c A cells slots Q hZ hC H locs ls hl hP hS)
theorem v_dup {a : Value} (hd : decode (mCode M) pc = .ok (.dup, 1)) (ha : a.category = 1) (k : V v M Z (pc + 1) L (a :: a :: st) σ) : V v M Z pc L (a :: st) σ := by
  intro p l e R s m args below meth c A cells slots Q hZ hC H locs ls hl hP hS
  exact lv_dup hC.1.1 hC.1.2.1 hd ha (k p l e R s m args below meth c A cells slots Q hZ hC H locs ls hl hP hS)
theorem v_pop {a : Value} (hd : decode (mCode M) pc = .ok (.pop, 1)) (ha : a.category = 1) (k : V v M Z (pc + 1) L st σ) : V v M Z pc L (a :: st) σ := by
  intro p l e R s m args below meth c A cells slots Q hZ hC H locs ls hl hP hS
  exact lv_pop hC.1.1 hC.1.2.1 hd ha (k p l e R s m args below meth c A cells slots Q hZ hC H locs ls hl hP hS)
theorem v_dup2 {a b : Value} (hd : decode (mCode M) pc = .ok (.dup2, 1)) (ha : a.category = 1) (hb : b.category = 1) (k : V v M Z (pc + 1) L (a :: b :: a :: b :: st) σ) : V v M Z pc L (a :: b :: st) σ := by
  intro p l e R s m args below meth c A cells slots Q hZ hC H locs ls hl hP hS
  exact lv_dup2_11 hC.1.1 hC.1.2.1 hd ha hb (k p l e R s m args below meth c A cells slots Q hZ hC H locs ls hl hP hS)
theorem v_goto {off : Int} {tgt : Nat} (hd : decode (mCode M) pc = .ok (.goto off, 3)) (ht : (pc : Int) + off = (tgt : Int)) (k : V v M Z tgt L st σ) : V v M Z pc L st σ := by
  intro p l e R s m args below meth c A cells slots Q hZ hC H locs ls hl hP hS
  exact lv_goto hC.1.1 hC.1.2.1 hd ht (k p l e R s m args below meth c A cells slots Q hZ hC H locs ls hl hP hS)
theorem v_if_eq {x : Int32} {off : Int} {tgt : Nat} (hd : decode (mCode M) pc = .ok (.ifCond .eq off, 3)) (ht : (pc : Int) + off = (tgt : Int)) (kt : x = 0 → V v M Z tgt L st σ) (kf : ¬ x = 0 → V v M Z (pc + 3) L st σ) : V v M Z pc L (.int x :: st) σ := by
  intro p l e R s m args below meth c A cells slots Q hZ hC H locs ls hl hP hS
  exact lv_if_eq hC.1.1 hC.1.2.1 hd ht (fun h => kt h p l e R s m args below meth c A cells slots Q hZ hC H locs ls hl hP hS) (fun h => kf h p l e R s m args below meth c A cells slots Q hZ hC H locs ls hl hP hS)
theorem v_icmp_eq {x y : Int32} {off : Int} {tgt : Nat} (hd : decode (mCode M) pc = .ok (.if_icmp .eq off, 3)) (ht : (pc : Int) + off = (tgt : Int)) (kt : x = y → V v M Z tgt L st σ) (kf : ¬ x = y → V v M Z (pc + 3) L st σ) : V v M Z pc L (.int y :: .int x :: st) σ := by
  intro p l e R s m args below meth c A cells slots Q hZ hC H locs ls hl hP hS
  exact lv_icmp_eq hC.1.1 hC.1.2.1 hd ht (fun h => kt h p l e R s m args below meth c A cells slots Q hZ hC H locs ls hl hP hS) (fun h => kf h p l e R s m args below meth c A cells slots Q hZ hC H locs ls hl hP hS)
theorem v_if_ne {x : Int32} {off : Int} {tgt : Nat} (hd : decode (mCode M) pc = .ok (.ifCond .ne off, 3)) (ht : (pc : Int) + off = (tgt : Int)) (kt : ¬ x = 0 → V v M Z tgt L st σ) (kf : x = 0 → V v M Z (pc + 3) L st σ) : V v M Z pc L (.int x :: st) σ := by
  intro p l e R s m args below meth c A cells slots Q hZ hC H locs ls hl hP hS
  exact lv_if_ne hC.1.1 hC.1.2.1 hd ht (fun h => kt h p l e R s m args below meth c A cells slots Q hZ hC H locs ls hl hP hS) (fun h => kf h p l e R s m args below meth c A cells slots Q hZ hC H locs ls hl hP hS)
theorem v_icmp_ne {x y : Int32} {off : Int} {tgt : Nat} (hd : decode (mCode M) pc = .ok (.if_icmp .ne off, 3)) (ht : (pc : Int) + off = (tgt : Int)) (kt : ¬ x = y → V v M Z tgt L st σ) (kf : x = y → V v M Z (pc + 3) L st σ) : V v M Z pc L (.int y :: .int x :: st) σ := by
  intro p l e R s m args below meth c A cells slots Q hZ hC H locs ls hl hP hS
  exact lv_icmp_ne hC.1.1 hC.1.2.1 hd ht (fun h => kt h p l e R s m args below meth c A cells slots Q hZ hC H locs ls hl hP hS) (fun h => kf h p l e R s m args below meth c A cells slots Q hZ hC H locs ls hl hP hS)
theorem v_if_lt {x : Int32} {off : Int} {tgt : Nat} (hd : decode (mCode M) pc = .ok (.ifCond .lt off, 3)) (ht : (pc : Int) + off = (tgt : Int)) (kt : x < 0 → V v M Z tgt L st σ) (kf : ¬ x < 0 → V v M Z (pc + 3) L st σ) : V v M Z pc L (.int x :: st) σ := by
  intro p l e R s m args below meth c A cells slots Q hZ hC H locs ls hl hP hS
  exact lv_if_lt hC.1.1 hC.1.2.1 hd ht (fun h => kt h p l e R s m args below meth c A cells slots Q hZ hC H locs ls hl hP hS) (fun h => kf h p l e R s m args below meth c A cells slots Q hZ hC H locs ls hl hP hS)
theorem v_icmp_lt {x y : Int32} {off : Int} {tgt : Nat} (hd : decode (mCode M) pc = .ok (.if_icmp .lt off, 3)) (ht : (pc : Int) + off = (tgt : Int)) (kt : x < y → V v M Z tgt L st σ) (kf : ¬ x < y → V v M Z (pc + 3) L st σ) : V v M Z pc L (.int y :: .int x :: st) σ := by
  intro p l e R s m args below meth c A cells slots Q hZ hC H locs ls hl hP hS
  exact lv_icmp_lt hC.1.1 hC.1.2.1 hd ht (fun h => kt h p l e R s m args below meth c A cells slots Q hZ hC H locs ls hl hP hS) (fun h => kf h p l e R s m args below meth c A cells slots Q hZ hC H locs ls hl hP hS)
theorem v_if_ge {x : Int32} {off : Int} {tgt : Nat} (hd : decode (mCode M) pc = .ok (.ifCond .ge off, 3)) (ht : (pc : Int) + off = (tgt : Int)) (kt : 0 ≤ x → V v M Z tgt L st σ) (kf : ¬ 0 ≤ x → V v M Z (pc + 3) L st σ) : V v M Z pc L (.int x :: st) σ := by
  intro p l e R s m args below meth c A cells slots Q hZ hC H locs ls hl hP hS
  exact lv_if_ge hC.1.1 hC.1.2.1 hd ht (fun h => kt h p l e R s m args below meth c A cells slots Q hZ hC H locs ls hl hP hS) (fun h => kf h p l e R s m args below meth c A cells slots Q hZ hC H locs ls hl hP hS)
theorem v_icmp_ge {x y : Int32} {off : Int} {tgt : Nat} (hd : decode (mCode M) pc = .ok (.if_icmp .ge off, 3)) (ht : (pc : Int) + off = (tgt : Int)) (kt : y ≤ x → V v M Z tgt L st σ) (kf : ¬ y ≤ x → V v M Z (pc + 3) L st σ) : V v M Z pc L (.int y :: .int x :: st) σ := by
  intro p l e R s m args below meth c A cells slots Q hZ hC H locs ls hl hP hS
  exact lv_icmp_ge hC.1.1 hC.1.2.1 hd ht (fun h => kt h p l e R s m args below meth c A cells slots Q hZ hC H locs ls hl hP hS) (fun h => kf h p l e R s m args below meth c A cells slots Q hZ hC H locs ls hl hP hS)
theorem v_if_gt {x : Int32} {off : Int} {tgt : Nat} (hd : decode (mCode M) pc = .ok (.ifCond .gt off, 3)) (ht : (pc : Int) + off = (tgt : Int)) (kt : 0 < x → V v M Z tgt L st σ) (kf : ¬ 0 < x → V v M Z (pc + 3) L st σ) : V v M Z pc L (.int x :: st) σ := by
  intro p l e R s m args below meth c A cells slots Q hZ hC H locs ls hl hP hS
  exact lv_if_gt hC.1.1 hC.1.2.1 hd ht (fun h => kt h p l e R s m args below meth c A cells slots Q hZ hC H locs ls hl hP hS) (fun h => kf h p l e R s m args below meth c A cells slots Q hZ hC H locs ls hl hP hS)
theorem v_icmp_gt {x y : Int32} {off : Int} {tgt : Nat} (hd : decode (mCode M) pc = .ok (.if_icmp .gt off, 3)) (ht : (pc : Int) + off = (tgt : Int)) (kt : y < x → V v M Z tgt L st σ) (kf : ¬ y < x → V v M Z (pc + 3) L st σ) : V v M Z pc L (.int y :: .int x :: st) σ := by
  intro p l e R s m args below meth c A cells slots Q hZ hC H locs ls hl hP hS
  exact lv_icmp_gt hC.1.1 hC.1.2.1 hd ht (fun h => kt h p l e R s m args below meth c A cells slots Q hZ hC H locs ls hl hP hS) (fun h => kf h p l e R s m args below meth c A cells slots Q hZ hC H locs ls hl hP hS)
theorem v_if_le {x : Int32} {off : Int} {tgt : Nat} (hd : decode (mCode M) pc = .ok (.ifCond .le off, 3)) (ht : (pc : Int) + off = (tgt : Int)) (kt : x ≤ 0 → V v M Z tgt L st σ) (kf : ¬ x ≤ 0 → V v M Z (pc + 3) L st σ) : V v M Z pc L (.int x :: st) σ := by
  intro p l e R s m args below meth c A cells slots Q hZ hC H locs ls hl hP hS
  exact lv_if_le hC.1.1 hC.1.2.1 hd ht (fun h => kt h p l e R s m args below meth c A cells slots Q hZ hC H locs ls hl hP hS) (fun h => kf h p l e R s m args below meth c A cells slots Q hZ hC H locs ls hl hP hS)
theorem v_icmp_le {x y : Int32} {off : Int} {tgt : Nat} (hd : decode (mCode M) pc = .ok (.if_icmp .le off, 3)) (ht : (pc : Int) + off = (tgt : Int)) (kt : x ≤ y → V v M Z tgt L st σ) (kf : ¬ x ≤ y → V v M Z (pc + 3) L st σ) : V v M Z pc L (.int y :: .int x :: st) σ := by
  intro p l e R s m args below meth c A cells slots Q hZ hC H locs ls hl hP hS
  exact lv_icmp_le hC.1.1 hC.1.2.1 hd ht (fun h => kt h p l e R s m args below meth c A cells slots Q hZ hC H locs ls hl hP hS) (fun h => kf h p l e R s m args below meth c A cells slots Q hZ hC H locs ls hl hP hS)
theorem v_tableOut {dflt lo hi : Int} {offs : Array Int} {len : Nat} {x : Int32} {tgt : Nat} (hd : decode (mCode M) pc = .ok (.tableswitch dflt lo hi offs, len)) (h : x.toInt < lo ∨ hi < x.toInt) (ht : (pc : Int) + dflt = (tgt : Int)) (k : V v M Z tgt L st σ) : V v M Z pc L (.int x :: st) σ := by
  intro p l e R s m args below meth c A cells slots Q hZ hC H locs ls hl hP hS
  exact lv_tableOut hC.1.1 hC.1.2.1 hd h ht (k p l e R s m args below meth c A cells slots Q hZ hC H locs ls hl hP hS)
theorem v_tableIn {dflt lo hi : Int} {offs : Array Int} {len : Nat} {x : Int32} {off : Int} {tgt : Nat} (hd : decode (mCode M) pc = .ok (.tableswitch dflt lo hi offs, len)) (h1 : ¬ x.toInt < lo) (h2 : ¬ hi < x.toInt) (ho : offs[(x.toInt - lo).toNat]? = some off) (ht : (pc : Int) + off = (tgt : Int)) (k : V v M Z tgt L st σ) : V v M Z pc L (.int x :: st) σ := by
  intro p l e R s m args below meth c A cells slots Q hZ hC H locs ls hl hP hS
  exact lv_tableIn hC.1.1 hC.1.2.1 hd h1 h2 ho ht (k p l e R s m args below meth c A cells slots Q hZ hC H locs ls hl hP hS)
theorem v_iald {q n : Nat} {x : Int32} (hi : isI v q n) (hd : decode (mCode M) pc = .ok (.iaload, 1)) (hin : vp_in x n) (k : V v M Z (pc + 1) L (.int (σ.1 q x.toNatClampNeg) :: st) σ) : V v M Z pc L (.int x :: .ref (v.1 q) :: st) σ := by
  intro p l e R s m args below meth c A cells slots Q hZ hC H locs ls hl hP hS
  exact va_iald hC.1.1 hC.1.2.1 hC.2.1 hP q 1 (by rw [cW_at v σ hi.1, hi.2]) rfl hin hd (k p l e R s m args below meth c A cells slots Q hZ hC H locs ls hl hP hS)
theorem v_bald {q n : Nat} {x : Int32} (hi : isB v q n) (hd : decode (mCode M) pc = .ok (.baload, 1)) (hin : vp_in x n) (k : V v M Z (pc + 1) L (.int (σ.1 q x.toNatClampNeg) :: st) σ) : V v M Z pc L (.int x :: .ref (v.1 q) :: st) σ := by
  intro p l e R s m args below meth c A cells slots Q hZ hC H locs ls hl hP hS
  exact va_bald hC.1.1 hC.1.2.1 hC.2.1 hP q 0 (by rw [cW_at v σ hi.1, hi.2]) rfl hin hd (k p l e R s m args below meth c A cells slots Q hZ hC H locs ls hl hP hS)
theorem v_lald {q n : Nat} {x : Int32} (hi : isJ v q n) (hd : decode (mCode M) pc = .ok (.laload, 1)) (hin : vp_in x n) (k : V v M Z (pc + 1) L (.long (σ.2.1 q x.toNatClampNeg) :: st) σ) : V v M Z pc L (.int x :: .ref (v.1 q) :: st) σ := by
  intro p l e R s m args below meth c A cells slots Q hZ hC H locs ls hl hP hS
  exact va_lald hC.1.1 hC.1.2.1 hC.2.1 hP q 2 (by rw [cW_at v σ hi.1, hi.2]) rfl hin hd (k p l e R s m args below meth c A cells slots Q hZ hC H locs ls hl hP hS)
theorem v_iast {q n : Nat} {i x : Int32} (hi : isI v q n) (hd : decode (mCode M) pc = .ok (.iastore, 1)) (hin : vp_in i n) (k : V v M Z (pc + 1) L st (sI σ q i.toNatClampNeg x)) : V v M Z pc L (.int x :: .int i :: .ref (v.1 q) :: st) σ := by
  intro p l e R s m args below meth c A cells slots Q hZ hC H locs ls hl hP hS
  refine va_iast (n := n) (f := σ.1 q) (cA := v.2.2.1 1) hC.1.1 hC.1.2.1 hC.2.1 hP (cW_D v hC.2.2.1.1 hC.2.2.1.2 σ) hS q 1 (by rw [cW_at v σ hi.1, hi.2]) rfl hin hd (fun H1 locs1 hP1 _ hS1 => ?_)
  rw [cW_set v (σ' := sI σ q i.toNatClampNeg x) hi.1 (by rw [hi.2]; simp [sI]) (fun j _ hj => by simp [sI, hj])] at hP1
  exact k p l e R s m args below meth c A cells slots Q hZ hC H1 locs1 ls hl hP1 hS1
theorem v_bast {q n : Nat} {i x : Int32} (hi : isB v q n) (hd : decode (mCode M) pc = .ok (.bastore, 1)) (hin : vp_in i n) (k : V v M Z (pc + 1) L st (sI σ q i.toNatClampNeg (vp_nar .byte x))) : V v M Z pc L (.int x :: .int i :: .ref (v.1 q) :: st) σ := by
  intro p l e R s m args below meth c A cells slots Q hZ hC H locs ls hl hP hS
  refine va_bast (n := n) (f := σ.1 q) (cA := v.2.2.1 0) hC.1.1 hC.1.2.1 hC.2.1 hP (cW_D v hC.2.2.1.1 hC.2.2.1.2 σ) hS q 0 (by rw [cW_at v σ hi.1, hi.2]) rfl hin hd (fun H1 locs1 hP1 _ hS1 => ?_)
  rw [cW_set v (σ' := sI σ q i.toNatClampNeg (vp_nar .byte x)) hi.1 (by rw [hi.2]; simp [sI]) (fun j _ hj => by simp [sI, hj])] at hP1
  exact k p l e R s m args below meth c A cells slots Q hZ hC H1 locs1 ls hl hP1 hS1
theorem v_last {q n : Nat} {i : Int32} {x : Int64} (hi : isJ v q n) (hd : decode (mCode M) pc = .ok (.lastore, 1)) (hin : vp_in i n) (k : V v M Z (pc + 1) L st (sJ σ q i.toNatClampNeg x)) : V v M Z pc L (.long x :: .int i :: .ref (v.1 q) :: st) σ := by
  intro p l e R s m args below meth c A cells slots Q hZ hC H locs ls hl hP hS
  refine va_last (n := n) (f := σ.2.1 q) (cA := v.2.2.1 2) hC.1.1 hC.1.2.1 hC.2.1 hP (cW_D v hC.2.2.1.1 hC.2.2.1.2 σ) hS q 2 (by rw [cW_at v σ hi.1, hi.2]) rfl hin hd (fun H1 locs1 hP1 _ hS1 => ?_)
  rw [cW_set v (σ' := sJ σ q i.toNatClampNeg x) hi.1 (by rw [hi.2]; simp [sJ]) (fun j _ hj => by simp [sJ, hj])] at hP1
  exact k p l e R s m args below meth c A cells slots Q hZ hC H1 locs1 ls hl hP1 hS1
theorem v_ialen {q n : Nat} {x : Int32} (hi : isI v q n) (hd : decode (mCode M) pc = .ok (.arraylength, 1)) (hx : Int32.ofNat n = x) (k : V v M Z (pc + 1) L (.int x :: st) σ) : V v M Z pc L (.ref (v.1 q) :: st) σ := by
  intro p l e R s m args below meth c A cells slots Q hZ hC H locs ls hl hP hS
  exact va_alen hC.1.1 hC.1.2.1 hC.2.1 hP q 1 (x := (n, .inl (σ.1 q))) (by rw [cW_at v σ hi.1, hi.2]) rfl hx hd (k p l e R s m args below meth c A cells slots Q hZ hC H locs ls hl hP hS)
theorem v_aald {x : Int32} (hd : decode (mCode M) pc = .ok (.aaload, 1)) (hin : vp_in x 2) (k : V v M Z (pc + 1) L (.ref (v.1 (20 + x.toNatClampNeg)) :: st) σ) : V v M Z pc L (.int x :: .ref (v.1 19) :: st) σ := by
  intro p l e R s m args below meth c A cells slots Q hZ hC H locs ls hl hP hS
  have hlt : x.toNatClampNeg < 2 := Nat.not_le.mp fun q => hin (Or.inr q)
  have ha : (cW v σ)[19]? = some (v.1 19, .inl (v.2.2.1 3, 2, .inr (.inr (.inr (.inr (fun i => some (v.1 (20 + i)))))))) := by rw [cW_at v σ (by decide)]; rfl
  have ht : (tys v)[3]? = some (v.2.2.1 3, .array .int) := rfl
  exact W.aald (v := va_rf (some (v.1 (20 + x.toNatClampNeg)))) (ty := .array .int) hC.1.1 hC.1.2.1 (hP 19 _ ha) ((hC.2.1.2 3 _ ht).1 2 (fun j => va_rf (some (v.1 (20 + j))))) rfl (fun q => by cases q) (by show ¬ (x < 0 ∨ (arrV _ _ _).slots.size ≤ _); rw [arrV_size]; exact hin) (by show (arrV _ _ _).slots[_]? = _; rw [arrV_read _ _ hlt]) rfl rfl hd (k p l e R s m args below meth c A cells slots Q hZ hC H locs ls hl hP hS)
theorem v_get {q ci j N n : Nat} {C : String} {T : u_T} {x : Value} {fs : (Nat → Int32) → (Nat → Int64) → Nat × Nat → List Value} (hi : isO v q ci fs) (hc : vwCl[ci]? = some (C, T, N)) (hd : decode (mCode M) pc = .ok (.getfield n, 3)) (hj : j < N) (hin : ∀ w ∈ u_ws C T N, w ∈ mWs M) (hm : Cond.fieldLink (mOwn M) n (T j).1 (T j).2.1 (T j).2.2.1 ∈ mWs M) (hx : (fs (σ.1 q) (σ.2.1 q) σ.2.2)[j]? = some x) (k : V v M Z (pc + 3) L (x :: st) σ) : V v M Z pc L (.ref (v.1 q) :: st) σ := by
  intro p l e R s m args below meth c A cells slots Q hZ hC H locs ls hl hP hS
  exact va_get (C := C) (T := T) (N := N) hC.1.1 hC.1.2.1 hC.1.2.2.2.2 hin hC.1.2.2.2.1 hC.2.1 hP q (by rw [cW_at v σ hi.1, hi.2]) hc j hj (hC.1.2.2.2.2 _ hm) (fun _ h => h) hx hd (k p l e R s m args below meth c A cells slots Q hZ hC H locs ls hl hP hS)
theorem v_put {q ci j N n : Nat} {C : String} {T : u_T} {ty : FieldType} {x : Value} {σ' : SS} {fs : (Nat → Int32) → (Nat → Int64) → Nat × Nat → List Value} (hi : isO v q ci fs) (hc : vwCl[ci]? = some (C, T, N)) (hd : decode (mCode M) pc = .ok (.putfield n, 3)) (hj : j < N) (ty0 : Nat → FieldType) (hty : ∀ k, k < N → parseFieldDescriptor (T k).2.2.1 = some (ty0 k)) (hnm : ∀ a, a < N → ∀ b, b < N → a ≠ b → (T a).2.1 ≠ (T b).2.1) (hin : ∀ w ∈ u_ws C T N, w ∈ mWs M) (hm : Cond.fieldLink (mOwn M) n (T j).1 (T j).2.1 (T j).2.2.1 ∈ mWs M) (hfin : (T j).2.2.2 = false) (hdd : parseFieldDescriptor (T j).2.2.1 = some ty) (hn : narrow ty x = x) (hfit : fits ty x = true) (hlen : j < (fs (σ.1 q) (σ.2.1 q) σ.2.2).length)
    (h1 : fs (σ'.1 q) (σ'.2.1 q) σ'.2.2 = (fs (σ.1 q) (σ.2.1 q) σ.2.2).set j x) (h2 : ∀ a, a < 62 → a ≠ q → cE v a (σ'.1 a) (σ'.2.1 a) σ'.2.2 = cE v a (σ.1 a) (σ.2.1 a) σ.2.2) (k : V v M Z (pc + 3) L st σ') : V v M Z pc L (x :: .ref (v.1 q) :: st) σ := by
  intro p l e R s m args below meth c A cells slots Q hZ hC H locs ls hl hP hS
  refine va_put (C := C) (T := T) (N := N) hC.1.1 hC.1.2.1 hC.1.2.2.2.2 hin ty0 hty hnm hC.1.2.2.2.1 hC.2.1 hP (cW_D v hC.2.2.1.1 hC.2.2.1.2 σ) hS q (fs := fs (σ.1 q) (σ.2.1 q) σ.2.2) (by rw [cW_at v σ hi.1, hi.2]) hc j hj (hC.1.2.2.2.2 _ hm) (fun _ h => h) hfin hdd hn hfit hlen hd (fun H1 locs1 hP1 _ hS1 => ?_)
  rw [cW_set v (σ' := σ') hi.1 (by rw [hi.2, h1]) h2] at hP1
  exact k p l e R s m args below meth c A cells slots Q hZ hC H1 locs1 ls hl hP1 hS1
theorem sI_cE {v : EE} {σ : SS} {q j : Nat} {x : Int32} : ∀ a, a < 62 → a ≠ q → cE v a ((sI σ q j x).1 a) ((sI σ q j x).2.1 a) (sI σ q j x).2.2 = cE v a (σ.1 a) (σ.2.1 a) σ.2.2 := fun a _ h => by simp [sI, h]
theorem sJ_cE {v : EE} {σ : SS} {q j : Nat} {x : Int64} : ∀ a, a < 62 → a ≠ q → cE v a ((sJ σ q j x).1 a) ((sJ σ q j x).2.1 a) (sJ σ q j x).2.2 = cE v a (σ.1 a) (σ.2.1 a) σ.2.2 := fun a _ h => by simp [sJ, h]
theorem v_gets {n : Nat} (hd : decode (mCode M) pc = .ok (.getstatic n, 3)) (hm : Cond.fieldLink (mOwn M) n "MasonMarks" "ROWS_OF" "[I" ∈ mWs M) (k : V v M Z (pc + 3) L (.ref v.2.2.2 :: st) σ) : V v M Z pc L st σ := by
  intro p l e R s m args below meth c A cells slots Q hZ hC H locs ls hl hP hS
  exact va_gets hC.1.1 hC.1.2.1 hC.2.2.2.1.1.1 hS hC.1.2.2.2.1 (hC.1.2.2.2.2 _ hm) (fun _ h => h) hd (k p l e R s m args below meth c A cells slots Q hZ hC H locs ls hl hP hS)
theorem v_sald {x : Int32} (hd : decode (mCode M) pc = .ok (.iaload, 1)) (hin : vp_in x 7) (k : V v M Z (pc + 1) L (.int (rowsOf x.toNatClampNeg) :: st) σ) : V v M Z pc L (.int x :: .ref v.2.2.2 :: st) σ := by
  intro p l e R s m args below meth c A cells slots Q hZ hC H locs ls hl hP hS
  have hlt : x.toNatClampNeg < 7 := Nat.not_le.mp fun q => hin (Or.inr q)
  obtain ⟨cell, h1, h2, h3, h4, h5, h6, -⟩ := hC.2.2.2.1.1.2.kept (H1 := H) (fun a g1 g2 => hS.2.1 a g1 g2)
  exact W.iald hC.1.1 hC.1.2.1 h1 h2 h3 (fun q => q.elim (fun z => hin (Or.inl z)) (fun z => by omega)) (h6 _ hlt) rfl rfl hd (k p l e R s m args below meth c A cells slots Q hZ hC H locs ls hl hP hS)
/-- the ends of a method -/
theorem v_iret {Po : Option Value → SS → Prop} {x : Int32} (hr : mRet M = some .int) (hd : decode (mCode M) pc = .ok (.ireturn, 1)) (h : Po (some (.int x)) σ) : V v M (zR v M Po) pc L [.int x] σ := by
  intro p l e R s m args below meth c A cells slots Q hZ hC H locs ls hl hP hS
  obtain ⟨rfl, rfl, rfl, rfl, hret, hlk⟩ := hZ
  exact W.iret hC.1.1 hC.1.2.1 (hret.trans hr) (fun t ht _ => ⟨⟨_, σ, rfl, h, by rw [ht]; exact hP⟩, hS.F ht⟩) hS.2.2 hd
theorem v_zret {Po : Option Value → SS → Prop} {x : Int32} (hr : mRet M = some .boolean) (hx : x = 0 ∨ x = 1) (hd : decode (mCode M) pc = .ok (.ireturn, 1)) (h : Po (some (.int x)) σ) : V v M (zR v M Po) pc L [.int x] σ := by
  intro p l e R s m args below meth c A cells slots Q hZ hC H locs ls hl hP hS
  obtain ⟨rfl, rfl, rfl, rfl, hret, hlk⟩ := hZ
  exact W.zret hC.1.1 hC.1.2.1 (hret.trans hr) (by rcases hx with rfl | rfl <;> rfl) (fun t ht _ => ⟨⟨_, σ, rfl, h, by rw [ht]; exact hP⟩, hS.F ht⟩) hS.2.2 hd
theorem v_lret {Po : Option Value → SS → Prop} {x : Int64} (hr : mRet M = some .long) (hd : decode (mCode M) pc = .ok (.lreturn, 1)) (h : Po (some (.long x)) σ) : V v M (zR v M Po) pc L [.long x] σ := by
  intro p l e R s m args below meth c A cells slots Q hZ hC H locs ls hl hP hS
  obtain ⟨rfl, rfl, rfl, rfl, hret, hlk⟩ := hZ
  exact W.lret hC.1.1 hC.1.2.1 (hret.trans hr) (fun t ht _ => ⟨⟨_, σ, rfl, h, by rw [ht]; exact hP⟩, hS.F ht⟩) hS.2.2 hd
theorem v_vret {Po : Option Value → SS → Prop} (hr : mRet M = none) (hd : decode (mCode M) pc = .ok (.return_, 1)) (h : Po none σ) : V v M (zR v M Po) pc L [] σ := by
  intro p l e R s m args below meth c A cells slots Q hZ hC H locs ls hl hP hS
  obtain ⟨rfl, rfl, rfl, rfl, hret, hlk⟩ := hZ
  exact W.vret hC.1.1 hC.1.2.1 (hret.trans hr) (fun t ht _ => ⟨⟨_, σ, rfl, h, by rw [ht]; exact hP⟩, hS.F ht⟩) hS.2.2 hd
/-- calls -/
theorem v_callV {M' : MT} {As : List Value} {Po : Option Value → SS → Prop} {n q ci N na : Nat} {T : u_T} {fs : (Nat → Int32) → (Nat → Int64) → Nat × Nat → List Value} {ws' : List Cond} {st0 : List Value} (hd : decode (mCode M) pc = .ok (.invokevirtual n, 3)) (hG : GoodIn (mWs M) (wsV (mOwn M) n (mOwn M') (mY M') (mWs M'))) (hw : mWs M' = Cond.code (mY M') (mCode M') (mL M') (mRet M') :: ws') (hi : isO v q ci fs) (hc : vwCl[ci]? = some (mOwn M', T, N))
    (hnn : (mY M').cls = mOwn M' ∧ (mY M').cls ≠ "java/lang/invoke/MethodHandle" ∧ (mY M').cls ≠ "java/lang/invoke/VarHandle" ∧ (parseMethodDescriptor (mY M').desc).map (fun d => d.parameters.length) = some na) (hz : (mRm M').cells = 0 ∧ (mRm M').slots = 0) (hR : (mRm M').frames + 1 ≤ (mRm M).frames ∧ 8 + (mL M' + 11) + (mRm M').locals ≤ (mRm M).locals) (hs : Sp v M' (.ref (v.1 q) :: As) σ Po) (hna : As.length = na) (hst : st0 = As.reverse ++ .ref (v.1 q) :: st) (hcat : (st.map fun v => v.category).sum ≤ 8) (k : ∀ (r : Option Value) (σ' : SS), Po r σ' → V v M Z (pc + 3) L (r.toList ++ st) σ') : V v M Z pc L st0 σ := by
  subst hst
  intro p l e R s m args below meth c A cells slots Q hZ hC H locs ls hl hP hS
  have hAB : ∀ q, cA v q → A q := fun q ⟨k, hk, e⟩ => by rw [e]; exact hC.2.2.1.2 k hk
  have hrun := va_runV (l := l) (e := e) (below := below) (meth := meth) (locs := locs) (cells := cells) (slots := slots) (As := As) (rest := st) (g := F0 m pc ls (As.reverse ++ .ref (v.1 q) :: st)) hC.1 (hs l) (cwV (R := R) na hC.1.2.2.2.2 hG hw hz.1 hz.2 hnn (by rw [hC.2.2.2.2.1]; exact hR)) ⟨cP_blind v _ σ, va_recv hC.2.1 hP hc (q0 := q) (by rw [cW_at v σ hi.1, hi.2]), cP_at hC hP hS _⟩ rfl hna hl.1 rfl (lv_room (m := m) (pc := pc) (ls := ls) (rest := []) hcat) hd ⟨hC.2.2.2.2.2.1, hC.2.2.2.2.2.2⟩
  exact cRun hrun hS hAB (fun r σ' H1 locs1 hPo hP1 hS1 => k r σ' hPo p l e R s m args below meth c A cells slots Q hZ hC H1 locs1 ls hl hP1 hS1)
theorem v_callS {M' : MT} {As : List Value} {Po : Option Value → SS → Prop} {n na : Nat} {ws' : List Cond} {st0 : List Value} (hd : decode (mCode M) pc = .ok (.invokestatic n, 3)) (hG : GoodIn (mWs M) (va_wsS (mOwn M) n (mY M') (mWs M'))) (hw : mWs M' = Cond.code (mY M') (mCode M') (mL M') (mRet M') :: ws')
    (hnn : (mY M').cls ≠ "java/lang/invoke/MethodHandle" ∧ (mY M').cls ≠ "java/lang/invoke/VarHandle" ∧ (parseMethodDescriptor (mY M').desc).map (fun d => d.parameters.length) = some na) (hz : (mRm M').cells = 0 ∧ (mRm M').slots = 0) (hR : (mRm M').frames + 1 ≤ (mRm M).frames ∧ 8 + (mL M' + 11) + (mRm M').locals ≤ (mRm M).locals) (hs : Sp v M' As σ Po) (hna : As.length = na) (hst : st0 = As.reverse ++ st) (hcat : (st.map fun v => v.category).sum ≤ 8) (k : ∀ (r : Option Value) (σ' : SS), Po r σ' → V v M Z (pc + 3) L (r.toList ++ st) σ') : V v M Z pc L st0 σ := by
  subst hst
  intro p l e R s m args below meth c A cells slots Q hZ hC H locs ls hl hP hS
  have hAB : ∀ q, cA v q → A q := fun q ⟨k, hk, e⟩ => by rw [e]; exact hC.2.2.1.2 k hk
  have ok : ∀ w ∈ va_wsS (mOwn M) n (mY M') (mWs M'), w.before args s = true := fun w h => hC.1.2.2.2.2 w (hG w h).1
  have cb := callB_of (R := R) (rm := mRm M') (own := mOwn M) (index := n) na hC.1.2.2.2.2 (fun w h => hG w (by unfold va_wsS; exact List.mem_append_right _ h)) hw hz.1 hz.2 (ok _ (by simp [va_wsS])) (ok _ (by simp [va_wsS])) hnn (by rw [hC.2.2.2.2.1]; exact hR)
  have hrun := va_runS (l := l) (e := e) (below := below) (meth := meth) (locs := locs) (cells := cells) (slots := slots) (As := As) (rest := st) (g := F0 m pc ls (As.reverse ++ st)) hC.1 (hs l) ⟨cb, ok _ (by simp [va_wsS])⟩ ⟨cP_blind v _ σ, cP_at hC hP hS _⟩ rfl hna hl.1 rfl (lv_room (m := m) (pc := pc) (ls := ls) (rest := []) hcat) hd ⟨hC.2.2.2.2.2.1, hC.2.2.2.2.2.2⟩
  exact cRun hrun hS hAB (fun r σ' H1 locs1 hPo hP1 hS1 => k r σ' hPo p l e R s m args below meth c A cells slots Q hZ hC H1 locs1 ls hl hP1 hS1)
theorem v_top {x y : Int32} (h : x = y) (k : V v M Z pc L (.int y :: st) σ) : V v M Z pc L (.int x :: st) σ := h ▸ k
theorem v_topl {x y : Int64} (h : x = y) (k : V v M Z pc L (.long y :: st) σ) : V v M Z pc L (.long x :: st) σ := h ▸ k
theorem v_top2 {x y : Int32} {a : Value} (h : x = y) (k : V v M Z pc L (a :: .int y :: st) σ) : V v M Z pc L (a :: .int x :: st) σ := h ▸ k
theorem v_stk {st' : List Value} (h : st = st') (k : V v M Z pc L st' σ) : V v M Z pc L st σ := h ▸ k
theorem v_loc {L' : List (Nat × Value)} (h : L = L') (k : V v M Z pc L' st σ) : V v M Z pc L st σ := h ▸ k
/-- rows whose index is a number -/
theorem v_ialdN {q n : Nat} {x : Int32} (c : Nat) (hi : isI v q n) (hd : decode (mCode M) pc = .ok (.iaload, 1)) (hx : x = nI c) (hc : c < n) (hn : n < 2 ^ 31) (k : V v M Z (pc + 1) L (.int (σ.1 q c) :: st) σ) : V v M Z pc L (.int x :: .ref (v.1 q) :: st) σ := by
  subst hx
  refine v_iald hi hd (vp_in_nI hc hn) ?_
  rw [nI_clamp (Nat.lt_trans hc hn)]
  exact k
theorem v_baldN {q n : Nat} {x : Int32} (c : Nat) (hi : isB v q n) (hd : decode (mCode M) pc = .ok (.baload, 1)) (hx : x = nI c) (hc : c < n) (hn : n < 2 ^ 31) (k : V v M Z (pc + 1) L (.int (σ.1 q c) :: st) σ) : V v M Z pc L (.int x :: .ref (v.1 q) :: st) σ := by
  subst hx
  refine v_bald hi hd (vp_in_nI hc hn) ?_
  rw [nI_clamp (Nat.lt_trans hc hn)]
  exact k
theorem v_laldN {q n : Nat} {x : Int32} (c : Nat) (hi : isJ v q n) (hd : decode (mCode M) pc = .ok (.laload, 1)) (hx : x = nI c) (hc : c < n) (hn : n < 2 ^ 31) (k : V v M Z (pc + 1) L (.long (σ.2.1 q c) :: st) σ) : V v M Z pc L (.int x :: .ref (v.1 q) :: st) σ := by
  subst hx
  refine v_lald hi hd (vp_in_nI hc hn) ?_
  rw [nI_clamp (Nat.lt_trans hc hn)]
  exact k
theorem v_iastN {q n : Nat} {i x : Int32} (c : Nat) (hi : isI v q n) (hd : decode (mCode M) pc = .ok (.iastore, 1)) (hx : i = nI c) (hc : c < n) (hn : n < 2 ^ 31) (k : V v M Z (pc + 1) L st (sI σ q c x)) : V v M Z pc L (.int x :: .int i :: .ref (v.1 q) :: st) σ := by
  subst hx
  refine v_iast hi hd (vp_in_nI hc hn) ?_
  rw [nI_clamp (Nat.lt_trans hc hn)]
  exact k
theorem v_bastN {q n : Nat} {i x : Int32} (c : Nat) (hi : isB v q n) (hd : decode (mCode M) pc = .ok (.bastore, 1)) (hx : i = nI c) (hc : c < n) (hn : n < 2 ^ 31) (k : V v M Z (pc + 1) L st (sI σ q c (vp_nar .byte x))) : V v M Z pc L (.int x :: .int i :: .ref (v.1 q) :: st) σ := by
  subst hx
  refine v_bast hi hd (vp_in_nI hc hn) ?_
  rw [nI_clamp (Nat.lt_trans hc hn)]
  exact k
theorem v_lastN {q n : Nat} {i : Int32} {x : Int64} (c : Nat) (hi : isJ v q n) (hd : decode (mCode M) pc = .ok (.lastore, 1)) (hx : i = nI c) (hc : c < n) (hn : n < 2 ^ 31) (k : V v M Z (pc + 1) L st (sJ σ q c x)) : V v M Z pc L (.long x :: .int i :: .ref (v.1 q) :: st) σ := by
  subst hx
  refine v_last hi hd (vp_in_nI hc hn) ?_
  rw [nI_clamp (Nat.lt_trans hc hn)]
  exact k
theorem v_mmax {n : Nat} {x y : Int32} (hd : decode (mCode M) pc = .ok (.invokestatic n, 3)) (hm : Cond.methodLink (mOwn M) n Lib.Math.max.name ∈ mWs M ∧ Cond.static Lib.Math.max.name ∈ mWs M ∧ Cond.initialized "java/lang/Math" ∈ mWs M ∧ Cond.code Lib.Math.max.name Lib.Math.max.code 2 (some .int) ∈ mWs M) (hR : 1 ≤ (mRm M).frames ∧ (st.map fun v => v.category).sum + 13 ≤ (mRm M).locals) (k : V v M Z (pc + 3) L (.int (if x < y then y else x) :: st) σ) : V v M Z pc L (.int y :: .int x :: st) σ := by
  intro p l e R s m args below meth c A cells slots Q hZ hC H locs ls hl hP hS
  obtain ⟨h1, h2, h3, h4⟩ := hm
  have t := hC.1.2.2.2.2
  exact va_mmax hC.1.1 hC.1.2.1 (hC.1.2.2.1.trans hl.1.symm) hC.1.2.2.2.1 (t _ h1) (t _ h2) (t _ h3) (t _ h4) (by rw [hC.2.2.2.2.1]; exact hR.1) (by rw [hC.2.2.2.2.1]; exact hR.2) hC.2.2.2.2.2.1 hC.2.2.2.2.2.2 hd (k p l e R s m args below meth c A cells slots Q hZ hC H locs ls hl hP hS)
theorem v_mmin {n : Nat} {x y : Int32} (hd : decode (mCode M) pc = .ok (.invokestatic n, 3)) (hm : Cond.methodLink (mOwn M) n Lib.Math.min.name ∈ mWs M ∧ Cond.static Lib.Math.min.name ∈ mWs M ∧ Cond.initialized "java/lang/Math" ∈ mWs M ∧ Cond.code Lib.Math.min.name Lib.Math.min.code 2 (some .int) ∈ mWs M) (hR : 1 ≤ (mRm M).frames ∧ (st.map fun v => v.category).sum + 13 ≤ (mRm M).locals) (k : V v M Z (pc + 3) L (.int (if y < x then y else x) :: st) σ) : V v M Z pc L (.int y :: .int x :: st) σ := by
  intro p l e R s m args below meth c A cells slots Q hZ hC H locs ls hl hP hS
  obtain ⟨h1, h2, h3, h4⟩ := hm
  have t := hC.1.2.2.2.2
  exact va_mmin hC.1.1 hC.1.2.1 (hC.1.2.2.1.trans hl.1.symm) hC.1.2.2.2.1 (t _ h1) (t _ h2) (t _ h3) (t _ h4) (by rw [hC.2.2.2.2.1]; exact hR.1) (by rw [hC.2.2.2.2.1]; exact hR.2) hC.2.2.2.2.2.1 hC.2.2.2.2.2.2 hd (k p l e R s m args below meth c A cells slots Q hZ hC H locs ls hl hP hS)
theorem v_copyi {n q0 q1 N0 N1 : Nat} {a b d : Int32} (i0 : isI v q0 N0) (i1 : isI v q1 N1) (hd : decode (mCode M) pc = .ok (.invokestatic n, 3)) (hm : Cond.methodLink (mOwn M) n arraycopyName ∈ mWs M ∧ Cond.native arraycopyName ∈ mWs M ∧ Cond.static arraycopyName ∈ mWs M ∧ Cond.initialized "java/lang/System" ∈ mWs M) (h1 : ¬ a < 0) (h2 : ¬ b < 0) (h3 : ¬ d < 0) (h4 : a.toNatClampNeg + d.toNatClampNeg ≤ N0) (h5 : b.toNatClampNeg + d.toNatClampNeg ≤ N1) (hR : 1 ≤ (mRm M).frames ∧ (st.map fun v => v.category).sum + (nativeFrameWords "java/lang/System" "arraycopy" 5 + 11) ≤ (mRm M).locals)
    (k : V v M Z (pc + 3) L st (sF σ q1 (va_cpy (σ.1 q0) (σ.1 q1) a.toNatClampNeg b.toNatClampNeg d.toNatClampNeg))) : V v M Z pc L (.int d :: .int b :: .ref (v.1 q1) :: .int a :: .ref (v.1 q0) :: st) σ := by
  intro p l e R s m args below meth c A cells slots Q hZ hC H locs ls hl hP hS
  obtain ⟨m1, m2, m3, m4⟩ := hm
  have t := hC.1.2.2.2.2
  refine va_copyi (f := σ.1 q0) (g := σ.1 q1) (c0 := v.2.2.1 1) (c1 := v.2.2.1 1) (n0 := N0) (n1 := N1) (ty := .int) hC.1.1 hC.1.2.1 (hC.1.2.2.1.trans hl.1.symm) hC.1.2.2.2.1 (t _ m1) (t _ m2) (t _ m3) (t _ m4) hC.2.1 hP (cW_D v hC.2.2.1.1 hC.2.2.1.2 σ) hS q0 q1 1 1 (by rw [cW_at v σ i0.1, i0.2]) (by rw [cW_at v σ i1.1, i1.2]) rfl rfl rfl h1 h2 h3 h4 h5 (fun _ _ => rfl) (by rw [hC.2.2.2.2.1]; exact hR.1) (by rw [hC.2.2.2.2.1]; exact hR.2) hd (fun H1 locs1 hP1 _ hS1 => ?_)
  rw [cW_set v (σ' := sF σ q1 (va_cpy (σ.1 q0) (σ.1 q1) a.toNatClampNeg b.toNatClampNeg d.toNatClampNeg)) i1.1 (by rw [i1.2]; simp [sF]) (fun j _ hj => by simp [sF, hj])] at hP1
  exact k p l e R s m args below meth c A cells slots Q hZ hC H1 locs1 ls hl hP1 hS1
theorem v_callN {As : List Value} {Po : Option Value → SS → Prop} {ws' : List Cond} {st0 : List Value} {M' : MT} (hM : mOwn M = RX3 ∧ mY M' = yX4_roundedUp) (hst1 : Cond.static (mY M') ∈ mWs M ∧ Cond.initialized (mY M').cls ∈ mWs M) (hd : decode (mCode M) pc = .ok (.invokestatic 124, 3)) (hG : GoodIn (mWs M) (mWs M')) (hw : mWs M' = Cond.code (mY M') (mCode M') (mL M') (mRet M') :: ws')
    (hnn : (mY M').cls ≠ "java/lang/invoke/MethodHandle" ∧ (mY M').cls ≠ "java/lang/invoke/VarHandle" ∧ (parseMethodDescriptor (mY M').desc).map (fun d => d.parameters.length) = some 2) (hz : (mRm M').cells = 0 ∧ (mRm M').slots = 0) (hR : (mRm M').frames + 1 ≤ (mRm M).frames ∧ 8 + (mL M' + 11) + (mRm M').locals ≤ (mRm M).locals) (hs : Sp v M' As σ Po) (hna : As.length = 2) (hst : st0 = As.reverse ++ st) (hcat : (st.map fun v => v.category).sum ≤ 8) (k : ∀ (r : Option Value) (σ' : SS), Po r σ' → V v M Z (pc + 3) L (r.toList ++ st) σ') : V v M Z pc L st0 σ := by
  subst hst
  intro p l e R s m args below meth c A cells slots Q hZ hC H locs ls hl hP hS
  have hAB : ∀ q, cA v q → A q := fun q ⟨k, hk, e⟩ => by rw [e]; exact hC.2.2.1.2 k hk
  have t := hC.1.2.2.2.2
  have hNw : va_Nw (.methodLinkNest (mOwn M) 124 (mY M') RX4) s := by rw [hM.1, hM.2]; exact hC.2.2.2.1.2
  have hrun := va_runSN (l := l) (e := e) (below := below) (meth := meth) (locs := locs) (cells := cells) (slots := slots) (As := As) (rest := st) (g := F0 m pc ls (As.reverse ++ st)) hC.1 (hs l) ⟨va_cnB (R := R) (rm := mRm M') 2 t hG hw hz.1 hz.2 hNw (t _ hst1.2) hnn (by rw [hC.2.2.2.2.1]; exact hR), t _ hst1.1, trivial⟩ ⟨cP_blind v _ σ, cP_at hC hP hS _⟩ rfl hna hl.1 rfl (lv_room (m := m) (pc := pc) (ls := ls) (rest := []) hcat) hd ⟨hC.2.2.2.2.2.1, hC.2.2.2.2.2.2⟩
  exact cRun hrun hS hAB (fun r σ' H1 locs1 hPo hP1 hS1 => k r σ' hPo p l e R s m args below meth c A cells slots Q hZ hC H1 locs1 ls hl hP1 hS1)
end VR
/-- one answer, one state behind it -/
def S1 (v : EE) (M : MT) (As : List Value) (σ : SS) (r : Option Value) (σ1 : SS) : Prop := Sp v M As σ (fun r' σ' => r' = r ∧ σ' = σ1)
-- calls with one answer
section VC
variable {v : EE} {M : MT} {Z : ZT} {pc : Nat} {L : List (Nat × Value)} {st : List Value} {σ σ1 : SS} {M' : MT} {As : List Value} {st0 : List Value} {ws' : List Cond}

theorem v_callVi {x : Int32} {n q ci N na : Nat} {T : u_T} {fs : (Nat → Int32) → (Nat → Int64) → Nat × Nat → List Value} (hi : isO v q ci fs) (hs : S1 v M' (.ref (v.1 q) :: As) σ (some (.int x)) σ1) (hd : decode (mCode M) pc = .ok (.invokevirtual n, 3)) (hG : GoodIn (mWs M) (wsV (mOwn M) n (mOwn M') (mY M') (mWs M'))) (hw : mWs M' = Cond.code (mY M') (mCode M') (mL M') (mRet M') :: ws') (hc : vwCl[ci]? = some (mOwn M', T, N))
    (hnn : (mY M').cls = mOwn M' ∧ (mY M').cls ≠ "java/lang/invoke/MethodHandle" ∧ (mY M').cls ≠ "java/lang/invoke/VarHandle" ∧ (parseMethodDescriptor (mY M').desc).map (fun d => d.parameters.length) = some na) (hz : (mRm M').cells = 0 ∧ (mRm M').slots = 0) (hR : (mRm M').frames + 1 ≤ (mRm M).frames ∧ 8 + (mL M' + 11) + (mRm M').locals ≤ (mRm M).locals) (hna : As.length = na) (hst : st0 = As.reverse ++ .ref (v.1 q) :: st) (hcat : (st.map fun v => v.category).sum ≤ 8) (k : V v M Z (pc + 3) L (.int x :: st) σ1) : V v M Z pc L st0 σ :=
  v_callV hd hG hw hi hc hnn hz hR hs hna hst hcat (fun r σ' h => by obtain ⟨rfl, rfl⟩ := h; exact k)
theorem v_callSi {x : Int32} {n na : Nat} (hs : S1 v M' As σ (some (.int x)) σ1) (hd : decode (mCode M) pc = .ok (.invokestatic n, 3)) (hG : GoodIn (mWs M) (va_wsS (mOwn M) n (mY M') (mWs M'))) (hw : mWs M' = Cond.code (mY M') (mCode M') (mL M') (mRet M') :: ws')
    (hnn : (mY M').cls ≠ "java/lang/invoke/MethodHandle" ∧ (mY M').cls ≠ "java/lang/invoke/VarHandle" ∧ (parseMethodDescriptor (mY M').desc).map (fun d => d.parameters.length) = some na) (hz : (mRm M').cells = 0 ∧ (mRm M').slots = 0) (hR : (mRm M').frames + 1 ≤ (mRm M).frames ∧ 8 + (mL M' + 11) + (mRm M').locals ≤ (mRm M).locals) (hna : As.length = na) (hst : st0 = As.reverse ++ st) (hcat : (st.map fun v => v.category).sum ≤ 8) (k : V v M Z (pc + 3) L (.int x :: st) σ1) : V v M Z pc L st0 σ :=
  v_callS hd hG hw hnn hz hR hs hna hst hcat (fun r σ' h => by obtain ⟨rfl, rfl⟩ := h; exact k)
theorem v_callVl {x : Int64} {n q ci N na : Nat} {T : u_T} {fs : (Nat → Int32) → (Nat → Int64) → Nat × Nat → List Value} (hi : isO v q ci fs) (hs : S1 v M' (.ref (v.1 q) :: As) σ (some (.long x)) σ1) (hd : decode (mCode M) pc = .ok (.invokevirtual n, 3)) (hG : GoodIn (mWs M) (wsV (mOwn M) n (mOwn M') (mY M') (mWs M'))) (hw : mWs M' = Cond.code (mY M') (mCode M') (mL M') (mRet M') :: ws') (hc : vwCl[ci]? = some (mOwn M', T, N))
    (hnn : (mY M').cls = mOwn M' ∧ (mY M').cls ≠ "java/lang/invoke/MethodHandle" ∧ (mY M').cls ≠ "java/lang/invoke/VarHandle" ∧ (parseMethodDescriptor (mY M').desc).map (fun d => d.parameters.length) = some na) (hz : (mRm M').cells = 0 ∧ (mRm M').slots = 0) (hR : (mRm M').frames + 1 ≤ (mRm M).frames ∧ 8 + (mL M' + 11) + (mRm M').locals ≤ (mRm M).locals) (hna : As.length = na) (hst : st0 = As.reverse ++ .ref (v.1 q) :: st) (hcat : (st.map fun v => v.category).sum ≤ 8) (k : V v M Z (pc + 3) L (.long x :: st) σ1) : V v M Z pc L st0 σ :=
  v_callV hd hG hw hi hc hnn hz hR hs hna hst hcat (fun r σ' h => by obtain ⟨rfl, rfl⟩ := h; exact k)
theorem v_callSl {x : Int64} {n na : Nat} (hs : S1 v M' As σ (some (.long x)) σ1) (hd : decode (mCode M) pc = .ok (.invokestatic n, 3)) (hG : GoodIn (mWs M) (va_wsS (mOwn M) n (mY M') (mWs M'))) (hw : mWs M' = Cond.code (mY M') (mCode M') (mL M') (mRet M') :: ws')
    (hnn : (mY M').cls ≠ "java/lang/invoke/MethodHandle" ∧ (mY M').cls ≠ "java/lang/invoke/VarHandle" ∧ (parseMethodDescriptor (mY M').desc).map (fun d => d.parameters.length) = some na) (hz : (mRm M').cells = 0 ∧ (mRm M').slots = 0) (hR : (mRm M').frames + 1 ≤ (mRm M).frames ∧ 8 + (mL M' + 11) + (mRm M').locals ≤ (mRm M).locals) (hna : As.length = na) (hst : st0 = As.reverse ++ st) (hcat : (st.map fun v => v.category).sum ≤ 8) (k : V v M Z (pc + 3) L (.long x :: st) σ1) : V v M Z pc L st0 σ :=
  v_callS hd hG hw hnn hz hR hs hna hst hcat (fun r σ' h => by obtain ⟨rfl, rfl⟩ := h; exact k)
theorem v_callVv  {n q ci N na : Nat} {T : u_T} {fs : (Nat → Int32) → (Nat → Int64) → Nat × Nat → List Value} (hi : isO v q ci fs) (hs : S1 v M' (.ref (v.1 q) :: As) σ none σ1) (hd : decode (mCode M) pc = .ok (.invokevirtual n, 3)) (hG : GoodIn (mWs M) (wsV (mOwn M) n (mOwn M') (mY M') (mWs M'))) (hw : mWs M' = Cond.code (mY M') (mCode M') (mL M') (mRet M') :: ws') (hc : vwCl[ci]? = some (mOwn M', T, N))
    (hnn : (mY M').cls = mOwn M' ∧ (mY M').cls ≠ "java/lang/invoke/MethodHandle" ∧ (mY M').cls ≠ "java/lang/invoke/VarHandle" ∧ (parseMethodDescriptor (mY M').desc).map (fun d => d.parameters.length) = some na) (hz : (mRm M').cells = 0 ∧ (mRm M').slots = 0) (hR : (mRm M').frames + 1 ≤ (mRm M).frames ∧ 8 + (mL M' + 11) + (mRm M').locals ≤ (mRm M).locals) (hna : As.length = na) (hst : st0 = As.reverse ++ .ref (v.1 q) :: st) (hcat : (st.map fun v => v.category).sum ≤ 8) (k : V v M Z (pc + 3) L st σ1) : V v M Z pc L st0 σ :=
  v_callV hd hG hw hi hc hnn hz hR hs hna hst hcat (fun r σ' h => by obtain ⟨rfl, rfl⟩ := h; exact k)
theorem v_callSv  {n na : Nat} (hs : S1 v M' As σ none σ1) (hd : decode (mCode M) pc = .ok (.invokestatic n, 3)) (hG : GoodIn (mWs M) (va_wsS (mOwn M) n (mY M') (mWs M'))) (hw : mWs M' = Cond.code (mY M') (mCode M') (mL M') (mRet M') :: ws')
    (hnn : (mY M').cls ≠ "java/lang/invoke/MethodHandle" ∧ (mY M').cls ≠ "java/lang/invoke/VarHandle" ∧ (parseMethodDescriptor (mY M').desc).map (fun d => d.parameters.length) = some na) (hz : (mRm M').cells = 0 ∧ (mRm M').slots = 0) (hR : (mRm M').frames + 1 ≤ (mRm M).frames ∧ 8 + (mL M' + 11) + (mRm M').locals ≤ (mRm M).locals) (hna : As.length = na) (hst : st0 = As.reverse ++ st) (hcat : (st.map fun v => v.category).sum ≤ 8) (k : V v M Z (pc + 3) L st σ1) : V v M Z pc L st0 σ :=
  v_callS hd hG hw hnn hz hR hs hna hst hcat (fun r σ' h => by obtain ⟨rfl, rfl⟩ := h; exact k)
theorem v_callNi {x : Int32} (hs : S1 v M' As σ (some (.int x)) σ1) (hM : mOwn M = RX3 ∧ mY M' = yX4_roundedUp) (hst1 : Cond.static (mY M') ∈ mWs M ∧ Cond.initialized (mY M').cls ∈ mWs M) (hd : decode (mCode M) pc = .ok (.invokestatic 124, 3)) (hG : GoodIn (mWs M) (mWs M')) (hw : mWs M' = Cond.code (mY M') (mCode M') (mL M') (mRet M') :: ws')
    (hnn : (mY M').cls ≠ "java/lang/invoke/MethodHandle" ∧ (mY M').cls ≠ "java/lang/invoke/VarHandle" ∧ (parseMethodDescriptor (mY M').desc).map (fun d => d.parameters.length) = some 2) (hz : (mRm M').cells = 0 ∧ (mRm M').slots = 0) (hR : (mRm M').frames + 1 ≤ (mRm M).frames ∧ 8 + (mL M' + 11) + (mRm M').locals ≤ (mRm M).locals) (hna : As.length = 2) (hst : st0 = As.reverse ++ st) (hcat : (st.map fun v => v.category).sum ≤ 8) (k : V v M Z (pc + 3) L (.int x :: st) σ1) : V v M Z pc L st0 σ :=
  v_callN hM hst1 hd hG hw hnn hz hR hs hna hst hcat (fun r σ' h => by obtain ⟨rfl, rfl⟩ := h; exact k)
end VC
