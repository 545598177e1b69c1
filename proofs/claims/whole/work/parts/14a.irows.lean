/-! CONSTRUCTORS. Their cells come one behind another: the world is a list that grows. -/
theorem arrV_two {c : ClassId} {f g : Nat → Value} (h0 : f 0 = g 0) (h1 : f 1 = g 1) : arrV c 2 f = arrV c 2 g := by
  have e : (fun j : Fin 2 => f j.val) = fun j => g j.val := funext fun j => by
    match j with
    | ⟨0, _⟩ => exact h0
    | ⟨1, _⟩ => exact h1
    | ⟨n + 2, h⟩ => exact absurd h (by omega)
  unfold arrV
  rw [e]
abbrev GG : Type := va_G × (Nat → ClassId)
def ityp (G : GG) : List (ClassId × FieldType) := [(G.2 0, .byte), (G.2 1, .int), (G.2 2, .long), (G.2 3, .array .int)]
/-- what is known of rows of rows of ints -/
def iAO (G : GG) (s : State) : Prop := ∃ kA : Class, s.vm.classes[G.2 3]? = some kA ∧ kA.kind = .array (G.2 1) (.array .int)
theorem iAO.moved {G : GG} {u U : State} (hvm : u.vm.Alike U.vm) (h : iAO G u) : iAO G U := by
  obtain ⟨k, h1, h2⟩ := h
  obtain ⟨k', hk', he⟩ := hvm.2.2 _ _ h1
  exact ⟨k', hk', by rw [he]; exact h2⟩
/-- the outer class makes its nest mates -/
def iNs (s : State) : Prop := va_Nw (.methodLinkNest RX4 11 yX2_init RX4) s ∧ va_Nw (.methodLinkNest RX4 18 yX1_init RX4) s ∧ va_Nw (.methodLinkNest RX4 25 yX0_init RX4) s ∧ va_Nw (.methodLinkNest RX4 41 yX3_init RX4) s
theorem iNs.warm {s U : State} (hW : s.WarmedH U.vm) (h : iNs s) : iNs U := ⟨va_Nw.warmM hW h.1, va_Nw.warmM hW h.2.1, va_Nw.warmM hW h.2.2.1, va_Nw.warmM hW h.2.2.2⟩
/-- the ints of a fresh cell -/
def s0f (a : Nat) : Nat → Int32 := match a with
  | 22 => fun j => if j = 11 then 12 else 0
  | 31 => fun j => if j = 11 then 12 else 0
  | 49 => upd (upd (fun _ => 0) 0 12) 1 12
  | _ => fun _ => 0
/-- fresh cells of these numbers, by their addresses -/
def pcs (G : GG) (r : Nat → Nat) (n : List Nat) : va_W := n.map (fun k => (r k, cE (r, G.1, G.2, 0) k (s0f k) (fun _ => 0) (22, 31)))
abbrev ZI : Type := Program → Launch → Env → Room → State → MethodId → Array Value → List Frame → Method → Code → (Nat → Prop) → (State → Prop) → Prop
def IX (G : GG) (M : MT) (A : Nat → Prop) (p : Program) (R : Room) (s : State) (m : MethodId) (args : Array Value) (meth : Method) (c : Code) : Prop :=
  CallFix p m c (mCode M) (mL M) s args (mWs M) (mOwn M) ∧ va_K G.1 vwCl (ityp G) s ∧ (∀ q, s.heap.size ≤ q → A q) ∧ (mRet M = none → meth.name = "<init>") ∧ R = mRm M ∧ iNs s ∧ iAO G s
def IV (G : GG) (M : MT) (Z : ZI) (pc : Nat) (L : List (Nat × Value)) (st : List Value) (ws : va_W) (cells slots : Nat) : Prop :=
  ∀ (p : Program) (l : Launch) (e : Env) (R : Room) (s : State) (m : MethodId) (args : Array Value) (below : List Frame) (meth : Method) (c : Code) (A : Nat → Prop) (Q : State → Prop), Z p l e R s m args below meth c A Q → IX G M A p R s m args meth c →
    ∀ (H : Heap) (locs : List Loc) (ls : Array Slot), lv_has ls (mL M) L → va_P G.1 vwCl ws H → va_D A ws → va_S A s.heap H locs → W p l e R s m args below meth c H locs cells slots Q (F0 m pc ls st)
def iP (G : GG) (h0 : Nat) (e0 : va_E) (sz : Nat) : Array Value → State → Prop := fun a U => a = ([Value.ref h0] : List Value).toArray ∧ U.heap.size = sz ∧ va_P G.1 vwCl [(h0, e0)] U.heap ∧ va_K G.1 vwCl (ityp G) U ∧ iNs U ∧ iAO G U
def iQ (G : GG) (h0 : Nat) (e0 : va_E) (sz B : Nat) (n : List Nat) : Array Value → State → Outcome → State → Prop := va_Qv (fun r : Nat → Nat => r B = h0) (fun (r : Nat → Nat) t => va_P G.1 vwCl (pcs G r n) t.heap ∧ va_D (va_A [(h0, e0)] sz) (pcs G r n)) (va_A [(h0, e0)] sz)
/-- a constructor's contract: the object, cell B, and the n - 1 cells behind it -/
def SpI (G : GG) (M : MT) (e0 : va_E) (B : Nat) (n : List Nat) (mc ms : Nat) : Prop := ∀ (l : Launch) (h0 sz : Nat), Met l (mY M) (mWs M) (mRm M) (iP G h0 e0 sz) (iQ G h0 e0 sz B n) mc ms (va_A [(h0, e0)] sz)
def zI (G : GG) (h0 : Nat) (e0 : va_E) (sz B : Nat) (n : List Nat) (mc ms : Nat) : ZI := fun _ _ _ _ s _ args below meth _ A Q => A = va_A [(h0, e0)] sz ∧ Q = MQ below (iQ G h0 e0 sz B n) args s mc ms (va_A [(h0, e0)] sz) ∧ meth.sig.returnType = none ∧ meth.locks = false
theorem iD1 (h0 : Nat) (e0 : va_E) (sz : Nat) : va_D (va_A [(h0, e0)] sz) [(h0, e0)] := by
  have key : ∀ (k : Nat) (x : Nat × va_E), ([(h0, e0)] : va_W)[k]? = some x → k = 0 := fun k x hx => by
    have := (List.getElem?_eq_some_iff.mp hx).1
    simp at this
    exact this
  exact ⟨fun i j p q h1 h2 _ => (key i p h1).trans (key j q h2).symm, fun k q h => va_A.in h⟩
theorem iP_blind (G : GG) (h0 : Nat) (e0 : va_E) (sz : Nat) : FrameBlind (iP G h0 e0 sz) := fun a U g mk q => by
  obtain ⟨q0, q1, qP, qK, ⟨n1, n2, n3, n4⟩, qO⟩ := q
  exact ⟨q0, q1, qP, va_K.moved (u := U) (U := U.calling g mk a) (Vm.Alike.refl U.vm) qK, ⟨va_Nw.same rfl (u := U) (U := U.calling g mk a) rfl n1, va_Nw.same rfl (u := U) (U := U.calling g mk a) rfl n2, va_Nw.same rfl (u := U) (U := U.calling g mk a) rfl n3, va_Nw.same rfl (u := U) (U := U.calling g mk a) rfl n4⟩, iAO.moved (u := U) (U := U.calling g mk a) (Vm.Alike.refl U.vm) qO⟩
set_option maxHeartbeats 4000000 in
theorem SpI.of {G : GG} {M : MT} {e0 : va_E} {B mc ms : Nat} {n : List Nat} {ws' : List Cond} (hw : mWs M = Cond.code (mY M) (mCode M) (mL M) none :: ws') (hy : plainName (mY M).cls = true) (ho : (mY M).cls = mOwn M) (hn : 1 ≤ mL M) (hnm : (mY M).name = "<init>")
    (h : ∀ h0 sz, IV G M (zI G h0 e0 sz B n mc ms) 0 [(0, .ref h0)] [] [(h0, e0)] 0 0) : SpI G M e0 B n mc ms := by
  intro l h0 sz
  refine Met.ofW (cc := mCode M) (maxL := mL M) (ret := none) hy hw ?_
  intro p e s m args below meth c s₁ Bd hml hv
  obtain ⟨rfl, hsz, hP, hK, hN, hO⟩ := hv
  have hl := lv_entry [Value.ref h0] (n := mL M) hn
  rw [lg_entry_eq]
  exact h h0 sz p l e _ s m _ below meth c (va_A [(h0, e0)] sz) _ ⟨rfl, rfl, Bd.returns, Bd.notSynchronized⟩ ⟨⟨Bd.exec, Bd.bytes, hml, by rw [← ho]; exact findClass_of_methodNamed Bd.named, atoms_spec (ws := mWs M) Bd.pre⟩, hK, fun q h => Or.inr (hsz ▸ h), fun _ => ((name_of_methodNamed Bd.named Bd.method).1).trans hnm, rfl, hN, hO⟩ _ _ _ hl hP (iD1 h0 e0 sz) va_S.rf
theorem i_join {A : Nat → Prop} {D : va_G} {cl : List vw_C} {wr w1 : va_W} {q : Nat} {e0 : va_E} {H H1 : Heap} (hP : va_P D cl (wr ++ [(q, e0)]) H) (hD : va_D A (wr ++ [(q, e0)])) (hk : ∀ x : Nat, x < H.size → ¬ va_A [(q, e0)] H.size x → H1[x]? = H[x]?) (hF : ∀ x, va_A [(q, e0)] H.size x → A x) (hP1 : va_P D cl w1 H1) (hD1 : va_D (va_A [(q, e0)] H.size) w1) : va_P D cl (wr ++ w1) H1 ∧ va_D A (wr ++ w1) := by
  have hq : (wr ++ [(q, e0)])[wr.length]? = some (q, e0) := by simp
  have hold : ∀ (k : Nat) (x : Nat × va_E), wr[k]? = some x → (wr ++ [(q, e0)])[k]? = some x ∧ k < wr.length ∧ x.1 < H.size ∧ x.1 ≠ q := fun k x hx => by
    have hl : k < wr.length := (List.getElem?_eq_some_iff.mp hx).1
    have h1 : (wr ++ [(q, e0)])[k]? = some x := by rw [List.getElem?_append_left hl]; exact hx
    refine ⟨h1, hl, (hP k x h1).lt, fun e => ?_⟩
    have := hD.1 k wr.length x (q, e0) h1 hq e
    omega
  have hnA : ∀ (k : Nat) (x : Nat × va_E), wr[k]? = some x → ¬ va_A [(q, e0)] H.size x.1 := fun k x hx hA => by
    obtain ⟨-, -, h3, h4⟩ := hold k x hx
    rcases hA with ⟨i, e, hi⟩ | hA
    · have h0 : i = 0 := by
        have := (List.getElem?_eq_some_iff.mp hi).1
        simp at this
        exact this
      subst h0
      cases hi
      exact h4 rfl
    · omega
  refine ⟨va_P.app (fun k x hx => ?_) hP1, ?_, ?_⟩
  · obtain ⟨h1, -, h3, -⟩ := hold k x hx
    exact (hP k x h1).kept (hk x.1 h3 (hnA k x hx))
  · intro i j x y hi hj hxy
    by_cases hil : i < wr.length <;> by_cases hjl : j < wr.length
    · rw [List.getElem?_append_left hil] at hi
      rw [List.getElem?_append_left hjl] at hj
      exact hD.1 i j x y (hold i x hi).1 (hold j y hj).1 hxy
    · rw [List.getElem?_append_left hil] at hi
      rw [List.getElem?_append_right (by omega)] at hj
      exact absurd (hxy ▸ hD1.2 _ y hj) (hnA i x hi)
    · rw [List.getElem?_append_right (by omega)] at hi
      rw [List.getElem?_append_left hjl] at hj
      exact absurd (hxy ▸ hD1.2 _ x hi) (hnA j y hj)
    · rw [List.getElem?_append_right (by omega)] at hi hj
      have := hD1.1 _ _ x y hi hj hxy
      omega
  · intro k x hx
    by_cases hl : k < wr.length
    · rw [List.getElem?_append_left hl] at hx
      exact hD.2 k x (hold k x hx).1
    · rw [List.getElem?_append_right (by omega)] at hx
      exact hF _ (hD1.2 _ x hx)
section IR
variable {G : GG} {M : MT} {Z : ZI} {pc : Nat} {L : List (Nat × Value)} {st : List Value} {ws : va_W} {cells slots : Nat}
theorem i_ws {ws' : va_W} (h : ws = ws') (k : IV G M Z pc L st ws' cells slots) : IV G M Z pc L st ws cells slots := h ▸ k
theorem i_sub {ws' : va_W} (ks : List Nat) (hn : va_nd ks = true) (hs : ks.map (fun i => ws[i]?) = ws'.map some) (k : IV G M Z pc L st ws' cells slots) : IV G M Z pc L st ws cells slots := by
  intro p l e R s m args below meth c A Q hZ hC H locs ls hl hP hD hS
  refine k p l e R s m args below meth c A Q hZ hC H locs ls hl (fun j q hj => ?_) (hD.sub ks hn hs) hS
  have h1 : (ks.map (fun i => ws[i]?))[j]? = some (some q) := by rw [hs, List.getElem?_map, hj]; rfl
  rw [List.getElem?_map, Option.map_eq_some_iff] at h1
  obtain ⟨i, -, hi⟩ := h1
  exact hP i q hi
theorem i_iconst {n : Int} {x : Int32} (hd : decode (mCode M) pc = .ok (.iconst n, 1)) (hv : Int32.ofInt n = x) (k : IV G M Z (pc + 1) L (.int x :: st) ws cells slots) : IV G M Z pc L st ws cells slots := by
  intro p l e R s m args below meth c A Q hZ hC H locs ls hl hP hD hS
  exact lv_iconst hC.1.1 hC.1.2.1 hd hv (k p l e R s m args below meth c A Q hZ hC H locs ls hl hP hD hS)
theorem i_bipush {n : Int} {x : Int32} (hd : decode (mCode M) pc = .ok (.bipush n, 2)) (hv : (Int8.ofInt n).toInt32 = x) (k : IV G M Z (pc + 2) L (.int x :: st) ws cells slots) : IV G M Z pc L st ws cells slots := by
  intro p l e R s m args below meth c A Q hZ hC H locs ls hl hP hD hS
  exact lv_bipush hC.1.1 hC.1.2.1 hd hv (k p l e R s m args below meth c A Q hZ hC H locs ls hl hP hD hS)
theorem i_sipush {n : Int} {x : Int32} (hd : decode (mCode M) pc = .ok (.sipush n, 3)) (hv : (Int16.ofInt n).toInt32 = x) (k : IV G M Z (pc + 3) L (.int x :: st) ws cells slots) : IV G M Z pc L st ws cells slots := by
  intro p l e R s m args below meth c A Q hZ hC H locs ls hl hP hD hS
  exact lv_sipush hC.1.1 hC.1.2.1 hd hv (k p l e R s m args below meth c A Q hZ hC H locs ls hl hP hD hS)
theorem i_dup {a : Value} (hd : decode (mCode M) pc = .ok (.dup, 1)) (ha : a.category = 1) (k : IV G M Z (pc + 1) L (a :: a :: st) ws cells slots) : IV G M Z pc L (a :: st) ws cells slots := by
  intro p l e R s m args below meth c A Q hZ hC H locs ls hl hP hD hS
  exact lv_dup hC.1.1 hC.1.2.1 hd ha (k p l e R s m args below meth c A Q hZ hC H locs ls hl hP hD hS)
theorem i_aload_n {i : Fin 4} {x : Nat} (hd : decode (mCode M) pc = .ok (.aload_n i, 1)) (hk : lk L (i : Nat) = some (.ref x)) (k : IV G M Z (pc + 1) L (.ref x :: st) ws cells slots) : IV G M Z pc L st ws cells slots := by
  intro p l e R s m args below meth c A Q hZ hC H locs ls hl hP hD hS
  exact lv_aload_n hC.1.1 hC.1.2.1 hd rfl (lk_at hl hk) (k p l e R s m args below meth c A Q hZ hC H locs ls hl hP hD hS)
theorem i_astore_n {j : Fin 4} {i : Nat} {x : Nat} {L' : List (Nat × Value)} (hd : decode (mCode M) pc = .ok (.astore_n j, 1)) (hi : (j : Nat) = i) (hn : i < mL M) (hL : (i, Value.ref x) :: L.filter (fun q => !(q.1 == i) && !(q.1 + 1 == i && q.2.category == 2)) = L') (k : IV G M Z (pc + 1) L' st ws cells slots) : IV G M Z pc L (.ref x :: st) ws cells slots := by
  intro p l e R s m args below meth c A Q hZ hC H locs ls hl hP hD hS
  exact lv_astore_n hC.1.1 hC.1.2.1 hd hi hl hn hL (fun ls hl => k p l e R s m args below meth c A Q hZ hC H locs ls hl hP hD hS)
theorem i_istore_n {j : Fin 4} {i : Nat} {x : Int32} {L' : List (Nat × Value)} (hd : decode (mCode M) pc = .ok (.istore_n j, 1)) (hi : (j : Nat) = i) (hn : i < mL M) (hL : (i, Value.int x) :: L.filter (fun q => !(q.1 == i) && !(q.1 + 1 == i && q.2.category == 2)) = L') (k : IV G M Z (pc + 1) L' st ws cells slots) : IV G M Z pc L (.int x :: st) ws cells slots := by
  intro p l e R s m args below meth c A Q hZ hC H locs ls hl hP hD hS
  exact lv_istore_n hC.1.1 hC.1.2.1 hd hi hl hn hL (fun ls hl => k p l e R s m args below meth c A Q hZ hC H locs ls hl hP hD hS)
theorem i_obj {n a : Nat} (hd : decode (mCode M) pc = .ok (.invokespecial n, 3)) (hm : Cond.methodLink (mOwn M) n objectInit ∈ mWs M ∧ Cond.instanceMethod objectInit ∈ mWs M ∧ Cond.code objectInit ⟨#[0xb1]⟩ 1 none ∈ mWs M) (hR : 1 ≤ (mRm M).frames ∧ (st.map fun v => v.category).sum + 12 ≤ (mRm M).locals) (k : IV G M Z (pc + 3) L st ws cells slots) : IV G M Z pc L (.ref a :: st) ws cells slots := by
  intro p l e R s m args below meth c A Q hZ hC H locs ls hl hP hD hS
  have t := hC.1.2.2.2.2
  have hRR := hC.2.2.2.2.1
  refine W.objInit (g := F0 m pc ls (.ref a :: st)) hC.1.1 hC.1.2.1 hC.1.2.2.2.1 (t _ hm.1) (t _ hm.2.1) (t _ hm.2.2) rfl (by rw [hC.1.2.2.1]; exact hl.1) rfl hd (by rw [hRR]; exact hR.1) ?_ (k p l e R s m args below meth c A Q hZ hC H locs ls hl hP hD hS)
  rw [hRR]
  simpa [JFrame.monitorRoom] using hR.2
theorem i_newa {atype : ArrayType} {ty : FieldType} {cy : ClassId} {t N' : Nat} {n : Int32} {a0 : vp_A} (hd : decode (mCode M) pc = .ok (.newarray atype, 2)) (hty : newarray.typeOf atype = ty) (hm : Cond.arrayClass ty ∈ mWs M) (ht : (ityp G)[t]? = some (cy, ty)) (ha : ∀ cA : ClassId, vp_cell cA a0 = arrV cA N' (fun _ => defaultValue ty)) (hn : ¬ n < 0) (hN : n.toNatClampNeg = N') (hbytes : N' * componentBytes ty ≤ 536870912) (hc : cells + 1 ≤ (mRm M).cells) (hs : slots + N' ≤ (mRm M).slots)
    (k : ∀ q : Nat, IV G M Z (pc + 2) L (.ref q :: st) (ws ++ [(q, .inl (cy, a0))]) (cells + 1) (slots + N')) : IV G M Z pc L (.int n :: st) ws cells slots := by
  subst hty
  intro p l e R s m args below meth c A Q hZ hC H locs ls hl hP hD hS
  have hRR := hC.2.2.2.2.1
  refine va_newa hC.1.1 hC.1.2.1 (hC.1.2.2.2.2 _ hm) rfl hC.2.1 hP hD hS hC.2.2.1 ha hn hN hbytes (by rw [hRR]; exact hc) (by rw [hRR]; exact hs) hd (fun q cA H1 hK1 hP1 hD1 hS1 => ?_)
  have e1 := (hK1.2 (ityp G).length (cA, newarray.typeOf atype) (by simp)).2
  have e2 := (hC.2.1.2 t _ ht).2
  have e : cA = cy := by cases atype <;> exact Option.some.inj (e1.symm.trans e2)
  subst e
  exact k q p l e R s m args below meth c A Q hZ hC H1 locs ls hl hP1 hD1 hS1
theorem i_putF {q0 ci j N n a : Nat} {C : String} {T : u_T} {ty : FieldType} {x : Value} {fs : List Value} (he : ws[q0]? = some (a, .inr (ci, fs))) (hc : vwCl[ci]? = some (C, T, N)) (hd : decode (mCode M) pc = .ok (.putfield n, 3)) (hj : j < N) (ty0 : Nat → FieldType) (hty : ∀ k, k < N → parseFieldDescriptor (T k).2.2.1 = some (ty0 k)) (hnm : ∀ a, a < N → ∀ b, b < N → a ≠ b → (T a).2.1 ≠ (T b).2.1) (hin : ∀ w ∈ u_ws C T N, w ∈ mWs M) (hm : Cond.fieldLink (mOwn M) n (T j).1 (T j).2.1 (T j).2.2.1 ∈ mWs M) (hfin : (T j).2.2.2 = true) (hr : mRet M = none) (hdecl : (T j).1 = mOwn M) (hdd : parseFieldDescriptor (T j).2.2.1 = some ty) (hn : narrow ty x = x) (hfit : fits ty x = true) (hlen : j < fs.length)
    (k : IV G M Z (pc + 3) L st (ws.set q0 (a, .inr (ci, fs.set j x))) cells slots) : IV G M Z pc L (x :: .ref a :: st) ws cells slots := by
  intro p l e R s m args below meth c A Q hZ hC H locs ls hl hP hD hS
  exact va_putF (C := C) (T := T) (N := N) hC.1.1 hC.1.2.1 hC.1.2.2.2.2 hin ty0 hty hnm hC.1.2.2.2.1 hC.2.1 hP hD hS q0 he hc j hj (hC.1.2.2.2.2 _ hm) (fun _ h => h) hfin (hC.2.2.2.1 hr) hdecl hdd hn hfit hlen hd (fun H1 locs1 hP1 hD1 hS1 => k p l e R s m args below meth c A Q hZ hC H1 locs1 ls hl hP1 hD1 hS1)
theorem i_put {q0 ci j N n a : Nat} {C : String} {T : u_T} {ty : FieldType} {x : Value} {fs : List Value} (he : ws[q0]? = some (a, .inr (ci, fs))) (hc : vwCl[ci]? = some (C, T, N)) (hd : decode (mCode M) pc = .ok (.putfield n, 3)) (hj : j < N) (ty0 : Nat → FieldType) (hty : ∀ k, k < N → parseFieldDescriptor (T k).2.2.1 = some (ty0 k)) (hnm : ∀ a, a < N → ∀ b, b < N → a ≠ b → (T a).2.1 ≠ (T b).2.1) (hin : ∀ w ∈ u_ws C T N, w ∈ mWs M) (hm : Cond.fieldLink (mOwn M) n (T j).1 (T j).2.1 (T j).2.2.1 ∈ mWs M) (hfin : (T j).2.2.2 = false) (hdd : parseFieldDescriptor (T j).2.2.1 = some ty) (hn : narrow ty x = x) (hfit : fits ty x = true) (hlen : j < fs.length)
    (k : IV G M Z (pc + 3) L st (ws.set q0 (a, .inr (ci, fs.set j x))) cells slots) : IV G M Z pc L (x :: .ref a :: st) ws cells slots := by
  intro p l e R s m args below meth c A Q hZ hC H locs ls hl hP hD hS
  exact va_put (C := C) (T := T) (N := N) hC.1.1 hC.1.2.1 hC.1.2.2.2.2 hin ty0 hty hnm hC.1.2.2.2.1 hC.2.1 hP hD hS q0 he hc j hj (hC.1.2.2.2.2 _ hm) (fun _ h => h) hfin hdd hn hfit hlen hd (fun H1 locs1 hP1 hD1 hS1 => k p l e R s m args below meth c A Q hZ hC H1 locs1 ls hl hP1 hD1 hS1)
theorem i_iast {q0 n a c0 : Nat} {f : Nat → Int32} {i x : Int32} (hd : decode (mCode M) pc = .ok (.iastore, 1)) (ha : ws[q0]? = some (a, .inl (G.2 1, n, .inl f))) (hin : vp_in i n) (hc0 : i.toNatClampNeg = c0) (k : IV G M Z (pc + 1) L st (ws.set q0 (a, .inl (G.2 1, n, .inl (upd f c0 x)))) cells slots) : IV G M Z pc L (.int x :: .int i :: .ref a :: st) ws cells slots := by
  subst hc0
  intro p l e R s m args below meth c A Q hZ hC H locs ls hl hP hD hS
  exact va_iast hC.1.1 hC.1.2.1 hC.2.1 hP hD hS q0 1 ha rfl hin hd (fun H1 locs1 hP1 hD1 hS1 => k p l e R s m args below meth c A Q hZ hC H1 locs1 ls hl hP1 hD1 hS1)
theorem i_new {ci n N : Nat} {C : String} {T : u_T} {fs : List Value} (hd : decode (mCode M) pc = .ok (.new n, 3)) (hin : ∀ w ∈ u_ws C T N, w ∈ mWs M) (ty0 : Nat → FieldType) (hty : ∀ k, k < N → parseFieldDescriptor (T k).2.2.1 = some (ty0 k)) (hm : Cond.classLink (mOwn M) n C ∈ mWs M ∧ Cond.instantiable C N ∈ mWs M ∧ Cond.initialized C ∈ mWs M) (hc : vwCl[ci]? = some (C, T, N)) (hfs : ∀ j, j < N → defaultValue (ty0 j) = vp_V fs j) (h1 : cells + 1 ≤ (mRm M).cells) (h2 : slots + N ≤ (mRm M).slots)
    (k : ∀ q : Nat, IV G M Z (pc + 3) L (.ref q :: st) (ws ++ [(q, .inr (ci, fs))]) (cells + 1) (slots + N)) : IV G M Z pc L st ws cells slots := by
  intro p l e R s m args below meth c A Q hZ hC H locs ls hl hP hD hS
  have t := hC.1.2.2.2.2
  have hRR := hC.2.2.2.2.1
  exact va_new (C := C) (T := T) (N := N) hC.1.1 hC.1.2.1 t hin ty0 hty hC.1.2.2.2.1 (t _ hm.1) (t _ hm.2.1) (t _ hm.2.2) hC.2.1 hP hD hS hC.2.2.1 hc hfs (by rw [hRR]; exact h1) (by rw [hRR]; exact h2) hd (fun q H1 hP1 hD1 hS1 => k q p l e R s m args below meth c A Q hZ hC H1 locs ls hl hP1 hD1 hS1)
theorem i_ret {h0 sz B mc ms : Nat} {n : List Nat} {e0 : va_E} (r : Nat → Nat) (hr : r B = h0) (hws : pcs G r n = ws) (hd : decode (mCode M) pc = .ok (.return_, 1)) (h1 : cells ≤ mc) (h2 : slots ≤ ms) : IV G M (zI G h0 e0 sz B n mc ms) pc L [] ws cells slots := by
  intro p l e R s m args below meth c A Q hZ hC H locs ls hl hP hD hS
  obtain ⟨rfl, rfl, hret, hlk⟩ := hZ
  subst hws
  refine W.widen h1 h2 ?_
  exact W.vret hC.1.1 hC.1.2.1 hret (fun t ht _ => ⟨⟨r, rfl, hr, by rw [ht]; exact hP, hD⟩, hS.F ht⟩) hS.2.2 hd
/-- an object's constructor, of a nest mate -/
theorem i_callN {M' : MT} {e0 : va_E} {B mc ms idx q : Nat} {n : List Nat} {wr : va_W} {ws' : List Cond} (hs : SpI G M' e0 B n mc ms) (hd : decode (mCode M) pc = .ok (.invokespecial idx, 3)) (hlink : ∀ s, iNs s → va_Nw (.methodLinkNest (mOwn M) idx (mY M') RX4) s) (hm : Cond.initialized (mY M').cls ∈ mWs M ∧ Cond.instanceMethod (mY M') ∈ mWs M) (hG : GoodIn (mWs M) (mWs M')) (hw : mWs M' = Cond.code (mY M') (mCode M') (mL M') none :: ws')
    (hnn : (mY M').cls ≠ "java/lang/invoke/MethodHandle" ∧ (mY M').cls ≠ "java/lang/invoke/VarHandle" ∧ (parseMethodDescriptor (mY M').desc).map (fun d => d.parameters.length) = some 0) (hnm : (mY M').name = "<init>") (hz : (mRm M').cells = mc ∧ (mRm M').slots = ms) (hR : (mRm M').frames + 1 ≤ (mRm M).frames ∧ 8 + (mL M' + 11) + (mRm M').locals ≤ (mRm M).locals) (hf : cells + mc ≤ (mRm M).cells ∧ slots + ms ≤ (mRm M).slots) (hcat : (st.map fun v => v.category).sum ≤ 8)
    (k : ∀ r : Nat → Nat, r B = q → IV G M Z (pc + 3) L st (wr ++ pcs G r n) (cells + mc) (slots + ms)) : IV G M Z pc L (.ref q :: st) (wr ++ [(q, e0)]) cells slots := by
  intro p l e R s m args below meth c A Q hZ hC H locs ls hl hP hD hS
  obtain ⟨hF, hK, hA, hin, hRR, hN, hO⟩ := id hC
  have t := hF.2.2.2.2
  have hPc : va_P G.1 vwCl [(q, e0)] H := hP.sub [wr.length] (by simp)
  have hFc := va_free (wc := [(q, e0)]) hD hS hA [wr.length] (by simp)
  refine va_callv (va_runIN (As := []) (rest := st) (g := F0 m pc ls (.ref q :: st)) hF (hs l q H.size) ⟨va_cnB (R := R) (rm := mRm M') 0 t hG hw hz.1 hz.2 (hlink s hN) (t _ hm.1) hnn (by rw [hRR]; exact hR), hnm, t _ hm.2⟩ ⟨iP_blind G q e0 H.size, fun U hU hW => ⟨rfl, by rw [hU], by rw [hU]; exact hPc, va_K.moved hW.alike hK, hN.warm hW, hO.moved hW.alike⟩⟩ rfl rfl hl.1 rfl (lv_room (m := m) (pc := pc) (ls := ls) (rest := []) hcat) hd (by rw [hRR]; exact hf)) hS (fun x _ h => hFc x h) hFc (fun r u H1 locs1 ht hvm hr hB hz1 hk1 hS1 => ?_)
  obtain ⟨hP1, hD1⟩ := hB
  rw [ht] at hP1
  obtain ⟨hP2, hD2⟩ := i_join hP hD hk1 hFc hP1 hD1
  exact k r hr p l e R s m args below meth c A Q hZ hC H1 locs1 ls hl hP2 hD2 hS1
/-- an object's constructor, public -/
theorem i_callI {M' : MT} {e0 : va_E} {B mc ms idx q : Nat} {n : List Nat} {wr : va_W} {ws' : List Cond} (hs : SpI G M' e0 B n mc ms) (hd : decode (mCode M) pc = .ok (.invokespecial idx, 3)) (hm : Cond.initialized (mY M').cls ∈ mWs M ∧ Cond.methodLink (mOwn M) idx (mY M') ∈ mWs M ∧ Cond.instanceMethod (mY M') ∈ mWs M) (hG : GoodIn (mWs M) (mWs M')) (hw : mWs M' = Cond.code (mY M') (mCode M') (mL M') none :: ws')
    (hnn : (mY M').cls ≠ "java/lang/invoke/MethodHandle" ∧ (mY M').cls ≠ "java/lang/invoke/VarHandle" ∧ (parseMethodDescriptor (mY M').desc).map (fun d => d.parameters.length) = some 0) (hnm : (mY M').name = "<init>") (hz : (mRm M').cells = mc ∧ (mRm M').slots = ms) (hR : (mRm M').frames + 1 ≤ (mRm M).frames ∧ 8 + (mL M' + 11) + (mRm M').locals ≤ (mRm M).locals) (hf : cells + mc ≤ (mRm M).cells ∧ slots + ms ≤ (mRm M).slots) (hcat : (st.map fun v => v.category).sum ≤ 8)
    (k : ∀ r : Nat → Nat, r B = q → IV G M Z (pc + 3) L st (wr ++ pcs G r n) (cells + mc) (slots + ms)) : IV G M Z pc L (.ref q :: st) (wr ++ [(q, e0)]) cells slots := by
  intro p l e R s m args below meth c A Q hZ hC H locs ls hl hP hD hS
  obtain ⟨hF, hK, hA, hin, hRR, hN, hO⟩ := id hC
  have t := hF.2.2.2.2
  have hPc : va_P G.1 vwCl [(q, e0)] H := hP.sub [wr.length] (by simp)
  have hFc := va_free (wc := [(q, e0)]) hD hS hA [wr.length] (by simp)
  refine va_callv (va_runI (As := []) (rest := st) (g := F0 m pc ls (.ref q :: st)) hF (hs l q H.size) (cwI (R := R) (rm := mRm M') 0 t hG hw hz.1 hz.2 (t _ hm.1) (t _ hm.2.1) (t _ hm.2.2) hnm hnn (by rw [hRR]; exact hR)) ⟨iP_blind G q e0 H.size, fun U hU hW => ⟨rfl, by rw [hU], by rw [hU]; exact hPc, va_K.moved hW.alike hK, hN.warm hW, hO.moved hW.alike⟩⟩ rfl rfl hl.1 rfl (lv_room (m := m) (pc := pc) (ls := ls) (rest := []) hcat) hd (by rw [hRR]; exact hf)) hS (fun x _ h => hFc x h) hFc (fun r u H1 locs1 ht hvm hr hB hz1 hk1 hS1 => ?_)
  obtain ⟨hP1, hD1⟩ := hB
  rw [ht] at hP1
  obtain ⟨hP2, hD2⟩ := i_join hP hD hk1 hFc hP1 hD1
  exact k r hr p l e R s m args below meth c A Q hZ hC H1 locs1 ls hl hP2 hD2 hS1
/-- a row of rows, told by another list of the same two -/
theorem i_shelf {q0 a : Nat} {f g : Nat → Option Nat} (ha : ws[q0]? = some (a, .inl (G.2 3, 2, .inr (.inr (.inr (.inr f)))))) (h0 : f 0 = g 0) (h1 : f 1 = g 1) (k : IV G M Z pc L st (ws.set q0 (a, .inl (G.2 3, 2, .inr (.inr (.inr (.inr g)))))) cells slots) : IV G M Z pc L st ws cells slots := by
  intro p l e R s m args below meth c A Q hZ hC H locs ls hl hP hD hS
  refine k p l e R s m args below meth c A Q hZ hC H locs ls hl (hP.set hD ha ?_ (fun _ _ => rfl)) (hD.set ha) hS
  have h := hP q0 _ ha
  show H[a]? = some (vp_cell (G.2 3) (2, .inr (.inr (.inr (.inr g)))))
  rw [vp_cell_q, ← arrV_two (f := fun j => va_rf (f j)) (congrArg va_rf h0) (congrArg va_rf h1), ← vp_cell_q]
  exact h
end IR
