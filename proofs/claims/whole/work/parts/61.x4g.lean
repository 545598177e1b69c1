theorem in_X4_planRow_X4 : ∀ w ∈ u_ws RX4 TX4 8, w ∈ mWs M_X4_planRow := by decide +kernel
theorem fl_X4_planRow_30 : Cond.fieldLink (mOwn M_X4_planRow) 30 (TX4 3).1 (TX4 3).2.1 (TX4 3).2.2.1 ∈ mWs M_X4_planRow := by decide +kernel
theorem nn_X4_freePart : (mY M_X4_freePart).cls ≠ "java/lang/invoke/MethodHandle" ∧ (mY M_X4_freePart).cls ≠ "java/lang/invoke/VarHandle" ∧ (parseMethodDescriptor (mY M_X4_freePart).desc).map (fun d => d.parameters.length) = some 2 := by decide +kernel
variable {v : EE} {M : MT} {Z : ZT} {pc : Nat} {L : List (Nat × Value)} {st : List Value} {σ : SS}
theorem rows_fc : ∀ j, j < 7 → rowsOf j = nI (fc j) := by decide
theorem v_saldN {x : Int32} (j : Nat) (hd : decode (mCode M) pc = .ok (.iaload, 1)) (hx : x = nI j) (hj : j < 7) (k : V v M Z (pc + 1) L (.int (nI (fc j)) :: st) σ) : V v M Z pc L (.int x :: .ref v.2.2.2 :: st) σ := by
  subst hx
  refine v_sald hd (vp_in_nI hj (by decide)) ?_
  rw [nI_clamp (by omega), rows_fc j hj]
  exact k
def dr (z i k : Nat) : Nat := (7919 * z + 6151 * i + 3571 * k + 1) * (7919 * z + 6151 * i + 3571 * k + 1) % 65521 % 10000
theorem dr_lt (z i k : Nat) : dr z i k < 10000 := Nat.mod_lt _ (by decide)
def lgP (n o : Nat) : List Nat := (pr (2 ^ n - 1) 64 0).getD o []
def fFr (n z i : Nat) : Nat := dr z i 0 % n
def fSt (z i : Nat) : Nat := 1 + dr z i 1 % 3
def fWf (l : List Nat) (n z h i t : Nat) : Nat := if dr z i (10 + (fFr n z i + t)) % 100 < h then 2 ^ ofL l (fFr n z i + t) else 0
def fCn (n z i : Nat) : Nat := min n (fFr n z i + fSt z i) - fFr n z i
def fW (l : List Nat) (n z h i : Nat) : Nat := om (fWf l n z h i) (fCn n z i)
def fT (z i : Nat) : Nat := 1 + dr z i 2 % 5
def fOD (z n o m h : Nat) : OD := (2 ^ n - 1, fun _ => 0, m, fun i => fW (lgP n o) n z h i, fT z)
def fOK (z n o m h what : Int32) : Prop := isN z 10000 = true ∧ (isN n 7 = true ∧ 2 ≤ n.toNatClampNeg) ∧ isN o (fc n.toNatClampNeg) = true ∧ (isN m 13 = true ∧ 1 ≤ m.toNatClampNeg) ∧ isN h 101 = true ∧ isN what 3 = true
def fOKb (z n o m h what : Int32) : Bool := isN z 10000 && ((isN n 7 && decide (2 ≤ n.toNatClampNeg)) && (isN o (fc n.toNatClampNeg) && ((isN m 13 && decide (1 ≤ m.toNatClampNeg)) && (isN h 101 && isN what 3))))
theorem fOK_iff {z n o m h what : Int32} : fOKb z n o m h what = true ↔ fOK z n o m h what := by
  simp only [fOKb, fOK, Bool.and_eq_true, decide_eq_true_eq]
def fA (z n o m h : Nat) (what : Int32) : Int32 := if what = 0 then nI (few (fOD z n o m h) 0) else if what = 1 then nI (TL (fOD z n o m h) 0).length else if wt (fOD z n o m h) 0 (lgP n o) = few (fOD z n o m h) 0 then 1 else 0
def q_found (z n o m h what : Int32) : Int32 := if fOKb z n o m h what then fA z.toNatClampNeg n.toNatClampNeg o.toNatClampNeg m.toNatClampNeg h.toNatClampNeg what else -1
-- the plan
def fpp (free : Nat) : Nat → Nat → Nat → Nat
  | 0, _, _ => 0
  | f + 1, p, left => if free.testBit p then (if left = 0 then p else fpp free f (p + 1) (left - 1)) else fpp free f (p + 1) left
def pS (n o : Nat) : Nat → Nat × Nat
  | 0 => (2 ^ n - 1, o)
  | i + 1 => (dif (pS n o i).1 (2 ^ fpp (pS n o i).1 6 0 ((pS n o i).2 / fc (n - 1 - i))), (pS n o i).2 % fc (n - 1 - i))
def pPt (n o i : Nat) : Nat := fpp (pS n o i).1 6 0 ((pS n o i).2 / fc (n - 1 - i))
set_option maxRecDepth 100000 in
theorem plan_all : ∀ n, n < 7 → (List.range (fc n)).map (fun o => (List.range n).map (pPt n o)) = pr (2 ^ n - 1) 64 0 := by decide +kernel
theorem plan_at {n o : Nat} (hn : n < 7) (ho : o < fc n) : lgP n o = toL (pPt n o) n := by
  rw [lgP, ← plan_all n hn, toL]
  simp [ho]
theorem lgP_mem {n o : Nat} (hn : n < 7) (ho : o < fc n) : lgP n o ∈ pr (2 ^ n - 1) 64 0 := by
  have hl : o < (pr (2 ^ n - 1) 64 0).length := by rw [← plan_all n hn]; simpa using ho
  have : lgP n o = (pr (2 ^ n - 1) 64 0)[o] := by simp [lgP, hl]
  rw [this]; exact List.getElem_mem hl
theorem lgP_at {n o i : Nat} (hn : n < 7) (ho : o < fc n) (hi : i < n) : ofL (lgP n o) i = pPt n o i := by
  rw [plan_at hn ho]; exact (agr_toL (pPt n o) n i hi).symm
theorem lgP_len {n o : Nat} (hn : n < 7) (ho : o < fc n) : (lgP n o).length = n := by rw [plan_at hn ho, toL_len]
theorem two_n {n : Nat} (hn : n < 7) : 2 ^ n - 1 < 64 := by
  have : 2 ^ n ≤ 2 ^ 6 := Nat.pow_le_pow_right (by decide) (by omega)
  omega
theorem lgP_el {n o i : Nat} (hn : n < 7) (ho : o < fc n) (hi : i < n) : ofL (lgP n o) i < 6 := pr_el (two_n hn) (lgP_mem hn ho) (ofL_mem (by rw [lgP_len hn ho]; exact hi))
theorem fc_pos' (n : Nat) : 0 < fc n := fc_pos n
theorem fc_b : ∀ j, j < 7 → fc j ≤ 720 := by decide
theorem fW_lt {n o z h i : Nat} (hn : n < 7) (ho : o < fc n) : fW (lgP n o) n z h i < 64 := om_lt (b := 6) (fun t ht => by
  rw [fWf]; split
  · exact Nat.pow_lt_pow_right (by decide) (lgP_el hn ho (by rw [fCn] at ht; omega))
  · decide)
theorem fOD_ov {z n o m h : Nat} (hn : n < 7) (ho : o < fc n) (hm : m < 13) : OV (fOD z n o m h) := ⟨two_n hn, fun _ _ => (by decide : (0 : Nat) < 64), (by show m ≤ 16; omega), fun k _ => ⟨fW_lt hn ho, by show fT z k ≤ 9; rw [fT]; omega⟩⟩
theorem fOD_good {z n o m h : Nat} (hn : n < 7) (ho : o < fc n) : good (fOD z n o m h) (lgP n o) := lgP_mem hn ho
theorem bestf_ne {α : Type} (w : α → Nat) : ∀ {L : List α}, L ≠ [] → bestf w L ≠ []
  | [], h => absurd rfl h
  | x :: L, _ => by
    rw [show x :: L = [x] ++ L from rfl, bestf_app]
    have : bestf w [x] = [x] := rfl
    rw [this]
    cases e : bestf w L with
    | nil => rw [mg_nil]; simp
    | cons y t =>
      rw [mg]
      split
      · simp
      · split <;> simp
theorem vl_true {o : OD} (h : ∀ p, oM o p = 0) : ∀ (l : List Nat) (A : Nat), vl o A l = true
  | [], _ => rfl
  | p :: l, A => by
    rw [vl, vl_true h l, h p, Bool.and_true]
    exact decide_eq_true (by rw [dif]; simp)
theorem fOD_ne {z n o m h : Nat} (hn : n < 7) (ho : o < fc n) : TL (fOD z n o m h) 0 ≠ [] := by
  rw [← bestf_TL]
  refine bestf_ne _ (fun e => ?_)
  have := List.filter_eq_nil_iff.mp e _ (lgP_mem hn ho)
  exact this (vl_true (fun _ => rfl) _ _)
def wtp (o : OD) (l : List Nat) (i : Nat) : Nat := sm (fun j => ga o (mkA l j) (ofL l j)) i
theorem wtp_wt {o : OD} {l : List Nat} : ∀ i, i ≤ l.length → wtp o l i + wt o (mkA l i) (l.drop i) = wt o 0 l
  | 0, _ => by rw [wtp, sm, Nat.zero_add]; rfl
  | i + 1, h => by
    rw [← wtp_wt (o := o) (l := l) i (by omega), List.drop_eq_getElem_cons (show i < l.length by omega)]
    have e : l[i] = ofL l i := by simp [ofL, show i < l.length by omega]
    rw [e, wt, wtp, sm, ← wtp, mkA_s]; omega
theorem wtp_end {o : OD} {l : List Nat} : wtp o l l.length = wt o 0 l := by
  have := wtp_wt (o := o) (l := l) l.length (Nat.le_refl _)
  rw [List.drop_length, wt, Nat.add_zero] at this
  exact this
def PL (l : List Nat) (n : Nat) (σ : SS) : Prop := ∀ i, i < n → σ.1 61 i = nI (ofL l i)
set_option maxRecDepth 100000 in
set_option maxHeartbeats 4000000 in
theorem s_X4_drawn {v : EE} {σ : SS} {z i k : Nat} (hz : z < 10000) (hi : i < 32) (hk : k < 32) : S1 v M_X4_drawn [.int (nI z), .int (nI i), .int (nI k)] σ (some (.int (nI (dr z i k)))) (σ) := by
  refine Sp.of rfl (by decide) rfl (Nat.le_of_ble_eq_true rfl) ?_
  show V v M_X4_drawn _ 0 [(0, .int (nI z)), (1, .int (nI i)), (2, .int (nI k))] [] σ
  have hx : 7919 * z + 6151 * i + 3571 * k + 1 < 2 ^ 31 := by omega
  have hsq : (7919 * z + 6151 * i + 3571 * k + 1) * (7919 * z + 6151 * i + 3571 * k + 1) < 2 ^ 63 := Nat.lt_trans (Nat.mul_lt_mul_of_lt_of_lt hx hx) (by decide)
  refine v_ldc2 (x := (7919)) (by decide +kernel) dX4_drawn_0 ?_
  refine v_iload_n dX4_drawn_3 rfl ?_
  refine v_i2l dX4_drawn_4 ?_
  refine v_lmul dX4_drawn_5 ?_
  refine v_topl (y := lN (7919 * z)) ((congrArg (fun q => (7919 : Int64) * q) (nI_l (by omega))).trans (lN_mul 7919 z)) ?_
  refine v_ldc2 (x := (6151)) (by decide +kernel) dX4_drawn_6 ?_
  refine v_iload_n dX4_drawn_9 rfl ?_
  refine v_i2l dX4_drawn_10 ?_
  refine v_lmul dX4_drawn_11 ?_
  refine v_topl (y := lN (6151 * i)) ((congrArg (fun q => (6151 : Int64) * q) (nI_l (by omega))).trans (lN_mul 6151 i)) ?_
  refine v_ladd dX4_drawn_12 ?_
  refine v_topl (lN_add _ _) ?_
  refine v_ldc2 (x := (3571)) (by decide +kernel) dX4_drawn_13 ?_
  refine v_iload_n dX4_drawn_16 rfl ?_
  refine v_i2l dX4_drawn_17 ?_
  refine v_lmul dX4_drawn_18 ?_
  refine v_topl (y := lN (3571 * k)) ((congrArg (fun q => (3571 : Int64) * q) (nI_l (by omega))).trans (lN_mul 3571 k)) ?_
  refine v_ladd dX4_drawn_19 ?_
  refine v_topl (lN_add _ _) ?_
  refine v_lconst (x := 1) dX4_drawn_20 rfl ?_
  refine v_ladd dX4_drawn_21 ?_
  refine v_topl (lN_1 _) ?_
  refine v_lstore_n (L' := [(3, _), (0, _), (1, _), (2, _)]) dX4_drawn_22 rfl (by decide) rfl ?_
  refine v_lload_n dX4_drawn_23 rfl ?_
  refine v_lload_n dX4_drawn_24 rfl ?_
  refine v_lmul dX4_drawn_25 ?_
  refine v_topl (lN_mul _ _) ?_
  refine v_ldc2 (x := (65521)) (by decide +kernel) dX4_drawn_26 ?_
  refine v_lrem dX4_drawn_29 (by decide) ?_
  refine v_topl (pk_lRem (b := 65521) hsq (by decide) (by decide)) ?_
  refine v_ldc2 (x := (10000)) (by decide +kernel) dX4_drawn_30 ?_
  refine v_lrem dX4_drawn_33 (by decide) ?_
  refine v_topl (pk_lRem (b := 10000) (Nat.lt_trans (Nat.mod_lt _ (by decide)) (by decide)) (by decide) (by decide)) ?_
  refine v_l2i dX4_drawn_34 ?_
  refine v_top (lN_i _) ?_
  exact v_iret rfl dX4_drawn_35 ⟨rfl, rfl⟩
set_option maxRecDepth 100000 in
set_option maxHeartbeats 4000000 in
theorem s_X5_draw {v : EE} {σ : SS} {z i k : Nat} (hz : z < 10000) (hi : i < 32) (hk : k < 32) : S1 v M_X5_draw [.int (nI z), .int (nI i), .int (nI k)] σ (some (.int (nI (dr z i k)))) (σ) := by
  refine Sp.of rfl (by decide) rfl (Nat.le_of_ble_eq_true rfl) ?_
  show V v M_X5_draw _ 0 [(0, .int (nI z)), (1, .int (nI i)), (2, .int (nI k))] [] σ
  have hx : 7919 * z + 6151 * i + 3571 * k + 1 < 2 ^ 31 := by omega
  have hsq : (7919 * z + 6151 * i + 3571 * k + 1) * (7919 * z + 6151 * i + 3571 * k + 1) < 2 ^ 63 := Nat.lt_trans (Nat.mul_lt_mul_of_lt_of_lt hx hx) (by decide)
  refine v_ldc2 (x := (7919)) (by decide +kernel) dX5_draw_0 ?_
  refine v_iload_n dX5_draw_3 rfl ?_
  refine v_i2l dX5_draw_4 ?_
  refine v_lmul dX5_draw_5 ?_
  refine v_topl (y := lN (7919 * z)) ((congrArg (fun q => (7919 : Int64) * q) (nI_l (by omega))).trans (lN_mul 7919 z)) ?_
  refine v_ldc2 (x := (6151)) (by decide +kernel) dX5_draw_6 ?_
  refine v_iload_n dX5_draw_9 rfl ?_
  refine v_i2l dX5_draw_10 ?_
  refine v_lmul dX5_draw_11 ?_
  refine v_topl (y := lN (6151 * i)) ((congrArg (fun q => (6151 : Int64) * q) (nI_l (by omega))).trans (lN_mul 6151 i)) ?_
  refine v_ladd dX5_draw_12 ?_
  refine v_topl (lN_add _ _) ?_
  refine v_ldc2 (x := (3571)) (by decide +kernel) dX5_draw_13 ?_
  refine v_iload_n dX5_draw_16 rfl ?_
  refine v_i2l dX5_draw_17 ?_
  refine v_lmul dX5_draw_18 ?_
  refine v_topl (y := lN (3571 * k)) ((congrArg (fun q => (3571 : Int64) * q) (nI_l (by omega))).trans (lN_mul 3571 k)) ?_
  refine v_ladd dX5_draw_19 ?_
  refine v_topl (lN_add _ _) ?_
  refine v_lconst (x := 1) dX5_draw_20 rfl ?_
  refine v_ladd dX5_draw_21 ?_
  refine v_topl (lN_1 _) ?_
  refine v_lstore_n (L' := [(3, _), (0, _), (1, _), (2, _)]) dX5_draw_22 rfl (by decide) rfl ?_
  refine v_lload_n dX5_draw_23 rfl ?_
  refine v_lload_n dX5_draw_24 rfl ?_
  refine v_lmul dX5_draw_25 ?_
  refine v_topl (lN_mul _ _) ?_
  refine v_ldc2 (x := (65521)) (by decide +kernel) dX5_draw_26 ?_
  refine v_lrem dX5_draw_29 (by decide) ?_
  refine v_topl (pk_lRem (b := 65521) hsq (by decide) (by decide)) ?_
  refine v_ldc2 (x := (10000)) (by decide +kernel) dX5_draw_30 ?_
  refine v_lrem dX5_draw_33 (by decide) ?_
  refine v_topl (pk_lRem (b := 10000) (Nat.lt_trans (Nat.mod_lt _ (by decide)) (by decide)) (by decide) (by decide)) ?_
  refine v_l2i dX5_draw_34 ?_
  refine v_top (lN_i _) ?_
  exact v_iret rfl dX5_draw_35 ⟨rfl, rfl⟩
set_option maxRecDepth 100000 in
set_option maxHeartbeats 4000000 in
theorem s_X4_freePart {v : EE} {σ : SS} {free sk : Nat} (hf : free < 64) (hs : sk < 2 ^ 31) : S1 v M_X4_freePart [.int (nI free), .int (nI sk)] σ (some (.int (nI (fpp free 6 0 sk)))) (σ) := by
  refine Sp.of rfl (by decide) rfl (Nat.le_of_ble_eq_true rfl) ?_
  show V v M_X4_freePart _ 0 [(0, .int (nI free)), (1, .int (nI sk))] [] σ
  refine v_iload_n dX4_freePart_0 rfl ?_
  refine v_istore_n (L' := [(2, _), (0, _), (1, _)]) dX4_freePart_1 rfl (by decide) rfl ?_
  refine v_iconst (x := nI 0) dX4_freePart_2 (by decide +kernel) ?_
  refine v_istore_n (L' := [(3, _), (2, _), (0, _), (1, _)]) dX4_freePart_3 rfl (by decide) rfl ?_
  refine v_sub [2, 1, 0] rfl ?_
  suffices hk : ∀ fu p left, fu + p = 6 → left < 2 ^ 31 → V v M_X4_freePart (zR v M_X4_freePart (fun r' σ' => r' = (some (.int (nI (fpp free fu p left)))) ∧ σ' = σ)) 4 [(0, .int (nI free)), (2, .int (nI left)), (3, .int (nI p))] [] σ from hk 6 0 sk rfl hs
  intro fu
  induction fu with
  | zero =>
    intro p left hp hleft
    obtain rfl : p = 6 := by omega
    refine v_iload_n dX4_freePart_4 rfl ?_
    refine v_bipush (x := nI 6) dX4_freePart_5 (by decide +kernel) ?_
    refine n_icmp_ge (tgt := 34) dX4_freePart_7 (by decide) (by omega) (by omega) (fun c7 => ?_) (fun c7 => absurd c7 (by omega))
    refine v_iconst (x := nI 0) dX4_freePart_34 (by decide +kernel) ?_
    exact v_iret rfl dX4_freePart_35 ⟨rfl, rfl⟩
  | succ fu ih =>
    intro p left hp hleft
    refine v_iload_n dX4_freePart_4 rfl ?_
    refine v_bipush (x := nI 6) dX4_freePart_5 (by decide +kernel) ?_
    refine n_icmp_ge (tgt := 34) dX4_freePart_7 (by decide) (by omega) (by omega) (fun c7 => absurd c7 (by omega)) (fun c7 => ?_)
    refine v_iload_n dX4_freePart_10 rfl ?_
    refine v_iload_n dX4_freePart_11 rfl ?_
    refine n_ishr dX4_freePart_12 (by omega) (by omega) ?_
    refine v_iconst (x := nI 1) dX4_freePart_13 (by decide +kernel) ?_
    refine n_and1 dX4_freePart_14 ?_
    refine v_iconst (x := nI 1) dX4_freePart_15 (by decide +kernel) ?_
    refine n_icmp_ne (tgt := 28) dX4_freePart_16 (by decide) (by omega) (by omega) (fun c16 => ?_) (fun c16 => ?_)
    · have e : fpp free (fu + 1) p left = fpp free fu (p + 1) left := by rw [fpp, if_neg (by rw [tb_div]; simpa using c16)]
      rw [e]
      refine n_iinc (n := 1) (L' := [(3, _), (0, _), (2, _)]) dX4_freePart_28 rfl (by decide) rfl ?_
      refine v_goto (tgt := 4) dX4_freePart_31 (by decide) ?_
      refine v_sub [1, 2, 0] rfl ?_
      exact ih _ _ (by omega) (by omega)
    · have hb : free.testBit p = true := by rw [tb_div]; simpa using c16
      refine v_iload_n dX4_freePart_19 rfl ?_
      refine n_if_ne (tgt := 25) dX4_freePart_20 (by decide) hleft (fun c20 => ?_) (fun c20 => ?_)
      · obtain ⟨l1, rfl⟩ : ∃ l1, left = l1 + 1 := ⟨left - 1, by omega⟩
        have e : fpp free (fu + 1) p (l1 + 1) = fpp free fu (p + 1) l1 := by rw [fpp, if_pos hb, if_neg c20]; rfl
        rw [e]
        refine n_idec (L' := [(2, _), (0, _), (3, _)]) dX4_freePart_25 rfl (by decide) rfl ?_
        refine n_iinc (n := 1) (L' := [(3, _), (2, _), (0, _)]) dX4_freePart_28 rfl (by decide) rfl ?_
        refine v_goto (tgt := 4) dX4_freePart_31 (by decide) ?_
        refine v_sub [2, 1, 0] rfl ?_
        exact ih _ _ (by omega) (by omega)
      · refine v_iload_n dX4_freePart_23 rfl ?_
        exact v_iret rfl dX4_freePart_24 ⟨congrArg (fun z => some (Value.int z)) (by rw [fpp, if_pos hb, if_pos c20]), rfl⟩
theorem pS_lt {n o : Nat} (hn : n < 7) (ho : o < fc n) : ∀ i, (pS n o i).1 < 64 ∧ (pS n o i).2 ≤ o
  | 0 => ⟨two_n hn, Nat.le_refl _⟩
  | i + 1 => by
    have := pS_lt hn ho i
    rw [pS]
    exact ⟨Nat.lt_of_le_of_lt (dif_le _ _) this.1, Nat.le_trans (Nat.mod_le _ _) this.2⟩
def FOp (σ τ : SS) : Prop := (∀ a, a < 10 ∨ 18 < a ∧ a ≠ 61 → τ.1 a = σ.1 a) ∧ τ.2 = σ.2 ∧ τ.1 17 0 = σ.1 17 0
theorem FOp.rf (σ : SS) : FOp σ σ := ⟨fun _ _ => rfl, rfl, rfl⟩
theorem FOp.tr {σ τ υ : SS} (h : FOp σ τ) (g : FOp τ υ) : FOp σ υ := ⟨fun a h1 => (g.1 a h1).trans (h.1 a h1), g.2.1.trans h.2.1, g.2.2.trans h.2.2⟩
theorem FOp.up {σ τ : SS} (h : FOp σ τ) {b : Nat} (hb : b ≠ 17 ∧ (10 ≤ b ∧ b ≤ 18 ∨ b = 61)) (j : Nat) (x : Int32) : FOp σ (sI τ b j x) := ⟨fun a h1 => (sI_row _ _ (by omega)).trans (h.1 a h1), h.2.1, (congrFun (sI_row _ _ (by omega)) 0).trans h.2.2⟩
theorem FO.p {σ τ : SS} (h : FO σ τ) : FOp σ τ := ⟨fun a h1 => h.1 a (by omega), h.2.1, h.2.2⟩
theorem FOp.rc {s : AS} {σ τ : SS} (h : FOp σ τ) (hr : RC s σ) : RC s τ := by
  obtain ⟨⟨h1, h2⟩, h3, h4, h5, h6⟩ := hr
  have e : ∀ a, a < 10 ∨ 18 < a ∧ a ≠ 61 → τ.1 a = σ.1 a := h.1
  have hw : σ.2.2.1 = 22 ∨ σ.2.2.1 = 31 := h1
  refine ⟨by rw [h.2.1, h.2.2]; exact ⟨h1, h2⟩, ⟨by rw [e 1 (by decide)]; exact h3.1, h3.2.1, fun j hj => by rw [e 2 (by decide)]; exact h3.2.2 j hj⟩, ?_, by rw [e 0 (by decide)]; exact h5, fun i j hi hj => ?_⟩
  · rw [h.2.1]
    exact h4.of (fun i hi => e _ (by omega))
  · rw [e _ (by omega)]; exact h6 i j hi hj
theorem FOp.fc {σ τ : SS} (h : FOp σ τ) : FC σ τ := ⟨fun a ha => h.1 a (by omega), by rw [h.2.1]⟩
theorem pl_s {τ : SS} {f : Nat → Nat} {i : Nat} (h : ∀ j, j < i → τ.1 61 j = nI (f j)) : ∀ j, j < i + 1 → (sI τ 61 i (nI (f i))).1 61 j = nI (f j) := fun j hj => by
  by_cases q : j = i
  · subst q; rw [sI_at]
  · rw [sI_ne _ _ (Or.inr q)]; exact h j (by omega)
set_option maxRecDepth 100000 in
set_option maxHeartbeats 4000000 in
theorem s_X4_planRow {v : EE} {σ : SS} {n o : Nat} (hn : n < 7) (ho : o < fc n) : SR v M_X4_planRow [.ref (v.1 0), .int (nI n), .int (nI o)] σ none (fun σ' => PL (lgP n o) n σ' ∧ FOp σ σ') := by
  refine Sp.of rfl (by decide) rfl (Nat.le_of_ble_eq_true rfl) ?_
  show V v M_X4_planRow _ 0 [(0, .ref (v.1 0)), (1, .int (nI n)), (2, .int (nI o))] [] σ
  have hp1 : 0 < 2 ^ n := Nat.pow_pos (by decide)
  refine v_iconst (x := nI 1) dX4_planRow_0 (by decide +kernel) ?_
  refine v_iload_n dX4_planRow_1 rfl ?_
  refine n_shl1 dX4_planRow_2 (by omega) ?_
  refine v_iconst (x := nI 1) dX4_planRow_3 (by decide +kernel) ?_
  refine n_isub dX4_planRow_4 (by omega) ?_
  refine v_istore_n (L' := [(3, _), (0, _), (1, _), (2, _)]) dX4_planRow_5 rfl (by decide) rfl ?_
  refine v_iload_n dX4_planRow_6 rfl ?_
  refine v_istore (L' := [(4, _), (3, _), (0, _), (1, _), (2, _)]) dX4_planRow_7 (by decide) rfl ?_
  refine v_iconst (x := nI 0) dX4_planRow_9 (by decide +kernel) ?_
  refine v_istore (L' := [(5, _), (4, _), (3, _), (0, _), (1, _), (2, _)]) dX4_planRow_10 (by decide) rfl ?_
  refine v_sub [3, 4, 5, 2, 1, 0] rfl ?_
  refine loopN (fun i => ∀ τ : SS, ((∀ j, j < i → τ.1 61 j = nI (pPt n o j)) ∧ FOp σ τ) → V v M_X4_planRow (zR v M_X4_planRow (fun r' σ' => r' = none ∧ (PL (lgP n o) n σ' ∧ FOp σ σ'))) 12 [(0, .ref (v.1 0)), (1, .int (nI n)), (2, .int (nI o)), (3, .int (nI (pS n o i).1)), (4, .int (nI (pS n o i).2)), (5, .int (nI i))] [] τ) n ?_ ?_ _ ⟨fun j hj => (by omega), FOp.rf σ⟩
  · intro i hi ih τ hinv
    have hps := pS_lt hn ho i
    have hfb := fc_b n hn
    have hfb2 := fc_b (n - 1 - i) (by omega)
    refine v_iload dX4_planRow_12 rfl ?_
    refine v_iload_n dX4_planRow_14 rfl ?_
    refine n_icmp_ge (tgt := 72) dX4_planRow_15 (by decide) (by omega) (by omega) (fun c15 => absurd c15 (by omega)) (fun c15 => ?_)
    refine v_gets dX4_planRow_18 (by decide +kernel) ?_
    refine v_iload_n dX4_planRow_21 rfl ?_
    refine v_iconst (x := nI 1) dX4_planRow_22 (by decide +kernel) ?_
    refine n_isub dX4_planRow_23 (by omega) ?_
    refine v_iload dX4_planRow_24 rfl ?_
    refine n_isub dX4_planRow_26 (by omega) ?_
    refine v_saldN _ dX4_planRow_27 rfl (by omega) ?_
    refine v_istore (L' := [(6, _), (0, _), (1, _), (2, _), (3, _), (4, _), (5, _)]) dX4_planRow_28 (by decide) rfl ?_
    refine v_iload_n dX4_planRow_30 rfl ?_
    refine v_iload dX4_planRow_31 rfl ?_
    refine v_iload dX4_planRow_33 rfl ?_
    refine n_idiv dX4_planRow_35 (by omega) (fc_pos _) (by omega) ?_
    refine v_callSi (M' := M_X4_freePart) (As := [_, _]) (s_X4_freePart hps.1 (by have := Nat.div_le_self (pS n o i).2 (fc (n - 1 - i)); omega)) dX4_planRow_36 gX4_planRow_X4_freePart rfl nn_X4_freePart ⟨rfl, rfl⟩ ⟨by decide, by decide⟩ rfl rfl (Nat.le_of_ble_eq_true rfl) ?_
    have h6 : fpp (pS n o i).1 6 0 ((pS n o i).2 / fc (n - 1 - i)) < 6 := by have := lgP_el hn ho hi; rw [lgP_at hn ho hi] at this; exact this
    refine v_istore (L' := [(7, _), (6, _), (0, _), (1, _), (2, _), (3, _), (4, _), (5, _)]) dX4_planRow_39 (by decide) rfl ?_
    refine v_aload_n dX4_planRow_41 rfl ?_
    refine v_get (j := 3) iO0 rfl dX4_planRow_42 (by decide) in_X4_planRow_X4 fl_X4_planRow_30 rfl ?_
    refine v_iload dX4_planRow_45 rfl ?_
    refine v_iload dX4_planRow_47 rfl ?_
    refine v_iastN i iI61 dX4_planRow_49 rfl (by omega) (by decide) ?_
    refine v_iload_n dX4_planRow_50 rfl ?_
    refine v_iconst (x := nI 1) dX4_planRow_51 (by decide +kernel) ?_
    refine v_iload dX4_planRow_52 rfl ?_
    refine n_shl1 dX4_planRow_54 (by omega) ?_
    refine v_iconst (x := (-1)) dX4_planRow_55 rfl ?_
    refine v_ixor dX4_planRow_56 ?_
    refine n_dif dX4_planRow_57 ?_
    refine v_istore_n (L' := [(3, _), (7, _), (6, _), (0, _), (1, _), (2, _), (4, _), (5, _)]) dX4_planRow_58 rfl (by decide) rfl ?_
    refine v_iload dX4_planRow_59 rfl ?_
    refine v_iload dX4_planRow_61 rfl ?_
    refine n_irem dX4_planRow_63 (by omega) (fc_pos _) (by omega) ?_
    refine v_istore (L' := [(4, _), (3, _), (7, _), (6, _), (0, _), (1, _), (2, _), (5, _)]) dX4_planRow_64 (by decide) rfl ?_
    refine n_iinc (n := 1) (L' := [(5, _), (4, _), (3, _), (7, _), (6, _), (0, _), (1, _), (2, _)]) dX4_planRow_66 rfl (by decide) rfl ?_
    refine v_goto (tgt := 12) dX4_planRow_69 (by decide) ?_
    refine v_sub [5, 6, 7, 2, 1, 0] rfl ?_
    exact ih _ ⟨pl_s hinv.1, hinv.2.up (by decide) _ _⟩
  · intro τ hinv
    refine v_iload dX4_planRow_12 rfl ?_
    refine v_iload_n dX4_planRow_14 rfl ?_
    refine n_icmp_ge (tgt := 72) dX4_planRow_15 (by decide) (by omega) (by omega) (fun c15 => ?_) (fun c15 => absurd c15 (by omega))
    exact v_vret rfl dX4_planRow_72 ⟨rfl, fun i hi => by rw [lgP_at hn ho hi]; exact hinv.1 i hi, hinv.2⟩
set_option maxRecDepth 100000 in
set_option maxHeartbeats 4000000 in
theorem s_X0_gapsOf {v : EE} {o : OD} {σ : SS} (ho : OV o) (hc : OC o σ) {l : List Nat} (hg : good o l) (hp : PL l l.length σ) : S1 v M_X0_gapsOf [.ref (v.1 10), .ref (v.1 61), .int (nI l.length)] σ (some (.int (nI (wt o 0 l)))) (σ) := by
  refine Sp.of rfl (by decide) rfl (Nat.le_of_ble_eq_true rfl) ?_
  show V v M_X0_gapsOf _ 0 [(0, .ref (v.1 10)), (1, .ref (v.1 61)), (2, .int (nI l.length))] [] σ
  refine v_iconst (x := nI 0) dX0_gapsOf_0 (by decide +kernel) ?_
  refine v_istore_n (L' := [(3, _), (0, _), (1, _), (2, _)]) dX0_gapsOf_1 rfl (by decide) rfl ?_
  refine v_iconst (x := nI 0) dX0_gapsOf_2 (by decide +kernel) ?_
  refine v_istore (L' := [(4, _), (3, _), (0, _), (1, _), (2, _)]) dX0_gapsOf_3 (by decide) rfl ?_
  refine v_iconst (x := nI 0) dX0_gapsOf_5 (by decide +kernel) ?_
  refine v_istore (L' := [(5, _), (4, _), (3, _), (0, _), (1, _), (2, _)]) dX0_gapsOf_6 (by decide) rfl ?_
  refine v_sub [3, 4, 5, 2, 1, 0] rfl ?_
  refine loopN (fun i => V v M_X0_gapsOf (zR v M_X0_gapsOf (fun r' σ' => r' = (some (.int (nI (wt o 0 l)))) ∧ σ' = (σ))) 8 [(0, .ref (v.1 10)), (1, .ref (v.1 61)), (2, .int (nI l.length)), (3, .int (nI (mkA l i))), (4, .int (nI (wtp o l i))), (5, .int (nI i))] [] (σ)) l.length ?_ ?_
  · intro i hi ih
    have h6 := hg.el ho (i := i) (by omega)
    have hl6 := (hg.len ho).2
    have h64 : mkA l i < 64 := mkA_lt i (fun j hj => hg.el ho (by omega))
    refine v_iload dX0_gapsOf_8 rfl ?_
    refine v_iload_n dX0_gapsOf_10 rfl ?_
    refine n_icmp_ge (tgt := 50) dX0_gapsOf_11 (by decide) (by omega) (by omega) (fun c11 => absurd c11 (by omega)) (fun c11 => ?_)
    refine v_iload dX0_gapsOf_14 rfl ?_
    refine v_aload_n dX0_gapsOf_16 rfl ?_
    refine v_ialen iI61 dX0_gapsOf_17 rfl ?_
    refine n_icmp_ge (tgt := 50) dX0_gapsOf_18 (by decide) (by omega) (by decide) (fun c18 => absurd c18 (by omega)) (fun c18 => ?_)
    refine v_iload dX0_gapsOf_21 rfl ?_
    refine v_aload_n dX0_gapsOf_23 rfl ?_
    refine v_iload_n dX0_gapsOf_24 rfl ?_
    refine v_aload_n dX0_gapsOf_25 rfl ?_
    refine v_iload dX0_gapsOf_26 rfl ?_
    refine v_ialdN i iI61 dX0_gapsOf_28 rfl (by omega) (by decide) ?_
    refine v_top (hp i hi) ?_
    refine v_callVi (M' := M_X0_gapsAdded) (As := [_, _]) iO10 (s_X0_gapsAdded ho hc h64 h6) dX0_gapsOf_29 gX0_gapsOf_X0_gapsAdded rfl rfl nn_X0_gapsAdded ⟨rfl, rfl⟩ ⟨by decide, by decide⟩ rfl rfl (Nat.le_of_ble_eq_true rfl) ?_
    refine n_iadd dX0_gapsOf_32 ?_
    refine v_istore (L' := [(4, _), (0, _), (1, _), (2, _), (3, _), (5, _)]) dX0_gapsOf_33 (by decide) rfl ?_
    refine v_iload_n dX0_gapsOf_35 rfl ?_
    refine v_iconst (x := nI 1) dX0_gapsOf_36 (by decide +kernel) ?_
    refine v_aload_n dX0_gapsOf_37 rfl ?_
    refine v_iload dX0_gapsOf_38 rfl ?_
    refine v_ialdN i iI61 dX0_gapsOf_40 rfl (by omega) (by decide) ?_
    refine v_top (hp i hi) ?_
    refine n_shl1 dX0_gapsOf_41 (by omega) ?_
    refine n_ior dX0_gapsOf_42 ?_
    refine v_istore_n (L' := [(3, _), (4, _), (0, _), (1, _), (2, _), (5, _)]) dX0_gapsOf_43 rfl (by decide) rfl ?_
    refine n_iinc (n := 1) (L' := [(5, _), (3, _), (4, _), (0, _), (1, _), (2, _)]) dX0_gapsOf_44 rfl (by decide) rfl ?_
    refine v_goto (tgt := 8) dX0_gapsOf_47 (by decide) ?_
    refine v_sub [3, 4, 5, 1, 2, 0] rfl ?_
    exact ih
  · have hl6 := (hg.len ho).2
    refine v_iload dX0_gapsOf_8 rfl ?_
    refine v_iload_n dX0_gapsOf_10 rfl ?_
    refine n_icmp_ge (tgt := 50) dX0_gapsOf_11 (by decide) (by omega) (by omega) (fun c11 => ?_) (fun c11 => absurd c11 (by omega))
    refine v_iload dX0_gapsOf_50 rfl ?_
    exact v_iret rfl dX0_gapsOf_52 ⟨congrArg (fun z => some (Value.int z)) (by rw [wtp_end]), rfl⟩
