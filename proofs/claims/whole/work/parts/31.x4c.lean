theorem in_X4_back_X3 : ∀ w ∈ u_ws RX3 TX3 12, w ∈ mWs M_X4_back := by decide +kernel
theorem in_X4_back_X4 : ∀ w ∈ u_ws RX4 TX4 8, w ∈ mWs M_X4_back := by decide +kernel
theorem in_X4_keep_X3 : ∀ w ∈ u_ws RX3 TX3 12, w ∈ mWs M_X4_keep := by decide +kernel
theorem in_X4_keep_X4 : ∀ w ∈ u_ws RX4 TX4 8, w ∈ mWs M_X4_keep := by decide +kernel
theorem in_X4_read_X4 : ∀ w ∈ u_ws RX4 TX4 8, w ∈ mWs M_X4_read := by decide +kernel
theorem fl_X4_back_36 : Cond.fieldLink (mOwn M_X4_back) 36 (TX4 4).1 (TX4 4).2.1 (TX4 4).2.2.1 ∈ mWs M_X4_back := by decide +kernel
theorem fl_X4_back_42 : Cond.fieldLink (mOwn M_X4_back) 42 (TX4 5).1 (TX4 5).2.1 (TX4 5).2.2.1 ∈ mWs M_X4_back := by decide +kernel
theorem fl_X4_back_49 : Cond.fieldLink (mOwn M_X4_back) 49 (TX4 7).1 (TX4 7).2.1 (TX4 7).2.2.1 ∈ mWs M_X4_back := by decide +kernel
theorem fl_X4_back_256 : Cond.fieldLink (mOwn M_X4_back) 256 (TX3 5).1 (TX3 5).2.1 (TX3 5).2.2.1 ∈ mWs M_X4_back := by decide +kernel
theorem fl_X4_keep_36 : Cond.fieldLink (mOwn M_X4_keep) 36 (TX4 4).1 (TX4 4).2.1 (TX4 4).2.2.1 ∈ mWs M_X4_keep := by decide +kernel
theorem fl_X4_keep_42 : Cond.fieldLink (mOwn M_X4_keep) 42 (TX4 5).1 (TX4 5).2.1 (TX4 5).2.2.1 ∈ mWs M_X4_keep := by decide +kernel
theorem fl_X4_keep_49 : Cond.fieldLink (mOwn M_X4_keep) 49 (TX4 7).1 (TX4 7).2.1 (TX4 7).2.2.1 ∈ mWs M_X4_keep := by decide +kernel
theorem fl_X4_keep_256 : Cond.fieldLink (mOwn M_X4_keep) 256 (TX3 5).1 (TX3 5).2.1 (TX3 5).2.2.1 ∈ mWs M_X4_keep := by decide +kernel
theorem fl_X4_read_42 : Cond.fieldLink (mOwn M_X4_read) 42 (TX4 5).1 (TX4 5).2.1 (TX4 5).2.2.1 ∈ mWs M_X4_read := by decide +kernel
def setH (w : WD) (f : Nat → Nat) : WD := (w.1, w.2.1, w.2.2.1, wQ w, wA w, wB w, f, w.2.2.2.2.2.2.2)
def rdH (w : WD) (c l : Nat) : Nat → Nat := va_up (va_up (wH w) (c * 18 + 17) (wH w (c * 18 + 17) - 1)) (c * 18 + l) (wH w (c * 18 + l) + 1)
def setW (s : AS) (w : WD) : AS := (aU s, aL s, w, s.2.2.2)
def q_read (s : AS) (c k : Int32) : Int32 × AS := if isN c (wC (aW s)) = true ∧ (isN k (wS (aW s)) = true ∨ k = 98) then (if wH (aW s) (c.toNatClampNeg * 18 + 17) = 0 then (-2, s) else (nI (wH (aW s) (c.toNatClampNeg * 18 + 17) - 1), setW s (setH (aW s) (rdH (aW s) c.toNatClampNeg (kdOf k).toNatClampNeg)))) else (-1, s)
theorem rc_setW {s : AS} {σ τ : SS} (h : RC s σ) {w : WD} (hF : Fr σ.2.2.1 σ τ) (hw : CH σ.2.2.1 w τ) : RC (setW s w) τ ∧ FC σ τ := by
  have hla := h.la
  obtain ⟨h1, h2, h3, h4, h5⟩ := h
  have hw1 : σ.2.2.1 = 22 ∨ σ.2.2.1 = 31 := h1.1
  have e : ∀ a, (a < σ.2.2.1 ∨ σ.2.2.1 + 8 < a) → τ.1 a = σ.1 a := hF.1
  refine ⟨⟨by rw [hF.2, e 17 (by omega)]; exact h1, hF.ct hla h2, by rw [hF.2]; exact hw, by rw [e 0 (by omega)]; exact h4, fun i j hi hj => ?_⟩, fun a ha => e a (by omega), by rw [hF.2]⟩
  rw [e (20 + i) (by have := h4.2; have : i < aK s := hi; omega)]
  exact h5 i j hi hj
theorem kd_read {z : Nat} {w : WD} (hv : WV z w) {k : Int32} : (isN k (wS w) = true ∨ k = 98) ∧ (∃ l, l < 17 ∧ kdOf k = nI l ∧ colOf w k = nI l ∧ (l < wS w ∨ l = 16)) ∨ ¬ (isN k (wS w) = true ∨ k = 98) ∧ (colOf w k = -4 ∨ colOf w k = 17) := by
  have hS := wv_S hv
  rw [kdOf, colOf]
  by_cases h1 : k = 98
  · exact Or.inl ⟨Or.inr h1, 16, by decide, by rw [if_pos h1]; rfl, by rw [if_pos h1]; rfl, Or.inr rfl⟩
  · by_cases h2 : k = 99
    · refine Or.inr ⟨?_, Or.inr (by rw [if_neg h1, if_pos h2])⟩
      rintro (q | q)
      · rw [h2, show (99 : Int32) = nI 99 from rfl, isN_dec (by decide)] at q
        have := of_decide_eq_true q
        omega
      · exact h1 q
    · cases h3 : isN k (wS w) with
      | true =>
        obtain ⟨j, hj, -, e⟩ := isN_nI h3
        exact Or.inl ⟨Or.inl rfl, j, by omega, by rw [if_neg h1, if_neg h2]; exact e, by rw [if_neg h1, if_neg h2, if_pos rfl]; exact e, Or.inl hj⟩
      | false =>
        exact Or.inr ⟨by rintro (q | q); cases q; exact h1 q, Or.inl (by rw [if_neg h1, if_neg h2, if_neg (by decide)])⟩
theorem rdH_17 {w : WD} {c l : Nat} (hl : l < 17) : rdH w c l (c * 18 + 17) = wH w (c * 18 + 17) - 1 := by
  rw [rdH, va_up, if_neg (by omega), va_up, if_pos rfl]
theorem wv_rd1 {z : Nat} {w : WD} (hv : WV z w) {j : Nat} (hj : j < 16) : WV z (w.1, w.2.1, w.2.2.1, wQ w, wA w, wB w, va_up (wH w) (j * 18 + 17) (wH w (j * 18 + 17) - 1), w.2.2.2.2.2.2.2) := by
  obtain ⟨h1, h5, h6, h7, h8, h9, h10⟩ := hv
  refine ⟨h1, h5, h6, fun i hi => ?_, fun c k g1 g2 g3 => ?_, h9, h10⟩
  · show va_up (wH w) (j * 18 + 17) (wH w (j * 18 + 17) - 1) i ≤ z
    have := h7 i hi
    by_cases q : i = j * 18 + 17
    · subst q; simp only [va_up, if_true]; omega
    · simp only [va_up, q, if_false]; exact this
  · show va_up (wH w) (j * 18 + 17) (wH w (j * 18 + 17) - 1) (c * 18 + k) = 0
    rw [va_up, if_neg (by omega)]
    exact h8 c k g1 g2 g3
theorem wv_rd2 {z : Nat} {w : WD} (hv : WV z w) {j l : Nat} (hj : j < 16) (hl : l < wS w ∨ l = 16) : WV (z + 1) (setH w (rdH w j l)) := by
  have hS := wv_S hv
  obtain ⟨h1, h5, h6, h7, h8, h9, h10⟩ := hv
  refine ⟨h1, h5, h6, fun i hi => ?_, fun c k g1 g2 g3 => ?_, h9, h10⟩
  · show rdH w j l i ≤ z + 1
    have a1 := h7 i hi
    rw [rdH, va_up]
    by_cases q : i = j * 18 + l
    · rw [if_pos q, ← q]; omega
    · rw [if_neg q, va_up]
      by_cases q2 : i = j * 18 + 17
      · rw [if_pos q2, ← q2]; omega
      · rw [if_neg q2]; omega
  · show rdH w j l (c * 18 + k) = 0
    have g2 : wS w ≤ k := g2
    rw [rdH, va_up, if_neg (by omega), va_up, if_neg (by omega)]
    exact h8 c k g1 g2 g3
set_option maxRecDepth 100000 in
set_option maxHeartbeats 4000000 in
theorem s_X4_read {v : EE} {s : AS} {z : Nat} {σ : SS} (hr : RC s σ) (hv : WV z (aW s)) (hz : z ≤ 1000000) (c k : Int32) : SR v M_X4_read [.ref (v.1 0), .int c, .int k] σ (some (.int (q_read s c k).1)) (fun σ' => RC (q_read s c k).2 σ' ∧ FC σ σ') := by
  refine Sp.of rfl (by decide) rfl (Nat.le_of_ble_eq_true rfl) ?_
  show V v M_X4_read _ 0 [(0, .ref (v.1 0)), (1, .int c), (2, .int k)] [] σ
  have hla := hr.la
  have hw := hr.ch
  refine v_aload_n dX4_read_0 rfl ?_
  refine v_get (j := 5) iO0 rfl dX4_read_1 (by decide) in_X4_read_X4 fl_X4_read_42 rfl ?_
  refine v_iload_n dX4_read_4 rfl ?_
  refine v_callVi (M' := M_X3_columnOf) (As := [_]) (iWO hla) (s_X3_columnOf hla hw hv _) dX4_read_5 gX4_read_X3_columnOf rfl rfl nn_X3_columnOf ⟨rfl, rfl⟩ ⟨by decide, by decide⟩ rfl rfl (Nat.le_of_ble_eq_true rfl) ?_
  refine v_istore_n (L' := [(3, _), (0, _), (1, _), (2, _)]) dX4_read_8 rfl (by decide) rfl ?_
  refine v_aload_n dX4_read_9 rfl ?_
  refine v_get (j := 5) iO0 rfl dX4_read_10 (by decide) in_X4_read_X4 fl_X4_read_42 rfl ?_
  refine v_iload_n dX4_read_13 rfl ?_
  refine v_callVi (M' := M_X3_hasCourse) (As := [_]) (iWO hla) (s_X3_hasCourse hla hw hv _) dX4_read_14 gX4_read_X3_hasCourse rfl rfl nn_X3_hasCourse ⟨rfl, rfl⟩ ⟨by decide, by decide⟩ rfl rfl (Nat.le_of_ble_eq_true rfl) ?_
  refine v_if_eq (tgt := 30) dX4_read_17 (by decide) (fun c17 => ?_) (fun c17 => ?_)
  · refine v_iconst (x := (-1)) dX4_read_30 rfl ?_
    exact v_iret rfl dX4_read_31 ⟨congrArg (fun z => some (Value.int z)) (by rw [q_read, if_neg (fun q => by rw [bI_0.mp c17] at q; cases q.1)]), by rw [q_read, if_neg (fun q => by rw [bI_0.mp c17] at q; cases q.1)]; exact hr, FC.rf σ⟩
  · rcases kd_read (k := k) hv with ⟨hyes, l, hl, e1, e2, hls⟩ | ⟨hno, hcol⟩
    · refine v_loc (L' := [(3, .int (nI l)), (0, .ref (v.1 0)), (1, .int c), (2, .int k)]) (by rw [e2]) ?_
      refine v_iload_n dX4_read_20 rfl ?_
      refine v_if_lt (tgt := 30) dX4_read_21 (by decide) (fun c21 => absurd c21 (nI_pos (by omega))) (fun c21 => ?_)
      refine v_iload_n dX4_read_24 rfl ?_
      refine v_bipush (x := 17) dX4_read_25 (by decide +kernel) ?_
      refine v_icmp_ne (tgt := 32) dX4_read_27 (by decide) (fun c27 => ?_) (fun c27 => absurd c27 (fun q => by have := (nI_eq (b := 17) (by omega) (by decide)).mp q; omega))
      obtain ⟨j, hj, hj2, rfl⟩ := isN_nI (bI_n0.mp c17)
      have hC := wv_C hv
      refine v_aload_n dX4_read_32 rfl ?_
      refine v_get (j := 5) iO0 rfl dX4_read_33 (by decide) in_X4_read_X4 fl_X4_read_42 rfl ?_
      refine v_iload_n dX4_read_36 rfl ?_
      refine v_bipush (x := 17) dX4_read_37 (by decide +kernel) ?_
      refine v_callVi (M' := M_X3_stonesAt) (As := [_, _]) (iWO hla) (s_X3_stonesAt hla hw hv hj (k := 17) (by decide)) dX4_read_39 gX4_read_X3_stonesAt rfl rfl nn_X3_stonesAt ⟨rfl, rfl⟩ ⟨by decide, by decide⟩ rfl rfl (Nat.le_of_ble_eq_true rfl) ?_
      refine v_iconst (x := 1) dX4_read_42 rfl ?_
      refine v_icmp_ge (tgt := 49) dX4_read_43 (by decide) (fun c43 => ?_) (fun c43 => ?_)
      · have h17 : ¬ wH (aW s) (j * 18 + 17) = 0 := by have h9 := c43; rw [show (1 : Int32) = nI 1 from rfl, nI_leI (by decide) (by have := wv_H hv (j := j * 18 + 17) (by omega); omega)] at h9; omega
        refine v_aload_n dX4_read_49 rfl ?_
        refine v_get (j := 5) iO0 rfl dX4_read_50 (by decide) in_X4_read_X4 fl_X4_read_42 rfl ?_
        refine v_iload_n dX4_read_53 rfl ?_
        refine v_bipush (x := 17) dX4_read_54 (by decide +kernel) ?_
        refine v_iconst (x := (-1)) dX4_read_56 rfl ?_
        refine v_callVv (M' := M_X3_addAt) (As := [_, _, _]) (iWO hla) (s_X3_addAt hla hw hv hj (k := 17) (by decide)) dX4_read_57 gX4_read_X3_addAt rfl rfl nn_X3_addAt ⟨rfl, rfl⟩ ⟨by decide, by decide⟩ rfl rfl (Nat.le_of_ble_eq_true rfl) ?_
        refine v_st (σ' := sI σ (σ.2.2.1 + 6) (j * 18 + 17) (nI (wH (aW s) (j * 18 + 17) - 1))) (by rw [show nI (wH (aW s) (j * 18 + 17)) + -1 = nI (wH (aW s) (j * 18 + 17) - 1) from sb_m1 (by omega)]) ?_
        have hw1 := ch_H1 hw (j * 18 + 17) (wH (aW s) (j * 18 + 17) - 1)
        have hv1 := wv_rd1 hv (j := j) (by omega)
        refine v_aload_n dX4_read_60 rfl ?_
        refine v_get (j := 5) iO0 rfl dX4_read_61 (by decide) in_X4_read_X4 fl_X4_read_42 rfl ?_
        refine v_iload_n dX4_read_64 rfl ?_
        refine v_iload_n dX4_read_65 rfl ?_
        refine v_iconst (x := 1) dX4_read_66 rfl ?_
        refine v_callVv (M' := M_X3_addAt) (As := [_, _, _]) (iWO hla) (s_X3_addAt hla hw1 hv1 hj (k := l) (by omega)) dX4_read_67 gX4_read_X3_addAt rfl rfl nn_X3_addAt ⟨rfl, rfl⟩ ⟨by decide, by decide⟩ rfl rfl (Nat.le_of_ble_eq_true rfl) ?_
        refine v_st (σ' := sI (sI σ (σ.2.2.1 + 6) (j * 18 + 17) (nI (wH (aW s) (j * 18 + 17) - 1))) (σ.2.2.1 + 6) (j * 18 + l) (nI (wH (aW s) (j * 18 + l) + 1))) (by congr 1; show nI (va_up (wH (aW s)) (j * 18 + 17) _ (j * 18 + l)) + nI 1 = _; rw [nI_add, va_up, if_neg (by omega)]) ?_
        have hw2 := ch_H1 hw1 (j * 18 + l) (wH (aW s) (j * 18 + l) + 1)
        have hv2 := wv_rd2 hv (j := j) (l := l) (by omega) hls
        refine v_aload_n dX4_read_70 rfl ?_
        refine v_get (j := 5) iO0 rfl dX4_read_71 (by decide) in_X4_read_X4 fl_X4_read_42 rfl ?_
        refine v_iload_n dX4_read_74 rfl ?_
        refine v_bipush (x := 17) dX4_read_75 (by decide +kernel) ?_
        refine v_callVi (M' := M_X3_stonesAt) (As := [_, _]) (iWO hla) (s_X3_stonesAt hla hw2 hv2 hj (k := 17) (by decide)) dX4_read_77 gX4_read_X3_stonesAt rfl rfl nn_X3_stonesAt ⟨rfl, rfl⟩ ⟨by decide, by decide⟩ rfl rfl (Nat.le_of_ble_eq_true rfl) ?_
        exact v_iret rfl dX4_read_80 ⟨congrArg (fun z => some (Value.int z)) (by rw [q_read, if_pos ⟨isN_of hj (by have := wv_C hv; omega), hyes⟩, nI_clamp hj2, e1, nI_clamp (by omega), if_neg h17]; show nI (rdH (aW s) j l (j * 18 + 17)) = _; rw [rdH_17 (by omega)]), by rw [q_read, if_pos ⟨isN_of hj (by have := wv_C hv; omega), hyes⟩, nI_clamp hj2, e1, nI_clamp (by omega), if_neg h17]; exact (rc_setW hr (((Fr.rf _ σ).si (by omega) (by omega) _ _).si (by omega) (by omega) _ _) hw2).1, (rc_setW hr (((Fr.rf _ σ).si (by omega) (by omega) _ _).si (by omega) (by omega) _ _) hw2).2⟩
      · have h17 : wH (aW s) (j * 18 + 17) = 0 := by have h9 := c43; rw [show (1 : Int32) = nI 1 from rfl, nI_leI (by decide) (by have := wv_H hv (j := j * 18 + 17) (by omega); omega)] at h9; omega
        refine v_bipush (x := (-2)) dX4_read_46 (by decide +kernel) ?_
        exact v_iret rfl dX4_read_48 ⟨congrArg (fun z => some (Value.int z)) (by rw [q_read, if_pos ⟨isN_of hj (by have := wv_C hv; omega), hyes⟩, nI_clamp hj2, e1, nI_clamp (by omega), if_pos h17]), by rw [q_read, if_pos ⟨isN_of hj (by have := wv_C hv; omega), hyes⟩, nI_clamp hj2, e1, nI_clamp (by omega), if_pos h17]; exact hr, FC.rf σ⟩
    · rcases hcol with e9 | e9
      · refine v_iload_n dX4_read_20 rfl ?_
        refine v_top e9 ?_
        refine v_if_lt (tgt := 30) dX4_read_21 (by decide) (fun c21 => ?_) (fun c21 => absurd (by decide) c21)
        refine v_iconst (x := (-1)) dX4_read_30 rfl ?_
        exact v_iret rfl dX4_read_31 ⟨congrArg (fun z => some (Value.int z)) (by rw [q_read, if_neg (fun q => hno q.2)]), by rw [q_read, if_neg (fun q => hno q.2)]; exact hr, FC.rf σ⟩
      · refine v_iload_n dX4_read_20 rfl ?_
        refine v_top e9 ?_
        refine v_if_lt (tgt := 30) dX4_read_21 (by decide) (fun c21 => absurd c21 (by decide)) (fun c21 => ?_)
        refine v_iload_n dX4_read_24 rfl ?_
        refine v_bipush (x := 17) dX4_read_25 (by decide +kernel) ?_
        refine v_top2 e9 ?_
        refine v_icmp_ne (tgt := 32) dX4_read_27 (by decide) (fun c27 => absurd rfl c27) (fun c27 => ?_)
        refine v_iconst (x := (-1)) dX4_read_30 rfl ?_
        exact v_iret rfl dX4_read_31 ⟨congrArg (fun z => some (Value.int z)) (by rw [q_read, if_neg (fun q => hno q.2)]), by rw [q_read, if_neg (fun q => hno q.2)]; exact hr, FC.rf σ⟩
def q_keep (s : AS) : Int32 × AS := if aK s < 2 then (nI (aK s + 1), (aU s, aL s, aW s, aK s + 1, va_up (aX s) (aK s) (wH (aW s)))) else (-3, s)
def q_back (s : AS) : Int32 × AS := if aK s = 0 then (-2, s) else (nI (aK s - 1), (aU s, aL s, setH (aW s) (aX s (aK s - 1)), aK s - 1, aX s))
theorem rc_keep {s : AS} {σ : SS} (h : RC s σ) {k : Nat} (hk : aK s = k) (hk2 : k < 2) {x : Int32} (hx : x = nI (k + 1)) : RC (aU s, aL s, aW s, aK s + 1, va_up (aX s) (aK s) (wH (aW s))) (sI (sF σ (20 + k) (va_cpy (σ.1 (σ.2.2.1 + 6)) (σ.1 (20 + k)) 0 0 288)) 0 7 x) ∧ FC σ (sI (sF σ (20 + k) (va_cpy (σ.1 (σ.2.2.1 + 6)) (σ.1 (20 + k)) 0 0 288)) 0 7 x) := by
  subst hx
  subst hk
  obtain ⟨h1, h2, h3, h4, h5⟩ := h
  have hw1 : σ.2.2.1 = 22 ∨ σ.2.2.1 = 31 := h1.1
  have e : ∀ a, a ≠ 0 → a ≠ 20 + aK s → (sI (sF σ (20 + aK s) (va_cpy (σ.1 (σ.2.2.1 + 6)) (σ.1 (20 + aK s)) 0 0 288)) 0 7 (nI (aK s + 1))).1 a = σ.1 a := fun a g1 g2 => by rw [sI_row _ _ g1, sF_ne _ g2]
  refine ⟨⟨⟨h1.1, h1.2.1, by rw [e 17 (by decide) (by omega)]; exact h1.2.2⟩, ⟨by rw [e 1 (by decide) (by omega)]; exact h2.1, h2.2.1, fun j hj => by rw [e 2 (by decide) (by omega)]; exact h2.2.2 j hj⟩, ?_, ⟨sI_at _ _ _ _, hk2⟩, fun i j hi hj => ?_⟩, fun a ha => e a (by omega) (by omega), rfl⟩
  · exact h3.of (fun i hi => e _ (by show σ.2.2.1 + i ≠ 0; omega) (by show σ.2.2.1 + i ≠ 20 + aK s; omega))
  · have hi : i < aK s + 1 := hi
    show _ = nI (va_up (aX s) (aK s) (wH (aW s)) i j)
    by_cases q : i = aK s
    · rw [q, sI_row _ _ (by omega), sF_row, va_cpy, if_pos (by omega), va_up, if_pos rfl, Nat.zero_add, Nat.sub_zero]
      exact ch_H h3 hj
    · rw [e _ (by omega) (by omega), va_up, if_neg q]
      exact h5 i j (by omega) hj
theorem rc_back {s : AS} {σ : SS} (h : RC s σ) {k : Nat} (hk : aK s = k + 1) {x : Int32} (hx : x = nI k) : RC (aU s, aL s, setH (aW s) (aX s (aK s - 1)), aK s - 1, aX s) (sF (sI σ 0 7 x) (σ.2.2.1 + 6) (va_cpy (σ.1 (20 + k)) (σ.1 (σ.2.2.1 + 6)) 0 0 288)) ∧ FC σ (sF (sI σ 0 7 x) (σ.2.2.1 + 6) (va_cpy (σ.1 (20 + k)) (σ.1 (σ.2.2.1 + 6)) 0 0 288)) := by
  subst hx
  obtain ⟨h1, h2, h3, h4, h5⟩ := h
  have hw1 : σ.2.2.1 = 22 ∨ σ.2.2.1 = 31 := h1.1
  have h42 := h4.2
  have e : ∀ a, a ≠ 0 → a ≠ σ.2.2.1 + 6 → (sF (sI σ 0 7 (nI k)) (σ.2.2.1 + 6) (va_cpy (σ.1 (20 + k)) (σ.1 (σ.2.2.1 + 6)) 0 0 288)).1 a = σ.1 a := fun a g1 g2 => by rw [sF_ne _ g2, sI_row _ _ g1]
  refine ⟨⟨⟨h1.1, h1.2.1, by rw [e 17 (by decide) (by omega)]; exact h1.2.2⟩, ⟨by rw [e 1 (by decide) (by omega)]; exact h2.1, h2.2.1, fun j hj => by rw [e 2 (by decide) (by omega)]; exact h2.2.2 j hj⟩, ?_, ⟨?_, by show aK s - 1 ≤ 2; omega⟩, fun i j hi hj => ?_⟩, fun a ha => e a (by omega) (by omega), rfl⟩
  · obtain ⟨g1, g5, g6, g7, g8, g9⟩ := h3
    show CH σ.2.2.1 (setH (aW s) (aX s (aK s - 1))) _
    have e0 := e σ.2.2.1 (by omega) (by omega)
    refine ⟨by rw [e0]; exact g1, ?_, ?_, fun j hj => ?_, ?_, ?_⟩
    · rw [e _ (by omega) (by omega), e _ (by omega) (by omega)]; exact g5
    · rw [e _ (by omega) (by omega), e _ (by omega) (by omega), e _ (by omega) (by omega)]; exact g6
    · rw [sF_row, va_cpy, if_pos (by omega), Nat.zero_add, Nat.sub_zero]
      show _ = nI (aX s (aK s - 1) j)
      rw [show aK s - 1 = k by omega]
      exact h5 k j (by omega) hj
    · rw [e _ (by omega) (by omega)]; exact g8
    · rw [e _ (by omega) (by omega)]; exact g9
  · rw [sF_ne _ (by omega), sI_at]
    show nI k = nI (aK s - 1)
    rw [show aK s - 1 = k by omega]
  · have hi : i < aK s - 1 := hi
    rw [e _ (by omega) (by omega)]
    exact h5 i j (by omega) hj
set_option maxRecDepth 100000 in
set_option maxHeartbeats 4000000 in
theorem s_X4_keep {v : EE} {s : AS} {σ : SS} (hr : RC s σ) : SR v M_X4_keep [.ref (v.1 0)] σ (some (.int (q_keep s).1)) (fun σ' => RC (q_keep s).2 σ' ∧ FC σ σ') := by
  refine Sp.of rfl (by decide) rfl (Nat.le_of_ble_eq_true rfl) ?_
  show V v M_X4_keep _ 0 [(0, .ref (v.1 0))] [] σ
  have hla := hr.la
  have hk9 : aK s = 0 ∨ aK s = 1 ∨ aK s = 2 := by have := hr.2.2.2.1.2; omega
  rcases hk9 with h9 | h9 | h9
  · refine v_aload_n dX4_keep_0 rfl ?_
    refine v_get (j := 7) iO0 rfl dX4_keep_1 (by decide) in_X4_keep_X4 fl_X4_keep_49 rfl ?_
    refine v_top (y := 0) (by rw [hr.2.2.2.1.1, h9]; rfl) ?_
    refine v_iconst (x := 2) dX4_keep_4 rfl ?_
    refine v_icmp_lt (tgt := 11) dX4_keep_5 (by decide) (fun c5 => ?_) (fun c5 => absurd (by decide) c5)
    refine v_aload_n dX4_keep_11 rfl ?_
    refine v_get (j := 5) iO0 rfl dX4_keep_12 (by decide) in_X4_keep_X4 fl_X4_keep_42 rfl ?_
    refine v_get (j := 5) (iWO hla) rfl dX4_keep_15 (by decide) in_X4_keep_X3 fl_X4_keep_256 rfl ?_
    refine v_iconst (x := 0) dX4_keep_18 rfl ?_
    refine v_aload_n dX4_keep_19 rfl ?_
    refine v_get (j := 4) iO0 rfl dX4_keep_20 (by decide) in_X4_keep_X4 fl_X4_keep_36 rfl ?_
    refine v_aload_n dX4_keep_23 rfl ?_
    refine v_get (j := 7) iO0 rfl dX4_keep_24 (by decide) in_X4_keep_X4 fl_X4_keep_49 rfl ?_
    refine v_top (y := 0) (by rw [hr.2.2.2.1.1, h9]; rfl) ?_
    refine v_aald dX4_keep_27 (by unfold vp_in; decide) ?_
    refine v_iconst (x := 0) dX4_keep_28 rfl ?_
    refine v_sipush (x := 288) dX4_keep_29 (by decide +kernel) ?_
    refine v_copyi (iW6 hla) (iWI20 (by decide)) dX4_keep_32 (by decide +kernel) (by decide) (by decide) (by decide) (by decide) (by decide) ⟨by decide, Nat.le_of_ble_eq_true rfl⟩ ?_
    refine v_aload_n dX4_keep_35 rfl ?_
    refine v_dup dX4_keep_36 rfl ?_
    refine v_get (j := 7) iO0 rfl dX4_keep_37 (by decide) in_X4_keep_X4 fl_X4_keep_49 rfl ?_
    refine v_top (y := 0) (by rw [sF_ne _ (by decide), hr.2.2.2.1.1, h9]; rfl) ?_
    refine v_iconst (x := 1) dX4_keep_40 rfl ?_
    refine v_iadd dX4_keep_41 ?_
    refine pX4_7 dX4_keep_42 in_X4_keep_X4 fl_X4_keep_49 ?_
    refine v_aload_n dX4_keep_45 rfl ?_
    refine v_get (j := 7) iO0 rfl dX4_keep_46 (by decide) in_X4_keep_X4 fl_X4_keep_49 rfl ?_
    refine v_top (y := 1) (by rw [sI_at]; rfl) ?_
    exact v_iret rfl dX4_keep_49 ⟨congrArg (fun z => some (Value.int z)) (by rw [q_keep, if_pos (by omega), h9]; rfl), by rw [q_keep, if_pos (by omega)]; exact (rc_keep hr h9 (by decide) rfl).1, (rc_keep hr h9 (by decide) rfl).2⟩
  · refine v_aload_n dX4_keep_0 rfl ?_
    refine v_get (j := 7) iO0 rfl dX4_keep_1 (by decide) in_X4_keep_X4 fl_X4_keep_49 rfl ?_
    refine v_top (y := 1) (by rw [hr.2.2.2.1.1, h9]; rfl) ?_
    refine v_iconst (x := 2) dX4_keep_4 rfl ?_
    refine v_icmp_lt (tgt := 11) dX4_keep_5 (by decide) (fun c5 => ?_) (fun c5 => absurd (by decide) c5)
    refine v_aload_n dX4_keep_11 rfl ?_
    refine v_get (j := 5) iO0 rfl dX4_keep_12 (by decide) in_X4_keep_X4 fl_X4_keep_42 rfl ?_
    refine v_get (j := 5) (iWO hla) rfl dX4_keep_15 (by decide) in_X4_keep_X3 fl_X4_keep_256 rfl ?_
    refine v_iconst (x := 0) dX4_keep_18 rfl ?_
    refine v_aload_n dX4_keep_19 rfl ?_
    refine v_get (j := 4) iO0 rfl dX4_keep_20 (by decide) in_X4_keep_X4 fl_X4_keep_36 rfl ?_
    refine v_aload_n dX4_keep_23 rfl ?_
    refine v_get (j := 7) iO0 rfl dX4_keep_24 (by decide) in_X4_keep_X4 fl_X4_keep_49 rfl ?_
    refine v_top (y := 1) (by rw [hr.2.2.2.1.1, h9]; rfl) ?_
    refine v_aald dX4_keep_27 (by unfold vp_in; decide) ?_
    refine v_iconst (x := 0) dX4_keep_28 rfl ?_
    refine v_sipush (x := 288) dX4_keep_29 (by decide +kernel) ?_
    refine v_copyi (iW6 hla) (iWI20 (by decide)) dX4_keep_32 (by decide +kernel) (by decide) (by decide) (by decide) (by decide) (by decide) ⟨by decide, Nat.le_of_ble_eq_true rfl⟩ ?_
    refine v_aload_n dX4_keep_35 rfl ?_
    refine v_dup dX4_keep_36 rfl ?_
    refine v_get (j := 7) iO0 rfl dX4_keep_37 (by decide) in_X4_keep_X4 fl_X4_keep_49 rfl ?_
    refine v_top (y := 1) (by rw [sF_ne _ (by decide), hr.2.2.2.1.1, h9]; rfl) ?_
    refine v_iconst (x := 1) dX4_keep_40 rfl ?_
    refine v_iadd dX4_keep_41 ?_
    refine pX4_7 dX4_keep_42 in_X4_keep_X4 fl_X4_keep_49 ?_
    refine v_aload_n dX4_keep_45 rfl ?_
    refine v_get (j := 7) iO0 rfl dX4_keep_46 (by decide) in_X4_keep_X4 fl_X4_keep_49 rfl ?_
    refine v_top (y := 2) (by rw [sI_at]; rfl) ?_
    exact v_iret rfl dX4_keep_49 ⟨congrArg (fun z => some (Value.int z)) (by rw [q_keep, if_pos (by omega), h9]; rfl), by rw [q_keep, if_pos (by omega)]; exact (rc_keep hr h9 (by decide) rfl).1, (rc_keep hr h9 (by decide) rfl).2⟩
  · refine v_aload_n dX4_keep_0 rfl ?_
    refine v_get (j := 7) iO0 rfl dX4_keep_1 (by decide) in_X4_keep_X4 fl_X4_keep_49 rfl ?_
    refine v_top (y := 2) (by rw [hr.2.2.2.1.1, h9]; rfl) ?_
    refine v_iconst (x := 2) dX4_keep_4 rfl ?_
    refine v_icmp_lt (tgt := 11) dX4_keep_5 (by decide) (fun c5 => absurd c5 (by decide)) (fun c5 => ?_)
    refine v_bipush (x := (-3)) dX4_keep_8 (by decide +kernel) ?_
    exact v_iret rfl dX4_keep_10 ⟨congrArg (fun z => some (Value.int z)) (by rw [q_keep, if_neg (by omega)]), by rw [q_keep, if_neg (by omega)]; exact hr, FC.rf σ⟩
set_option maxRecDepth 100000 in
set_option maxHeartbeats 4000000 in
theorem s_X4_back {v : EE} {s : AS} {σ : SS} (hr : RC s σ) : SR v M_X4_back [.ref (v.1 0)] σ (some (.int (q_back s).1)) (fun σ' => RC (q_back s).2 σ' ∧ FC σ σ') := by
  refine Sp.of rfl (by decide) rfl (Nat.le_of_ble_eq_true rfl) ?_
  show V v M_X4_back _ 0 [(0, .ref (v.1 0))] [] σ
  have hla := hr.la
  have hk9 : aK s = 0 ∨ aK s = 1 ∨ aK s = 2 := by have := hr.2.2.2.1.2; omega
  rcases hk9 with h9 | h9 | h9
  · refine v_aload_n dX4_back_0 rfl ?_
    refine v_get (j := 7) iO0 rfl dX4_back_1 (by decide) in_X4_back_X4 fl_X4_back_49 rfl ?_
    refine v_top (y := 0) (by rw [hr.2.2.2.1.1, h9]; rfl) ?_
    refine v_iconst (x := 1) dX4_back_4 rfl ?_
    refine v_icmp_ge (tgt := 11) dX4_back_5 (by decide) (fun c5 => absurd c5 (by decide)) (fun c5 => ?_)
    refine v_bipush (x := (-2)) dX4_back_8 (by decide +kernel) ?_
    exact v_iret rfl dX4_back_10 ⟨congrArg (fun z => some (Value.int z)) (by rw [q_back, if_pos h9]), by rw [q_back, if_pos h9]; exact hr, FC.rf σ⟩
  · refine v_aload_n dX4_back_0 rfl ?_
    refine v_get (j := 7) iO0 rfl dX4_back_1 (by decide) in_X4_back_X4 fl_X4_back_49 rfl ?_
    refine v_top (y := 1) (by rw [hr.2.2.2.1.1, h9]; rfl) ?_
    refine v_iconst (x := 1) dX4_back_4 rfl ?_
    refine v_icmp_ge (tgt := 11) dX4_back_5 (by decide) (fun c5 => ?_) (fun c5 => absurd (by decide) c5)
    refine v_aload_n dX4_back_11 rfl ?_
    refine v_dup dX4_back_12 rfl ?_
    refine v_get (j := 7) iO0 rfl dX4_back_13 (by decide) in_X4_back_X4 fl_X4_back_49 rfl ?_
    refine v_top (y := 1) (by rw [hr.2.2.2.1.1, h9]; rfl) ?_
    refine v_iconst (x := 1) dX4_back_16 rfl ?_
    refine v_isub dX4_back_17 ?_
    refine pX4_7 dX4_back_18 in_X4_back_X4 fl_X4_back_49 ?_
    refine v_aload_n dX4_back_21 rfl ?_
    refine v_get (j := 4) iO0 rfl dX4_back_22 (by decide) in_X4_back_X4 fl_X4_back_36 rfl ?_
    refine v_aload_n dX4_back_25 rfl ?_
    refine v_get (j := 7) iO0 rfl dX4_back_26 (by decide) in_X4_back_X4 fl_X4_back_49 rfl ?_
    refine v_top (y := 0) (by rw [sI_at]; rfl) ?_
    refine v_aald dX4_back_29 (by unfold vp_in; decide) ?_
    refine v_iconst (x := 0) dX4_back_30 rfl ?_
    refine v_aload_n dX4_back_31 rfl ?_
    refine v_get (j := 5) iO0 rfl dX4_back_32 (by decide) in_X4_back_X4 fl_X4_back_42 rfl ?_
    refine v_get (j := 5) (iWO hla) rfl dX4_back_35 (by decide) in_X4_back_X3 fl_X4_back_256 rfl ?_
    refine v_iconst (x := 0) dX4_back_38 rfl ?_
    refine v_sipush (x := 288) dX4_back_39 (by decide +kernel) ?_
    refine v_copyi (iWI20 (by decide)) (iW6 hla) dX4_back_42 (by decide +kernel) (by decide) (by decide) (by decide) (by decide) (by decide) ⟨by decide, Nat.le_of_ble_eq_true rfl⟩ ?_
    refine v_aload_n dX4_back_45 rfl ?_
    refine v_get (j := 7) iO0 rfl dX4_back_46 (by decide) in_X4_back_X4 fl_X4_back_49 rfl ?_
    refine v_top (y := 0) (by rw [sF_ne _ (by have : σ.2.2.1 = 22 ∨ σ.2.2.1 = 31 := hla; show (0 : Nat) ≠ σ.2.2.1 + 6; omega), sI_at]; rfl) ?_
    exact v_iret rfl dX4_back_49 ⟨congrArg (fun z => some (Value.int z)) (by rw [q_back, if_neg (by omega), h9]; rfl), by rw [q_back, if_neg (by omega)]; exact (rc_back hr h9 rfl).1, (rc_back hr h9 rfl).2⟩
  · refine v_aload_n dX4_back_0 rfl ?_
    refine v_get (j := 7) iO0 rfl dX4_back_1 (by decide) in_X4_back_X4 fl_X4_back_49 rfl ?_
    refine v_top (y := 2) (by rw [hr.2.2.2.1.1, h9]; rfl) ?_
    refine v_iconst (x := 1) dX4_back_4 rfl ?_
    refine v_icmp_ge (tgt := 11) dX4_back_5 (by decide) (fun c5 => ?_) (fun c5 => absurd (by decide) c5)
    refine v_aload_n dX4_back_11 rfl ?_
    refine v_dup dX4_back_12 rfl ?_
    refine v_get (j := 7) iO0 rfl dX4_back_13 (by decide) in_X4_back_X4 fl_X4_back_49 rfl ?_
    refine v_top (y := 2) (by rw [hr.2.2.2.1.1, h9]; rfl) ?_
    refine v_iconst (x := 1) dX4_back_16 rfl ?_
    refine v_isub dX4_back_17 ?_
    refine pX4_7 dX4_back_18 in_X4_back_X4 fl_X4_back_49 ?_
    refine v_aload_n dX4_back_21 rfl ?_
    refine v_get (j := 4) iO0 rfl dX4_back_22 (by decide) in_X4_back_X4 fl_X4_back_36 rfl ?_
    refine v_aload_n dX4_back_25 rfl ?_
    refine v_get (j := 7) iO0 rfl dX4_back_26 (by decide) in_X4_back_X4 fl_X4_back_49 rfl ?_
    refine v_top (y := 1) (by rw [sI_at]; rfl) ?_
    refine v_aald dX4_back_29 (by unfold vp_in; decide) ?_
    refine v_iconst (x := 0) dX4_back_30 rfl ?_
    refine v_aload_n dX4_back_31 rfl ?_
    refine v_get (j := 5) iO0 rfl dX4_back_32 (by decide) in_X4_back_X4 fl_X4_back_42 rfl ?_
    refine v_get (j := 5) (iWO hla) rfl dX4_back_35 (by decide) in_X4_back_X3 fl_X4_back_256 rfl ?_
    refine v_iconst (x := 0) dX4_back_38 rfl ?_
    refine v_sipush (x := 288) dX4_back_39 (by decide +kernel) ?_
    refine v_copyi (iWI20 (by decide)) (iW6 hla) dX4_back_42 (by decide +kernel) (by decide) (by decide) (by decide) (by decide) (by decide) ⟨by decide, Nat.le_of_ble_eq_true rfl⟩ ?_
    refine v_aload_n dX4_back_45 rfl ?_
    refine v_get (j := 7) iO0 rfl dX4_back_46 (by decide) in_X4_back_X4 fl_X4_back_49 rfl ?_
    refine v_top (y := 1) (by rw [sF_ne _ (by have : σ.2.2.1 = 22 ∨ σ.2.2.1 = 31 := hla; show (0 : Nat) ≠ σ.2.2.1 + 6; omega), sI_at]; rfl) ?_
    exact v_iret rfl dX4_back_49 ⟨congrArg (fun z => some (Value.int z)) (by rw [q_back, if_neg (by omega), h9]; rfl), by rw [q_back, if_neg (by omega)]; exact (rc_back hr h9 rfl).1, (rc_back hr h9 rfl).2⟩
