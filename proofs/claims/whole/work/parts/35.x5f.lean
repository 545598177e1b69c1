theorem in_X5_back_X5 : ∀ w ∈ u_ws RX5 TX5 29, w ∈ mWs M_X5_back := by decide +kernel
theorem in_X5_keep_X5 : ∀ w ∈ u_ws RX5 TX5 29, w ∈ mWs M_X5_keep := by decide +kernel
theorem in_X5_read_X5 : ∀ w ∈ u_ws RX5 TX5 29, w ∈ mWs M_X5_read := by decide +kernel
theorem in_X5_wipe_X5 : ∀ w ∈ u_ws RX5 TX5 29, w ∈ mWs M_X5_wipe := by decide +kernel
theorem in_X5_write_X5 : ∀ w ∈ u_ws RX5 TX5 29, w ∈ mWs M_X5_write := by decide +kernel
theorem fl_X5_back_137 : Cond.fieldLink (mOwn M_X5_back) 137 (TX5 11).1 (TX5 11).2.1 (TX5 11).2.2.1 ∈ mWs M_X5_back := by decide +kernel
theorem fl_X5_keep_137 : Cond.fieldLink (mOwn M_X5_keep) 137 (TX5 11).1 (TX5 11).2.1 (TX5 11).2.2.1 ∈ mWs M_X5_keep := by decide +kernel
theorem fl_X5_read_38 : Cond.fieldLink (mOwn M_X5_read) 38 (TX5 12).1 (TX5 12).2.1 (TX5 12).2.2.1 ∈ mWs M_X5_read := by decide +kernel
theorem fl_X5_wipe_78 : Cond.fieldLink (mOwn M_X5_wipe) 78 (TX5 0).1 (TX5 0).2.1 (TX5 0).2.2.1 ∈ mWs M_X5_wipe := by decide +kernel
theorem fl_X5_write_7 : Cond.fieldLink (mOwn M_X5_write) 7 (TX5 1).1 (TX5 1).2.1 (TX5 1).2.2.1 ∈ mWs M_X5_write := by decide +kernel
theorem fl_X5_write_78 : Cond.fieldLink (mOwn M_X5_write) 78 (TX5 0).1 (TX5 0).2.1 (TX5 0).2.2.1 ∈ mWs M_X5_write := by decide +kernel
theorem MH.of {d : Nat} {w : WD} {σ τ : SS} (h : MH d w σ) (e : ∀ k, 42 ≤ k → k ≤ 50 → τ.1 k = σ.1 k) : MH d w τ := by
  unfold MH at h ⊢
  rw [e 42 (by decide) (by decide), e 43 (by decide) (by decide), e 44 (by decide) (by decide), e 45 (by decide) (by decide), e 46 (by decide) (by decide), e 47 (by decide) (by decide), e 48 (by decide) (by decide), e 49 (by decide) (by decide), e 50 (by decide) (by decide)]
  exact h
theorem rm_write {s : AS} {σ : SS} (h : RM s σ) {n : Nat} (hl : aL s + n ≤ 500) (x : Int64) : RM (apU (aU s) (aL s) n x, aL s + n, s.2.2) (sF (sF σ 41 (apF (σ.1 41) (aL s) n x n)) 40 (upd (σ.1 40) 0 (nI (aL s + n)))) ∧ FM σ (sF (sF σ 41 (apF (σ.1 41) (aL s) n x n)) 40 (upd (σ.1 40) 0 (nI (aL s + n)))) := by
  obtain ⟨h1, h2, h3, h4⟩ := h
  have e : ∀ a, a ≠ 40 → a ≠ 41 → (sF (sF σ 41 (apF (σ.1 41) (aL s) n x n)) 40 (upd (σ.1 40) 0 (nI (aL s + n)))).1 a = σ.1 a := fun a g1 g2 => by rw [sF_ne _ g1, sF_ne _ g2]
  refine ⟨⟨⟨?_, hl, fun j hj => ?_⟩, h2.of (fun k _ _ => e k (by omega) (by omega)), ⟨?_, h3.2⟩, fun i j hi hj => ?_⟩, fun a ha => e a (by omega) (by omega), rfl⟩
  · rw [sF_row]; simp [upd]
  · rw [sF_ne _ (by decide), sF_row]
    show apU (aU s) (aL s) n x j < 256 ∧ apF (σ.1 41) (aL s) n x n j = sb_b (apU (aU s) (aL s) n x j)
    have hj : j < aL s + n := hj
    rw [apU, apF]
    by_cases c : aL s ≤ j ∧ j < aL s + n
    · rw [if_pos c, if_pos c]; exact ⟨by8_lt _ _, rfl⟩
    · rw [if_neg c, if_neg c]; exact h1.2.2 j (by omega)
  · rw [sF_row]; simpa [upd] using h3.1
  · rw [e 50 (by decide) (by decide)]; exact h4 i j hi hj
theorem btw18 {n : Int32} (h : n < 1 ∨ 8 < n) : btw n.toInt64 1 8 = false := by
  simp only [btw, Int64.le_iff_toInt_le, Int32.toInt_toInt64]
  rw [show (1 : Int64).toInt = 1 from rfl, show (8 : Int64).toInt = 8 from rfl]
  rcases h with h | h
  · rw [Int32.lt_iff_toInt_lt, Int32.toInt_one] at h
    rw [decide_eq_false (by omega)]; rfl
  · rw [Int32.lt_iff_toInt_lt, show (8 : Int32).toInt = 8 by decide] at h
    rw [decide_eq_false (p := n.toInt ≤ 8) (by omega), Bool.and_false]
set_option maxRecDepth 100000 in
set_option maxHeartbeats 4000000 in
theorem s_X5_write {v : EE} {s : AS} {σ : SS} (hr : RM s σ) (n : Int32) (x : Int64) : SR v M_X5_write [.ref (v.1 40), .int n, .long x] σ (some (.int (q_write s n x).1)) (fun σ' => RM (q_write s n x).2 σ' ∧ FM σ σ') := by
  refine Sp.of rfl (by decide) rfl (Nat.le_of_ble_eq_true rfl) ?_
  show V v M_X5_write _ 0 [(0, .ref (v.1 40)), (1, .int n), (2, .long x)] [] σ
  rcases wr_cases n with hb9 | ⟨k, h1, h8, rfl⟩
  · refine v_iload_n dX5_write_0 rfl ?_
    refine v_i2l dX5_write_1 ?_
    refine v_lconst (x := 1) dX5_write_2 rfl ?_
    refine v_ldc2 (x := (8)) (by decide +kernel) dX5_write_3 ?_
    refine v_callSi (M' := M_X5_between) (As := [_, _, _]) (s_X5_between) dX5_write_6 gX5_write_X5_between rfl nn_X5_between ⟨rfl, rfl⟩ ⟨by decide, by decide⟩ rfl rfl (Nat.le_of_ble_eq_true rfl) ?_
    refine v_top (by rw [btw18 hb9]) ?_
    refine v_if_ne (tgt := 14) dX5_write_9 (by decide) (fun c9 => absurd c9 (by decide)) (fun c9 => ?_)
    refine v_iconst (x := (-1)) dX5_write_12 rfl ?_
    exact v_iret rfl dX5_write_13 ⟨congrArg (fun z => some (Value.int z)) (by rw [q_write, if_pos hb9]), by rw [q_write, if_pos hb9]; exact hr, FM.rf σ⟩
  · have hl := hr.1.2.1
    refine v_iload_n dX5_write_0 rfl ?_
    refine v_i2l dX5_write_1 ?_
    refine v_lconst (x := 1) dX5_write_2 rfl ?_
    refine v_ldc2 (x := (8)) (by decide +kernel) dX5_write_3 ?_
    refine v_callSi (M' := M_X5_between) (As := [_, _, _]) (s_X5_between) dX5_write_6 gX5_write_X5_between rfl nn_X5_between ⟨rfl, rfl⟩ ⟨by decide, by decide⟩ rfl rfl (Nat.le_of_ble_eq_true rfl) ?_
    refine v_top (by rw [btw_dec 1 8 (by omega) (by decide) (by decide)]) ?_
    refine p_if_ne (tgt := 14) dX5_write_9 (by decide) (fun c9 => ?_) (fun c9 => absurd (by omega) c9)
    refine v_aload_n dX5_write_14 rfl ?_
    refine v_get (j := 0) iO40 rfl dX5_write_15 (by decide) in_X5_write_X5 fl_X5_write_78 rfl ?_
    refine v_top hr.1.1 ?_
    refine v_iload_n dX5_write_18 rfl ?_
    refine n_iadd dX5_write_19 ?_
    refine v_sipush (x := nI 500) dX5_write_20 (by decide +kernel) ?_
    refine n_icmp_le (tgt := 29) dX5_write_23 (by decide) (by omega) (by omega) (fun c23 => ?_) (fun c23 => ?_)
    · refine v_iload_n dX5_write_29 rfl ?_
      refine v_iconst (x := nI 1) dX5_write_30 (by decide +kernel) ?_
      refine n_isub dX5_write_31 (by omega) ?_
      refine v_top (y := dn k) (by obtain ⟨m, rfl⟩ : ∃ m, k = m + 1 := ⟨k - 1, by omega⟩; rfl) ?_
      refine v_istore (L' := [(4, _), (0, _), (1, _), (2, _)]) dX5_write_32 (by decide) rfl ?_
      refine v_st (σ' := sF (sF σ 41 (apF (σ.1 41) (aL s) k x 0)) 40 (upd (σ.1 40) 0 (nI (aL s + 0)))) (by rw [apF_0, sF_self, Nat.add_zero, ← hr.1.1, fa_upd_same rfl, sF_self]) ?_
      refine v_sub [1, 2, 3, 0] rfl ?_
      refine loopN (fun i => V v M_X5_write (zR v M_X5_write (fun r' σ' => r' = (some (.int (q_write s (nI k) x).1)) ∧ (RM (q_write s (nI k) x).2 σ' ∧ FM σ σ'))) 34 [(0, .ref (v.1 40)), (1, .int (nI k)), (2, .long x), (4, .int (dn (k - i)))] [] (sF (sF σ 41 (apF (σ.1 41) (aL s) k x i)) 40 (upd (σ.1 40) 0 (nI (aL s + i))))) k ?_ ?_
      · intro i hi ih
        obtain ⟨m, hm⟩ : ∃ m, k - i = m + 1 := ⟨k - i - 1, by omega⟩
        rw [hm]
        refine v_iload dX5_write_34 rfl ?_
        refine v_if_lt (tgt := 73) dX5_write_36 (by decide) (fun c36 => absurd c36 (nI_pos (by omega))) (fun c36 => ?_)
        refine v_aload_n dX5_write_39 rfl ?_
        refine v_get (j := 1) iO40 rfl dX5_write_40 (by decide) in_X5_write_X5 fl_X5_write_7 rfl ?_
        refine v_aload_n dX5_write_43 rfl ?_
        refine v_get (j := 0) iO40 rfl dX5_write_44 (by decide) in_X5_write_X5 fl_X5_write_78 rfl ?_
        refine v_top (y := nI (aL s + i)) (by rw [sF_row]; simp [upd]) ?_
        refine v_lload_n dX5_write_47 rfl ?_
        refine v_bipush (x := 8) dX5_write_48 (by decide +kernel) ?_
        refine v_iload dX5_write_50 rfl ?_
        refine v_imul dX5_write_52 ?_
        refine v_lshr dX5_write_53 rfl ?_
        refine v_l2i dX5_write_54 ?_
        refine v_i2b dX5_write_55 ?_
        refine v_bastN (aL s + i) iB41 dX5_write_56 rfl (by omega) (by decide) ?_
        refine v_st (σ' := sF (sF σ 41 (apF (σ.1 41) (aL s) k x (i + 1))) 40 (upd (σ.1 40) 0 (nI (aL s + i)))) (by rw [show dn (m + 1) = nI m from rfl, nar_by8, sI_sF_ne _ (by decide), sI_sF, show m = k - 1 - i by omega, apF_s _ _ _ _ hi]) ?_
        refine v_aload_n dX5_write_57 rfl ?_
        refine v_dup dX5_write_58 rfl ?_
        refine v_get (j := 0) iO40 rfl dX5_write_59 (by decide) in_X5_write_X5 fl_X5_write_78 rfl ?_
        refine v_top (y := nI (aL s + i)) (by rw [sF_row]; simp [upd]) ?_
        refine v_iconst (x := 1) dX5_write_62 rfl ?_
        refine v_iadd dX5_write_63 ?_
        refine pX5_0 dX5_write_64 in_X5_write_X5 fl_X5_write_78 ?_
        refine v_st (σ' := sF (sF σ 41 (apF (σ.1 41) (aL s) k x (i + 1))) 40 (upd (σ.1 40) 0 (nI (aL s + (i + 1))))) (by rw [sI_sF, nI_1, fa_upd_twice]; rfl) ?_
        refine v_iinc (y := dn m) (L' := [(4, .int (dn m)), (0, _), (1, _), (2, _)]) dX5_write_67 rfl (dn_s m) (by decide) rfl ?_
        refine v_goto (tgt := 34) dX5_write_70 (by decide) ?_
        refine v_sub [1, 2, 3, 0] rfl ?_
        rw [show k - (i + 1) = m by omega] at ih
        exact ih
      · rw [Nat.sub_self]
        refine v_iload dX5_write_34 rfl ?_
        refine v_if_lt (tgt := 73) dX5_write_36 (by decide) (fun c36 => ?_) (fun c36 => absurd (by decide) c36)
        refine v_aload_n dX5_write_73 rfl ?_
        refine v_get (j := 0) iO40 rfl dX5_write_74 (by decide) in_X5_write_X5 fl_X5_write_78 rfl ?_
        refine v_top (y := nI (aL s + k)) (by rw [sF_row]; simp [upd]) ?_
        exact v_iret rfl dX5_write_77 ⟨congrArg (fun z => some (Value.int z)) (by rw [q_write, if_neg (show ¬ (nI k < 1 ∨ 8 < nI k) from fun q => q.elim (fun q => by have := (nI_ltI (b := 1) (by omega) (by decide)).mp q; omega) (fun q => by have := (nI_ltI (a := 8) (by decide) (by omega)).mp q; omega)), nI_clamp (by omega), if_neg (by omega)]), by rw [q_write, if_neg (show ¬ (nI k < 1 ∨ 8 < nI k) from fun q => q.elim (fun q => by have := (nI_ltI (b := 1) (by omega) (by decide)).mp q; omega) (fun q => by have := (nI_ltI (a := 8) (by decide) (by omega)).mp q; omega)), nI_clamp (by omega), if_neg (by omega)]; exact (rm_write hr (by omega) x).1, (rm_write hr (by omega) x).2⟩
    · refine v_bipush (x := (-3)) dX5_write_26 (by decide +kernel) ?_
      exact v_iret rfl dX5_write_28 ⟨congrArg (fun z => some (Value.int z)) (by rw [q_write, if_neg (show ¬ (nI k < 1 ∨ 8 < nI k) from fun q => q.elim (fun q => by have := (nI_ltI (b := 1) (by omega) (by decide)).mp q; omega) (fun q => by have := (nI_ltI (a := 8) (by decide) (by omega)).mp q; omega)), nI_clamp (by omega), if_pos (by omega)]), by rw [q_write, if_neg (show ¬ (nI k < 1 ∨ 8 < nI k) from fun q => q.elim (fun q => by have := (nI_ltI (b := 1) (by omega) (by decide)).mp q; omega) (fun q => by have := (nI_ltI (a := 8) (by decide) (by omega)).mp q; omega)), nI_clamp (by omega), if_pos (by omega)]; exact hr, FM.rf σ⟩
theorem rm_wipe {s : AS} {σ : SS} (h : RM s σ) : RM (aU s, 0, s.2.2) (sI σ 40 0 (nI 0)) ∧ FM σ (sI σ 40 0 (nI 0)) := by
  obtain ⟨h1, h2, h3, h4⟩ := h
  have e : ∀ a, a ≠ 40 → (sI σ 40 0 (nI 0)).1 a = σ.1 a := fun a g1 => sI_row σ _ g1
  refine ⟨⟨⟨sI_at _ _ _ _, Nat.zero_le _, fun j hj => absurd hj (Nat.not_lt_zero j)⟩, h2.of (fun k _ _ => e k (by omega)), ⟨by rw [sI_ne _ _ (by omega)]; exact h3.1, h3.2⟩, fun i j hi hj => by rw [e 50 (by decide)]; exact h4 i j hi hj⟩, fun a ha => e a (by omega), rfl⟩
theorem rm_H {s : AS} {σ : SS} (h : RM s σ) (f : Nat → Nat) (g : Nat → Int32) (hg : ∀ j, j < 288 → g j = nI (f j)) (hg2 : ∀ j, 288 ≤ j → g j = σ.1 50 j) : RM (setW s (setH (aW s) f)) (sF σ 50 g) := by
  obtain ⟨h1, ⟨g1, g5, g6, g7, g8, g9⟩, h3, h4⟩ := h
  have e : ∀ a, a ≠ 50 → (sF σ 50 g).1 a = σ.1 a := fun a g1 => sF_ne σ g1 _
  refine ⟨⟨by rw [e 40 (by decide)]; exact h1.1, h1.2.1, fun j hj => by rw [e 41 (by decide)]; exact h1.2.2 j hj⟩, ⟨?_, ?_, ?_, fun j hj => ?_, ?_, ?_⟩, by rw [e 40 (by decide)]; exact h3, fun i j hi hj => ?_⟩
  · rw [e 42 (by decide), e 44 (by decide), e 47 (by decide), e 49 (by decide)]; exact g1
  · rw [e 43 (by decide)]; exact g5
  · rw [e 45 (by decide)]; exact g6
  · rw [sF_row, show 864 * 0 + j = j by omega]; exact hg j hj
  · rw [e 46 (by decide)]; exact g8
  · rw [e 48 (by decide)]; exact g9
  · rw [sF_row, hg2 _ (by omega)]; exact h4 i j hi hj
theorem rm_read {s : AS} {σ : SS} (h : RM s σ) {c l : Nat} (hc : c < 16) (hl : l < 17) (h17 : ¬ wH (aW s) (c * 18 + 17) = 0) : RM (setW s (setH (aW s) (rdH (aW s) c l))) (sI (sI σ 50 (c * 18 + 17) (nI (wH (aW s) (c * 18 + 17) - 1))) 50 (c * 18 + l) (nI (wH (aW s) (c * 18 + l) + 1))) ∧ FM σ (sI (sI σ 50 (c * 18 + 17) (nI (wH (aW s) (c * 18 + 17) - 1))) 50 (c * 18 + l) (nI (wH (aW s) (c * 18 + l) + 1))) := by
  have e0 : ∀ (j : Nat) (x : Int32), sI σ 50 j x = sF σ 50 (upd (σ.1 50) j x) := fun j x => rfl
  refine ⟨?_, fun a ha => by rw [sI_row _ _ (by omega), sI_row _ _ (by omega)], rfl⟩
  rw [e0, sI_sF]
  refine rm_H h _ _ (fun j hj => ?_) (fun j hj => ?_)
  · have q := h.2.1.2.2.2.1 j hj
    rw [show 864 * 0 + j = j by omega] at q
    rw [rdH]
    by_cases h1 : j = c * 18 + l
    · simp [upd, va_up, h1]
    · by_cases h2 : j = c * 18 + 17
      · simp [upd, va_up, h1, h2, show ¬ 17 = l by omega]
      · simpa [upd, va_up, h1, h2] using q
  · simp [upd, show ¬ j = c * 18 + l by omega, show ¬ j = c * 18 + 17 by omega]
set_option maxRecDepth 100000 in
set_option maxHeartbeats 4000000 in
theorem s_X5_wipe {v : EE} {s : AS} {σ : SS} (hr : RM s σ) : SR v M_X5_wipe [.ref (v.1 40)] σ (some (.int (nI (aL s)))) (fun σ' => RM (aU s, 0, s.2.2) σ' ∧ FM σ σ') := by
  refine Sp.of rfl (by decide) rfl (Nat.le_of_ble_eq_true rfl) ?_
  show V v M_X5_wipe _ 0 [(0, .ref (v.1 40))] [] σ
  refine v_aload_n dX5_wipe_0 rfl ?_
  refine v_get (j := 0) iO40 rfl dX5_wipe_1 (by decide) in_X5_wipe_X5 fl_X5_wipe_78 rfl ?_
  refine v_top hr.1.1 ?_
  refine v_istore_n (L' := [(1, _), (0, _)]) dX5_wipe_4 rfl (by decide) rfl ?_
  refine v_aload_n dX5_wipe_5 rfl ?_
  refine v_iconst (x := nI 0) dX5_wipe_6 (by decide +kernel) ?_
  refine pX5_0 dX5_wipe_7 in_X5_wipe_X5 fl_X5_wipe_78 ?_
  refine v_iload_n dX5_wipe_10 rfl ?_
  exact v_iret rfl dX5_wipe_11 ⟨rfl, rm_wipe hr⟩
set_option maxRecDepth 100000 in
set_option maxHeartbeats 4000000 in
theorem s_X5_read {v : EE} {s : AS} {z : Nat} {σ : SS} (hr : RM s σ) (hv : WV z (aW s)) (hz : z ≤ 1000000) (c k : Int32) : SR v M_X5_read [.ref (v.1 40), .int c, .int k] σ (some (.int (q_read s c k).1)) (fun σ' => RM (q_read s c k).2 σ' ∧ FM σ σ') := by
  refine Sp.of rfl (by decide) rfl (Nat.le_of_ble_eq_true rfl) ?_
  show V v M_X5_read _ 0 [(0, .ref (v.1 40)), (1, .int c), (2, .int k)] [] σ
  have hC := wv_C hv
  have hS := wv_S hv
  refine v_aload_n dX5_read_0 rfl ?_
  refine v_iload_n dX5_read_1 rfl ?_
  refine v_callVi (M' := M_X5_isCourse) (As := [_]) iO40 (s_X5_isCourse hr.2.1 hv _) dX5_read_2 gX5_read_X5_isCourse rfl rfl nn_X5_isCourse ⟨rfl, rfl⟩ ⟨by decide, by decide⟩ rfl rfl (Nat.le_of_ble_eq_true rfl) ?_
  refine v_if_eq (tgt := 22) dX5_read_5 (by decide) (fun c5 => ?_) (fun c5 => ?_)
  · refine v_iconst (x := (-1)) dX5_read_22 rfl ?_
    exact v_iret rfl dX5_read_23 ⟨congrArg (fun z => some (Value.int z)) (by rw [q_read, if_neg (fun q => by rw [bI_0.mp c5] at q; cases q.1)]), by rw [q_read, if_neg (fun q => by rw [bI_0.mp c5] at q; cases q.1)]; exact hr, FM.rf σ⟩
  · refine v_aload_n dX5_read_8 rfl ?_
    refine v_iload_n dX5_read_9 rfl ?_
    refine v_callVi (M' := M_X5_isSign) (As := [_]) iO40 (s_X5_isSign hr.2.1 hv _) dX5_read_10 gX5_read_X5_isSign rfl rfl nn_X5_isSign ⟨rfl, rfl⟩ ⟨by decide, by decide⟩ rfl rfl (Nat.le_of_ble_eq_true rfl) ?_
    refine v_if_ne (tgt := 24) dX5_read_13 (by decide) (fun c13 => ?_) (fun c13 => ?_)
    · obtain ⟨j, hj, hj2, rfl⟩ := isN_nI (bI_n0.mp c5)
      have hyes : isN k (wS (aW s)) = true ∨ k = 98 := Or.inl (bI_n0.mp c13)
      obtain ⟨l, hl, e1, e2, hls⟩ : ∃ l, l < 17 ∧ kdOf k = nI l ∧ colOf (aW s) k = nI l ∧ (l < wS (aW s) ∨ l = 16) := by rcases kd_read (k := k) hv with q | q; exact q.2; exact absurd hyes q.1
      have hb1 := wv_H hv (j := j * 18 + 17) (by omega)
      refine v_aload_n dX5_read_24 rfl ?_
      refine v_get (j := 12) iO40 rfl dX5_read_25 (by decide) in_X5_read_X5 fl_X5_read_38 rfl ?_
      refine v_bipush (x := 18) dX5_read_28 (by decide +kernel) ?_
      refine v_iload_n dX5_read_30 rfl ?_
      refine v_imul dX5_read_31 ?_
      refine v_bipush (x := 17) dX5_read_32 (by decide +kernel) ?_
      refine v_iadd dX5_read_34 ?_
      refine v_ialdN (j * 18 + 17) iI50 dX5_read_35 (by rw [show (18 : Int32) = nI 18 from rfl, show (17 : Int32) = nI 17 from rfl, pk_mul, nI_add, Nat.mul_comm 18]) (by omega) (by decide) ?_
      refine v_top (mh_H hr.2.1 (by omega)) ?_
      refine v_if_ne (tgt := 42) dX5_read_36 (by decide) (fun c36 => ?_) (fun c36 => ?_)
      · have h17 : ¬ wH (aW s) (j * 18 + 17) = 0 := fun q => c36 (by rw [q]; rfl)
        refine v_aload_n dX5_read_42 rfl ?_
        refine v_get (j := 12) iO40 rfl dX5_read_43 (by decide) in_X5_read_X5 fl_X5_read_38 rfl ?_
        refine v_bipush (x := 18) dX5_read_46 (by decide +kernel) ?_
        refine v_iload_n dX5_read_48 rfl ?_
        refine v_imul dX5_read_49 ?_
        refine v_bipush (x := 17) dX5_read_50 (by decide +kernel) ?_
        refine v_iadd dX5_read_52 ?_
        refine v_dup2 dX5_read_53 rfl rfl ?_
        refine v_ialdN (j * 18 + 17) iI50 dX5_read_54 (by rw [show (18 : Int32) = nI 18 from rfl, show (17 : Int32) = nI 17 from rfl, pk_mul, nI_add, Nat.mul_comm 18]) (by omega) (by decide) ?_
        refine v_top (mh_H hr.2.1 (by omega)) ?_
        refine v_iconst (x := 1) dX5_read_55 rfl ?_
        refine v_isub dX5_read_56 ?_
        refine v_top (y := nI (wH (aW s) (j * 18 + 17) - 1)) (pk_sub (a := wH (aW s) (j * 18 + 17)) (b := 1) (by omega)) ?_
        refine v_iastN (j * 18 + 17) iI50 dX5_read_57 (by rw [show (18 : Int32) = nI 18 from rfl, show (17 : Int32) = nI 17 from rfl, pk_mul, nI_add, Nat.mul_comm 18]) (by omega) (by decide) ?_
        refine v_aload_n dX5_read_58 rfl ?_
        refine v_get (j := 12) iO40 rfl dX5_read_59 (by decide) in_X5_read_X5 fl_X5_read_38 rfl ?_
        refine v_bipush (x := 18) dX5_read_62 (by decide +kernel) ?_
        refine v_iload_n dX5_read_64 rfl ?_
        refine v_imul dX5_read_65 ?_
        refine v_iload_n dX5_read_66 rfl ?_
        refine v_callSi (M' := M_X5_kindOf) (As := [_]) (s_X5_kindOf) dX5_read_67 gX5_read_X5_kindOf rfl nn_X5_kindOf ⟨rfl, rfl⟩ ⟨by decide, by decide⟩ rfl rfl (Nat.le_of_ble_eq_true rfl) ?_
        refine v_top e1 ?_
        refine v_iadd dX5_read_70 ?_
        refine v_dup2 dX5_read_71 rfl rfl ?_
        refine v_ialdN (j * 18 + l) iI50 dX5_read_72 (by rw [show (18 : Int32) = nI 18 from rfl, pk_mul, nI_add, Nat.mul_comm 18]) (by omega) (by decide) ?_
        refine v_top (y := nI (wH (aW s) (j * 18 + l))) ((sI_ne _ _ (by omega)).trans (mh_H hr.2.1 (by omega))) ?_
        refine v_iconst (x := 1) dX5_read_73 rfl ?_
        refine v_iadd dX5_read_74 ?_
        refine v_top (nI_1 _) ?_
        refine v_iastN (j * 18 + l) iI50 dX5_read_75 (by rw [show (18 : Int32) = nI 18 from rfl, pk_mul, nI_add, Nat.mul_comm 18]) (by omega) (by decide) ?_
        refine v_aload_n dX5_read_76 rfl ?_
        refine v_get (j := 12) iO40 rfl dX5_read_77 (by decide) in_X5_read_X5 fl_X5_read_38 rfl ?_
        refine v_bipush (x := 18) dX5_read_80 (by decide +kernel) ?_
        refine v_iload_n dX5_read_82 rfl ?_
        refine v_imul dX5_read_83 ?_
        refine v_bipush (x := 17) dX5_read_84 (by decide +kernel) ?_
        refine v_iadd dX5_read_86 ?_
        refine v_ialdN (j * 18 + 17) iI50 dX5_read_87 (by rw [show (18 : Int32) = nI 18 from rfl, show (17 : Int32) = nI 17 from rfl, pk_mul, nI_add, Nat.mul_comm 18]) (by omega) (by decide) ?_
        refine v_top (y := nI (wH (aW s) (j * 18 + 17) - 1)) ((sI_ne _ _ (by omega)).trans (sI_at _ _ _ _)) ?_
        exact v_iret rfl dX5_read_88 ⟨congrArg (fun z => some (Value.int z)) (by rw [q_read, if_pos ⟨isN_of hj (by omega), hyes⟩, nI_clamp hj2, e1, nI_clamp (by omega), if_neg h17]), by rw [q_read, if_pos ⟨isN_of hj (by omega), hyes⟩, nI_clamp hj2, e1, nI_clamp (by omega), if_neg h17]; exact (rm_read hr (by omega) hl h17).1, (rm_read hr (by omega) hl h17).2⟩
      · have h17 : wH (aW s) (j * 18 + 17) = 0 := (nI_eq (b := 0) (by omega) (by decide)).mp c36
        refine v_bipush (x := (-2)) dX5_read_39 (by decide +kernel) ?_
        exact v_iret rfl dX5_read_41 ⟨congrArg (fun z => some (Value.int z)) (by rw [q_read, if_pos ⟨isN_of hj (by omega), hyes⟩, nI_clamp hj2, e1, nI_clamp (by omega), if_pos h17]), by rw [q_read, if_pos ⟨isN_of hj (by omega), hyes⟩, nI_clamp hj2, e1, nI_clamp (by omega), if_pos h17]; exact hr, FM.rf σ⟩
    · refine v_iload_n dX5_read_16 rfl ?_
      refine v_bipush (x := 98) dX5_read_17 (by decide +kernel) ?_
      refine v_icmp_eq (tgt := 24) dX5_read_19 (by decide) (fun c19 => ?_) (fun c19 => ?_)
      · obtain ⟨j, hj, hj2, rfl⟩ := isN_nI (bI_n0.mp c5)
        have hyes : isN k (wS (aW s)) = true ∨ k = 98 := Or.inr c19
        obtain ⟨l, hl, e1, e2, hls⟩ : ∃ l, l < 17 ∧ kdOf k = nI l ∧ colOf (aW s) k = nI l ∧ (l < wS (aW s) ∨ l = 16) := by rcases kd_read (k := k) hv with q | q; exact q.2; exact absurd hyes q.1
        have hb1 := wv_H hv (j := j * 18 + 17) (by omega)
        refine v_aload_n dX5_read_24 rfl ?_
        refine v_get (j := 12) iO40 rfl dX5_read_25 (by decide) in_X5_read_X5 fl_X5_read_38 rfl ?_
        refine v_bipush (x := 18) dX5_read_28 (by decide +kernel) ?_
        refine v_iload_n dX5_read_30 rfl ?_
        refine v_imul dX5_read_31 ?_
        refine v_bipush (x := 17) dX5_read_32 (by decide +kernel) ?_
        refine v_iadd dX5_read_34 ?_
        refine v_ialdN (j * 18 + 17) iI50 dX5_read_35 (by rw [show (18 : Int32) = nI 18 from rfl, show (17 : Int32) = nI 17 from rfl, pk_mul, nI_add, Nat.mul_comm 18]) (by omega) (by decide) ?_
        refine v_top (mh_H hr.2.1 (by omega)) ?_
        refine v_if_ne (tgt := 42) dX5_read_36 (by decide) (fun c36 => ?_) (fun c36 => ?_)
        · have h17 : ¬ wH (aW s) (j * 18 + 17) = 0 := fun q => c36 (by rw [q]; rfl)
          refine v_aload_n dX5_read_42 rfl ?_
          refine v_get (j := 12) iO40 rfl dX5_read_43 (by decide) in_X5_read_X5 fl_X5_read_38 rfl ?_
          refine v_bipush (x := 18) dX5_read_46 (by decide +kernel) ?_
          refine v_iload_n dX5_read_48 rfl ?_
          refine v_imul dX5_read_49 ?_
          refine v_bipush (x := 17) dX5_read_50 (by decide +kernel) ?_
          refine v_iadd dX5_read_52 ?_
          refine v_dup2 dX5_read_53 rfl rfl ?_
          refine v_ialdN (j * 18 + 17) iI50 dX5_read_54 (by rw [show (18 : Int32) = nI 18 from rfl, show (17 : Int32) = nI 17 from rfl, pk_mul, nI_add, Nat.mul_comm 18]) (by omega) (by decide) ?_
          refine v_top (mh_H hr.2.1 (by omega)) ?_
          refine v_iconst (x := 1) dX5_read_55 rfl ?_
          refine v_isub dX5_read_56 ?_
          refine v_top (y := nI (wH (aW s) (j * 18 + 17) - 1)) (pk_sub (a := wH (aW s) (j * 18 + 17)) (b := 1) (by omega)) ?_
          refine v_iastN (j * 18 + 17) iI50 dX5_read_57 (by rw [show (18 : Int32) = nI 18 from rfl, show (17 : Int32) = nI 17 from rfl, pk_mul, nI_add, Nat.mul_comm 18]) (by omega) (by decide) ?_
          refine v_aload_n dX5_read_58 rfl ?_
          refine v_get (j := 12) iO40 rfl dX5_read_59 (by decide) in_X5_read_X5 fl_X5_read_38 rfl ?_
          refine v_bipush (x := 18) dX5_read_62 (by decide +kernel) ?_
          refine v_iload_n dX5_read_64 rfl ?_
          refine v_imul dX5_read_65 ?_
          refine v_iload_n dX5_read_66 rfl ?_
          refine v_callSi (M' := M_X5_kindOf) (As := [_]) (s_X5_kindOf) dX5_read_67 gX5_read_X5_kindOf rfl nn_X5_kindOf ⟨rfl, rfl⟩ ⟨by decide, by decide⟩ rfl rfl (Nat.le_of_ble_eq_true rfl) ?_
          refine v_top e1 ?_
          refine v_iadd dX5_read_70 ?_
          refine v_dup2 dX5_read_71 rfl rfl ?_
          refine v_ialdN (j * 18 + l) iI50 dX5_read_72 (by rw [show (18 : Int32) = nI 18 from rfl, pk_mul, nI_add, Nat.mul_comm 18]) (by omega) (by decide) ?_
          refine v_top (y := nI (wH (aW s) (j * 18 + l))) ((sI_ne _ _ (by omega)).trans (mh_H hr.2.1 (by omega))) ?_
          refine v_iconst (x := 1) dX5_read_73 rfl ?_
          refine v_iadd dX5_read_74 ?_
          refine v_top (nI_1 _) ?_
          refine v_iastN (j * 18 + l) iI50 dX5_read_75 (by rw [show (18 : Int32) = nI 18 from rfl, pk_mul, nI_add, Nat.mul_comm 18]) (by omega) (by decide) ?_
          refine v_aload_n dX5_read_76 rfl ?_
          refine v_get (j := 12) iO40 rfl dX5_read_77 (by decide) in_X5_read_X5 fl_X5_read_38 rfl ?_
          refine v_bipush (x := 18) dX5_read_80 (by decide +kernel) ?_
          refine v_iload_n dX5_read_82 rfl ?_
          refine v_imul dX5_read_83 ?_
          refine v_bipush (x := 17) dX5_read_84 (by decide +kernel) ?_
          refine v_iadd dX5_read_86 ?_
          refine v_ialdN (j * 18 + 17) iI50 dX5_read_87 (by rw [show (18 : Int32) = nI 18 from rfl, show (17 : Int32) = nI 17 from rfl, pk_mul, nI_add, Nat.mul_comm 18]) (by omega) (by decide) ?_
          refine v_top (y := nI (wH (aW s) (j * 18 + 17) - 1)) ((sI_ne _ _ (by omega)).trans (sI_at _ _ _ _)) ?_
          exact v_iret rfl dX5_read_88 ⟨congrArg (fun z => some (Value.int z)) (by rw [q_read, if_pos ⟨isN_of hj (by omega), hyes⟩, nI_clamp hj2, e1, nI_clamp (by omega), if_neg h17]), by rw [q_read, if_pos ⟨isN_of hj (by omega), hyes⟩, nI_clamp hj2, e1, nI_clamp (by omega), if_neg h17]; exact (rm_read hr (by omega) hl h17).1, (rm_read hr (by omega) hl h17).2⟩
        · have h17 : wH (aW s) (j * 18 + 17) = 0 := (nI_eq (b := 0) (by omega) (by decide)).mp c36
          refine v_bipush (x := (-2)) dX5_read_39 (by decide +kernel) ?_
          exact v_iret rfl dX5_read_41 ⟨congrArg (fun z => some (Value.int z)) (by rw [q_read, if_pos ⟨isN_of hj (by omega), hyes⟩, nI_clamp hj2, e1, nI_clamp (by omega), if_pos h17]), by rw [q_read, if_pos ⟨isN_of hj (by omega), hyes⟩, nI_clamp hj2, e1, nI_clamp (by omega), if_pos h17]; exact hr, FM.rf σ⟩
      · refine v_iconst (x := (-1)) dX5_read_22 rfl ?_
        exact v_iret rfl dX5_read_23 ⟨congrArg (fun z => some (Value.int z)) (by rw [q_read, if_neg (fun q => q.2.elim (fun q => by rw [bI_0.mp c13] at q; cases q) c19)]), by rw [q_read, if_neg (fun q => q.2.elim (fun q => by rw [bI_0.mp c13] at q; cases q) c19)]; exact hr, FM.rf σ⟩
theorem rm_keep {s : AS} {σ : SS} (h : RM s σ) {k : Nat} (hk : aK s = k) (hk2 : k < 2) {x : Int32} (hx : x = nI (k + 1)) : RM (aU s, aL s, aW s, aK s + 1, va_up (aX s) (aK s) (wH (aW s))) (sF (sI σ 40 11 x) 50 (cpB ((sI σ 40 11 x).1 50) 0 (k + 1) 288)) ∧ FM σ (sF (sI σ 40 11 x) 50 (cpB ((sI σ 40 11 x).1 50) 0 (k + 1) 288)) := by
  subst hx
  subst hk
  obtain ⟨h1, ⟨g1, g5, g6, g7, g8, g9⟩, h3, h4⟩ := h
  have e : ∀ a, a ≠ 40 → a ≠ 50 → (sF (sI σ 40 11 (nI (aK s + 1))) 50 (cpB ((sI σ 40 11 (nI (aK s + 1))).1 50) 0 (aK s + 1) 288)).1 a = σ.1 a := fun a g1 g2 => by rw [sF_ne _ g2, sI_row _ _ g1]
  have e50 : (sI σ 40 11 (nI (aK s + 1))).1 50 = σ.1 50 := sI_row _ _ (by decide)
  refine ⟨⟨⟨?_, h1.2.1, fun j hj => ?_⟩, ⟨?_, ?_, ?_, fun j hj => ?_, ?_, ?_⟩, ⟨?_, by show aK s + 1 ≤ 2; omega⟩, fun i j hi hj => ?_⟩, fun a ha => e a (by omega) (by omega), rfl⟩
  · rw [sF_ne _ (by decide), sI_ne _ _ (by omega)]; exact h1.1
  · rw [e 41 (by decide) (by decide)]; exact h1.2.2 j hj
  · rw [e 42 (by decide) (by decide), e 44 (by decide) (by decide), e 47 (by decide) (by decide), e 49 (by decide) (by decide)]; exact g1
  · rw [e 43 (by decide) (by decide)]; exact g5
  · rw [e 45 (by decide) (by decide)]; exact g6
  · rw [sF_row, cpB, if_neg (by omega), e50]; exact g7 j hj
  · rw [e 46 (by decide) (by decide)]; exact g8
  · rw [e 48 (by decide) (by decide)]; exact g9
  · rw [sF_ne _ (by decide)]; exact sI_at _ _ _ _
  · have hi : i < aK s + 1 := hi
    rw [sF_row, e50]
    show _ = nI (va_up (aX s) (aK s) (wH (aW s)) i j)
    by_cases q : i = aK s
    · rw [q, cpB, if_pos (by omega), va_up, if_pos rfl, show 288 * 0 + (288 * (aK s + 1) + j - 288 * (aK s + 1)) = 864 * 0 + j by omega]
      exact g7 j hj
    · rw [cpB, if_neg (by omega), va_up, if_neg q]
      exact h4 i j (by omega) hj
theorem rm_back {s : AS} {σ : SS} (h : RM s σ) {k : Nat} (hk : aK s = k + 1) {x : Int32} (hx : x = nI k) : RM (aU s, aL s, setH (aW s) (aX s (aK s - 1)), aK s - 1, aX s) (sI (sF σ 50 (cpB (σ.1 50) (k + 1) 0 288)) 40 11 x) ∧ FM σ (sI (sF σ 50 (cpB (σ.1 50) (k + 1) 0 288)) 40 11 x) := by
  subst hx
  obtain ⟨h1, ⟨g1, g5, g6, g7, g8, g9⟩, h3, h4⟩ := h
  have h32 := h3.2
  have e : ∀ a, a ≠ 40 → a ≠ 50 → (sI (sF σ 50 (cpB (σ.1 50) (k + 1) 0 288)) 40 11 (nI k)).1 a = σ.1 a := fun a g1 g2 => by rw [sI_row _ _ g1, sF_ne _ g2]
  refine ⟨⟨⟨?_, h1.2.1, fun j hj => ?_⟩, ⟨?_, ?_, ?_, fun j hj => ?_, ?_, ?_⟩, ⟨?_, by show aK s - 1 ≤ 2; omega⟩, fun i j hi hj => ?_⟩, fun a ha => e a (by omega) (by omega), rfl⟩
  · rw [sI_ne _ _ (by omega), sF_ne _ (by decide)]; exact h1.1
  · rw [e 41 (by decide) (by decide)]; exact h1.2.2 j hj
  · rw [e 42 (by decide) (by decide), e 44 (by decide) (by decide), e 47 (by decide) (by decide), e 49 (by decide) (by decide)]; exact g1
  · rw [e 43 (by decide) (by decide)]; exact g5
  · rw [e 45 (by decide) (by decide)]; exact g6
  · rw [sI_row _ _ (by decide), sF_row, cpB, if_pos (by omega)]
    show _ = nI (aX s (aK s - 1) j)
    rw [show aK s - 1 = k by omega, show 288 * (k + 1) + (864 * 0 + j - 288 * 0) = 288 * (k + 1) + j by omega]
    exact h4 k j (by omega) hj
  · rw [e 46 (by decide) (by decide)]; exact g8
  · rw [e 48 (by decide) (by decide)]; exact g9
  · rw [sI_at]; show nI k = nI (aK s - 1); rw [show aK s - 1 = k by omega]
  · have hi : i < aK s - 1 := hi
    rw [sI_row _ _ (by decide), sF_row, cpB, if_neg (by omega)]
    exact h4 i j (by omega) hj
set_option maxRecDepth 100000 in
set_option maxHeartbeats 4000000 in
theorem s_X5_keep {v : EE} {s : AS} {σ : SS} (hr : RM s σ) : SR v M_X5_keep [.ref (v.1 40)] σ (some (.int (q_keep s).1)) (fun σ' => RM (q_keep s).2 σ' ∧ FM σ σ') := by
  refine Sp.of rfl (by decide) rfl (Nat.le_of_ble_eq_true rfl) ?_
  show V v M_X5_keep _ 0 [(0, .ref (v.1 40))] [] σ
  have hk9 : aK s = 0 ∨ aK s = 1 ∨ aK s = 2 := by have := hr.2.2.1.2; omega
  rcases hk9 with h9 | h9 | h9
  · refine v_aload_n dX5_keep_0 rfl ?_
    refine v_get (j := 11) iO40 rfl dX5_keep_1 (by decide) in_X5_keep_X5 fl_X5_keep_137 rfl ?_
    refine v_top (y := nI 0) (by rw [hr.2.2.1.1, h9]) ?_
    refine v_iconst (x := nI 2) dX5_keep_4 (by decide +kernel) ?_
    refine n_icmp_ne (tgt := 11) dX5_keep_5 (by decide) (by omega) (by omega) (fun c5 => ?_) (fun c5 => absurd c5 (by omega))
    refine v_aload_n dX5_keep_11 rfl ?_
    refine v_dup dX5_keep_12 rfl ?_
    refine v_get (j := 11) iO40 rfl dX5_keep_13 (by decide) in_X5_keep_X5 fl_X5_keep_137 rfl ?_
    refine v_top (y := nI 0) (by rw [hr.2.2.1.1, h9]) ?_
    refine v_iconst (x := nI 1) dX5_keep_16 (by decide +kernel) ?_
    refine n_iadd dX5_keep_17 ?_
    refine pX5_11 dX5_keep_18 in_X5_keep_X5 fl_X5_keep_137 ?_
    refine v_aload_n dX5_keep_21 rfl ?_
    refine v_iconst (x := nI 0) dX5_keep_22 (by decide +kernel) ?_
    refine v_aload_n dX5_keep_23 rfl ?_
    refine v_get (j := 11) iO40 rfl dX5_keep_24 (by decide) in_X5_keep_X5 fl_X5_keep_137 rfl ?_
    refine v_top (y := nI 1) (sI_at _ _ _ _) ?_
    refine v_callVv (M' := M_X5_copies) (As := [_, _]) iO40 (s_X5_copies (a := 0) (d := 1) (by decide) (by decide) (by decide)) dX5_keep_27 gX5_keep_X5_copies rfl rfl nn_X5_copies ⟨rfl, rfl⟩ ⟨by decide, by decide⟩ rfl rfl (Nat.le_of_ble_eq_true rfl) ?_
    refine v_aload_n dX5_keep_30 rfl ?_
    refine v_get (j := 11) iO40 rfl dX5_keep_31 (by decide) in_X5_keep_X5 fl_X5_keep_137 rfl ?_
    refine v_top (y := nI 1) (by rw [sF_ne _ (by decide)]; exact sI_at _ _ _ _) ?_
    exact v_iret rfl dX5_keep_34 ⟨congrArg (fun z => some (Value.int z)) (by rw [q_keep, if_pos (by omega), h9]), by rw [q_keep, if_pos (by omega)]; exact (rm_keep hr h9 (by decide) rfl).1, (rm_keep hr h9 (by decide) rfl).2⟩
  · refine v_aload_n dX5_keep_0 rfl ?_
    refine v_get (j := 11) iO40 rfl dX5_keep_1 (by decide) in_X5_keep_X5 fl_X5_keep_137 rfl ?_
    refine v_top (y := nI 1) (by rw [hr.2.2.1.1, h9]) ?_
    refine v_iconst (x := nI 2) dX5_keep_4 (by decide +kernel) ?_
    refine n_icmp_ne (tgt := 11) dX5_keep_5 (by decide) (by omega) (by omega) (fun c5 => ?_) (fun c5 => absurd c5 (by omega))
    refine v_aload_n dX5_keep_11 rfl ?_
    refine v_dup dX5_keep_12 rfl ?_
    refine v_get (j := 11) iO40 rfl dX5_keep_13 (by decide) in_X5_keep_X5 fl_X5_keep_137 rfl ?_
    refine v_top (y := nI 1) (by rw [hr.2.2.1.1, h9]) ?_
    refine v_iconst (x := nI 1) dX5_keep_16 (by decide +kernel) ?_
    refine n_iadd dX5_keep_17 ?_
    refine pX5_11 dX5_keep_18 in_X5_keep_X5 fl_X5_keep_137 ?_
    refine v_aload_n dX5_keep_21 rfl ?_
    refine v_iconst (x := nI 0) dX5_keep_22 (by decide +kernel) ?_
    refine v_aload_n dX5_keep_23 rfl ?_
    refine v_get (j := 11) iO40 rfl dX5_keep_24 (by decide) in_X5_keep_X5 fl_X5_keep_137 rfl ?_
    refine v_top (y := nI 2) (sI_at _ _ _ _) ?_
    refine v_callVv (M' := M_X5_copies) (As := [_, _]) iO40 (s_X5_copies (a := 0) (d := 2) (by decide) (by decide) (by decide)) dX5_keep_27 gX5_keep_X5_copies rfl rfl nn_X5_copies ⟨rfl, rfl⟩ ⟨by decide, by decide⟩ rfl rfl (Nat.le_of_ble_eq_true rfl) ?_
    refine v_aload_n dX5_keep_30 rfl ?_
    refine v_get (j := 11) iO40 rfl dX5_keep_31 (by decide) in_X5_keep_X5 fl_X5_keep_137 rfl ?_
    refine v_top (y := nI 2) (by rw [sF_ne _ (by decide)]; exact sI_at _ _ _ _) ?_
    exact v_iret rfl dX5_keep_34 ⟨congrArg (fun z => some (Value.int z)) (by rw [q_keep, if_pos (by omega), h9]), by rw [q_keep, if_pos (by omega)]; exact (rm_keep hr h9 (by decide) rfl).1, (rm_keep hr h9 (by decide) rfl).2⟩
  · refine v_aload_n dX5_keep_0 rfl ?_
    refine v_get (j := 11) iO40 rfl dX5_keep_1 (by decide) in_X5_keep_X5 fl_X5_keep_137 rfl ?_
    refine v_top (y := nI 2) (by rw [hr.2.2.1.1, h9]) ?_
    refine v_iconst (x := nI 2) dX5_keep_4 (by decide +kernel) ?_
    refine n_icmp_ne (tgt := 11) dX5_keep_5 (by decide) (by omega) (by omega) (fun c5 => absurd c5 (by omega)) (fun c5 => ?_)
    refine v_bipush (x := (-3)) dX5_keep_8 (by decide +kernel) ?_
    exact v_iret rfl dX5_keep_10 ⟨congrArg (fun z => some (Value.int z)) (by rw [q_keep, if_neg (by omega)]), by rw [q_keep, if_neg (by omega)]; exact hr, FM.rf σ⟩
set_option maxRecDepth 100000 in
set_option maxHeartbeats 4000000 in
theorem s_X5_back {v : EE} {s : AS} {σ : SS} (hr : RM s σ) : SR v M_X5_back [.ref (v.1 40)] σ (some (.int (q_back s).1)) (fun σ' => RM (q_back s).2 σ' ∧ FM σ σ') := by
  refine Sp.of rfl (by decide) rfl (Nat.le_of_ble_eq_true rfl) ?_
  show V v M_X5_back _ 0 [(0, .ref (v.1 40))] [] σ
  have hk9 : aK s = 0 ∨ aK s = 1 ∨ aK s = 2 := by have := hr.2.2.1.2; omega
  rcases hk9 with h9 | h9 | h9
  · refine v_aload_n dX5_back_0 rfl ?_
    refine v_get (j := 11) iO40 rfl dX5_back_1 (by decide) in_X5_back_X5 fl_X5_back_137 rfl ?_
    refine v_top (y := nI 0) (by rw [hr.2.2.1.1, h9]) ?_
    refine n_if_ne (tgt := 10) dX5_back_4 (by decide) (by omega) (fun c4 => absurd c4 (by omega)) (fun c4 => ?_)
    refine v_bipush (x := (-2)) dX5_back_7 (by decide +kernel) ?_
    exact v_iret rfl dX5_back_9 ⟨congrArg (fun z => some (Value.int z)) (by rw [q_back, if_pos h9]), by rw [q_back, if_pos h9]; exact hr, FM.rf σ⟩
  · refine v_aload_n dX5_back_0 rfl ?_
    refine v_get (j := 11) iO40 rfl dX5_back_1 (by decide) in_X5_back_X5 fl_X5_back_137 rfl ?_
    refine v_top (y := nI 1) (by rw [hr.2.2.1.1, h9]) ?_
    refine n_if_ne (tgt := 10) dX5_back_4 (by decide) (by omega) (fun c4 => ?_) (fun c4 => absurd c4 (by omega))
    refine v_aload_n dX5_back_10 rfl ?_
    refine v_aload_n dX5_back_11 rfl ?_
    refine v_get (j := 11) iO40 rfl dX5_back_12 (by decide) in_X5_back_X5 fl_X5_back_137 rfl ?_
    refine v_top (y := nI 1) (by rw [hr.2.2.1.1, h9]) ?_
    refine v_iconst (x := nI 0) dX5_back_15 (by decide +kernel) ?_
    refine v_callVv (M' := M_X5_copies) (As := [_, _]) iO40 (s_X5_copies (a := 1) (d := 0) (by decide) (by decide) (by decide)) dX5_back_16 gX5_back_X5_copies rfl rfl nn_X5_copies ⟨rfl, rfl⟩ ⟨by decide, by decide⟩ rfl rfl (Nat.le_of_ble_eq_true rfl) ?_
    refine v_aload_n dX5_back_19 rfl ?_
    refine v_dup dX5_back_20 rfl ?_
    refine v_get (j := 11) iO40 rfl dX5_back_21 (by decide) in_X5_back_X5 fl_X5_back_137 rfl ?_
    refine v_top (y := nI 1) (by rw [sF_ne _ (by decide), hr.2.2.1.1, h9]) ?_
    refine v_iconst (x := nI 1) dX5_back_24 (by decide +kernel) ?_
    refine n_isub dX5_back_25 (by omega) ?_
    refine pX5_11 dX5_back_26 in_X5_back_X5 fl_X5_back_137 ?_
    refine v_aload_n dX5_back_29 rfl ?_
    refine v_get (j := 11) iO40 rfl dX5_back_30 (by decide) in_X5_back_X5 fl_X5_back_137 rfl ?_
    refine v_top (y := nI 0) (sI_at _ _ _ _) ?_
    exact v_iret rfl dX5_back_33 ⟨congrArg (fun z => some (Value.int z)) (by rw [q_back, if_neg (by omega), h9]), by rw [q_back, if_neg (by omega)]; exact (rm_back hr h9 rfl).1, (rm_back hr h9 rfl).2⟩
  · refine v_aload_n dX5_back_0 rfl ?_
    refine v_get (j := 11) iO40 rfl dX5_back_1 (by decide) in_X5_back_X5 fl_X5_back_137 rfl ?_
    refine v_top (y := nI 2) (by rw [hr.2.2.1.1, h9]) ?_
    refine n_if_ne (tgt := 10) dX5_back_4 (by decide) (by omega) (fun c4 => ?_) (fun c4 => absurd c4 (by omega))
    refine v_aload_n dX5_back_10 rfl ?_
    refine v_aload_n dX5_back_11 rfl ?_
    refine v_get (j := 11) iO40 rfl dX5_back_12 (by decide) in_X5_back_X5 fl_X5_back_137 rfl ?_
    refine v_top (y := nI 2) (by rw [hr.2.2.1.1, h9]) ?_
    refine v_iconst (x := nI 0) dX5_back_15 (by decide +kernel) ?_
    refine v_callVv (M' := M_X5_copies) (As := [_, _]) iO40 (s_X5_copies (a := 2) (d := 0) (by decide) (by decide) (by decide)) dX5_back_16 gX5_back_X5_copies rfl rfl nn_X5_copies ⟨rfl, rfl⟩ ⟨by decide, by decide⟩ rfl rfl (Nat.le_of_ble_eq_true rfl) ?_
    refine v_aload_n dX5_back_19 rfl ?_
    refine v_dup dX5_back_20 rfl ?_
    refine v_get (j := 11) iO40 rfl dX5_back_21 (by decide) in_X5_back_X5 fl_X5_back_137 rfl ?_
    refine v_top (y := nI 2) (by rw [sF_ne _ (by decide), hr.2.2.1.1, h9]) ?_
    refine v_iconst (x := nI 1) dX5_back_24 (by decide +kernel) ?_
    refine n_isub dX5_back_25 (by omega) ?_
    refine pX5_11 dX5_back_26 in_X5_back_X5 fl_X5_back_137 ?_
    refine v_aload_n dX5_back_29 rfl ?_
    refine v_get (j := 11) iO40 rfl dX5_back_30 (by decide) in_X5_back_X5 fl_X5_back_137 rfl ?_
    refine v_top (y := nI 1) (sI_at _ _ _ _) ?_
    exact v_iret rfl dX5_back_33 ⟨congrArg (fun z => some (Value.int z)) (by rw [q_back, if_neg (by omega), h9]), by rw [q_back, if_neg (by omega)]; exact (rm_back hr h9 rfl).1, (rm_back hr h9 rfl).2⟩
