theorem in_X5_copies_X5 : ∀ w ∈ u_ws RX5 TX5 29, w ∈ mWs M_X5_copies := by decide +kernel
theorem in_X5_fault_X5 : ∀ w ∈ u_ws RX5 TX5 29, w ∈ mWs M_X5_fault := by decide +kernel
theorem in_X5_lay_X5 : ∀ w ∈ u_ws RX5 TX5 29, w ∈ mWs M_X5_lay := by decide +kernel
theorem fl_X5_copies_38 : Cond.fieldLink (mOwn M_X5_copies) 38 (TX5 12).1 (TX5 12).2.1 (TX5 12).2.2.1 ∈ mWs M_X5_copies := by decide +kernel
theorem fl_X5_fault_13 : Cond.fieldLink (mOwn M_X5_fault) 13 (TX5 3).1 (TX5 3).2.1 (TX5 3).2.2.1 ∈ mWs M_X5_fault := by decide +kernel
theorem fl_X5_fault_20 : Cond.fieldLink (mOwn M_X5_fault) 20 (TX5 5).1 (TX5 5).2.1 (TX5 5).2.2.1 ∈ mWs M_X5_fault := by decide +kernel
theorem fl_X5_fault_26 : Cond.fieldLink (mOwn M_X5_fault) 26 (TX5 7).1 (TX5 7).2.1 (TX5 7).2.2.1 ∈ mWs M_X5_fault := by decide +kernel
theorem fl_X5_fault_29 : Cond.fieldLink (mOwn M_X5_fault) 29 (TX5 8).1 (TX5 8).2.1 (TX5 8).2.2.1 ∈ mWs M_X5_fault := by decide +kernel
theorem fl_X5_fault_35 : Cond.fieldLink (mOwn M_X5_fault) 35 (TX5 10).1 (TX5 10).2.1 (TX5 10).2.2.1 ∈ mWs M_X5_fault := by decide +kernel
theorem fl_X5_fault_38 : Cond.fieldLink (mOwn M_X5_fault) 38 (TX5 12).1 (TX5 12).2.1 (TX5 12).2.2.1 ∈ mWs M_X5_fault := by decide +kernel
theorem fl_X5_fault_78 : Cond.fieldLink (mOwn M_X5_fault) 78 (TX5 0).1 (TX5 0).2.1 (TX5 0).2.2.1 ∈ mWs M_X5_fault := by decide +kernel
theorem fl_X5_fault_82 : Cond.fieldLink (mOwn M_X5_fault) 82 (TX5 2).1 (TX5 2).2.1 (TX5 2).2.2.1 ∈ mWs M_X5_fault := by decide +kernel
theorem fl_X5_lay_13 : Cond.fieldLink (mOwn M_X5_lay) 13 (TX5 3).1 (TX5 3).2.1 (TX5 3).2.2.1 ∈ mWs M_X5_lay := by decide +kernel
theorem fl_X5_lay_17 : Cond.fieldLink (mOwn M_X5_lay) 17 (TX5 4).1 (TX5 4).2.1 (TX5 4).2.2.1 ∈ mWs M_X5_lay := by decide +kernel
theorem fl_X5_lay_20 : Cond.fieldLink (mOwn M_X5_lay) 20 (TX5 5).1 (TX5 5).2.1 (TX5 5).2.2.1 ∈ mWs M_X5_lay := by decide +kernel
theorem fl_X5_lay_23 : Cond.fieldLink (mOwn M_X5_lay) 23 (TX5 6).1 (TX5 6).2.1 (TX5 6).2.2.1 ∈ mWs M_X5_lay := by decide +kernel
theorem fl_X5_lay_26 : Cond.fieldLink (mOwn M_X5_lay) 26 (TX5 7).1 (TX5 7).2.1 (TX5 7).2.2.1 ∈ mWs M_X5_lay := by decide +kernel
theorem fl_X5_lay_29 : Cond.fieldLink (mOwn M_X5_lay) 29 (TX5 8).1 (TX5 8).2.1 (TX5 8).2.2.1 ∈ mWs M_X5_lay := by decide +kernel
theorem fl_X5_lay_32 : Cond.fieldLink (mOwn M_X5_lay) 32 (TX5 9).1 (TX5 9).2.1 (TX5 9).2.2.1 ∈ mWs M_X5_lay := by decide +kernel
theorem fl_X5_lay_35 : Cond.fieldLink (mOwn M_X5_lay) 35 (TX5 10).1 (TX5 10).2.1 (TX5 10).2.2.1 ∈ mWs M_X5_lay := by decide +kernel
theorem fl_X5_lay_137 : Cond.fieldLink (mOwn M_X5_lay) 137 (TX5 11).1 (TX5 11).2.1 (TX5 11).2.2.1 ∈ mWs M_X5_lay := by decide +kernel
theorem nn_X5_copies : (mY M_X5_copies).cls = mOwn M_X5_copies ∧ (mY M_X5_copies).cls ≠ "java/lang/invoke/MethodHandle" ∧ (mY M_X5_copies).cls ≠ "java/lang/invoke/VarHandle" ∧ (parseMethodDescriptor (mY M_X5_copies).desc).map (fun d => d.parameters.length) = some 2 := by decide +kernel
theorem nn_X5_fault : (mY M_X5_fault).cls = mOwn M_X5_fault ∧ (mY M_X5_fault).cls ≠ "java/lang/invoke/MethodHandle" ∧ (mY M_X5_fault).cls ≠ "java/lang/invoke/VarHandle" ∧ (parseMethodDescriptor (mY M_X5_fault).desc).map (fun d => d.parameters.length) = some 0 := by decide +kernel
theorem nn_X5_isItem : (mY M_X5_isItem).cls = mOwn M_X5_isItem ∧ (mY M_X5_isItem).cls ≠ "java/lang/invoke/MethodHandle" ∧ (mY M_X5_isItem).cls ≠ "java/lang/invoke/VarHandle" ∧ (parseMethodDescriptor (mY M_X5_isItem).desc).map (fun d => d.parameters.length) = some 0 := by decide +kernel
set_option maxRecDepth 100000 in
set_option maxHeartbeats 4000000 in
theorem s_X5_isItem_0 {v : EE} {u : Nat → Nat} {len : Nat} {w : WD} {z : Nat} {σ : SS} (hM : MTx u len σ) (hw : MH 1 w σ) (hv : WV z w) {p : Nat} (ha : σ.1 40 2 = nI p) (hp : p < len) (hn103 : ¬ u p = 103) (hn99 : ¬ u p = 99) (hn116 : ¬ u p = 116) (hn98 : ¬ u p = 98) (hn110 : ¬ u p = 110) (hn97 : ¬ u p = 97) (hn119 : ¬ u p = 119) : SR v M_X5_isItem [.ref (v.1 40)] σ (some (.int (bI (itemAt u len p w).isSome))) (fun σ' => FD σ σ' ∧ ∀ q w', itemAt u len p w = some (q, w') → MH 1 w' σ' ∧ σ'.1 40 2 = nI q) := by
  refine Sp.of rfl (by decide) rfl (Nat.le_of_ble_eq_true rfl) ?_
  show V v M_X5_isItem _ 0 [(0, .ref (v.1 40))] [] σ
  have hl := hM.2.1
  have e0 : nums (u p) = 0 := by rw [nums, if_neg (by omega), if_neg (by omega), if_neg (by omega)]
  refine v_aload_n dX5_isItem_0 rfl ?_
  refine v_get (j := 1) iO40 rfl dX5_isItem_1 (by decide) in_X5_isItem_X5 fl_X5_isItem_7 rfl ?_
  refine v_aload_n dX5_isItem_4 rfl ?_
  refine v_get (j := 2) iO40 rfl dX5_isItem_5 (by decide) in_X5_isItem_X5 fl_X5_isItem_82 rfl ?_
  refine v_top ha ?_
  refine v_baldN p iB41 dX5_isItem_8 rfl (by omega) (by decide) ?_
  refine v_top (hM.2.2 p hp).2 ?_
  refine v_istore_n (L' := [(1, _), (0, _)]) dX5_isItem_9 rfl (by decide) rfl ?_
  refine v_aload_n dX5_isItem_10 rfl ?_
  refine v_dup dX5_isItem_11 rfl ?_
  refine v_get (j := 2) iO40 rfl dX5_isItem_12 (by decide) in_X5_isItem_X5 fl_X5_isItem_82 rfl ?_
  refine v_top ha ?_
  refine v_iconst (x := nI 1) dX5_isItem_15 (by decide +kernel) ?_
  refine n_iadd dX5_isItem_16 ?_
  refine pX5_2 dX5_isItem_17 in_X5_isItem_X5 fl_X5_isItem_82 ?_
  refine v_iload_n dX5_isItem_20 rfl ?_
  refine v_callSi (M' := M_X5_figures) (As := [_]) (s_X5_figures_0 (hM.2.2 p hp).1 hn99 hn116 hn97 hn103 hn98 hn110 hn119) dX5_isItem_21 gX5_isItem_X5_figures rfl nn_X5_figures ⟨rfl, rfl⟩ ⟨by decide, by decide⟩ rfl rfl (Nat.le_of_ble_eq_true rfl) ?_
  refine v_istore_n (L' := [(2, _), (1, _), (0, _)]) dX5_isItem_24 rfl (by decide) rfl ?_
  refine v_iload_n dX5_isItem_25 rfl ?_
  refine n_if_le (tgt := 33) dX5_isItem_26 (by decide) (by omega) (fun c26 => ?_) (fun c26 => absurd c26 (by omega))
  refine v_iconst (x := nI 0) dX5_isItem_33 (by decide +kernel) ?_
  refine v_istore_n (L' := [(3, _), (2, _), (1, _), (0, _)]) dX5_isItem_34 rfl (by decide) rfl ?_
  refine v_iconst (x := nI 0) dX5_isItem_35 (by decide +kernel) ?_
  refine v_istore (L' := [(4, _), (3, _), (2, _), (1, _), (0, _)]) dX5_isItem_36 (by decide) rfl ?_
  refine v_iload dX5_isItem_38 rfl ?_
  refine v_iload_n dX5_isItem_40 rfl ?_
  refine n_icmp_ge (tgt := 144) dX5_isItem_41 (by decide) (by omega) (by omega) (fun c41 => ?_) (fun c41 => absurd c41 (by omega))
  refine v_iload_n dX5_isItem_144 rfl ?_
  refine v_if_eq (tgt := 177) dX5_isItem_145 (by decide) (fun c145 => ?_) (fun c145 => absurd rfl c145)
  refine v_iconst (x := nI 0) dX5_isItem_177 (by decide +kernel) ?_
  refine v_istore_n (L' := [(3, _), (4, _), (2, _), (1, _), (0, _)]) dX5_isItem_178 rfl (by decide) rfl ?_
  refine v_aload_n dX5_isItem_179 rfl ?_
  refine v_dup dX5_isItem_180 rfl ?_
  refine v_get (j := 2) iO40 rfl dX5_isItem_181 (by decide) in_X5_isItem_X5 fl_X5_isItem_82 rfl ?_
  refine v_top (y := nI (p + 1)) (sI_at _ _ _ _) ?_
  refine v_iconst (x := nI 1) dX5_isItem_184 (by decide +kernel) ?_
  refine n_iadd dX5_isItem_185 ?_
  refine pX5_2 dX5_isItem_186 in_X5_isItem_X5 fl_X5_isItem_82 ?_
  refine v_iload_n dX5_isItem_189 rfl ?_
  refine v_if_eq (tgt := 205) dX5_isItem_190 (by decide) (fun c190 => ?_) (fun c190 => absurd rfl c190)
  refine v_iconst (x := nI 0) dX5_isItem_205 (by decide +kernel) ?_
  exact v_zret rfl (by decide) dX5_isItem_206 ⟨congrArg (fun z => some (Value.int z)) (bI_f (by rw [it_none0 e0]; rfl)), ((FD.rf σ).si (by unfold okS; omega) _).si (by unfold okS; omega) _, fun q9 w9 h9 => by rw [it_none0 e0] at h9; cases h9⟩
theorem s_X5_isItem {v : EE} {u : Nat → Nat} {len : Nat} {w : WD} {z : Nat} {σ : SS} (hM : MTx u len σ) (hw : MH 1 w σ) (hv : WV z w) {p : Nat} (ha : σ.1 40 2 = nI p) (hp : p < len) : SR v M_X5_isItem [.ref (v.1 40)] σ (some (.int (bI (itemAt u len p w).isSome))) (fun σ' => FD σ σ' ∧ ∀ q w', itemAt u len p w = some (q, w') → MH 1 w' σ' ∧ σ'.1 40 2 = nI q) := by
  by_cases h103 : u p = 103
  · exact s_X5_isItem_g hM hw hv ha hp h103
  by_cases h99 : u p = 99
  · exact s_X5_isItem_c hM hw hv ha hp h99
  by_cases h116 : u p = 116
  · exact s_X5_isItem_t hM hw hv ha hp h116
  by_cases h98 : u p = 98
  · exact s_X5_isItem_b hM hw hv ha hp h98
  by_cases h110 : u p = 110
  · exact s_X5_isItem_n hM hw hv ha hp h110
  by_cases h97 : u p = 97
  · exact s_X5_isItem_a hM hw hv ha hp h97
  by_cases h119 : u p = 119
  · exact s_X5_isItem_w hM hw hv ha hp h119
  exact s_X5_isItem_0 hM hw hv ha hp h103 h99 h116 h98 h110 h97 h119
def I1 (σ : SS) (i : Nat) (τ : SS) : Prop := FD σ τ ∧ (τ.1 40 2 = 0 ∧ τ.1 42 1 = 0 ∧ τ.1 44 1 = 0 ∧ τ.1 47 1 = 0 ∧ τ.1 49 1 = 12) ∧ (∀ j, j < i → τ.1 50 (864 + j) = 0) ∧ ∀ j, j < i → j < 6 → τ.1 46 (6 + j) = 0
theorem I1.z {σ : SS} : I1 σ 0 (sI (sI (sI (sI (sI σ 40 2 0) 42 1 0) 44 1 0) 47 1 0) 49 1 12) := by
  refine ⟨((((((FD.rf σ).si (by unfold okS; omega) _).si (by unfold okS; omega) _).si (by unfold okS; omega) _).si (by unfold okS; omega) _).si (by unfold okS; omega) _), ⟨?_, ?_, ?_, ?_, ?_⟩, fun j hj => absurd hj (Nat.not_lt_zero j), fun j hj => absurd hj (Nat.not_lt_zero j)⟩ <;> simp [sI, upd]
theorem I1.s1 {σ τ : SS} {i : Nat} (h : I1 σ i τ) (hi : 6 ≤ i) : I1 σ (i + 1) (sI τ 50 (864 + i) 0) := by
  obtain ⟨h1, ⟨h2, h3, h4, h5, h6⟩, h7, h8⟩ := h
  refine ⟨h1.si (by unfold okS; omega) _, ⟨?_, ?_, ?_, ?_, ?_⟩, fun j hj => ?_, fun j hj hj2 => ?_⟩
  · rw [sI_row _ _ (by decide)]; exact h2
  · rw [sI_row _ _ (by decide)]; exact h3
  · rw [sI_row _ _ (by decide)]; exact h4
  · rw [sI_row _ _ (by decide)]; exact h5
  · rw [sI_row _ _ (by decide)]; exact h6
  · by_cases e : j = i
    · rw [e]; exact sI_at _ _ _ _
    · rw [sI_ne _ _ (by omega)]; exact h7 j (by omega)
  · rw [sI_row _ _ (by decide)]; exact h8 j (by omega) hj2
theorem I1.s2 {σ τ : SS} {i : Nat} (h : I1 σ i τ) : I1 σ (i + 1) (sI (sI τ 50 (864 + i) 0) 46 (6 + i) 0) := by
  obtain ⟨h1, ⟨h2, h3, h4, h5, h6⟩, h7, h8⟩ := h
  refine ⟨(h1.si (by unfold okS; omega) _).si (by unfold okS; omega) _, ⟨?_, ?_, ?_, ?_, ?_⟩, fun j hj => ?_, fun j hj hj2 => ?_⟩
  · rw [sI_row _ _ (by decide), sI_row _ _ (by decide)]; exact h2
  · rw [sI_row _ _ (by decide), sI_row _ _ (by decide)]; exact h3
  · rw [sI_row _ _ (by decide), sI_row _ _ (by decide)]; exact h4
  · rw [sI_row _ _ (by decide), sI_row _ _ (by decide)]; exact h5
  · rw [sI_row _ _ (by decide), sI_row _ _ (by decide)]; exact h6
  · rw [sI_row _ _ (by decide)]
    by_cases e : j = i
    · rw [e]; exact sI_at _ _ _ _
    · rw [sI_ne _ _ (by omega)]; exact h7 j (by omega)
  · by_cases e : j = i
    · rw [e]; exact sI_at _ _ _ _
    · rw [sI_ne _ _ (by omega), sI_row _ _ (by decide)]; exact h8 j (by omega) hj2
theorem I1.mh {σ τ : SS} (h : I1 σ 288 τ) : MH 1 w00 τ := by
  obtain ⟨h1, ⟨h2, h3, h4, h5, h6⟩, h7, h8⟩ := h
  exact ⟨⟨h3, h4, h5, h6⟩, fun k hk => absurd hk (Nat.not_lt_zero k), fun k hk => absurd hk (Nat.not_lt_zero k), fun j hj => h7 j hj, fun p hp => h8 p (by omega) hp, fun k hk => absurd hk (Nat.not_lt_zero k)⟩
set_option maxRecDepth 100000 in
set_option maxHeartbeats 4000000 in
theorem x5_tl {v : EE} {u : Nat → Nat} {len : Nat} (σ0 : SS) : ∀ (f p z : Nat) (w : WD) (σ : SS), MTx u len σ → MH 1 w σ → WV z w → FD σ0 σ → σ.1 40 2 = nI p → p ≤ len → len - p < f → tl u len f p w = tell u len → V v M_X5_fault (zR v M_X5_fault (fun r' σ' => r' = (some (.int (tlA (tell u len)))) ∧ (FD σ0 σ' ∧ ∀ w, tell u len = .inr w → MH 1 w σ'))) 76 [(0, .ref (v.1 40))] [] σ := by
  intro f
  induction f with
  | zero => intro p z w σ _ _ _ _ _ _ h; omega
  | succ f ih =>
    intro p z w σ hM hw hv hF ha hp hf ht
    have hl := hM.2.1
    refine v_aload_n dX5_fault_76 rfl ?_
    refine v_get (j := 2) iO40 rfl dX5_fault_77 (by decide) in_X5_fault_X5 fl_X5_fault_82 rfl ?_
    refine v_top ha ?_
    refine v_aload_n dX5_fault_80 rfl ?_
    refine v_get (j := 0) iO40 rfl dX5_fault_81 (by decide) in_X5_fault_X5 fl_X5_fault_78 rfl ?_
    refine v_top hM.1 ?_
    refine n_icmp_ge (tgt := 104) dX5_fault_84 (by decide) (by omega) (by omega) (fun c84 => ?_) (fun c84 => ?_)
    · refine v_bipush (x := (-4)) dX5_fault_104 (by decide +kernel) ?_
      exact v_iret rfl dX5_fault_106 ⟨by rw [← ht, tl, if_neg (by omega)]; rfl, hF, fun w9 h9 => by rw [← ht, tl, if_neg (by omega)] at h9; cases h9; exact hw⟩
    · refine v_aload_n dX5_fault_87 rfl ?_
      refine v_get (j := 2) iO40 rfl dX5_fault_88 (by decide) in_X5_fault_X5 fl_X5_fault_82 rfl ?_
      refine v_top ha ?_
      refine v_istore_n (L' := [(1, _), (0, _)]) dX5_fault_91 rfl (by decide) rfl ?_
      refine v_aload_n dX5_fault_92 rfl ?_
      refine v_callVRi (M' := M_X5_isItem) (As := []) iO40 (s_X5_isItem hM hw hv ha c84) dX5_fault_93 gX5_fault_X5_isItem rfl rfl nn_X5_isItem ⟨rfl, rfl⟩ ⟨by decide, by decide⟩ rfl rfl (Nat.le_of_ble_eq_true rfl) (fun s1 h1 => ?_)
      refine b_if_ne (tgt := 101) dX5_fault_96 (by decide) (fun c96 => ?_) (fun c96 => ?_)
      · obtain ⟨⟨q9, w1⟩, hit⟩ : ∃ y, itemAt u len p w = some y := by cases h : itemAt u len p w with | none => rw [h] at c96; cases c96 | some y => exact ⟨y, rfl⟩
        refine v_goto (tgt := 76) dX5_fault_101 (by decide) ?_
        refine v_sub [1] rfl ?_
        exact ih q9 (z + 99) w1 s1 (h1.1.tx hM) (h1.2 q9 w1 hit).1 (itemAt_wv hv hit) (hF.tr h1.1) (h1.2 q9 w1 hit).2 (itemAt_next hit).2 (by have := itemAt_next hit; omega) (by rw [← ht, tl, if_pos c84, hit])
      · have hx9 : itemAt u len p w = none := by cases h : itemAt u len p w with | none => rfl | some y => rw [h] at c96; cases c96
        refine v_iload_n dX5_fault_99 rfl ?_
        exact v_iret rfl dX5_fault_100 ⟨congrArg (fun z => some (Value.int z)) (by rw [← ht, tl, if_pos c84, hx9]; rfl), hF.tr h1.1, fun w9 h9 => by rw [← ht, tl, if_pos c84, hx9] at h9; cases h9⟩
set_option maxRecDepth 100000 in
set_option maxHeartbeats 4000000 in
theorem s_X5_fault {v : EE} {u : Nat → Nat} {len : Nat} {σ : SS} (hM : MTx u len σ) : SR v M_X5_fault [.ref (v.1 40)] σ (some (.int (tlA (tell u len)))) (fun σ' => FD σ σ' ∧ ∀ w, tell u len = .inr w → MH 1 w σ') := by
  refine Sp.of rfl (by decide) rfl (Nat.le_of_ble_eq_true rfl) ?_
  show V v M_X5_fault _ 0 [(0, .ref (v.1 40))] [] σ
  refine v_aload_n dX5_fault_0 rfl ?_
  refine v_iconst (x := nI 0) dX5_fault_1 (by decide +kernel) ?_
  refine pX5_2 dX5_fault_2 in_X5_fault_X5 fl_X5_fault_82 ?_
  refine v_aload_n dX5_fault_5 rfl ?_
  refine v_get (j := 3) iO40 rfl dX5_fault_6 (by decide) in_X5_fault_X5 fl_X5_fault_13 rfl ?_
  refine v_iconst (x := nI 1) dX5_fault_9 (by decide +kernel) ?_
  refine v_iconst (x := nI 0) dX5_fault_10 (by decide +kernel) ?_
  refine v_iastN 1 iI42 dX5_fault_11 rfl (by decide) (by decide) ?_
  refine v_aload_n dX5_fault_12 rfl ?_
  refine v_get (j := 5) iO40 rfl dX5_fault_13 (by decide) in_X5_fault_X5 fl_X5_fault_20 rfl ?_
  refine v_iconst (x := nI 1) dX5_fault_16 (by decide +kernel) ?_
  refine v_iconst (x := nI 0) dX5_fault_17 (by decide +kernel) ?_
  refine v_iastN 1 iI44 dX5_fault_18 rfl (by decide) (by decide) ?_
  refine v_aload_n dX5_fault_19 rfl ?_
  refine v_get (j := 8) iO40 rfl dX5_fault_20 (by decide) in_X5_fault_X5 fl_X5_fault_29 rfl ?_
  refine v_iconst (x := nI 1) dX5_fault_23 (by decide +kernel) ?_
  refine v_iconst (x := nI 0) dX5_fault_24 (by decide +kernel) ?_
  refine v_iastN 1 iI47 dX5_fault_25 rfl (by decide) (by decide) ?_
  refine v_aload_n dX5_fault_26 rfl ?_
  refine v_get (j := 10) iO40 rfl dX5_fault_27 (by decide) in_X5_fault_X5 fl_X5_fault_35 rfl ?_
  refine v_iconst (x := nI 1) dX5_fault_30 (by decide +kernel) ?_
  refine v_bipush (x := nI 12) dX5_fault_31 (by decide +kernel) ?_
  refine v_iastN 1 iI49 dX5_fault_33 rfl (by decide) (by decide) ?_
  refine v_iconst (x := nI 0) dX5_fault_34 (by decide +kernel) ?_
  refine v_istore_n (L' := [(1, _), (0, _)]) dX5_fault_35 rfl (by decide) rfl ?_
  refine v_sub [1, 0] rfl ?_
  refine loopN (fun i => ∀ τ : SS, I1 σ i τ → V v M_X5_fault (zR v M_X5_fault (fun r' σ' => r' = (some (.int (tlA (tell u len)))) ∧ (FD σ σ' ∧ ∀ w, tell u len = .inr w → MH 1 w σ'))) 36 [(0, .ref (v.1 40)), (1, .int (nI i))] [] τ) 288 ?_ ?_ _ I1.z
  · intro i hi ih τ hinv
    refine v_iload_n dX5_fault_36 rfl ?_
    refine v_sipush (x := nI 288) dX5_fault_37 (by decide +kernel) ?_
    refine n_icmp_ge (tgt := 76) dX5_fault_40 (by decide) (by omega) (by omega) (fun c40 => absurd c40 (by omega)) (fun c40 => ?_)
    refine v_aload_n dX5_fault_43 rfl ?_
    refine v_get (j := 12) iO40 rfl dX5_fault_44 (by decide) in_X5_fault_X5 fl_X5_fault_38 rfl ?_
    refine v_sipush (x := nI 864) dX5_fault_47 (by decide +kernel) ?_
    refine v_iload_n dX5_fault_50 rfl ?_
    refine n_iadd dX5_fault_51 ?_
    refine v_iconst (x := nI 0) dX5_fault_52 (by decide +kernel) ?_
    refine v_iastN (864 + i) iI50 dX5_fault_53 rfl (by omega) (by decide) ?_
    refine v_iload_n dX5_fault_54 rfl ?_
    refine v_bipush (x := nI 6) dX5_fault_55 (by decide +kernel) ?_
    refine n_icmp_ge (tgt := 70) dX5_fault_57 (by decide) (by omega) (by omega) (fun c57 => ?_) (fun c57 => ?_)
    · refine n_iinc (n := 1) (L' := [(1, _), (0, _)]) dX5_fault_70 rfl (by decide) rfl ?_
      refine v_goto (tgt := 36) dX5_fault_73 (by decide) ?_
      refine v_sub [1, 0] rfl ?_
      exact ih _ (by first | exact hinv.s2 | exact hinv.s1 (by omega))
    · refine v_aload_n dX5_fault_60 rfl ?_
      refine v_get (j := 7) iO40 rfl dX5_fault_61 (by decide) in_X5_fault_X5 fl_X5_fault_26 rfl ?_
      refine v_bipush (x := nI 6) dX5_fault_64 (by decide +kernel) ?_
      refine v_iload_n dX5_fault_66 rfl ?_
      refine n_iadd dX5_fault_67 ?_
      refine v_iconst (x := nI 0) dX5_fault_68 (by decide +kernel) ?_
      refine v_iastN (6 + i) iI46 dX5_fault_69 rfl (by omega) (by decide) ?_
      refine n_iinc (n := 1) (L' := [(1, _), (0, _)]) dX5_fault_70 rfl (by decide) rfl ?_
      refine v_goto (tgt := 36) dX5_fault_73 (by decide) ?_
      refine v_sub [1, 0] rfl ?_
      exact ih _ (by first | exact hinv.s2 | exact hinv.s1 (by omega))
  · intro τ hinv
    refine v_iload_n dX5_fault_36 rfl ?_
    refine v_sipush (x := nI 288) dX5_fault_37 (by decide +kernel) ?_
    refine n_icmp_ge (tgt := 76) dX5_fault_40 (by decide) (by omega) (by omega) (fun c40 => ?_) (fun c40 => absurd c40 (by omega))
    refine v_sub [0] rfl ?_
    exact x5_tl σ 501 0 0 w00 τ (hinv.1.tx hM) hinv.mh wv_00 hinv.1 hinv.2.1.1 (Nat.zero_le _) (by have := hM.2.1; omega) rfl
def cpB (f : Nat → Int32) (a b n : Nat) : Nat → Int32 := fun j => if 288 * b ≤ j ∧ j < 288 * b + n then f (288 * a + (j - 288 * b)) else f j
theorem cpB_0 (f : Nat → Int32) (a b : Nat) : cpB f a b 0 = f := by funext j; rw [cpB, if_neg (by omega)]
theorem cpB_s (f : Nat → Int32) (a b n : Nat) : upd (cpB f a b n) (288 * b + n) (f (288 * a + n)) = cpB f a b (n + 1) := by
  funext j
  by_cases h : j = 288 * b + n
  · subst h
    rw [cpB, if_pos (by omega), show 288 * b + n - 288 * b = n by omega]
    simp [upd]
  · simp only [upd, h, if_false, cpB]
    by_cases c : 288 * b ≤ j ∧ j < 288 * b + n
    · rw [if_pos c, if_pos (by omega)]
    · rw [if_neg c, if_neg (by omega)]
theorem cpB_r (f : Nat → Int32) {a b n : Nat} (h : a ≠ b) (hn : n < 288) : cpB f a b n (288 * a + n) = f (288 * a + n) := by
  rw [cpB, if_neg (by omega)]
set_option maxRecDepth 100000 in
set_option maxHeartbeats 4000000 in
theorem s_X5_copies {v : EE} {σ : SS} {a d : Nat} (ha : a < 4) (hd : d < 4) (hab : a ≠ d) : S1 v M_X5_copies [.ref (v.1 40), .int (nI a), .int (nI d)] σ none (sF σ 50 (cpB (σ.1 50) a d 288)) := by
  refine Sp.of rfl (by decide) rfl (Nat.le_of_ble_eq_true rfl) ?_
  show V v M_X5_copies _ 0 [(0, .ref (v.1 40)), (1, .int (nI a)), (2, .int (nI d))] [] σ
  refine v_iconst (x := nI 0) dX5_copies_0 (by decide +kernel) ?_
  refine v_istore_n (L' := [(3, _), (0, _), (1, _), (2, _)]) dX5_copies_1 rfl (by decide) rfl ?_
  refine v_st (σ' := sF σ 50 (cpB (σ.1 50) a d 0)) (by rw [cpB_0, sF_self]) ?_
  refine v_sub [1, 2, 3, 0] rfl ?_
  refine loopN (fun i => V v M_X5_copies (zR v M_X5_copies (fun r' σ' => r' = none ∧ σ' = (sF σ 50 (cpB (σ.1 50) a d 288)))) 2 [(0, .ref (v.1 40)), (1, .int (nI a)), (2, .int (nI d)), (3, .int (nI i))] [] (sF σ 50 (cpB (σ.1 50) a d i))) 288 ?_ ?_
  · intro i hi ih
    refine v_iload_n dX5_copies_2 rfl ?_
    refine v_sipush (x := nI 288) dX5_copies_3 (by decide +kernel) ?_
    refine n_icmp_ge (tgt := 39) dX5_copies_6 (by decide) (by omega) (by omega) (fun c6 => absurd c6 (by omega)) (fun c6 => ?_)
    refine v_aload_n dX5_copies_9 rfl ?_
    refine v_get (j := 12) iO40 rfl dX5_copies_10 (by decide) in_X5_copies_X5 fl_X5_copies_38 rfl ?_
    refine v_sipush (x := nI 288) dX5_copies_13 (by decide +kernel) ?_
    refine v_iload_n dX5_copies_16 rfl ?_
    refine n_imul dX5_copies_17 ?_
    refine v_iload_n dX5_copies_18 rfl ?_
    refine n_iadd dX5_copies_19 ?_
    refine v_aload_n dX5_copies_20 rfl ?_
    refine v_get (j := 12) iO40 rfl dX5_copies_21 (by decide) in_X5_copies_X5 fl_X5_copies_38 rfl ?_
    refine v_sipush (x := nI 288) dX5_copies_24 (by decide +kernel) ?_
    refine v_iload_n dX5_copies_27 rfl ?_
    refine n_imul dX5_copies_28 ?_
    refine v_iload_n dX5_copies_29 rfl ?_
    refine n_iadd dX5_copies_30 ?_
    refine v_ialdN (288 * a + i) iI50 dX5_copies_31 rfl (by omega) (by decide) ?_
    refine v_top (y := σ.1 50 (288 * a + i)) (by rw [sF_row, cpB_r _ hab hi]) ?_
    refine v_iastN (288 * d + i) iI50 dX5_copies_32 rfl (by omega) (by decide) ?_
    refine v_st (σ' := sF σ 50 (cpB (σ.1 50) a d (i + 1))) (by rw [sI_sF, cpB_s]) ?_
    refine n_iinc (n := 1) (L' := [(3, _), (0, _), (1, _), (2, _)]) dX5_copies_33 rfl (by decide) rfl ?_
    refine v_goto (tgt := 2) dX5_copies_36 (by decide) ?_
    refine v_sub [1, 2, 3, 0] rfl ?_
    exact ih
  · refine v_iload_n dX5_copies_2 rfl ?_
    refine v_sipush (x := nI 288) dX5_copies_3 (by decide +kernel) ?_
    refine n_icmp_ge (tgt := 39) dX5_copies_6 (by decide) (by omega) (by omega) (fun c6 => ?_) (fun c6 => absurd c6 (by omega))
    exact v_vret rfl dX5_copies_39 ⟨rfl, rfl⟩
def okL (k j : Nat) : Prop := (k = 45 ∧ j < 48) ∨ (k = 43 ∧ j < 32) ∨ (k = 48 ∧ j < 10) ∨ (k = 46 ∧ j < 6) ∨ ((k = 42 ∨ k = 44 ∨ k = 47 ∨ k = 49) ∧ j = 0)
def I2 (σ : SS) (i : Nat) (τ : SS) : Prop := (∀ k j, ¬ okL k j → τ.1 k j = σ.1 k j) ∧ τ.2 = σ.2 ∧ (τ.1 42 0 = σ.1 42 1 ∧ τ.1 44 0 = σ.1 44 1 ∧ τ.1 47 0 = σ.1 47 1 ∧ τ.1 49 0 = σ.1 49 1) ∧ ∀ j, j < i → τ.1 45 j = σ.1 45 (48 + j) ∧ (j < 32 → τ.1 43 j = σ.1 43 (32 + j)) ∧ (j < 10 → τ.1 48 j = σ.1 48 (10 + j)) ∧ (j < 6 → τ.1 46 j = σ.1 46 (6 + j))
theorem okL_si {σ τ : SS} (h : ∀ k j, ¬ okL k j → τ.1 k j = σ.1 k j) {k j : Nat} (ho : okL k j) (x : Int32) : ∀ k' j', ¬ okL k' j' → (sI τ k j x).1 k' j' = σ.1 k' j' := by
  intro a i ha
  rw [← h a i ha]
  refine sI_ne τ x ?_
  by_cases e : a = k
  · right; intro e2; exact ha (by rw [e, e2]; exact ho)
  · exact Or.inl e
theorem I2.z {σ : SS} : I2 σ 0 (sI (sI (sI (sI σ 42 0 (σ.1 42 1)) 44 0 (σ.1 44 1)) 47 0 (σ.1 47 1)) 49 0 (σ.1 49 1)) := by
  refine ⟨okL_si (okL_si (okL_si (okL_si (fun _ _ _ => rfl) (by unfold okL; omega) _) (by unfold okL; omega) _) (by unfold okL; omega) _) (by unfold okL; omega) _, rfl, ⟨?_, ?_, ?_, ?_⟩, fun j hj => absurd hj (Nat.not_lt_zero j)⟩ <;> simp [sI, upd]
/-- one store of the copying, and what it means -/
theorem I2.s {σ τ υ : SS} {i : Nat} (h : I2 σ i τ) (h1 : ∀ k j, ¬ okL k j → υ.1 k j = σ.1 k j) (h2 : υ.2 = σ.2) (h3 : ∀ k j, (k = 42 ∨ k = 44 ∨ k = 47 ∨ k = 49 ∨ j ≠ i) → υ.1 k j = τ.1 k j) (h4 : υ.1 45 i = σ.1 45 (48 + i) ∧ (i < 32 → υ.1 43 i = σ.1 43 (32 + i)) ∧ (i < 10 → υ.1 48 i = σ.1 48 (10 + i)) ∧ (i < 6 → υ.1 46 i = σ.1 46 (6 + i))) : I2 σ (i + 1) υ := by
  obtain ⟨-, -, ⟨g3, g4, g5, g6⟩, g7⟩ := h
  refine ⟨h1, h2, ⟨by rw [h3 _ _ (by omega)]; exact g3, by rw [h3 _ _ (by omega)]; exact g4, by rw [h3 _ _ (by omega)]; exact g5, by rw [h3 _ _ (by omega)]; exact g6⟩, fun j hj => ?_⟩
  by_cases e : j = i
  · rw [e]; exact h4
  · rw [h3 _ _ (by omega), h3 _ _ (by omega), h3 _ _ (by omega), h3 _ _ (by omega)]; exact g7 j (by omega)
theorem I2.rm {s : AS} {σ τ : SS} {w : WD} (hr : RM s σ) (hv : WV 50000 w) (hm : MH 1 w σ) (h : I2 σ 48 τ) {x : Int32} (hx : x = nI 0) : RM (aU s, aL s, w, 0, aX s) (sI (sF τ 50 (cpB (τ.1 50) 3 0 288)) 40 11 x) ∧ FM σ (sI (sF τ 50 (cpB (τ.1 50) 3 0 288)) 40 11 x) := by
  subst hx
  have hS := wv_S hv
  have hC := wv_C hv
  have hN := wv_N hv
  obtain ⟨h1, h2, ⟨g3, g4, g5, g6⟩, h4⟩ := h
  obtain ⟨⟨m1, m2, m3, m4⟩, m5, m6, m7, m8, m9⟩ := hm
  have e : ∀ k, k ≠ 40 → k ≠ 50 → (sI (sF τ 50 (cpB (τ.1 50) 3 0 288)) 40 11 (nI 0)).1 k = τ.1 k := fun k a b => by rw [sI_row _ _ a, sF_ne _ b]
  refine ⟨⟨⟨?_, hr.1.2.1, fun j hj => ?_⟩, ⟨⟨?_, ?_, ?_, ?_⟩, fun k hk => ?_, fun k hk => ?_, fun j hj => ?_, fun p hp => ?_, fun m hm => ?_⟩, ⟨sI_at _ _ _ _, Nat.zero_le _⟩, fun i j hi hj => absurd hi (Nat.not_lt_zero i)⟩, fun a ha => ?_, by show τ.2.2 = _; rw [h2]⟩
  · rw [sI_ne _ _ (by omega), sF_ne _ (by decide), h1 40 0 (by unfold okL; omega)]; exact hr.1.1
  · rw [e 41 (by decide) (by decide), h1 41 j (by unfold okL; omega)]; exact hr.1.2.2 j hj
  · rw [e 42 (by decide) (by decide), g3]; exact m1
  · rw [e 44 (by decide) (by decide), g4]; exact m2
  · rw [e 47 (by decide) (by decide), g5]; exact m3
  · rw [e 49 (by decide) (by decide), g6]; exact m4
  · have hk : k < wS w := hk
    rw [e 43 (by decide) (by decide)]
    have a1 := (h4 (2 * k) (by omega)).2.1 (by omega)
    have a2 := (h4 (2 * k + 1) (by omega)).2.1 (by omega)
    rw [show 32 * 0 + 2 * k = 2 * k by omega, a1, a2]
    exact m5 k hk
  · have hk : k < wC w := hk
    rw [e 45 (by decide) (by decide)]
    have a1 := (h4 (3 * k) (by omega)).1
    have a2 := (h4 (3 * k + 1) (by omega)).1
    have a3 := (h4 (3 * k + 2) (by omega)).1
    rw [show 48 * 0 + 3 * k = 3 * k by omega, a1, a2, a3]
    exact m6 k hk
  · rw [sI_row _ _ (by decide), sF_row, cpB, if_pos (by omega), h1 50 _ (by unfold okL; omega), show 288 * 3 + (864 * 0 + j - 288 * 0) = 864 * 1 + j by omega]
    exact m7 j hj
  · rw [e 46 (by decide) (by decide), show 6 * 0 + p = p by omega, (h4 p (by omega)).2.2.2 hp]
    exact m8 p hp
  · have hm : m < wN w := hm
    rw [e 48 (by decide) (by decide), show 10 * 0 + m = m by omega, (h4 m (by omega)).2.2.1 (by omega)]
    exact m9 m hm
  · funext j
    rw [e a (by omega) (by omega), h1 a j (by unfold okL; omega)]
set_option maxRecDepth 100000 in
set_option maxHeartbeats 4000000 in
theorem s_X5_lay {v : EE} {s : AS} {σ : SS} (hr : RM s σ) (hb9 : wS (aW s) ≤ 16 ∧ wC (aW s) ≤ 16 ∧ wN (aW s) ≤ 10) : SR v M_X5_lay [.ref (v.1 40)] σ (some (.int (q_lay s).1)) (fun σ' => RM (q_lay s).2 σ' ∧ FM σ σ') := by
  refine Sp.of rfl (by decide) rfl (Nat.le_of_ble_eq_true rfl) ?_
  show V v M_X5_lay _ 0 [(0, .ref (v.1 40))] [] σ
  refine v_aload_n dX5_lay_0 rfl ?_
  refine v_callVRi (M' := M_X5_fault) (As := []) iO40 (s_X5_fault hr.1) dX5_lay_1 gX5_lay_X5_fault rfl rfl nn_X5_fault ⟨rfl, rfl⟩ ⟨by decide, by decide⟩ rfl rfl (Nat.le_of_ble_eq_true rfl) (fun s1 h1 => ?_)
  have hr1 := h1.1.rm hr hb9
  refine v_bipush (x := (-4)) dX5_lay_4 (by decide +kernel) ?_
  refine v_icmp_eq (tgt := 12) dX5_lay_6 (by decide) (fun c6 => ?_) (fun c6 => ?_)
  · obtain ⟨w, hw9⟩ := (tlA_m4 hr.1.2.1).mp c6
    have hc9 := h1.2 w hw9
    refine v_aload_n dX5_lay_12 rfl ?_
    refine v_get (j := 3) iO40 rfl dX5_lay_13 (by decide) in_X5_lay_X5 fl_X5_lay_13 rfl ?_
    refine v_iconst (x := nI 0) dX5_lay_16 (by decide +kernel) ?_
    refine v_aload_n dX5_lay_17 rfl ?_
    refine v_get (j := 3) iO40 rfl dX5_lay_18 (by decide) in_X5_lay_X5 fl_X5_lay_13 rfl ?_
    refine v_iconst (x := nI 1) dX5_lay_21 (by decide +kernel) ?_
    refine v_ialdN 1 iI42 dX5_lay_22 rfl (by decide) (by decide) ?_
    refine v_top (y := s1.1 42 1) (rfl) ?_
    refine v_iastN 0 iI42 dX5_lay_23 rfl (by decide) (by decide) ?_
    refine v_aload_n dX5_lay_24 rfl ?_
    refine v_get (j := 5) iO40 rfl dX5_lay_25 (by decide) in_X5_lay_X5 fl_X5_lay_20 rfl ?_
    refine v_iconst (x := nI 0) dX5_lay_28 (by decide +kernel) ?_
    refine v_aload_n dX5_lay_29 rfl ?_
    refine v_get (j := 5) iO40 rfl dX5_lay_30 (by decide) in_X5_lay_X5 fl_X5_lay_20 rfl ?_
    refine v_iconst (x := nI 1) dX5_lay_33 (by decide +kernel) ?_
    refine v_ialdN 1 iI44 dX5_lay_34 rfl (by decide) (by decide) ?_
    refine v_top (y := s1.1 44 1) ((sI_ne _ _ (by omega))) ?_
    refine v_iastN 0 iI44 dX5_lay_35 rfl (by decide) (by decide) ?_
    refine v_aload_n dX5_lay_36 rfl ?_
    refine v_get (j := 8) iO40 rfl dX5_lay_37 (by decide) in_X5_lay_X5 fl_X5_lay_29 rfl ?_
    refine v_iconst (x := nI 0) dX5_lay_40 (by decide +kernel) ?_
    refine v_aload_n dX5_lay_41 rfl ?_
    refine v_get (j := 8) iO40 rfl dX5_lay_42 (by decide) in_X5_lay_X5 fl_X5_lay_29 rfl ?_
    refine v_iconst (x := nI 1) dX5_lay_45 (by decide +kernel) ?_
    refine v_ialdN 1 iI47 dX5_lay_46 rfl (by decide) (by decide) ?_
    refine v_top (y := s1.1 47 1) ((sI_ne _ _ (by omega)).trans ((sI_ne _ _ (by omega)))) ?_
    refine v_iastN 0 iI47 dX5_lay_47 rfl (by decide) (by decide) ?_
    refine v_aload_n dX5_lay_48 rfl ?_
    refine v_get (j := 10) iO40 rfl dX5_lay_49 (by decide) in_X5_lay_X5 fl_X5_lay_35 rfl ?_
    refine v_iconst (x := nI 0) dX5_lay_52 (by decide +kernel) ?_
    refine v_aload_n dX5_lay_53 rfl ?_
    refine v_get (j := 10) iO40 rfl dX5_lay_54 (by decide) in_X5_lay_X5 fl_X5_lay_35 rfl ?_
    refine v_iconst (x := nI 1) dX5_lay_57 (by decide +kernel) ?_
    refine v_ialdN 1 iI49 dX5_lay_58 rfl (by decide) (by decide) ?_
    refine v_top (y := s1.1 49 1) ((sI_ne _ _ (by omega)).trans ((sI_ne _ _ (by omega)).trans ((sI_ne _ _ (by omega))))) ?_
    refine v_iastN 0 iI49 dX5_lay_59 rfl (by decide) (by decide) ?_
    refine v_iconst (x := nI 0) dX5_lay_60 (by decide +kernel) ?_
    refine v_istore_n (L' := [(1, _), (0, _)]) dX5_lay_61 rfl (by decide) rfl ?_
    refine v_sub [1, 0] rfl ?_
    refine loopN (fun i => ∀ τ : SS, I2 s1 i τ → V v M_X5_lay (zR v M_X5_lay (fun r' σ' => r' = (some (.int (q_lay s).1)) ∧ (RM (q_lay s).2 σ' ∧ FM σ σ'))) 62 [(0, .ref (v.1 40)), (1, .int (nI i))] [] τ) 48 ?_ ?_ _ I2.z
    · intro i hi ih τ hinv
      refine v_iload_n dX5_lay_62 rfl ?_
      refine v_bipush (x := nI 48) dX5_lay_63 (by decide +kernel) ?_
      refine n_icmp_ge (tgt := 152) dX5_lay_65 (by decide) (by omega) (by omega) (fun c65 => absurd c65 (by omega)) (fun c65 => ?_)
      refine v_aload_n dX5_lay_68 rfl ?_
      refine v_get (j := 6) iO40 rfl dX5_lay_69 (by decide) in_X5_lay_X5 fl_X5_lay_23 rfl ?_
      refine v_iload_n dX5_lay_72 rfl ?_
      refine v_aload_n dX5_lay_73 rfl ?_
      refine v_get (j := 6) iO40 rfl dX5_lay_74 (by decide) in_X5_lay_X5 fl_X5_lay_23 rfl ?_
      refine v_bipush (x := nI 48) dX5_lay_77 (by decide +kernel) ?_
      refine v_iload_n dX5_lay_79 rfl ?_
      refine n_iadd dX5_lay_80 ?_
      refine v_ialdN (48 + i) iI45 dX5_lay_81 rfl (by omega) (by decide) ?_
      refine v_top (y := s1.1 45 (48 + i)) (hinv.1 45 (48 + i) (by unfold okL; omega)) ?_
      refine v_iastN i iI45 dX5_lay_82 rfl (by omega) (by decide) ?_
      refine v_iload_n dX5_lay_83 rfl ?_
      refine v_bipush (x := nI 32) dX5_lay_84 (by decide +kernel) ?_
      refine n_icmp_ge (tgt := 104) dX5_lay_86 (by decide) (by omega) (by omega) (fun c86 => ?_) (fun c86 => ?_)
      · refine v_iload_n dX5_lay_104 rfl ?_
        refine v_bipush (x := nI 10) dX5_lay_105 (by decide +kernel) ?_
        refine n_icmp_ge (tgt := 125) dX5_lay_107 (by decide) (by omega) (by omega) (fun c107 => ?_) (fun c107 => absurd c107 (by omega))
        refine v_iload_n dX5_lay_125 rfl ?_
        refine v_bipush (x := nI 6) dX5_lay_126 (by decide +kernel) ?_
        refine n_icmp_ge (tgt := 146) dX5_lay_128 (by decide) (by omega) (by omega) (fun c128 => ?_) (fun c128 => absurd c128 (by omega))
        refine n_iinc (n := 1) (L' := [(1, _), (0, _)]) dX5_lay_146 rfl (by decide) rfl ?_
        refine v_goto (tgt := 62) dX5_lay_149 (by decide) ?_
        refine v_sub [1, 0] rfl ?_
        first | (exact ih _ (hinv.s (okL_si hinv.1 (by unfold okL; omega) _) hinv.2.1 (fun k j hk => by rw [sI_ne _ _ (by omega)]) ⟨by simp [sI, upd], fun h9 => by first | (simp [sI, upd]; done) | omega, fun h9 => by first | (simp [sI, upd]; done) | omega, fun h9 => by first | (simp [sI, upd]; done) | omega⟩)) | (exact ih _ (hinv.s (okL_si (okL_si hinv.1 (by unfold okL; omega) _) (by unfold okL; omega) _) hinv.2.1 (fun k j hk => by rw [sI_ne _ _ (by omega), sI_ne _ _ (by omega)]) ⟨by simp [sI, upd], fun h9 => by first | (simp [sI, upd]; done) | omega, fun h9 => by first | (simp [sI, upd]; done) | omega, fun h9 => by first | (simp [sI, upd]; done) | omega⟩)) | (exact ih _ (hinv.s (okL_si (okL_si (okL_si hinv.1 (by unfold okL; omega) _) (by unfold okL; omega) _) (by unfold okL; omega) _) hinv.2.1 (fun k j hk => by rw [sI_ne _ _ (by omega), sI_ne _ _ (by omega), sI_ne _ _ (by omega)]) ⟨by simp [sI, upd], fun h9 => by first | (simp [sI, upd]; done) | omega, fun h9 => by first | (simp [sI, upd]; done) | omega, fun h9 => by first | (simp [sI, upd]; done) | omega⟩)) | (exact ih _ (hinv.s (okL_si (okL_si (okL_si (okL_si hinv.1 (by unfold okL; omega) _) (by unfold okL; omega) _) (by unfold okL; omega) _) (by unfold okL; omega) _) hinv.2.1 (fun k j hk => by rw [sI_ne _ _ (by omega), sI_ne _ _ (by omega), sI_ne _ _ (by omega), sI_ne _ _ (by omega)]) ⟨by simp [sI, upd], fun h9 => by first | (simp [sI, upd]; done) | omega, fun h9 => by first | (simp [sI, upd]; done) | omega, fun h9 => by first | (simp [sI, upd]; done) | omega⟩))
      · refine v_aload_n dX5_lay_89 rfl ?_
        refine v_get (j := 4) iO40 rfl dX5_lay_90 (by decide) in_X5_lay_X5 fl_X5_lay_17 rfl ?_
        refine v_iload_n dX5_lay_93 rfl ?_
        refine v_aload_n dX5_lay_94 rfl ?_
        refine v_get (j := 4) iO40 rfl dX5_lay_95 (by decide) in_X5_lay_X5 fl_X5_lay_17 rfl ?_
        refine v_bipush (x := nI 32) dX5_lay_98 (by decide +kernel) ?_
        refine v_iload_n dX5_lay_100 rfl ?_
        refine n_iadd dX5_lay_101 ?_
        refine v_ialdN (32 + i) iI43 dX5_lay_102 rfl (by omega) (by decide) ?_
        refine v_top (y := s1.1 43 (32 + i)) ((sI_ne _ _ (by omega)).trans (hinv.1 43 (32 + i) (by unfold okL; omega))) ?_
        refine v_iastN i iI43 dX5_lay_103 rfl (by omega) (by decide) ?_
        refine v_iload_n dX5_lay_104 rfl ?_
        refine v_bipush (x := nI 10) dX5_lay_105 (by decide +kernel) ?_
        refine n_icmp_ge (tgt := 125) dX5_lay_107 (by decide) (by omega) (by omega) (fun c107 => ?_) (fun c107 => ?_)
        · refine v_iload_n dX5_lay_125 rfl ?_
          refine v_bipush (x := nI 6) dX5_lay_126 (by decide +kernel) ?_
          refine n_icmp_ge (tgt := 146) dX5_lay_128 (by decide) (by omega) (by omega) (fun c128 => ?_) (fun c128 => absurd c128 (by omega))
          refine n_iinc (n := 1) (L' := [(1, _), (0, _)]) dX5_lay_146 rfl (by decide) rfl ?_
          refine v_goto (tgt := 62) dX5_lay_149 (by decide) ?_
          refine v_sub [1, 0] rfl ?_
          first | (exact ih _ (hinv.s (okL_si hinv.1 (by unfold okL; omega) _) hinv.2.1 (fun k j hk => by rw [sI_ne _ _ (by omega)]) ⟨by simp [sI, upd], fun h9 => by first | (simp [sI, upd]; done) | omega, fun h9 => by first | (simp [sI, upd]; done) | omega, fun h9 => by first | (simp [sI, upd]; done) | omega⟩)) | (exact ih _ (hinv.s (okL_si (okL_si hinv.1 (by unfold okL; omega) _) (by unfold okL; omega) _) hinv.2.1 (fun k j hk => by rw [sI_ne _ _ (by omega), sI_ne _ _ (by omega)]) ⟨by simp [sI, upd], fun h9 => by first | (simp [sI, upd]; done) | omega, fun h9 => by first | (simp [sI, upd]; done) | omega, fun h9 => by first | (simp [sI, upd]; done) | omega⟩)) | (exact ih _ (hinv.s (okL_si (okL_si (okL_si hinv.1 (by unfold okL; omega) _) (by unfold okL; omega) _) (by unfold okL; omega) _) hinv.2.1 (fun k j hk => by rw [sI_ne _ _ (by omega), sI_ne _ _ (by omega), sI_ne _ _ (by omega)]) ⟨by simp [sI, upd], fun h9 => by first | (simp [sI, upd]; done) | omega, fun h9 => by first | (simp [sI, upd]; done) | omega, fun h9 => by first | (simp [sI, upd]; done) | omega⟩)) | (exact ih _ (hinv.s (okL_si (okL_si (okL_si (okL_si hinv.1 (by unfold okL; omega) _) (by unfold okL; omega) _) (by unfold okL; omega) _) (by unfold okL; omega) _) hinv.2.1 (fun k j hk => by rw [sI_ne _ _ (by omega), sI_ne _ _ (by omega), sI_ne _ _ (by omega), sI_ne _ _ (by omega)]) ⟨by simp [sI, upd], fun h9 => by first | (simp [sI, upd]; done) | omega, fun h9 => by first | (simp [sI, upd]; done) | omega, fun h9 => by first | (simp [sI, upd]; done) | omega⟩))
        · refine v_aload_n dX5_lay_110 rfl ?_
          refine v_get (j := 9) iO40 rfl dX5_lay_111 (by decide) in_X5_lay_X5 fl_X5_lay_32 rfl ?_
          refine v_iload_n dX5_lay_114 rfl ?_
          refine v_aload_n dX5_lay_115 rfl ?_
          refine v_get (j := 9) iO40 rfl dX5_lay_116 (by decide) in_X5_lay_X5 fl_X5_lay_32 rfl ?_
          refine v_bipush (x := nI 10) dX5_lay_119 (by decide +kernel) ?_
          refine v_iload_n dX5_lay_121 rfl ?_
          refine n_iadd dX5_lay_122 ?_
          refine v_ialdN (10 + i) iI48 dX5_lay_123 rfl (by omega) (by decide) ?_
          refine v_top (y := s1.1 48 (10 + i)) ((sI_ne _ _ (by omega)).trans ((sI_ne _ _ (by omega)).trans (hinv.1 48 (10 + i) (by unfold okL; omega)))) ?_
          refine v_iastN i iI48 dX5_lay_124 rfl (by omega) (by decide) ?_
          refine v_iload_n dX5_lay_125 rfl ?_
          refine v_bipush (x := nI 6) dX5_lay_126 (by decide +kernel) ?_
          refine n_icmp_ge (tgt := 146) dX5_lay_128 (by decide) (by omega) (by omega) (fun c128 => ?_) (fun c128 => ?_)
          · refine n_iinc (n := 1) (L' := [(1, _), (0, _)]) dX5_lay_146 rfl (by decide) rfl ?_
            refine v_goto (tgt := 62) dX5_lay_149 (by decide) ?_
            refine v_sub [1, 0] rfl ?_
            first | (exact ih _ (hinv.s (okL_si hinv.1 (by unfold okL; omega) _) hinv.2.1 (fun k j hk => by rw [sI_ne _ _ (by omega)]) ⟨by simp [sI, upd], fun h9 => by first | (simp [sI, upd]; done) | omega, fun h9 => by first | (simp [sI, upd]; done) | omega, fun h9 => by first | (simp [sI, upd]; done) | omega⟩)) | (exact ih _ (hinv.s (okL_si (okL_si hinv.1 (by unfold okL; omega) _) (by unfold okL; omega) _) hinv.2.1 (fun k j hk => by rw [sI_ne _ _ (by omega), sI_ne _ _ (by omega)]) ⟨by simp [sI, upd], fun h9 => by first | (simp [sI, upd]; done) | omega, fun h9 => by first | (simp [sI, upd]; done) | omega, fun h9 => by first | (simp [sI, upd]; done) | omega⟩)) | (exact ih _ (hinv.s (okL_si (okL_si (okL_si hinv.1 (by unfold okL; omega) _) (by unfold okL; omega) _) (by unfold okL; omega) _) hinv.2.1 (fun k j hk => by rw [sI_ne _ _ (by omega), sI_ne _ _ (by omega), sI_ne _ _ (by omega)]) ⟨by simp [sI, upd], fun h9 => by first | (simp [sI, upd]; done) | omega, fun h9 => by first | (simp [sI, upd]; done) | omega, fun h9 => by first | (simp [sI, upd]; done) | omega⟩)) | (exact ih _ (hinv.s (okL_si (okL_si (okL_si (okL_si hinv.1 (by unfold okL; omega) _) (by unfold okL; omega) _) (by unfold okL; omega) _) (by unfold okL; omega) _) hinv.2.1 (fun k j hk => by rw [sI_ne _ _ (by omega), sI_ne _ _ (by omega), sI_ne _ _ (by omega), sI_ne _ _ (by omega)]) ⟨by simp [sI, upd], fun h9 => by first | (simp [sI, upd]; done) | omega, fun h9 => by first | (simp [sI, upd]; done) | omega, fun h9 => by first | (simp [sI, upd]; done) | omega⟩))
          · refine v_aload_n dX5_lay_131 rfl ?_
            refine v_get (j := 7) iO40 rfl dX5_lay_132 (by decide) in_X5_lay_X5 fl_X5_lay_26 rfl ?_
            refine v_iload_n dX5_lay_135 rfl ?_
            refine v_aload_n dX5_lay_136 rfl ?_
            refine v_get (j := 7) iO40 rfl dX5_lay_137 (by decide) in_X5_lay_X5 fl_X5_lay_26 rfl ?_
            refine v_bipush (x := nI 6) dX5_lay_140 (by decide +kernel) ?_
            refine v_iload_n dX5_lay_142 rfl ?_
            refine n_iadd dX5_lay_143 ?_
            refine v_ialdN (6 + i) iI46 dX5_lay_144 rfl (by omega) (by decide) ?_
            refine v_top (y := s1.1 46 (6 + i)) ((sI_ne _ _ (by omega)).trans ((sI_ne _ _ (by omega)).trans ((sI_ne _ _ (by omega)).trans (hinv.1 46 (6 + i) (by unfold okL; omega))))) ?_
            refine v_iastN i iI46 dX5_lay_145 rfl (by omega) (by decide) ?_
            refine n_iinc (n := 1) (L' := [(1, _), (0, _)]) dX5_lay_146 rfl (by decide) rfl ?_
            refine v_goto (tgt := 62) dX5_lay_149 (by decide) ?_
            refine v_sub [1, 0] rfl ?_
            first | (exact ih _ (hinv.s (okL_si hinv.1 (by unfold okL; omega) _) hinv.2.1 (fun k j hk => by rw [sI_ne _ _ (by omega)]) ⟨by simp [sI, upd], fun h9 => by first | (simp [sI, upd]; done) | omega, fun h9 => by first | (simp [sI, upd]; done) | omega, fun h9 => by first | (simp [sI, upd]; done) | omega⟩)) | (exact ih _ (hinv.s (okL_si (okL_si hinv.1 (by unfold okL; omega) _) (by unfold okL; omega) _) hinv.2.1 (fun k j hk => by rw [sI_ne _ _ (by omega), sI_ne _ _ (by omega)]) ⟨by simp [sI, upd], fun h9 => by first | (simp [sI, upd]; done) | omega, fun h9 => by first | (simp [sI, upd]; done) | omega, fun h9 => by first | (simp [sI, upd]; done) | omega⟩)) | (exact ih _ (hinv.s (okL_si (okL_si (okL_si hinv.1 (by unfold okL; omega) _) (by unfold okL; omega) _) (by unfold okL; omega) _) hinv.2.1 (fun k j hk => by rw [sI_ne _ _ (by omega), sI_ne _ _ (by omega), sI_ne _ _ (by omega)]) ⟨by simp [sI, upd], fun h9 => by first | (simp [sI, upd]; done) | omega, fun h9 => by first | (simp [sI, upd]; done) | omega, fun h9 => by first | (simp [sI, upd]; done) | omega⟩)) | (exact ih _ (hinv.s (okL_si (okL_si (okL_si (okL_si hinv.1 (by unfold okL; omega) _) (by unfold okL; omega) _) (by unfold okL; omega) _) (by unfold okL; omega) _) hinv.2.1 (fun k j hk => by rw [sI_ne _ _ (by omega), sI_ne _ _ (by omega), sI_ne _ _ (by omega), sI_ne _ _ (by omega)]) ⟨by simp [sI, upd], fun h9 => by first | (simp [sI, upd]; done) | omega, fun h9 => by first | (simp [sI, upd]; done) | omega, fun h9 => by first | (simp [sI, upd]; done) | omega⟩))
    · intro τ hinv
      refine v_iload_n dX5_lay_62 rfl ?_
      refine v_bipush (x := nI 48) dX5_lay_63 (by decide +kernel) ?_
      refine n_icmp_ge (tgt := 152) dX5_lay_65 (by decide) (by omega) (by omega) (fun c65 => ?_) (fun c65 => absurd c65 (by omega))
      refine v_aload_n dX5_lay_152 rfl ?_
      refine v_iconst (x := nI 3) dX5_lay_153 (by decide +kernel) ?_
      refine v_iconst (x := nI 0) dX5_lay_154 (by decide +kernel) ?_
      refine v_callVv (M' := M_X5_copies) (As := [_, _]) iO40 (s_X5_copies (a := 3) (d := 0) (by decide) (by decide) (by decide)) dX5_lay_155 gX5_lay_X5_copies rfl rfl nn_X5_copies ⟨rfl, rfl⟩ ⟨by decide, by decide⟩ rfl rfl (Nat.le_of_ble_eq_true rfl) ?_
      refine v_aload_n dX5_lay_158 rfl ?_
      refine v_iconst (x := nI 0) dX5_lay_159 (by decide +kernel) ?_
      refine pX5_11 dX5_lay_160 in_X5_lay_X5 fl_X5_lay_137 ?_
      refine v_aload_n dX5_lay_163 rfl ?_
      refine v_get (j := 5) iO40 rfl dX5_lay_164 (by decide) in_X5_lay_X5 fl_X5_lay_20 rfl ?_
      refine v_iconst (x := nI 0) dX5_lay_167 (by decide +kernel) ?_
      refine v_ialdN 0 iI44 dX5_lay_168 rfl (by decide) (by decide) ?_
      refine v_top (y := nI (wC w)) (by rw [sI_row _ _ (by decide), sF_ne _ (by decide), hinv.2.2.1.2.1]; exact m1_C hc9) ?_
      exact v_iret rfl dX5_lay_169 ⟨by rw [q_lay, hw9], by rw [q_lay, hw9]; exact (I2.rm hr1 (tell_wv hw9) hc9 hinv rfl).1, by have q9 := (I2.rm hr1 (tell_wv hw9) hc9 hinv rfl).2; exact ⟨fun a ha => (q9.1 a ha).trans (h1.1.fm.1 a ha), q9.2.trans h1.1.fm.2⟩⟩
  · have hf9 : ∃ p, tell (aU s) (aL s) = .inl p := by cases h : tell (aU s) (aL s) with | inl p => exact ⟨p, rfl⟩ | inr w => exact absurd ((tlA_m4 hr.1.2.1).mpr ⟨w, h⟩) c6
    refine v_bipush (x := (-2)) dX5_lay_9 (by decide +kernel) ?_
    exact v_iret rfl dX5_lay_11 ⟨by rw [q_lay, show tell (aU s) (aL s) = .inl _ from hf9.choose_spec], by rw [q_lay, show tell (aU s) (aL s) = .inl _ from hf9.choose_spec]; exact hr1, h1.1.fm⟩
