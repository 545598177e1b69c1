theorem in_X5_isItem_X5 : ∀ w ∈ u_ws RX5 TX5 29, w ∈ mWs M_X5_isItem := by decide +kernel
theorem in_X5_number_X5 : ∀ w ∈ u_ws RX5 TX5 29, w ∈ mWs M_X5_number := by decide +kernel
theorem fl_X5_isItem_7 : Cond.fieldLink (mOwn M_X5_isItem) 7 (TX5 1).1 (TX5 1).2.1 (TX5 1).2.2.1 ∈ mWs M_X5_isItem := by decide +kernel
theorem fl_X5_isItem_69 : Cond.fieldLink (mOwn M_X5_isItem) 69 (TX5 28).1 (TX5 28).2.1 (TX5 28).2.2.1 ∈ mWs M_X5_isItem := by decide +kernel
theorem fl_X5_isItem_78 : Cond.fieldLink (mOwn M_X5_isItem) 78 (TX5 0).1 (TX5 0).2.1 (TX5 0).2.2.1 ∈ mWs M_X5_isItem := by decide +kernel
theorem fl_X5_isItem_82 : Cond.fieldLink (mOwn M_X5_isItem) 82 (TX5 2).1 (TX5 2).2.1 (TX5 2).2.2.1 ∈ mWs M_X5_isItem := by decide +kernel
theorem fl_X5_number_7 : Cond.fieldLink (mOwn M_X5_number) 7 (TX5 1).1 (TX5 1).2.1 (TX5 1).2.2.1 ∈ mWs M_X5_number := by decide +kernel
theorem fl_X5_number_78 : Cond.fieldLink (mOwn M_X5_number) 78 (TX5 0).1 (TX5 0).2.1 (TX5 0).2.2.1 ∈ mWs M_X5_number := by decide +kernel
theorem fl_X5_number_82 : Cond.fieldLink (mOwn M_X5_number) 82 (TX5 2).1 (TX5 2).2.1 (TX5 2).2.2.1 ∈ mWs M_X5_number := by decide +kernel
theorem nn_X5_figures : (mY M_X5_figures).cls ≠ "java/lang/invoke/MethodHandle" ∧ (mY M_X5_figures).cls ≠ "java/lang/invoke/VarHandle" ∧ (parseMethodDescriptor (mY M_X5_figures).desc).map (fun d => d.parameters.length) = some 1 := by decide +kernel
theorem nn_X5_isGood : (mY M_X5_isGood).cls = mOwn M_X5_isGood ∧ (mY M_X5_isGood).cls ≠ "java/lang/invoke/MethodHandle" ∧ (mY M_X5_isGood).cls ≠ "java/lang/invoke/VarHandle" ∧ (parseMethodDescriptor (mY M_X5_isGood).desc).map (fun d => d.parameters.length) = some 1 := by decide +kernel
theorem nn_X5_number : (mY M_X5_number).cls = mOwn M_X5_number ∧ (mY M_X5_number).cls ≠ "java/lang/invoke/MethodHandle" ∧ (mY M_X5_number).cls ≠ "java/lang/invoke/VarHandle" ∧ (parseMethodDescriptor (mY M_X5_number).desc).map (fun d => d.parameters.length) = some 0 := by decide +kernel
set_option maxRecDepth 100000 in
set_option maxHeartbeats 4000000 in
theorem s_X5_figures_103 {v : EE} {σ : SS} : S1 v M_X5_figures [.int (nI 103)] σ (some (.int (nI 2))) (σ) := by
  refine Sp.of rfl (by decide) rfl (Nat.le_of_ble_eq_true rfl) ?_
  show V v M_X5_figures _ 0 [(0, .int (nI 103))] [] σ
  refine v_iload_n dX5_figures_0 rfl ?_
  refine v_bipush (x := nI 99) dX5_figures_1 (by decide +kernel) ?_
  refine n_icmp_eq (tgt := 18) dX5_figures_3 (by decide) (by omega) (by omega) (fun c3 => absurd c3 (by omega)) (fun c3 => ?_)
  refine v_iload_n dX5_figures_6 rfl ?_
  refine v_bipush (x := nI 116) dX5_figures_7 (by decide +kernel) ?_
  refine n_icmp_eq (tgt := 18) dX5_figures_9 (by decide) (by omega) (by omega) (fun c9 => absurd c9 (by omega)) (fun c9 => ?_)
  refine v_iload_n dX5_figures_12 rfl ?_
  refine v_bipush (x := nI 97) dX5_figures_13 (by decide +kernel) ?_
  refine n_icmp_ne (tgt := 22) dX5_figures_15 (by decide) (by omega) (by omega) (fun c15 => ?_) (fun c15 => absurd c15 (by omega))
  refine v_iload_n dX5_figures_22 rfl ?_
  refine v_bipush (x := nI 103) dX5_figures_23 (by decide +kernel) ?_
  refine n_icmp_eq (tgt := 40) dX5_figures_25 (by decide) (by omega) (by omega) (fun c25 => ?_) (fun c25 => absurd c25 (by omega))
  refine v_iconst (x := nI 2) dX5_figures_40 (by decide +kernel) ?_
  refine v_goto (tgt := 55) dX5_figures_41 (by decide) ?_
  exact v_iret rfl dX5_figures_55 ⟨rfl, rfl⟩
set_option maxRecDepth 100000 in
set_option maxHeartbeats 4000000 in
theorem s_X5_figures_99 {v : EE} {σ : SS} : S1 v M_X5_figures [.int (nI 99)] σ (some (.int (nI 3))) (σ) := by
  refine Sp.of rfl (by decide) rfl (Nat.le_of_ble_eq_true rfl) ?_
  show V v M_X5_figures _ 0 [(0, .int (nI 99))] [] σ
  refine v_iload_n dX5_figures_0 rfl ?_
  refine v_bipush (x := nI 99) dX5_figures_1 (by decide +kernel) ?_
  refine n_icmp_eq (tgt := 18) dX5_figures_3 (by decide) (by omega) (by omega) (fun c3 => ?_) (fun c3 => absurd c3 (by omega))
  refine v_iconst (x := nI 3) dX5_figures_18 (by decide +kernel) ?_
  refine v_goto (tgt := 55) dX5_figures_19 (by decide) ?_
  exact v_iret rfl dX5_figures_55 ⟨rfl, rfl⟩
set_option maxRecDepth 100000 in
set_option maxHeartbeats 4000000 in
theorem s_X5_figures_116 {v : EE} {σ : SS} : S1 v M_X5_figures [.int (nI 116)] σ (some (.int (nI 3))) (σ) := by
  refine Sp.of rfl (by decide) rfl (Nat.le_of_ble_eq_true rfl) ?_
  show V v M_X5_figures _ 0 [(0, .int (nI 116))] [] σ
  refine v_iload_n dX5_figures_0 rfl ?_
  refine v_bipush (x := nI 99) dX5_figures_1 (by decide +kernel) ?_
  refine n_icmp_eq (tgt := 18) dX5_figures_3 (by decide) (by omega) (by omega) (fun c3 => absurd c3 (by omega)) (fun c3 => ?_)
  refine v_iload_n dX5_figures_6 rfl ?_
  refine v_bipush (x := nI 116) dX5_figures_7 (by decide +kernel) ?_
  refine n_icmp_eq (tgt := 18) dX5_figures_9 (by decide) (by omega) (by omega) (fun c9 => ?_) (fun c9 => absurd c9 (by omega))
  refine v_iconst (x := nI 3) dX5_figures_18 (by decide +kernel) ?_
  refine v_goto (tgt := 55) dX5_figures_19 (by decide) ?_
  exact v_iret rfl dX5_figures_55 ⟨rfl, rfl⟩
set_option maxRecDepth 100000 in
set_option maxHeartbeats 4000000 in
theorem s_X5_figures_98 {v : EE} {σ : SS} : S1 v M_X5_figures [.int (nI 98)] σ (some (.int (nI 2))) (σ) := by
  refine Sp.of rfl (by decide) rfl (Nat.le_of_ble_eq_true rfl) ?_
  show V v M_X5_figures _ 0 [(0, .int (nI 98))] [] σ
  refine v_iload_n dX5_figures_0 rfl ?_
  refine v_bipush (x := nI 99) dX5_figures_1 (by decide +kernel) ?_
  refine n_icmp_eq (tgt := 18) dX5_figures_3 (by decide) (by omega) (by omega) (fun c3 => absurd c3 (by omega)) (fun c3 => ?_)
  refine v_iload_n dX5_figures_6 rfl ?_
  refine v_bipush (x := nI 116) dX5_figures_7 (by decide +kernel) ?_
  refine n_icmp_eq (tgt := 18) dX5_figures_9 (by decide) (by omega) (by omega) (fun c9 => absurd c9 (by omega)) (fun c9 => ?_)
  refine v_iload_n dX5_figures_12 rfl ?_
  refine v_bipush (x := nI 97) dX5_figures_13 (by decide +kernel) ?_
  refine n_icmp_ne (tgt := 22) dX5_figures_15 (by decide) (by omega) (by omega) (fun c15 => ?_) (fun c15 => absurd c15 (by omega))
  refine v_iload_n dX5_figures_22 rfl ?_
  refine v_bipush (x := nI 103) dX5_figures_23 (by decide +kernel) ?_
  refine n_icmp_eq (tgt := 40) dX5_figures_25 (by decide) (by omega) (by omega) (fun c25 => absurd c25 (by omega)) (fun c25 => ?_)
  refine v_iload_n dX5_figures_28 rfl ?_
  refine v_bipush (x := nI 98) dX5_figures_29 (by decide +kernel) ?_
  refine n_icmp_eq (tgt := 40) dX5_figures_31 (by decide) (by omega) (by omega) (fun c31 => ?_) (fun c31 => absurd c31 (by omega))
  refine v_iconst (x := nI 2) dX5_figures_40 (by decide +kernel) ?_
  refine v_goto (tgt := 55) dX5_figures_41 (by decide) ?_
  exact v_iret rfl dX5_figures_55 ⟨rfl, rfl⟩
set_option maxRecDepth 100000 in
set_option maxHeartbeats 4000000 in
theorem s_X5_figures_110 {v : EE} {σ : SS} : S1 v M_X5_figures [.int (nI 110)] σ (some (.int (nI 2))) (σ) := by
  refine Sp.of rfl (by decide) rfl (Nat.le_of_ble_eq_true rfl) ?_
  show V v M_X5_figures _ 0 [(0, .int (nI 110))] [] σ
  refine v_iload_n dX5_figures_0 rfl ?_
  refine v_bipush (x := nI 99) dX5_figures_1 (by decide +kernel) ?_
  refine n_icmp_eq (tgt := 18) dX5_figures_3 (by decide) (by omega) (by omega) (fun c3 => absurd c3 (by omega)) (fun c3 => ?_)
  refine v_iload_n dX5_figures_6 rfl ?_
  refine v_bipush (x := nI 116) dX5_figures_7 (by decide +kernel) ?_
  refine n_icmp_eq (tgt := 18) dX5_figures_9 (by decide) (by omega) (by omega) (fun c9 => absurd c9 (by omega)) (fun c9 => ?_)
  refine v_iload_n dX5_figures_12 rfl ?_
  refine v_bipush (x := nI 97) dX5_figures_13 (by decide +kernel) ?_
  refine n_icmp_ne (tgt := 22) dX5_figures_15 (by decide) (by omega) (by omega) (fun c15 => ?_) (fun c15 => absurd c15 (by omega))
  refine v_iload_n dX5_figures_22 rfl ?_
  refine v_bipush (x := nI 103) dX5_figures_23 (by decide +kernel) ?_
  refine n_icmp_eq (tgt := 40) dX5_figures_25 (by decide) (by omega) (by omega) (fun c25 => absurd c25 (by omega)) (fun c25 => ?_)
  refine v_iload_n dX5_figures_28 rfl ?_
  refine v_bipush (x := nI 98) dX5_figures_29 (by decide +kernel) ?_
  refine n_icmp_eq (tgt := 40) dX5_figures_31 (by decide) (by omega) (by omega) (fun c31 => absurd c31 (by omega)) (fun c31 => ?_)
  refine v_iload_n dX5_figures_34 rfl ?_
  refine v_bipush (x := nI 110) dX5_figures_35 (by decide +kernel) ?_
  refine n_icmp_ne (tgt := 44) dX5_figures_37 (by decide) (by omega) (by omega) (fun c37 => absurd c37 (by omega)) (fun c37 => ?_)
  refine v_iconst (x := nI 2) dX5_figures_40 (by decide +kernel) ?_
  refine v_goto (tgt := 55) dX5_figures_41 (by decide) ?_
  exact v_iret rfl dX5_figures_55 ⟨rfl, rfl⟩
set_option maxRecDepth 100000 in
set_option maxHeartbeats 4000000 in
theorem s_X5_figures_97 {v : EE} {σ : SS} : S1 v M_X5_figures [.int (nI 97)] σ (some (.int (nI 3))) (σ) := by
  refine Sp.of rfl (by decide) rfl (Nat.le_of_ble_eq_true rfl) ?_
  show V v M_X5_figures _ 0 [(0, .int (nI 97))] [] σ
  refine v_iload_n dX5_figures_0 rfl ?_
  refine v_bipush (x := nI 99) dX5_figures_1 (by decide +kernel) ?_
  refine n_icmp_eq (tgt := 18) dX5_figures_3 (by decide) (by omega) (by omega) (fun c3 => absurd c3 (by omega)) (fun c3 => ?_)
  refine v_iload_n dX5_figures_6 rfl ?_
  refine v_bipush (x := nI 116) dX5_figures_7 (by decide +kernel) ?_
  refine n_icmp_eq (tgt := 18) dX5_figures_9 (by decide) (by omega) (by omega) (fun c9 => absurd c9 (by omega)) (fun c9 => ?_)
  refine v_iload_n dX5_figures_12 rfl ?_
  refine v_bipush (x := nI 97) dX5_figures_13 (by decide +kernel) ?_
  refine n_icmp_ne (tgt := 22) dX5_figures_15 (by decide) (by omega) (by omega) (fun c15 => absurd c15 (by omega)) (fun c15 => ?_)
  refine v_iconst (x := nI 3) dX5_figures_18 (by decide +kernel) ?_
  refine v_goto (tgt := 55) dX5_figures_19 (by decide) ?_
  exact v_iret rfl dX5_figures_55 ⟨rfl, rfl⟩
set_option maxRecDepth 100000 in
set_option maxHeartbeats 4000000 in
theorem s_X5_figures_119 {v : EE} {σ : SS} : S1 v M_X5_figures [.int (nI 119)] σ (some (.int (nI 1))) (σ) := by
  refine Sp.of rfl (by decide) rfl (Nat.le_of_ble_eq_true rfl) ?_
  show V v M_X5_figures _ 0 [(0, .int (nI 119))] [] σ
  refine v_iload_n dX5_figures_0 rfl ?_
  refine v_bipush (x := nI 99) dX5_figures_1 (by decide +kernel) ?_
  refine n_icmp_eq (tgt := 18) dX5_figures_3 (by decide) (by omega) (by omega) (fun c3 => absurd c3 (by omega)) (fun c3 => ?_)
  refine v_iload_n dX5_figures_6 rfl ?_
  refine v_bipush (x := nI 116) dX5_figures_7 (by decide +kernel) ?_
  refine n_icmp_eq (tgt := 18) dX5_figures_9 (by decide) (by omega) (by omega) (fun c9 => absurd c9 (by omega)) (fun c9 => ?_)
  refine v_iload_n dX5_figures_12 rfl ?_
  refine v_bipush (x := nI 97) dX5_figures_13 (by decide +kernel) ?_
  refine n_icmp_ne (tgt := 22) dX5_figures_15 (by decide) (by omega) (by omega) (fun c15 => ?_) (fun c15 => absurd c15 (by omega))
  refine v_iload_n dX5_figures_22 rfl ?_
  refine v_bipush (x := nI 103) dX5_figures_23 (by decide +kernel) ?_
  refine n_icmp_eq (tgt := 40) dX5_figures_25 (by decide) (by omega) (by omega) (fun c25 => absurd c25 (by omega)) (fun c25 => ?_)
  refine v_iload_n dX5_figures_28 rfl ?_
  refine v_bipush (x := nI 98) dX5_figures_29 (by decide +kernel) ?_
  refine n_icmp_eq (tgt := 40) dX5_figures_31 (by decide) (by omega) (by omega) (fun c31 => absurd c31 (by omega)) (fun c31 => ?_)
  refine v_iload_n dX5_figures_34 rfl ?_
  refine v_bipush (x := nI 110) dX5_figures_35 (by decide +kernel) ?_
  refine n_icmp_ne (tgt := 44) dX5_figures_37 (by decide) (by omega) (by omega) (fun c37 => ?_) (fun c37 => absurd c37 (by omega))
  refine v_iload_n dX5_figures_44 rfl ?_
  refine v_bipush (x := nI 119) dX5_figures_45 (by decide +kernel) ?_
  refine n_icmp_ne (tgt := 54) dX5_figures_47 (by decide) (by omega) (by omega) (fun c47 => absurd c47 (by omega)) (fun c47 => ?_)
  refine v_iconst (x := nI 1) dX5_figures_50 (by decide +kernel) ?_
  refine v_goto (tgt := 55) dX5_figures_51 (by decide) ?_
  exact v_iret rfl dX5_figures_55 ⟨rfl, rfl⟩
set_option maxRecDepth 100000 in
set_option maxHeartbeats 4000000 in
theorem s_X5_figures_0 {v : EE} {σ : SS} {c : Nat} (hc : c < 256) (hc99 : ¬ c = 99) (hc116 : ¬ c = 116) (hc97 : ¬ c = 97) (hc103 : ¬ c = 103) (hc98 : ¬ c = 98) (hc110 : ¬ c = 110) (hc119 : ¬ c = 119) : S1 v M_X5_figures [.int (sb_b c)] σ (some (.int (nI 0))) (σ) := by
  refine Sp.of rfl (by decide) rfl (Nat.le_of_ble_eq_true rfl) ?_
  show V v M_X5_figures _ 0 [(0, .int (sb_b c))] [] σ
  refine v_iload_n dX5_figures_0 rfl ?_
  refine v_bipush (x := 99) dX5_figures_1 (by decide +kernel) ?_
  refine v_icmp_eq (tgt := 18) dX5_figures_3 (by decide) (fun c3 => absurd c3 (fun q => hc99 ((sb_asc c hc 99 (by decide)).mp q))) (fun c3 => ?_)
  refine v_iload_n dX5_figures_6 rfl ?_
  refine v_bipush (x := 116) dX5_figures_7 (by decide +kernel) ?_
  refine v_icmp_eq (tgt := 18) dX5_figures_9 (by decide) (fun c9 => absurd c9 (fun q => hc116 ((sb_asc c hc 116 (by decide)).mp q))) (fun c9 => ?_)
  refine v_iload_n dX5_figures_12 rfl ?_
  refine v_bipush (x := 97) dX5_figures_13 (by decide +kernel) ?_
  refine v_icmp_ne (tgt := 22) dX5_figures_15 (by decide) (fun c15 => ?_) (fun c15 => absurd c15 (fun q => hc97 ((sb_asc c hc 97 (by decide)).mp q)))
  refine v_iload_n dX5_figures_22 rfl ?_
  refine v_bipush (x := 103) dX5_figures_23 (by decide +kernel) ?_
  refine v_icmp_eq (tgt := 40) dX5_figures_25 (by decide) (fun c25 => absurd c25 (fun q => hc103 ((sb_asc c hc 103 (by decide)).mp q))) (fun c25 => ?_)
  refine v_iload_n dX5_figures_28 rfl ?_
  refine v_bipush (x := 98) dX5_figures_29 (by decide +kernel) ?_
  refine v_icmp_eq (tgt := 40) dX5_figures_31 (by decide) (fun c31 => absurd c31 (fun q => hc98 ((sb_asc c hc 98 (by decide)).mp q))) (fun c31 => ?_)
  refine v_iload_n dX5_figures_34 rfl ?_
  refine v_bipush (x := 110) dX5_figures_35 (by decide +kernel) ?_
  refine v_icmp_ne (tgt := 44) dX5_figures_37 (by decide) (fun c37 => ?_) (fun c37 => absurd c37 (fun q => hc110 ((sb_asc c hc 110 (by decide)).mp q)))
  refine v_iload_n dX5_figures_44 rfl ?_
  refine v_bipush (x := 119) dX5_figures_45 (by decide +kernel) ?_
  refine v_icmp_ne (tgt := 54) dX5_figures_47 (by decide) (fun c47 => ?_) (fun c47 => absurd c47 (fun q => hc119 ((sb_asc c hc 119 (by decide)).mp q)))
  refine v_iconst (x := 0) dX5_figures_54 rfl ?_
  exact v_iret rfl dX5_figures_55 ⟨rfl, rfl⟩
theorem ex_td (u : Nat → Nat) (len p : Nat) : ∃ t, (∀ i, i < t → dg u len (p + i) = true) ∧ dg u len (p + t) = false ∧ p + t ≤ max p len := by
  have key : ∀ f p, len - p ≤ f → ∃ t, (∀ i, i < t → dg u len (p + i) = true) ∧ dg u len (p + t) = false ∧ p + t ≤ max p len := by
    intro f
    induction f with
    | zero =>
      intro p hp
      refine ⟨0, fun i hi => absurd hi (Nat.not_lt_zero i), ?_, by omega⟩
      rw [dg, decide_eq_false (by omega), Bool.false_and]
    | succ f ih =>
      intro p hp
      cases h : dg u len p with
      | false => exact ⟨0, fun i hi => absurd hi (Nat.not_lt_zero i), h, by omega⟩
      | true =>
        have hlt : p < len := by
          simp only [dg, Bool.and_eq_true, decide_eq_true_eq] at h
          exact h.1
        obtain ⟨t, h1, h2, h3⟩ := ih (p + 1) (by omega)
        refine ⟨t + 1, fun i hi => ?_, by rw [show p + (t + 1) = p + 1 + t by omega]; exact h2, by omega⟩
        cases i with
        | zero => exact h
        | succ i => rw [show p + (i + 1) = p + 1 + i by omega]; exact h1 i (by omega)
  exact key (len - p) p (Nat.le_refl _)
theorem figs_td {u : Nat → Nat} {len p t : Nat} (h1 : ∀ i, i < t → dg u len (p + i) = true) (h2 : dg u len (p + t) = false) : figs u len p = min t 3 := by
  rw [figs]
  have z : t = 0 ∨ t = 1 ∨ t = 2 ∨ 3 ≤ t := by omega
  rcases z with rfl | rfl | rfl | h
  · rw [if_neg (by rw [show dg u len p = false from h2]; decide)]; rfl
  · rw [if_pos (show dg u len p = true from h1 0 (by omega)), if_neg (by rw [h2]; decide)]; rfl
  · rw [if_pos (show dg u len p = true from h1 0 (by omega)), if_pos (h1 1 (by omega)), if_neg (by rw [h2]; decide)]; rfl
  · rw [if_pos (show dg u len p = true from h1 0 (by omega)), if_pos (h1 1 (by omega)), if_pos (h1 2 (by omega))]; omega
/-- n1 by all the figures that there are -/
theorem n1_td {u : Nat → Nat} {len p t e : Nat} (h1 : ∀ i, i < t → dg u len (p + i) = true) (h2 : dg u len (p + t) = false) (he : e < 48) : n1 u len p e = if (1 ≤ t ∧ t ≤ 3) ∧ sepAt u len (p + t) e = true then some (valF u p t, p + t + 1) else none := by
  rw [n1, figs_td h1 h2]
  by_cases h : t ≤ 3
  · rw [show min t 3 = t by omega]
    by_cases c : 1 ≤ t ∧ sepAt u len (p + t) e = true
    · rw [if_pos c, if_pos ⟨⟨c.1, h⟩, c.2⟩]
    · rw [if_neg c, if_neg (fun q => c ⟨q.1.1, q.2⟩)]
  · rw [show min t 3 = 3 by omega, if_neg, if_neg (fun q => h q.1.2)]
    rintro ⟨-, q⟩
    have d := h1 3 (by omega)
    simp only [dg, isD, Bool.and_eq_true, decide_eq_true_eq] at d
    simp only [sepAt, Bool.and_eq_true, decide_eq_true_eq] at q
    omega
theorem n1_td59 {u : Nat → Nat} {len p t : Nat} (h1 : ∀ i, i < t → dg u len (p + i) = true) (h2 : dg u len (p + t) = false) : n1 u len p 59 = if (1 ≤ t ∧ t ≤ 3) ∧ sepAt u len (p + t) 59 = true then some (valF u p t, p + t + 1) else none := by
  rw [n1, figs_td h1 h2]
  by_cases h : t ≤ 3
  · rw [show min t 3 = t by omega]
    by_cases c : 1 ≤ t ∧ sepAt u len (p + t) 59 = true
    · rw [if_pos c, if_pos ⟨⟨c.1, h⟩, c.2⟩]
    · rw [if_neg c, if_neg (fun q => c ⟨q.1.1, q.2⟩)]
  · rw [show min t 3 = 3 by omega, if_neg, if_neg (fun q => h q.1.2)]
    rintro ⟨-, q⟩
    have d := h1 3 (by omega)
    simp only [dg, isD, Bool.and_eq_true, decide_eq_true_eq] at d
    simp only [sepAt, Bool.and_eq_true, decide_eq_true_eq] at q
    omega
theorem btw_dig : ∀ c, c < 256 → btw (sb_b c).toInt64 48 57 = isD c := by decide +kernel
theorem sb_dig : ∀ c, c < 256 → isD c = true → sb_b c = nI c := by decide +kernel
theorem dg_iff {u : Nat → Nat} {len p : Nat} (h : p < len) : dg u len p = isD (u p) := by rw [dg, decide_eq_true h, Bool.true_and]
theorem valF3 {u : Nat → Nat} {p t : Nat} (h : ∀ i, i < t → u (p + i) ≤ 57) : valF u p (min t 3) < 1000 := by
  have h1 := valF_lt (u := u) (p := p) (min t 3) (fun i hi => h i (by omega))
  have h2 : 10 ^ min t 3 ≤ 10 ^ 3 := Nat.pow_le_pow_right (by decide) (by omega)
  omega
theorem sI_self (σ : SS) (k j : Nat) : sI σ k j (σ.1 k j) = σ := by
  have e : sI σ k j (σ.1 k j) = sF σ k (σ.1 k) := by
    simp only [sI, sF]
    congr 1
    funext a
    by_cases h : a = k
    · simp only [h, if_true]; exact fa_upd_same rfl
    · simp [h]
  rw [e, sF_self]
theorem sI_sI (σ : SS) (k j : Nat) (x y : Int32) : sI (sI σ k j x) k j y = sI σ k j y := by
  simp only [sI]
  congr 1
  funext a
  by_cases h : a = k
  · simp only [h, if_true]; exact fa_upd_twice _ _ _ _
  · simp [h]
set_option maxRecDepth 100000 in
set_option maxHeartbeats 4000000 in
theorem s_X5_number {v : EE} {u : Nat → Nat} {len : Nat} {σ : SS} (hM : MTx u len σ) {p t : Nat} (ha : σ.1 40 2 = nI p) (hd : ∀ i, i < t → dg u len (p + i) = true) (he : dg u len (p + t) = false) (ht : p + t ≤ 600) : S1 v M_X5_number [.ref (v.1 40)] σ (some (.int (if 1 ≤ t ∧ t ≤ 3 then nI (valF u p t) else -1))) (sI σ 40 2 (nI (p + t))) := by
  refine Sp.of rfl (by decide) rfl (Nat.le_of_ble_eq_true rfl) ?_
  show V v M_X5_number _ 0 [(0, .ref (v.1 40))] [] σ
  have hl := hM.2.1
  refine v_iconst (x := nI 0) dX5_number_0 (by decide +kernel) ?_
  refine v_istore_n (L' := [(1, _), (0, _)]) dX5_number_1 rfl (by decide) rfl ?_
  refine v_iconst (x := nI 0) dX5_number_2 (by decide +kernel) ?_
  refine v_istore_n (L' := [(2, _), (1, _), (0, _)]) dX5_number_3 rfl (by decide) rfl ?_
  refine v_st (σ' := sI σ 40 2 (nI (p + 0))) (by rw [Nat.add_zero, ← ha, sI_self]) ?_
  refine v_sub [2, 1, 0] rfl ?_
  refine loopN (fun i => V v M_X5_number (zR v M_X5_number (fun r' σ' => r' = (some (.int (if 1 ≤ t ∧ t ≤ 3 then nI (valF u p t) else -1))) ∧ σ' = (sI σ 40 2 (nI (p + t))))) 4 [(0, .ref (v.1 40)), (1, .int (nI (valF u p (min i 3)))), (2, .int (nI i))] [] (sI σ 40 2 (nI (p + i)))) t ?_ ?_
  · intro i hi ih
    have hd9 := hd i hi
    have hlt : p + i < len := by have h9 := hd9; simp only [dg, Bool.and_eq_true, decide_eq_true_eq] at h9; exact h9.1
    have hu9 := (hM.2.2 (p + i) hlt).1
    have hD9 : isD (u (p + i)) = true := by rw [← dg_iff hlt]; exact hd9
    have hv9 := valF3 (u := u) (p := p) (t := i) (fun j hj => by have h9 := hd j (by omega); simp only [dg, isD, Bool.and_eq_true, decide_eq_true_eq] at h9; exact h9.2.2)
    have h48 : 48 ≤ u (p + i) ∧ u (p + i) ≤ 57 := by have h9 := hD9; simp only [isD, Bool.and_eq_true, decide_eq_true_eq] at h9; exact h9
    refine v_aload_n dX5_number_4 rfl ?_
    refine v_get (j := 2) iO40 rfl dX5_number_5 (by decide) in_X5_number_X5 fl_X5_number_82 rfl ?_
    refine v_top (y := nI (p + i)) (sI_at _ _ _ _) ?_
    refine v_aload_n dX5_number_8 rfl ?_
    refine v_get (j := 0) iO40 rfl dX5_number_9 (by decide) in_X5_number_X5 fl_X5_number_78 rfl ?_
    refine v_top (y := nI len) ((sI_ne _ _ (by omega)).trans hM.1) ?_
    refine n_icmp_ge (tgt := 80) dX5_number_12 (by decide) (by omega) (by omega) (fun c12 => absurd c12 (by omega)) (fun c12 => ?_)
    refine v_aload_n dX5_number_15 rfl ?_
    refine v_get (j := 1) iO40 rfl dX5_number_16 (by decide) in_X5_number_X5 fl_X5_number_7 rfl ?_
    refine v_aload_n dX5_number_19 rfl ?_
    refine v_get (j := 2) iO40 rfl dX5_number_20 (by decide) in_X5_number_X5 fl_X5_number_82 rfl ?_
    refine v_top (y := nI (p + i)) (sI_at _ _ _ _) ?_
    refine v_baldN (p + i) iB41 dX5_number_23 rfl (by omega) (by decide) ?_
    refine v_top (y := sb_b (u (p + i))) ((sI_ne _ _ (by omega)).trans (hM.2.2 (p + i) hlt).2) ?_
    refine v_i2l dX5_number_24 ?_
    refine v_ldc2 (x := (48)) (by decide +kernel) dX5_number_25 ?_
    refine v_ldc2 (x := (57)) (by decide +kernel) dX5_number_28 ?_
    refine v_callSi (M' := M_X5_between) (As := [_, _, _]) (s_X5_between) dX5_number_31 gX5_number_X5_between rfl nn_X5_between ⟨rfl, rfl⟩ ⟨by decide, by decide⟩ rfl rfl (Nat.le_of_ble_eq_true rfl) ?_
    refine v_top (by rw [btw_dig _ hu9]) ?_
    refine b_if_eq (tgt := 80) dX5_number_34 (by decide) (fun c34 => absurd c34 (by rw [hD9]; decide)) (fun c34 => ?_)
    refine v_iload_n dX5_number_37 rfl ?_
    refine v_iconst (x := nI 3) dX5_number_38 (by decide +kernel) ?_
    refine n_icmp_ge (tgt := 62) dX5_number_39 (by decide) (by omega) (by omega) (fun c39 => ?_) (fun c39 => ?_)
    · refine v_iload_n dX5_number_62 rfl ?_
      refine v_top (y := nI (valF u p (min (i + 1) 3))) (congrArg nI (by rw [show min (i + 1) 3 = min i 3 by omega])) ?_
      refine v_istore_n (L' := [(1, _), (0, _), (2, _)]) dX5_number_63 rfl (by decide) rfl ?_
      refine n_iinc (n := 1) (L' := [(2, _), (1, _), (0, _)]) dX5_number_64 rfl (by decide) rfl ?_
      refine v_aload_n dX5_number_67 rfl ?_
      refine v_dup dX5_number_68 rfl ?_
      refine v_get (j := 2) iO40 rfl dX5_number_69 (by decide) in_X5_number_X5 fl_X5_number_82 rfl ?_
      refine v_top (y := nI (p + i)) (sI_at _ _ _ _) ?_
      refine v_iconst (x := nI 1) dX5_number_72 (by decide +kernel) ?_
      refine n_iadd dX5_number_73 ?_
      refine pX5_2 dX5_number_74 in_X5_number_X5 fl_X5_number_82 ?_
      refine v_st (σ' := sI σ 40 2 (nI (p + (i + 1)))) (sI_sI _ _ _ _ _) ?_
      refine v_goto (tgt := 4) dX5_number_77 (by decide) ?_
      refine v_sub [2, 1, 0] rfl ?_
      exact ih
    · refine v_bipush (x := nI 10) dX5_number_42 (by decide +kernel) ?_
      refine v_iload_n dX5_number_44 rfl ?_
      refine n_imul dX5_number_45 ?_
      refine v_aload_n dX5_number_46 rfl ?_
      refine v_get (j := 1) iO40 rfl dX5_number_47 (by decide) in_X5_number_X5 fl_X5_number_7 rfl ?_
      refine v_aload_n dX5_number_50 rfl ?_
      refine v_get (j := 2) iO40 rfl dX5_number_51 (by decide) in_X5_number_X5 fl_X5_number_82 rfl ?_
      refine v_top (y := nI (p + i)) (sI_at _ _ _ _) ?_
      refine v_baldN (p + i) iB41 dX5_number_54 rfl (by omega) (by decide) ?_
      refine v_top (y := sb_b (u (p + i))) ((sI_ne _ _ (by omega)).trans (hM.2.2 (p + i) hlt).2) ?_
      refine v_top (sb_dig _ hu9 hD9) ?_
      refine n_iadd dX5_number_55 ?_
      refine v_bipush (x := nI 48) dX5_number_56 (by decide +kernel) ?_
      refine n_isub dX5_number_58 (by omega) ?_
      refine v_goto (tgt := 63) dX5_number_59 (by decide) ?_
      refine v_top (y := nI (valF u p (min (i + 1) 3))) (congrArg nI (by rw [show min (i + 1) 3 = i + 1 by omega, show min i 3 = i by omega, valF]; omega)) ?_
      refine v_istore_n (L' := [(1, _), (0, _), (2, _)]) dX5_number_63 rfl (by decide) rfl ?_
      refine n_iinc (n := 1) (L' := [(2, _), (1, _), (0, _)]) dX5_number_64 rfl (by decide) rfl ?_
      refine v_aload_n dX5_number_67 rfl ?_
      refine v_dup dX5_number_68 rfl ?_
      refine v_get (j := 2) iO40 rfl dX5_number_69 (by decide) in_X5_number_X5 fl_X5_number_82 rfl ?_
      refine v_top (y := nI (p + i)) (sI_at _ _ _ _) ?_
      refine v_iconst (x := nI 1) dX5_number_72 (by decide +kernel) ?_
      refine n_iadd dX5_number_73 ?_
      refine pX5_2 dX5_number_74 in_X5_number_X5 fl_X5_number_82 ?_
      refine v_st (σ' := sI σ 40 2 (nI (p + (i + 1)))) (sI_sI _ _ _ _ _) ?_
      refine v_goto (tgt := 4) dX5_number_77 (by decide) ?_
      refine v_sub [2, 1, 0] rfl ?_
      exact ih
  · refine v_aload_n dX5_number_4 rfl ?_
    refine v_get (j := 2) iO40 rfl dX5_number_5 (by decide) in_X5_number_X5 fl_X5_number_82 rfl ?_
    refine v_top (y := nI (p + t)) (sI_at _ _ _ _) ?_
    refine v_aload_n dX5_number_8 rfl ?_
    refine v_get (j := 0) iO40 rfl dX5_number_9 (by decide) in_X5_number_X5 fl_X5_number_78 rfl ?_
    refine v_top (y := nI len) ((sI_ne _ _ (by omega)).trans hM.1) ?_
    refine n_icmp_ge (tgt := 80) dX5_number_12 (by decide) (by omega) (by omega) (fun c12 => ?_) (fun c12 => ?_)
    · refine v_iload_n dX5_number_80 rfl ?_
      refine v_i2l dX5_number_81 ?_
      refine v_lconst (x := 1) dX5_number_82 rfl ?_
      refine v_ldc2 (x := (3)) (by decide +kernel) dX5_number_83 ?_
      refine v_callSi (M' := M_X5_between) (As := [_, _, _]) (s_X5_between) dX5_number_86 gX5_number_X5_between rfl nn_X5_between ⟨rfl, rfl⟩ ⟨by decide, by decide⟩ rfl rfl (Nat.le_of_ble_eq_true rfl) ?_
      refine v_top (by rw [btw_dec 1 3 (by omega) (by decide) (by decide)]) ?_
      refine p_if_eq (tgt := 96) dX5_number_89 (by decide) (fun c89 => ?_) (fun c89 => ?_)
      · refine v_iconst (x := (-1)) dX5_number_96 rfl ?_
        exact v_iret rfl dX5_number_97 ⟨congrArg (fun z => some (Value.int z)) (by rw [if_neg (by omega)]), rfl⟩
      · refine v_iload_n dX5_number_92 rfl ?_
        refine v_goto (tgt := 97) dX5_number_93 (by decide) ?_
        exact v_iret rfl dX5_number_97 ⟨congrArg (fun z => some (Value.int z)) (by rw [if_pos (by omega), show min t 3 = t by omega]), rfl⟩
    · refine v_aload_n dX5_number_15 rfl ?_
      refine v_get (j := 1) iO40 rfl dX5_number_16 (by decide) in_X5_number_X5 fl_X5_number_7 rfl ?_
      refine v_aload_n dX5_number_19 rfl ?_
      refine v_get (j := 2) iO40 rfl dX5_number_20 (by decide) in_X5_number_X5 fl_X5_number_82 rfl ?_
      refine v_top (y := nI (p + t)) (sI_at _ _ _ _) ?_
      refine v_baldN (p + t) iB41 dX5_number_23 rfl (by omega) (by decide) ?_
      refine v_top (y := sb_b (u (p + t))) ((sI_ne _ _ (by omega)).trans (hM.2.2 (p + t) c12).2) ?_
      refine v_i2l dX5_number_24 ?_
      refine v_ldc2 (x := (48)) (by decide +kernel) dX5_number_25 ?_
      refine v_ldc2 (x := (57)) (by decide +kernel) dX5_number_28 ?_
      refine v_callSi (M' := M_X5_between) (As := [_, _, _]) (s_X5_between) dX5_number_31 gX5_number_X5_between rfl nn_X5_between ⟨rfl, rfl⟩ ⟨by decide, by decide⟩ rfl rfl (Nat.le_of_ble_eq_true rfl) ?_
      refine v_top (by rw [btw_dig _ (hM.2.2 (p + t) c12).1]) ?_
      refine b_if_eq (tgt := 80) dX5_number_34 (by decide) (fun c34 => ?_) (fun c34 => absurd c34 (by rw [← dg_iff c12, he]; decide))
      refine v_iload_n dX5_number_80 rfl ?_
      refine v_i2l dX5_number_81 ?_
      refine v_lconst (x := 1) dX5_number_82 rfl ?_
      refine v_ldc2 (x := (3)) (by decide +kernel) dX5_number_83 ?_
      refine v_callSi (M' := M_X5_between) (As := [_, _, _]) (s_X5_between) dX5_number_86 gX5_number_X5_between rfl nn_X5_between ⟨rfl, rfl⟩ ⟨by decide, by decide⟩ rfl rfl (Nat.le_of_ble_eq_true rfl) ?_
      refine v_top (by rw [btw_dec 1 3 (by omega) (by decide) (by decide)]) ?_
      refine p_if_eq (tgt := 96) dX5_number_89 (by decide) (fun c89 => ?_) (fun c89 => ?_)
      · refine v_iconst (x := (-1)) dX5_number_96 rfl ?_
        exact v_iret rfl dX5_number_97 ⟨congrArg (fun z => some (Value.int z)) (by rw [if_neg (by omega)]), rfl⟩
      · refine v_iload_n dX5_number_92 rfl ?_
        refine v_goto (tgt := 97) dX5_number_93 (by decide) ?_
        exact v_iret rfl dX5_number_97 ⟨congrArg (fun z => some (Value.int z)) (by rw [if_pos (by omega), show min t 3 = t by omega]), rfl⟩
/-- how it stands within an item -/
def MI (u : Nat → Nat) (len : Nat) (w : WD) (σ0 τ : SS) : Prop := MTx u len τ ∧ MH 1 w τ ∧ FD σ0 τ
theorem MI.at {u : Nat → Nat} {len : Nat} {w : WD} {σ0 τ : SS} (h : MI u len w σ0 τ) (x : Int32) : MI u len w σ0 (sI τ 40 2 x) := ⟨((FD.rf τ).si (by unfold okS; omega) x).tx h.1, h.2.1.ne (by omega) _ _, h.2.2.si (by unfold okS; omega) x⟩
theorem MI.got {u : Nat → Nat} {len : Nat} {w : WD} {σ0 τ : SS} (h : MI u len w σ0 τ) (k : Nat) (x : Int32) : MI u len w σ0 (sI τ 60 k x) := ⟨((FD.rf τ).si (by unfold okS; omega) x).tx h.1, h.2.1.ne (by omega) _ _, h.2.2.si (by unfold okS; omega) x⟩
theorem sepAt_iff {u : Nat → Nat} {len p e : Nat} : sepAt u len p e = true ↔ p < len ∧ u p = e := by simp [sepAt]
theorem itemAt_no_g {u : Nat → Nat} {len p : Nat} {w : WD} (e9 : u p = 103) (h : i2 u len p = none) : itemAt u len p w = none := by rw [itemAt, if_pos e9, h]
theorem itemAt_yes_g {u : Nat → Nat} {len p a c q : Nat} {w : WD} (e9 : u p = 103) (h : i2 u len p = some (a, c, q)) : itemAt u len p w = (iG w a c).map (fun x => (q, x)) := by rw [itemAt, if_pos e9, h]
theorem itemAt_no_c {u : Nat → Nat} {len p : Nat} {w : WD} (e9 : u p = 99) (h : i3 u len p = none) : itemAt u len p w = none := by rw [itemAt, if_neg (by rw [e9]; decide), if_pos e9, h]
theorem itemAt_yes_c {u : Nat → Nat} {len p a c d q : Nat} {w : WD} (e9 : u p = 99) (h : i3 u len p = some (a, c, d, q)) : itemAt u len p w = (iC w a c d).map (fun x => (q, x)) := by rw [itemAt, if_neg (by rw [e9]; decide), if_pos e9, h]
theorem itemAt_no_t {u : Nat → Nat} {len p : Nat} {w : WD} (e9 : u p = 116) (h : i3 u len p = none) : itemAt u len p w = none := by rw [itemAt, if_neg (by rw [e9]; decide), if_neg (by rw [e9]; decide), if_pos e9, h]
theorem itemAt_yes_t {u : Nat → Nat} {len p a c d q : Nat} {w : WD} (e9 : u p = 116) (h : i3 u len p = some (a, c, d, q)) : itemAt u len p w = (iT w a c d).map (fun x => (q, x)) := by rw [itemAt, if_neg (by rw [e9]; decide), if_neg (by rw [e9]; decide), if_pos e9, h]
theorem itemAt_no_b {u : Nat → Nat} {len p : Nat} {w : WD} (e9 : u p = 98) (h : i2 u len p = none) : itemAt u len p w = none := by rw [itemAt, if_neg (by rw [e9]; decide), if_neg (by rw [e9]; decide), if_neg (by rw [e9]; decide), if_pos e9, h]
theorem itemAt_yes_b {u : Nat → Nat} {len p a c q : Nat} {w : WD} (e9 : u p = 98) (h : i2 u len p = some (a, c, q)) : itemAt u len p w = (iB w a c).map (fun x => (q, x)) := by rw [itemAt, if_neg (by rw [e9]; decide), if_neg (by rw [e9]; decide), if_neg (by rw [e9]; decide), if_pos e9, h]
theorem itemAt_no_n {u : Nat → Nat} {len p : Nat} {w : WD} (e9 : u p = 110) (h : i2 u len p = none) : itemAt u len p w = none := by rw [itemAt, if_neg (by rw [e9]; decide), if_neg (by rw [e9]; decide), if_neg (by rw [e9]; decide), if_neg (by rw [e9]; decide), if_pos e9, h]
theorem itemAt_yes_n {u : Nat → Nat} {len p a c q : Nat} {w : WD} (e9 : u p = 110) (h : i2 u len p = some (a, c, q)) : itemAt u len p w = (iN w a c).map (fun x => (q, x)) := by rw [itemAt, if_neg (by rw [e9]; decide), if_neg (by rw [e9]; decide), if_neg (by rw [e9]; decide), if_neg (by rw [e9]; decide), if_pos e9, h]
theorem itemAt_no_a {u : Nat → Nat} {len p : Nat} {w : WD} (e9 : u p = 97) (h : i3 u len p = none) : itemAt u len p w = none := by rw [itemAt, if_neg (by rw [e9]; decide), if_neg (by rw [e9]; decide), if_neg (by rw [e9]; decide), if_neg (by rw [e9]; decide), if_neg (by rw [e9]; decide), if_pos e9, h]
theorem itemAt_yes_a {u : Nat → Nat} {len p a c d q : Nat} {w : WD} (e9 : u p = 97) (h : i3 u len p = some (a, c, d, q)) : itemAt u len p w = (iA w a c d).map (fun x => (q, x)) := by rw [itemAt, if_neg (by rw [e9]; decide), if_neg (by rw [e9]; decide), if_neg (by rw [e9]; decide), if_neg (by rw [e9]; decide), if_neg (by rw [e9]; decide), if_pos e9, h]
theorem itemAt_no_w {u : Nat → Nat} {len p : Nat} {w : WD} (e9 : u p = 119) (h : i1 u len p = none) : itemAt u len p w = none := by rw [itemAt, if_neg (by rw [e9]; decide), if_neg (by rw [e9]; decide), if_neg (by rw [e9]; decide), if_neg (by rw [e9]; decide), if_neg (by rw [e9]; decide), if_neg (by rw [e9]; decide), if_pos e9, h]
theorem itemAt_yes_w {u : Nat → Nat} {len p a q : Nat} {w : WD} (e9 : u p = 119) (h : i1 u len p = some (a, q)) : itemAt u len p w = (iW w a).map (fun x => (q, x)) := by rw [itemAt, if_neg (by rw [e9]; decide), if_neg (by rw [e9]; decide), if_neg (by rw [e9]; decide), if_neg (by rw [e9]; decide), if_neg (by rw [e9]; decide), if_neg (by rw [e9]; decide), if_pos e9, h]
theorem td_lt {u : Nat → Nat} {len p t : Nat} (h1 : ∀ i, i < t → dg u len (p + i) = true) (h : 1 ≤ t ∧ t ≤ 3) : valF u p t < 1000 := by
  have h9 := valF_lt (u := u) (p := p) t (fun i hi => by have h9 := h1 i hi; simp only [dg, isD, Bool.and_eq_true, decide_eq_true_eq] at h9; exact h9.2.2)
  have h2 : 10 ^ t ≤ 10 ^ 3 := Nat.pow_le_pow_right (by decide) h.2
  omega
set_option maxRecDepth 100000 in
set_option maxHeartbeats 4000000 in
theorem s_X5_isItem_g {v : EE} {u : Nat → Nat} {len : Nat} {w : WD} {z : Nat} {σ : SS} (hM : MTx u len σ) (hw : MH 1 w σ) (hv : WV z w) {p : Nat} (ha : σ.1 40 2 = nI p) (hp : p < len) (e9 : u p = 103) : SR v M_X5_isItem [.ref (v.1 40)] σ (some (.int (bI (itemAt u len p w).isSome))) (fun σ' => FD σ σ' ∧ ∀ q w', itemAt u len p w = some (q, w') → MH 1 w' σ' ∧ σ'.1 40 2 = nI q) := by
  refine Sp.of rfl (by decide) rfl (Nat.le_of_ble_eq_true rfl) ?_
  show V v M_X5_isItem _ 0 [(0, .ref (v.1 40))] [] σ
  have hl := hM.2.1
  have hI0 : MI u len w σ σ := ⟨hM, hw, FD.rf σ⟩
  refine v_aload_n dX5_isItem_0 rfl ?_
  refine v_get (j := 1) iO40 rfl dX5_isItem_1 (by decide) in_X5_isItem_X5 fl_X5_isItem_7 rfl ?_
  refine v_aload_n dX5_isItem_4 rfl ?_
  refine v_get (j := 2) iO40 rfl dX5_isItem_5 (by decide) in_X5_isItem_X5 fl_X5_isItem_82 rfl ?_
  refine v_top ha ?_
  refine v_baldN p iB41 dX5_isItem_8 rfl (by omega) (by decide) ?_
  refine v_top (y := nI 103) ((hM.2.2 p hp).2.trans (by rw [e9]; decide +kernel)) ?_
  refine v_istore_n (L' := [(1, _), (0, _)]) dX5_isItem_9 rfl (by decide) rfl ?_
  refine v_aload_n dX5_isItem_10 rfl ?_
  refine v_dup dX5_isItem_11 rfl ?_
  refine v_get (j := 2) iO40 rfl dX5_isItem_12 (by decide) in_X5_isItem_X5 fl_X5_isItem_82 rfl ?_
  refine v_top ha ?_
  refine v_iconst (x := nI 1) dX5_isItem_15 (by decide +kernel) ?_
  refine n_iadd dX5_isItem_16 ?_
  refine pX5_2 dX5_isItem_17 in_X5_isItem_X5 fl_X5_isItem_82 ?_
  refine v_iload_n dX5_isItem_20 rfl ?_
  refine v_callSi (M' := M_X5_figures) (As := [_]) (s_X5_figures_103) dX5_isItem_21 gX5_isItem_X5_figures rfl nn_X5_figures ⟨rfl, rfl⟩ ⟨by decide, by decide⟩ rfl rfl (Nat.le_of_ble_eq_true rfl) ?_
  refine v_istore_n (L' := [(2, _), (1, _), (0, _)]) dX5_isItem_24 rfl (by decide) rfl ?_
  refine v_iload_n dX5_isItem_25 rfl ?_
  refine n_if_le (tgt := 33) dX5_isItem_26 (by decide) (by omega) (fun c26 => absurd c26 (by omega)) (fun c26 => ?_)
  refine v_iconst (x := nI 1) dX5_isItem_29 (by decide +kernel) ?_
  refine v_goto (tgt := 34) dX5_isItem_30 (by decide) ?_
  refine v_istore_n (L' := [(3, _), (2, _), (1, _), (0, _)]) dX5_isItem_34 rfl (by decide) rfl ?_
  refine v_iconst (x := nI 0) dX5_isItem_35 (by decide +kernel) ?_
  refine v_istore (L' := [(4, _), (3, _), (2, _), (1, _), (0, _)]) dX5_isItem_36 (by decide) rfl ?_
  refine v_iload dX5_isItem_38 rfl ?_
  refine v_iload_n dX5_isItem_40 rfl ?_
  refine n_icmp_ge (tgt := 144) dX5_isItem_41 (by decide) (by omega) (by omega) (fun c41 => absurd c41 (by omega)) (fun c41 => ?_)
  refine v_iload_n dX5_isItem_44 rfl ?_
  refine v_if_eq (tgt := 144) dX5_isItem_45 (by decide) (fun c45 => absurd c45 (by decide)) (fun c45 => ?_)
  refine v_iload dX5_isItem_48 rfl ?_
  refine n_if_eq (tgt := 78) dX5_isItem_50 (by decide) (by omega) (fun c50 => ?_) (fun c50 => absurd c50 (by omega))
  refine v_iconst (x := nI 1) dX5_isItem_78 (by decide +kernel) ?_
  refine v_goto (tgt := 83) dX5_isItem_79 (by decide) ?_
  refine v_istore_n (L' := [(3, _), (4, _), (2, _), (1, _), (0, _)]) dX5_isItem_83 rfl (by decide) rfl ?_
  obtain ⟨t0, D0, E0, B0⟩ := ex_td u len (p + 1)
  refine v_aload_n dX5_isItem_84 rfl ?_
  refine v_dup dX5_isItem_85 rfl ?_
  refine v_get (j := 2) iO40 rfl dX5_isItem_86 (by decide) in_X5_isItem_X5 fl_X5_isItem_82 rfl ?_
  refine v_top (y := nI (p + 1)) (sI_at _ _ _ _) ?_
  refine v_iload dX5_isItem_89 rfl ?_
  refine n_if_ne (tgt := 98) dX5_isItem_91 (by decide) (by omega) (fun c91 => absurd c91 (by omega)) (fun c91 => ?_)
  refine v_iconst (x := nI 0) dX5_isItem_94 (by decide +kernel) ?_
  refine v_goto (tgt := 99) dX5_isItem_95 (by decide) ?_
  refine n_iadd dX5_isItem_99 ?_
  refine pX5_2 dX5_isItem_100 in_X5_isItem_X5 fl_X5_isItem_82 ?_
  refine v_aload_n dX5_isItem_103 rfl ?_
  refine v_get (j := 28) iO40 rfl dX5_isItem_104 (by decide) in_X5_isItem_X5 fl_X5_isItem_69 rfl ?_
  refine v_iload dX5_isItem_107 rfl ?_
  refine v_iload_n dX5_isItem_109 rfl ?_
  refine v_if_eq (tgt := 120) dX5_isItem_110 (by decide) (fun c110 => absurd c110 (by decide)) (fun c110 => ?_)
  refine v_aload_n dX5_isItem_113 rfl ?_
  refine v_callVi (M' := M_X5_number) (As := []) iO40 (s_X5_number ((hI0.at _).at _).1 (p := (p + 1)) (t := t0) (sI_at _ _ _ _) D0 E0 (by omega)) dX5_isItem_114 gX5_isItem_X5_number rfl rfl nn_X5_number ⟨rfl, rfl⟩ ⟨by decide, by decide⟩ rfl rfl (Nat.le_of_ble_eq_true rfl) ?_
  refine v_goto (tgt := 121) dX5_isItem_117 (by decide) ?_
  by_cases T0 : 1 ≤ t0 ∧ t0 ≤ 3
  · refine v_top (y := nI (valF u (p + 1) t0)) (if_pos T0) ?_
    have V0 := td_lt D0 T0
    refine v_iastN 0 iI60 dX5_isItem_121 rfl (by decide) (by decide) ?_
    refine v_aload_n dX5_isItem_122 rfl ?_
    refine v_get (j := 28) iO40 rfl dX5_isItem_123 (by decide) in_X5_isItem_X5 fl_X5_isItem_69 rfl ?_
    refine v_iload dX5_isItem_126 rfl ?_
    refine v_ialdN 0 iI60 dX5_isItem_128 rfl (by decide) (by decide) ?_
    refine v_top (y := nI (valF u (p + 1) t0)) (sI_at _ _ _ _) ?_
    refine n_if_lt (tgt := 136) dX5_isItem_129 (by decide) (by omega) ?_
    refine v_iconst (x := nI 1) dX5_isItem_132 (by decide +kernel) ?_
    refine v_goto (tgt := 137) dX5_isItem_133 (by decide) ?_
    refine v_istore_n (L' := [(3, _), (4, _), (2, _), (1, _), (0, _)]) dX5_isItem_137 rfl (by decide) rfl ?_
    refine n_iinc (n := 1) (L' := [(4, _), (3, _), (2, _), (1, _), (0, _)]) dX5_isItem_138 rfl (by decide) rfl ?_
    refine v_goto (tgt := 38) dX5_isItem_141 (by decide) ?_
    refine v_iload dX5_isItem_38 rfl ?_
    refine v_iload_n dX5_isItem_40 rfl ?_
    refine n_icmp_ge (tgt := 144) dX5_isItem_41 (by decide) (by omega) (by omega) (fun c41 => absurd c41 (by omega)) (fun c41 => ?_)
    refine v_iload_n dX5_isItem_44 rfl ?_
    refine v_if_eq (tgt := 144) dX5_isItem_45 (by decide) (fun c45 => absurd c45 (by decide)) (fun c45 => ?_)
    refine v_iload dX5_isItem_48 rfl ?_
    refine n_if_eq (tgt := 78) dX5_isItem_50 (by decide) (by omega) (fun c50 => absurd c50 (by omega)) (fun c50 => ?_)
    refine v_aload_n dX5_isItem_53 rfl ?_
    refine v_get (j := 2) iO40 rfl dX5_isItem_54 (by decide) in_X5_isItem_X5 fl_X5_isItem_82 rfl ?_
    refine v_top (y := nI ((p + 1) + t0)) ((sI_ne _ _ (by omega)).trans (sI_at _ _ _ _)) ?_
    refine v_aload_n dX5_isItem_57 rfl ?_
    refine v_get (j := 0) iO40 rfl dX5_isItem_58 (by decide) in_X5_isItem_X5 fl_X5_isItem_78 rfl ?_
    refine v_top (y := nI len) ((((hI0.at _).at _).at _).got 0 _).1.1 ?_
    refine n_icmp_ge (tgt := 82) dX5_isItem_61 (by decide) (by omega) (by omega) (fun c61 => ?_) (fun c61 => ?_)
    · have S0 : sepAt u len ((p + 1) + t0) 44 = false := by rw [sepAt, decide_eq_false (by omega)]; rfl
      refine v_iconst (x := nI 0) dX5_isItem_82 (by decide +kernel) ?_
      refine v_istore_n (L' := [(3, _), (4, _), (2, _), (1, _), (0, _)]) dX5_isItem_83 rfl (by decide) rfl ?_
      refine v_aload_n dX5_isItem_84 rfl ?_
      refine v_dup dX5_isItem_85 rfl ?_
      refine v_get (j := 2) iO40 rfl dX5_isItem_86 (by decide) in_X5_isItem_X5 fl_X5_isItem_82 rfl ?_
      refine v_top (y := nI ((p + 1) + t0)) ((sI_ne _ _ (by omega)).trans (sI_at _ _ _ _)) ?_
      refine v_iload dX5_isItem_89 rfl ?_
      refine n_if_ne (tgt := 98) dX5_isItem_91 (by decide) (by omega) (fun c91 => ?_) (fun c91 => absurd c91 (by omega))
      refine v_iconst (x := nI 1) dX5_isItem_98 (by decide +kernel) ?_
      refine n_iadd dX5_isItem_99 ?_
      refine pX5_2 dX5_isItem_100 in_X5_isItem_X5 fl_X5_isItem_82 ?_
      refine v_aload_n dX5_isItem_103 rfl ?_
      refine v_get (j := 28) iO40 rfl dX5_isItem_104 (by decide) in_X5_isItem_X5 fl_X5_isItem_69 rfl ?_
      refine v_iload dX5_isItem_107 rfl ?_
      refine v_iload_n dX5_isItem_109 rfl ?_
      refine v_if_eq (tgt := 120) dX5_isItem_110 (by decide) (fun c110 => ?_) (fun c110 => absurd rfl c110)
      refine v_iconst (x := (-1)) dX5_isItem_120 rfl ?_
      refine v_iastN 1 iI60 dX5_isItem_121 rfl (by decide) (by decide) ?_
      refine v_aload_n dX5_isItem_122 rfl ?_
      refine v_get (j := 28) iO40 rfl dX5_isItem_123 (by decide) in_X5_isItem_X5 fl_X5_isItem_69 rfl ?_
      refine v_iload dX5_isItem_126 rfl ?_
      refine v_ialdN 1 iI60 dX5_isItem_128 rfl (by decide) (by decide) ?_
      refine v_top (y := -1) (sI_at _ _ _ _) ?_
      refine v_if_lt (tgt := 136) dX5_isItem_129 (by decide) (fun c129 => ?_) (fun c129 => absurd (by decide) c129)
      refine v_iconst (x := nI 0) dX5_isItem_136 (by decide +kernel) ?_
      refine v_istore_n (L' := [(3, _), (4, _), (2, _), (1, _), (0, _)]) dX5_isItem_137 rfl (by decide) rfl ?_
      refine n_iinc (n := 1) (L' := [(4, _), (3, _), (2, _), (1, _), (0, _)]) dX5_isItem_138 rfl (by decide) rfl ?_
      refine v_goto (tgt := 38) dX5_isItem_141 (by decide) ?_
      refine v_iload dX5_isItem_38 rfl ?_
      refine v_iload_n dX5_isItem_40 rfl ?_
      refine n_icmp_ge (tgt := 144) dX5_isItem_41 (by decide) (by omega) (by omega) (fun c41 => ?_) (fun c41 => absurd c41 (by omega))
      refine v_iload_n dX5_isItem_144 rfl ?_
      refine v_if_eq (tgt := 177) dX5_isItem_145 (by decide) (fun c145 => ?_) (fun c145 => absurd rfl c145)
      refine v_iconst (x := nI 0) dX5_isItem_177 (by decide +kernel) ?_
      refine v_istore_n (L' := [(3, _), (4, _), (2, _), (1, _), (0, _)]) dX5_isItem_178 rfl (by decide) rfl ?_
      refine v_aload_n dX5_isItem_179 rfl ?_
      refine v_dup dX5_isItem_180 rfl ?_
      refine v_get (j := 2) iO40 rfl dX5_isItem_181 (by decide) in_X5_isItem_X5 fl_X5_isItem_82 rfl ?_
      refine v_top (y := nI (((p + 1) + t0) + 1)) ((sI_ne _ _ (by omega)).trans (sI_at _ _ _ _)) ?_
      refine v_iconst (x := nI 1) dX5_isItem_184 (by decide +kernel) ?_
      refine n_iadd dX5_isItem_185 ?_
      refine pX5_2 dX5_isItem_186 in_X5_isItem_X5 fl_X5_isItem_82 ?_
      refine v_iload_n dX5_isItem_189 rfl ?_
      refine v_if_eq (tgt := 205) dX5_isItem_190 (by decide) (fun c190 => ?_) (fun c190 => absurd rfl c190)
      refine v_iconst (x := nI 0) dX5_isItem_205 (by decide +kernel) ?_
      exact v_zret rfl (by decide) dX5_isItem_206 ⟨congrArg (fun z => some (Value.int z)) (bI_f (by rw [itemAt_no_g e9 (by rw [i2]; simp only [(show n1 u len (p + 1) 44 = none from by rw [n1_td D0 E0 (by decide), if_neg (fun q => by rw [S0] at q; cases q.2)])])]; rfl)), (((((((hI0.at _).at _).at _).got 0 _).at _).got 1 _).at _).2.2, fun q9 w9 h9 => by rw [itemAt_no_g e9 (by rw [i2]; simp only [(show n1 u len (p + 1) 44 = none from by rw [n1_td D0 E0 (by decide), if_neg (fun q => by rw [S0] at q; cases q.2)])])] at h9; cases h9⟩
    · refine v_aload_n dX5_isItem_64 rfl ?_
      refine v_get (j := 1) iO40 rfl dX5_isItem_65 (by decide) in_X5_isItem_X5 fl_X5_isItem_7 rfl ?_
      refine v_aload_n dX5_isItem_68 rfl ?_
      refine v_get (j := 2) iO40 rfl dX5_isItem_69 (by decide) in_X5_isItem_X5 fl_X5_isItem_82 rfl ?_
      refine v_top (y := nI ((p + 1) + t0)) ((sI_ne _ _ (by omega)).trans (sI_at _ _ _ _)) ?_
      refine v_baldN ((p + 1) + t0) iB41 dX5_isItem_72 rfl (by omega) (by decide) ?_
      refine v_top (y := sb_b (u ((p + 1) + t0))) (((((hI0.at _).at _).at _).got 0 _).1.2.2 ((p + 1) + t0) c61).2 ?_
      refine v_bipush (x := nI 44) dX5_isItem_73 (by decide +kernel) ?_
      refine v_icmp_ne (tgt := 82) dX5_isItem_75 (by decide) (fun c75 => ?_) (fun c75 => ?_)
      · have S0 : sepAt u len ((p + 1) + t0) 44 = false := by rw [sepAt, decide_eq_false (p := u ((p + 1) + t0) = 44) (fun q => c75 ((sb_asc _ (hM.2.2 _ c61).1 44 (by decide)).mpr q)), Bool.and_false]
        refine v_iconst (x := nI 0) dX5_isItem_82 (by decide +kernel) ?_
        refine v_istore_n (L' := [(3, _), (4, _), (2, _), (1, _), (0, _)]) dX5_isItem_83 rfl (by decide) rfl ?_
        refine v_aload_n dX5_isItem_84 rfl ?_
        refine v_dup dX5_isItem_85 rfl ?_
        refine v_get (j := 2) iO40 rfl dX5_isItem_86 (by decide) in_X5_isItem_X5 fl_X5_isItem_82 rfl ?_
        refine v_top (y := nI ((p + 1) + t0)) ((sI_ne _ _ (by omega)).trans (sI_at _ _ _ _)) ?_
        refine v_iload dX5_isItem_89 rfl ?_
        refine n_if_ne (tgt := 98) dX5_isItem_91 (by decide) (by omega) (fun c91 => ?_) (fun c91 => absurd c91 (by omega))
        refine v_iconst (x := nI 1) dX5_isItem_98 (by decide +kernel) ?_
        refine n_iadd dX5_isItem_99 ?_
        refine pX5_2 dX5_isItem_100 in_X5_isItem_X5 fl_X5_isItem_82 ?_
        refine v_aload_n dX5_isItem_103 rfl ?_
        refine v_get (j := 28) iO40 rfl dX5_isItem_104 (by decide) in_X5_isItem_X5 fl_X5_isItem_69 rfl ?_
        refine v_iload dX5_isItem_107 rfl ?_
        refine v_iload_n dX5_isItem_109 rfl ?_
        refine v_if_eq (tgt := 120) dX5_isItem_110 (by decide) (fun c110 => ?_) (fun c110 => absurd rfl c110)
        refine v_iconst (x := (-1)) dX5_isItem_120 rfl ?_
        refine v_iastN 1 iI60 dX5_isItem_121 rfl (by decide) (by decide) ?_
        refine v_aload_n dX5_isItem_122 rfl ?_
        refine v_get (j := 28) iO40 rfl dX5_isItem_123 (by decide) in_X5_isItem_X5 fl_X5_isItem_69 rfl ?_
        refine v_iload dX5_isItem_126 rfl ?_
        refine v_ialdN 1 iI60 dX5_isItem_128 rfl (by decide) (by decide) ?_
        refine v_top (y := -1) (sI_at _ _ _ _) ?_
        refine v_if_lt (tgt := 136) dX5_isItem_129 (by decide) (fun c129 => ?_) (fun c129 => absurd (by decide) c129)
        refine v_iconst (x := nI 0) dX5_isItem_136 (by decide +kernel) ?_
        refine v_istore_n (L' := [(3, _), (4, _), (2, _), (1, _), (0, _)]) dX5_isItem_137 rfl (by decide) rfl ?_
        refine n_iinc (n := 1) (L' := [(4, _), (3, _), (2, _), (1, _), (0, _)]) dX5_isItem_138 rfl (by decide) rfl ?_
        refine v_goto (tgt := 38) dX5_isItem_141 (by decide) ?_
        refine v_iload dX5_isItem_38 rfl ?_
        refine v_iload_n dX5_isItem_40 rfl ?_
        refine n_icmp_ge (tgt := 144) dX5_isItem_41 (by decide) (by omega) (by omega) (fun c41 => ?_) (fun c41 => absurd c41 (by omega))
        refine v_iload_n dX5_isItem_144 rfl ?_
        refine v_if_eq (tgt := 177) dX5_isItem_145 (by decide) (fun c145 => ?_) (fun c145 => absurd rfl c145)
        refine v_iconst (x := nI 0) dX5_isItem_177 (by decide +kernel) ?_
        refine v_istore_n (L' := [(3, _), (4, _), (2, _), (1, _), (0, _)]) dX5_isItem_178 rfl (by decide) rfl ?_
        refine v_aload_n dX5_isItem_179 rfl ?_
        refine v_dup dX5_isItem_180 rfl ?_
        refine v_get (j := 2) iO40 rfl dX5_isItem_181 (by decide) in_X5_isItem_X5 fl_X5_isItem_82 rfl ?_
        refine v_top (y := nI (((p + 1) + t0) + 1)) ((sI_ne _ _ (by omega)).trans (sI_at _ _ _ _)) ?_
        refine v_iconst (x := nI 1) dX5_isItem_184 (by decide +kernel) ?_
        refine n_iadd dX5_isItem_185 ?_
        refine pX5_2 dX5_isItem_186 in_X5_isItem_X5 fl_X5_isItem_82 ?_
        refine v_iload_n dX5_isItem_189 rfl ?_
        refine v_if_eq (tgt := 205) dX5_isItem_190 (by decide) (fun c190 => ?_) (fun c190 => absurd rfl c190)
        refine v_iconst (x := nI 0) dX5_isItem_205 (by decide +kernel) ?_
        exact v_zret rfl (by decide) dX5_isItem_206 ⟨congrArg (fun z => some (Value.int z)) (bI_f (by rw [itemAt_no_g e9 (by rw [i2]; simp only [(show n1 u len (p + 1) 44 = none from by rw [n1_td D0 E0 (by decide), if_neg (fun q => by rw [S0] at q; cases q.2)])])]; rfl)), (((((((hI0.at _).at _).at _).got 0 _).at _).got 1 _).at _).2.2, fun q9 w9 h9 => by rw [itemAt_no_g e9 (by rw [i2]; simp only [(show n1 u len (p + 1) 44 = none from by rw [n1_td D0 E0 (by decide), if_neg (fun q => by rw [S0] at q; cases q.2)])])] at h9; cases h9⟩
      · have S0 : sepAt u len ((p + 1) + t0) 44 = true := sepAt_iff.mpr ⟨c61, (sb_asc _ (hM.2.2 _ c61).1 44 (by decide)).mp c75⟩
        refine v_iconst (x := nI 1) dX5_isItem_78 (by decide +kernel) ?_
        refine v_goto (tgt := 83) dX5_isItem_79 (by decide) ?_
        refine v_istore_n (L' := [(3, _), (4, _), (2, _), (1, _), (0, _)]) dX5_isItem_83 rfl (by decide) rfl ?_
        obtain ⟨t1, D1, E1, B1⟩ := ex_td u len ((p + 1) + t0 + 1)
        refine v_aload_n dX5_isItem_84 rfl ?_
        refine v_dup dX5_isItem_85 rfl ?_
        refine v_get (j := 2) iO40 rfl dX5_isItem_86 (by decide) in_X5_isItem_X5 fl_X5_isItem_82 rfl ?_
        refine v_top (y := nI ((p + 1) + t0)) ((sI_ne _ _ (by omega)).trans (sI_at _ _ _ _)) ?_
        refine v_iload dX5_isItem_89 rfl ?_
        refine n_if_ne (tgt := 98) dX5_isItem_91 (by decide) (by omega) (fun c91 => ?_) (fun c91 => absurd c91 (by omega))
        refine v_iconst (x := nI 1) dX5_isItem_98 (by decide +kernel) ?_
        refine n_iadd dX5_isItem_99 ?_
        refine pX5_2 dX5_isItem_100 in_X5_isItem_X5 fl_X5_isItem_82 ?_
        refine v_aload_n dX5_isItem_103 rfl ?_
        refine v_get (j := 28) iO40 rfl dX5_isItem_104 (by decide) in_X5_isItem_X5 fl_X5_isItem_69 rfl ?_
        refine v_iload dX5_isItem_107 rfl ?_
        refine v_iload_n dX5_isItem_109 rfl ?_
        refine v_if_eq (tgt := 120) dX5_isItem_110 (by decide) (fun c110 => absurd c110 (by decide)) (fun c110 => ?_)
        refine v_aload_n dX5_isItem_113 rfl ?_
        refine v_callVi (M' := M_X5_number) (As := []) iO40 (s_X5_number (((((hI0.at _).at _).at _).got 0 _).at _).1 (p := ((p + 1) + t0 + 1)) (t := t1) (sI_at _ _ _ _) D1 E1 (by omega)) dX5_isItem_114 gX5_isItem_X5_number rfl rfl nn_X5_number ⟨rfl, rfl⟩ ⟨by decide, by decide⟩ rfl rfl (Nat.le_of_ble_eq_true rfl) ?_
        refine v_goto (tgt := 121) dX5_isItem_117 (by decide) ?_
        by_cases T1 : 1 ≤ t1 ∧ t1 ≤ 3
        · refine v_top (y := nI (valF u ((p + 1) + t0 + 1) t1)) (if_pos T1) ?_
          have V1 := td_lt D1 T1
          refine v_iastN 1 iI60 dX5_isItem_121 rfl (by decide) (by decide) ?_
          refine v_aload_n dX5_isItem_122 rfl ?_
          refine v_get (j := 28) iO40 rfl dX5_isItem_123 (by decide) in_X5_isItem_X5 fl_X5_isItem_69 rfl ?_
          refine v_iload dX5_isItem_126 rfl ?_
          refine v_ialdN 1 iI60 dX5_isItem_128 rfl (by decide) (by decide) ?_
          refine v_top (y := nI (valF u ((p + 1) + t0 + 1) t1)) (sI_at _ _ _ _) ?_
          refine n_if_lt (tgt := 136) dX5_isItem_129 (by decide) (by omega) ?_
          refine v_iconst (x := nI 1) dX5_isItem_132 (by decide +kernel) ?_
          refine v_goto (tgt := 137) dX5_isItem_133 (by decide) ?_
          refine v_istore_n (L' := [(3, _), (4, _), (2, _), (1, _), (0, _)]) dX5_isItem_137 rfl (by decide) rfl ?_
          refine n_iinc (n := 1) (L' := [(4, _), (3, _), (2, _), (1, _), (0, _)]) dX5_isItem_138 rfl (by decide) rfl ?_
          refine v_goto (tgt := 38) dX5_isItem_141 (by decide) ?_
          refine v_iload dX5_isItem_38 rfl ?_
          refine v_iload_n dX5_isItem_40 rfl ?_
          refine n_icmp_ge (tgt := 144) dX5_isItem_41 (by decide) (by omega) (by omega) (fun c41 => ?_) (fun c41 => absurd c41 (by omega))
          refine v_iload_n dX5_isItem_144 rfl ?_
          refine v_if_eq (tgt := 177) dX5_isItem_145 (by decide) (fun c145 => absurd c145 (by decide)) (fun c145 => ?_)
          refine v_aload_n dX5_isItem_148 rfl ?_
          refine v_get (j := 2) iO40 rfl dX5_isItem_149 (by decide) in_X5_isItem_X5 fl_X5_isItem_82 rfl ?_
          refine v_top (y := nI (((p + 1) + t0 + 1) + t1)) ((sI_ne _ _ (by omega)).trans (sI_at _ _ _ _)) ?_
          refine v_aload_n dX5_isItem_152 rfl ?_
          refine v_get (j := 0) iO40 rfl dX5_isItem_153 (by decide) in_X5_isItem_X5 fl_X5_isItem_78 rfl ?_
          refine v_top (y := nI len) (((((((hI0.at _).at _).at _).got 0 _).at _).at _).got 1 _).1.1 ?_
          refine n_icmp_ge (tgt := 177) dX5_isItem_156 (by decide) (by omega) (by omega) (fun c156 => ?_) (fun c156 => ?_)
          · have S1 : sepAt u len (((p + 1) + t0 + 1) + t1) 59 = false := by rw [sepAt, decide_eq_false (by omega)]; rfl
            refine v_iconst (x := nI 0) dX5_isItem_177 (by decide +kernel) ?_
            refine v_istore_n (L' := [(3, _), (4, _), (2, _), (1, _), (0, _)]) dX5_isItem_178 rfl (by decide) rfl ?_
            refine v_aload_n dX5_isItem_179 rfl ?_
            refine v_dup dX5_isItem_180 rfl ?_
            refine v_get (j := 2) iO40 rfl dX5_isItem_181 (by decide) in_X5_isItem_X5 fl_X5_isItem_82 rfl ?_
            refine v_top (y := nI (((p + 1) + t0 + 1) + t1)) ((sI_ne _ _ (by omega)).trans (sI_at _ _ _ _)) ?_
            refine v_iconst (x := nI 1) dX5_isItem_184 (by decide +kernel) ?_
            refine n_iadd dX5_isItem_185 ?_
            refine pX5_2 dX5_isItem_186 in_X5_isItem_X5 fl_X5_isItem_82 ?_
            refine v_iload_n dX5_isItem_189 rfl ?_
            refine v_if_eq (tgt := 205) dX5_isItem_190 (by decide) (fun c190 => ?_) (fun c190 => absurd rfl c190)
            refine v_iconst (x := nI 0) dX5_isItem_205 (by decide +kernel) ?_
            exact v_zret rfl (by decide) dX5_isItem_206 ⟨congrArg (fun z => some (Value.int z)) (bI_f (by rw [itemAt_no_g e9 (by rw [i2]; simp only [(show n1 u len (p + 1) 44 = some (valF u (p + 1) t0, ((p + 1) + t0 + 1)) from by rw [n1_td D0 E0 (by decide), if_pos ⟨T0, S0⟩]), (show n1 u len ((p + 1) + t0 + 1) 59 = none from by rw [n1_td59 D1 E1, if_neg (fun q => by rw [S1] at q; cases q.2)])])]; rfl)), ((((((((hI0.at _).at _).at _).got 0 _).at _).at _).got 1 _).at _).2.2, fun q9 w9 h9 => by rw [itemAt_no_g e9 (by rw [i2]; simp only [(show n1 u len (p + 1) 44 = some (valF u (p + 1) t0, ((p + 1) + t0 + 1)) from by rw [n1_td D0 E0 (by decide), if_pos ⟨T0, S0⟩]), (show n1 u len ((p + 1) + t0 + 1) 59 = none from by rw [n1_td59 D1 E1, if_neg (fun q => by rw [S1] at q; cases q.2)])])] at h9; cases h9⟩
          · refine v_aload_n dX5_isItem_159 rfl ?_
            refine v_get (j := 1) iO40 rfl dX5_isItem_160 (by decide) in_X5_isItem_X5 fl_X5_isItem_7 rfl ?_
            refine v_aload_n dX5_isItem_163 rfl ?_
            refine v_get (j := 2) iO40 rfl dX5_isItem_164 (by decide) in_X5_isItem_X5 fl_X5_isItem_82 rfl ?_
            refine v_top (y := nI (((p + 1) + t0 + 1) + t1)) ((sI_ne _ _ (by omega)).trans (sI_at _ _ _ _)) ?_
            refine v_baldN (((p + 1) + t0 + 1) + t1) iB41 dX5_isItem_167 rfl (by omega) (by decide) ?_
            refine v_top (y := sb_b (u (((p + 1) + t0 + 1) + t1))) ((((((((hI0.at _).at _).at _).got 0 _).at _).at _).got 1 _).1.2.2 (((p + 1) + t0 + 1) + t1) c156).2 ?_
            refine v_bipush (x := nI 59) dX5_isItem_168 (by decide +kernel) ?_
            refine v_icmp_ne (tgt := 177) dX5_isItem_170 (by decide) (fun c170 => ?_) (fun c170 => ?_)
            · have S1 : sepAt u len (((p + 1) + t0 + 1) + t1) 59 = false := by rw [sepAt, decide_eq_false (p := u (((p + 1) + t0 + 1) + t1) = 59) (fun q => c170 ((sb_asc _ (hM.2.2 _ c156).1 59 (by decide)).mpr q)), Bool.and_false]
              refine v_iconst (x := nI 0) dX5_isItem_177 (by decide +kernel) ?_
              refine v_istore_n (L' := [(3, _), (4, _), (2, _), (1, _), (0, _)]) dX5_isItem_178 rfl (by decide) rfl ?_
              refine v_aload_n dX5_isItem_179 rfl ?_
              refine v_dup dX5_isItem_180 rfl ?_
              refine v_get (j := 2) iO40 rfl dX5_isItem_181 (by decide) in_X5_isItem_X5 fl_X5_isItem_82 rfl ?_
              refine v_top (y := nI (((p + 1) + t0 + 1) + t1)) ((sI_ne _ _ (by omega)).trans (sI_at _ _ _ _)) ?_
              refine v_iconst (x := nI 1) dX5_isItem_184 (by decide +kernel) ?_
              refine n_iadd dX5_isItem_185 ?_
              refine pX5_2 dX5_isItem_186 in_X5_isItem_X5 fl_X5_isItem_82 ?_
              refine v_iload_n dX5_isItem_189 rfl ?_
              refine v_if_eq (tgt := 205) dX5_isItem_190 (by decide) (fun c190 => ?_) (fun c190 => absurd rfl c190)
              refine v_iconst (x := nI 0) dX5_isItem_205 (by decide +kernel) ?_
              exact v_zret rfl (by decide) dX5_isItem_206 ⟨congrArg (fun z => some (Value.int z)) (bI_f (by rw [itemAt_no_g e9 (by rw [i2]; simp only [(show n1 u len (p + 1) 44 = some (valF u (p + 1) t0, ((p + 1) + t0 + 1)) from by rw [n1_td D0 E0 (by decide), if_pos ⟨T0, S0⟩]), (show n1 u len ((p + 1) + t0 + 1) 59 = none from by rw [n1_td59 D1 E1, if_neg (fun q => by rw [S1] at q; cases q.2)])])]; rfl)), ((((((((hI0.at _).at _).at _).got 0 _).at _).at _).got 1 _).at _).2.2, fun q9 w9 h9 => by rw [itemAt_no_g e9 (by rw [i2]; simp only [(show n1 u len (p + 1) 44 = some (valF u (p + 1) t0, ((p + 1) + t0 + 1)) from by rw [n1_td D0 E0 (by decide), if_pos ⟨T0, S0⟩]), (show n1 u len ((p + 1) + t0 + 1) 59 = none from by rw [n1_td59 D1 E1, if_neg (fun q => by rw [S1] at q; cases q.2)])])] at h9; cases h9⟩
            · have S1 : sepAt u len (((p + 1) + t0 + 1) + t1) 59 = true := sepAt_iff.mpr ⟨c156, (sb_asc _ (hM.2.2 _ c156).1 59 (by decide)).mp c170⟩
              refine v_iconst (x := nI 1) dX5_isItem_173 (by decide +kernel) ?_
              refine v_goto (tgt := 178) dX5_isItem_174 (by decide) ?_
              refine v_istore_n (L' := [(3, _), (4, _), (2, _), (1, _), (0, _)]) dX5_isItem_178 rfl (by decide) rfl ?_
              refine v_aload_n dX5_isItem_179 rfl ?_
              refine v_dup dX5_isItem_180 rfl ?_
              refine v_get (j := 2) iO40 rfl dX5_isItem_181 (by decide) in_X5_isItem_X5 fl_X5_isItem_82 rfl ?_
              refine v_top (y := nI (((p + 1) + t0 + 1) + t1)) ((sI_ne _ _ (by omega)).trans (sI_at _ _ _ _)) ?_
              refine v_iconst (x := nI 1) dX5_isItem_184 (by decide +kernel) ?_
              refine n_iadd dX5_isItem_185 ?_
              refine pX5_2 dX5_isItem_186 in_X5_isItem_X5 fl_X5_isItem_82 ?_
              refine v_iload_n dX5_isItem_189 rfl ?_
              refine v_if_eq (tgt := 205) dX5_isItem_190 (by decide) (fun c190 => absurd c190 (by decide)) (fun c190 => ?_)
              refine v_aload_n dX5_isItem_193 rfl ?_
              refine v_iload_n dX5_isItem_194 rfl ?_
              refine v_callVRi (M' := M_X5_isGood) (As := [_]) iO40 (s_X5_isGood_g ((((((((hI0.at _).at _).at _).got 0 _).at _).at _).got 1 _).at _).2.1 hv (td_lt D0 T0) (td_lt D1 T1) (by simp [sI, upd]) (by simp [sI, upd])) dX5_isItem_195 gX5_isItem_X5_isGood rfl rfl nn_X5_isGood ⟨rfl, rfl⟩ ⟨by decide, by decide⟩ rfl rfl (Nat.le_of_ble_eq_true rfl) (fun s1 h1 => ?_)
              refine b_if_eq (tgt := 205) dX5_isItem_198 (by decide) (fun c198 => ?_) (fun c198 => ?_)
              · have hx9 : iG w (valF u (p + 1) t0) (valF u ((p + 1) + t0 + 1) t1) = none := by cases h : iG w (valF u (p + 1) t0) (valF u ((p + 1) + t0 + 1) t1) with | none => rfl | some y => rw [h] at c198; cases c198
                refine v_iconst (x := nI 0) dX5_isItem_205 (by decide +kernel) ?_
                exact v_zret rfl (by decide) dX5_isItem_206 ⟨congrArg (fun z => some (Value.int z)) (bI_f (by rw [itemAt_yes_g (a := valF u (p + 1) t0) (c := valF u ((p + 1) + t0 + 1) t1) (q := (((p + 1) + t0 + 1) + t1 + 1)) e9 (by rw [i2]; simp only [(show n1 u len (p + 1) 44 = some (valF u (p + 1) t0, ((p + 1) + t0 + 1)) from by rw [n1_td D0 E0 (by decide), if_pos ⟨T0, S0⟩]), (show n1 u len ((p + 1) + t0 + 1) 59 = some (valF u ((p + 1) + t0 + 1) t1, (((p + 1) + t0 + 1) + t1 + 1)) from by rw [n1_td59 D1 E1, if_pos ⟨T1, S1⟩])]), hx9]; rfl)), ((((((((hI0.at _).at _).at _).got 0 _).at _).at _).got 1 _).at _).2.2.tr h1.1, fun q9 w9 h9 => by rw [itemAt_yes_g (a := valF u (p + 1) t0) (c := valF u ((p + 1) + t0 + 1) t1) (q := (((p + 1) + t0 + 1) + t1 + 1)) e9 (by rw [i2]; simp only [(show n1 u len (p + 1) 44 = some (valF u (p + 1) t0, ((p + 1) + t0 + 1)) from by rw [n1_td D0 E0 (by decide), if_pos ⟨T0, S0⟩]), (show n1 u len ((p + 1) + t0 + 1) 59 = some (valF u ((p + 1) + t0 + 1) t1, (((p + 1) + t0 + 1) + t1 + 1)) from by rw [n1_td59 D1 E1, if_pos ⟨T1, S1⟩])]), hx9] at h9; cases h9⟩
              · obtain ⟨y9, hx9⟩ : ∃ y, iG w (valF u (p + 1) t0) (valF u ((p + 1) + t0 + 1) t1) = some y := by cases h : iG w (valF u (p + 1) t0) (valF u ((p + 1) + t0 + 1) t1) with | none => rw [h] at c198; cases c198 | some y => exact ⟨y, rfl⟩
                refine v_iconst (x := nI 1) dX5_isItem_201 (by decide +kernel) ?_
                refine v_goto (tgt := 206) dX5_isItem_202 (by decide) ?_
                exact v_zret rfl (by decide) dX5_isItem_206 ⟨congrArg (fun z => some (Value.int z)) (bI_t (by rw [itemAt_yes_g (a := valF u (p + 1) t0) (c := valF u ((p + 1) + t0 + 1) t1) (q := (((p + 1) + t0 + 1) + t1 + 1)) e9 (by rw [i2]; simp only [(show n1 u len (p + 1) 44 = some (valF u (p + 1) t0, ((p + 1) + t0 + 1)) from by rw [n1_td D0 E0 (by decide), if_pos ⟨T0, S0⟩]), (show n1 u len ((p + 1) + t0 + 1) 59 = some (valF u ((p + 1) + t0 + 1) t1, (((p + 1) + t0 + 1) + t1 + 1)) from by rw [n1_td59 D1 E1, if_pos ⟨T1, S1⟩])]), hx9]; rfl)), ((((((((hI0.at _).at _).at _).got 0 _).at _).at _).got 1 _).at _).2.2.tr h1.1, fun q9 w9 h9 => by rw [itemAt_yes_g (a := valF u (p + 1) t0) (c := valF u ((p + 1) + t0 + 1) t1) (q := (((p + 1) + t0 + 1) + t1 + 1)) e9 (by rw [i2]; simp only [(show n1 u len (p + 1) 44 = some (valF u (p + 1) t0, ((p + 1) + t0 + 1)) from by rw [n1_td D0 E0 (by decide), if_pos ⟨T0, S0⟩]), (show n1 u len ((p + 1) + t0 + 1) 59 = some (valF u ((p + 1) + t0 + 1) t1, (((p + 1) + t0 + 1) + t1 + 1)) from by rw [n1_td59 D1 E1, if_pos ⟨T1, S1⟩])]), hx9] at h9; cases h9; exact ⟨h1.2.1 _ hx9, h1.2.2.trans (sI_at _ _ _ _)⟩⟩
        · refine v_top (y := -1) (if_neg T1) ?_
          refine v_iastN 1 iI60 dX5_isItem_121 rfl (by decide) (by decide) ?_
          refine v_aload_n dX5_isItem_122 rfl ?_
          refine v_get (j := 28) iO40 rfl dX5_isItem_123 (by decide) in_X5_isItem_X5 fl_X5_isItem_69 rfl ?_
          refine v_iload dX5_isItem_126 rfl ?_
          refine v_ialdN 1 iI60 dX5_isItem_128 rfl (by decide) (by decide) ?_
          refine v_top (y := -1) (sI_at _ _ _ _) ?_
          refine v_if_lt (tgt := 136) dX5_isItem_129 (by decide) (fun c129 => ?_) (fun c129 => absurd (by decide) c129)
          refine v_iconst (x := nI 0) dX5_isItem_136 (by decide +kernel) ?_
          refine v_istore_n (L' := [(3, _), (4, _), (2, _), (1, _), (0, _)]) dX5_isItem_137 rfl (by decide) rfl ?_
          refine n_iinc (n := 1) (L' := [(4, _), (3, _), (2, _), (1, _), (0, _)]) dX5_isItem_138 rfl (by decide) rfl ?_
          refine v_goto (tgt := 38) dX5_isItem_141 (by decide) ?_
          refine v_iload dX5_isItem_38 rfl ?_
          refine v_iload_n dX5_isItem_40 rfl ?_
          refine n_icmp_ge (tgt := 144) dX5_isItem_41 (by decide) (by omega) (by omega) (fun c41 => ?_) (fun c41 => absurd c41 (by omega))
          refine v_iload_n dX5_isItem_144 rfl ?_
          refine v_if_eq (tgt := 177) dX5_isItem_145 (by decide) (fun c145 => ?_) (fun c145 => absurd rfl c145)
          refine v_iconst (x := nI 0) dX5_isItem_177 (by decide +kernel) ?_
          refine v_istore_n (L' := [(3, _), (4, _), (2, _), (1, _), (0, _)]) dX5_isItem_178 rfl (by decide) rfl ?_
          refine v_aload_n dX5_isItem_179 rfl ?_
          refine v_dup dX5_isItem_180 rfl ?_
          refine v_get (j := 2) iO40 rfl dX5_isItem_181 (by decide) in_X5_isItem_X5 fl_X5_isItem_82 rfl ?_
          refine v_top (y := nI (((p + 1) + t0 + 1) + t1)) ((sI_ne _ _ (by omega)).trans (sI_at _ _ _ _)) ?_
          refine v_iconst (x := nI 1) dX5_isItem_184 (by decide +kernel) ?_
          refine n_iadd dX5_isItem_185 ?_
          refine pX5_2 dX5_isItem_186 in_X5_isItem_X5 fl_X5_isItem_82 ?_
          refine v_iload_n dX5_isItem_189 rfl ?_
          refine v_if_eq (tgt := 205) dX5_isItem_190 (by decide) (fun c190 => ?_) (fun c190 => absurd rfl c190)
          refine v_iconst (x := nI 0) dX5_isItem_205 (by decide +kernel) ?_
          exact v_zret rfl (by decide) dX5_isItem_206 ⟨congrArg (fun z => some (Value.int z)) (bI_f (by rw [itemAt_no_g e9 (by rw [i2]; simp only [(show n1 u len (p + 1) 44 = some (valF u (p + 1) t0, ((p + 1) + t0 + 1)) from by rw [n1_td D0 E0 (by decide), if_pos ⟨T0, S0⟩]), (show n1 u len ((p + 1) + t0 + 1) 59 = none from by rw [n1_td59 D1 E1, if_neg (fun q => T1 q.1)])])]; rfl)), ((((((((hI0.at _).at _).at _).got 0 _).at _).at _).got 1 _).at _).2.2, fun q9 w9 h9 => by rw [itemAt_no_g e9 (by rw [i2]; simp only [(show n1 u len (p + 1) 44 = some (valF u (p + 1) t0, ((p + 1) + t0 + 1)) from by rw [n1_td D0 E0 (by decide), if_pos ⟨T0, S0⟩]), (show n1 u len ((p + 1) + t0 + 1) 59 = none from by rw [n1_td59 D1 E1, if_neg (fun q => T1 q.1)])])] at h9; cases h9⟩
  · refine v_top (y := -1) (if_neg T0) ?_
    refine v_iastN 0 iI60 dX5_isItem_121 rfl (by decide) (by decide) ?_
    refine v_aload_n dX5_isItem_122 rfl ?_
    refine v_get (j := 28) iO40 rfl dX5_isItem_123 (by decide) in_X5_isItem_X5 fl_X5_isItem_69 rfl ?_
    refine v_iload dX5_isItem_126 rfl ?_
    refine v_ialdN 0 iI60 dX5_isItem_128 rfl (by decide) (by decide) ?_
    refine v_top (y := -1) (sI_at _ _ _ _) ?_
    refine v_if_lt (tgt := 136) dX5_isItem_129 (by decide) (fun c129 => ?_) (fun c129 => absurd (by decide) c129)
    refine v_iconst (x := nI 0) dX5_isItem_136 (by decide +kernel) ?_
    refine v_istore_n (L' := [(3, _), (4, _), (2, _), (1, _), (0, _)]) dX5_isItem_137 rfl (by decide) rfl ?_
    refine n_iinc (n := 1) (L' := [(4, _), (3, _), (2, _), (1, _), (0, _)]) dX5_isItem_138 rfl (by decide) rfl ?_
    refine v_goto (tgt := 38) dX5_isItem_141 (by decide) ?_
    refine v_iload dX5_isItem_38 rfl ?_
    refine v_iload_n dX5_isItem_40 rfl ?_
    refine n_icmp_ge (tgt := 144) dX5_isItem_41 (by decide) (by omega) (by omega) (fun c41 => absurd c41 (by omega)) (fun c41 => ?_)
    refine v_iload_n dX5_isItem_44 rfl ?_
    refine v_if_eq (tgt := 144) dX5_isItem_45 (by decide) (fun c45 => ?_) (fun c45 => absurd rfl c45)
    refine v_iload_n dX5_isItem_144 rfl ?_
    refine v_if_eq (tgt := 177) dX5_isItem_145 (by decide) (fun c145 => ?_) (fun c145 => absurd rfl c145)
    refine v_iconst (x := nI 0) dX5_isItem_177 (by decide +kernel) ?_
    refine v_istore_n (L' := [(3, _), (4, _), (2, _), (1, _), (0, _)]) dX5_isItem_178 rfl (by decide) rfl ?_
    refine v_aload_n dX5_isItem_179 rfl ?_
    refine v_dup dX5_isItem_180 rfl ?_
    refine v_get (j := 2) iO40 rfl dX5_isItem_181 (by decide) in_X5_isItem_X5 fl_X5_isItem_82 rfl ?_
    refine v_top (y := nI ((p + 1) + t0)) ((sI_ne _ _ (by omega)).trans (sI_at _ _ _ _)) ?_
    refine v_iconst (x := nI 1) dX5_isItem_184 (by decide +kernel) ?_
    refine n_iadd dX5_isItem_185 ?_
    refine pX5_2 dX5_isItem_186 in_X5_isItem_X5 fl_X5_isItem_82 ?_
    refine v_iload_n dX5_isItem_189 rfl ?_
    refine v_if_eq (tgt := 205) dX5_isItem_190 (by decide) (fun c190 => ?_) (fun c190 => absurd rfl c190)
    refine v_iconst (x := nI 0) dX5_isItem_205 (by decide +kernel) ?_
    exact v_zret rfl (by decide) dX5_isItem_206 ⟨congrArg (fun z => some (Value.int z)) (bI_f (by rw [itemAt_no_g e9 (by rw [i2]; simp only [(show n1 u len (p + 1) 44 = none from by rw [n1_td D0 E0 (by decide), if_neg (fun q => T0 q.1)])])]; rfl)), (((((hI0.at _).at _).at _).got 0 _).at _).2.2, fun q9 w9 h9 => by rw [itemAt_no_g e9 (by rw [i2]; simp only [(show n1 u len (p + 1) 44 = none from by rw [n1_td D0 E0 (by decide), if_neg (fun q => T0 q.1)])])] at h9; cases h9⟩
set_option maxRecDepth 100000 in
set_option maxHeartbeats 4000000 in
theorem s_X5_isItem_c {v : EE} {u : Nat → Nat} {len : Nat} {w : WD} {z : Nat} {σ : SS} (hM : MTx u len σ) (hw : MH 1 w σ) (hv : WV z w) {p : Nat} (ha : σ.1 40 2 = nI p) (hp : p < len) (e9 : u p = 99) : SR v M_X5_isItem [.ref (v.1 40)] σ (some (.int (bI (itemAt u len p w).isSome))) (fun σ' => FD σ σ' ∧ ∀ q w', itemAt u len p w = some (q, w') → MH 1 w' σ' ∧ σ'.1 40 2 = nI q) := by
  refine Sp.of rfl (by decide) rfl (Nat.le_of_ble_eq_true rfl) ?_
  show V v M_X5_isItem _ 0 [(0, .ref (v.1 40))] [] σ
  have hl := hM.2.1
  have hI0 : MI u len w σ σ := ⟨hM, hw, FD.rf σ⟩
  refine v_aload_n dX5_isItem_0 rfl ?_
  refine v_get (j := 1) iO40 rfl dX5_isItem_1 (by decide) in_X5_isItem_X5 fl_X5_isItem_7 rfl ?_
  refine v_aload_n dX5_isItem_4 rfl ?_
  refine v_get (j := 2) iO40 rfl dX5_isItem_5 (by decide) in_X5_isItem_X5 fl_X5_isItem_82 rfl ?_
  refine v_top ha ?_
  refine v_baldN p iB41 dX5_isItem_8 rfl (by omega) (by decide) ?_
  refine v_top (y := nI 99) ((hM.2.2 p hp).2.trans (by rw [e9]; decide +kernel)) ?_
  refine v_istore_n (L' := [(1, _), (0, _)]) dX5_isItem_9 rfl (by decide) rfl ?_
  refine v_aload_n dX5_isItem_10 rfl ?_
  refine v_dup dX5_isItem_11 rfl ?_
  refine v_get (j := 2) iO40 rfl dX5_isItem_12 (by decide) in_X5_isItem_X5 fl_X5_isItem_82 rfl ?_
  refine v_top ha ?_
  refine v_iconst (x := nI 1) dX5_isItem_15 (by decide +kernel) ?_
  refine n_iadd dX5_isItem_16 ?_
  refine pX5_2 dX5_isItem_17 in_X5_isItem_X5 fl_X5_isItem_82 ?_
  refine v_iload_n dX5_isItem_20 rfl ?_
  refine v_callSi (M' := M_X5_figures) (As := [_]) (s_X5_figures_99) dX5_isItem_21 gX5_isItem_X5_figures rfl nn_X5_figures ⟨rfl, rfl⟩ ⟨by decide, by decide⟩ rfl rfl (Nat.le_of_ble_eq_true rfl) ?_
  refine v_istore_n (L' := [(2, _), (1, _), (0, _)]) dX5_isItem_24 rfl (by decide) rfl ?_
  refine v_iload_n dX5_isItem_25 rfl ?_
  refine n_if_le (tgt := 33) dX5_isItem_26 (by decide) (by omega) (fun c26 => absurd c26 (by omega)) (fun c26 => ?_)
  refine v_iconst (x := nI 1) dX5_isItem_29 (by decide +kernel) ?_
  refine v_goto (tgt := 34) dX5_isItem_30 (by decide) ?_
  refine v_istore_n (L' := [(3, _), (2, _), (1, _), (0, _)]) dX5_isItem_34 rfl (by decide) rfl ?_
  refine v_iconst (x := nI 0) dX5_isItem_35 (by decide +kernel) ?_
  refine v_istore (L' := [(4, _), (3, _), (2, _), (1, _), (0, _)]) dX5_isItem_36 (by decide) rfl ?_
  refine v_iload dX5_isItem_38 rfl ?_
  refine v_iload_n dX5_isItem_40 rfl ?_
  refine n_icmp_ge (tgt := 144) dX5_isItem_41 (by decide) (by omega) (by omega) (fun c41 => absurd c41 (by omega)) (fun c41 => ?_)
  refine v_iload_n dX5_isItem_44 rfl ?_
  refine v_if_eq (tgt := 144) dX5_isItem_45 (by decide) (fun c45 => absurd c45 (by decide)) (fun c45 => ?_)
  refine v_iload dX5_isItem_48 rfl ?_
  refine n_if_eq (tgt := 78) dX5_isItem_50 (by decide) (by omega) (fun c50 => ?_) (fun c50 => absurd c50 (by omega))
  refine v_iconst (x := nI 1) dX5_isItem_78 (by decide +kernel) ?_
  refine v_goto (tgt := 83) dX5_isItem_79 (by decide) ?_
  refine v_istore_n (L' := [(3, _), (4, _), (2, _), (1, _), (0, _)]) dX5_isItem_83 rfl (by decide) rfl ?_
  obtain ⟨t0, D0, E0, B0⟩ := ex_td u len (p + 1)
  refine v_aload_n dX5_isItem_84 rfl ?_
  refine v_dup dX5_isItem_85 rfl ?_
  refine v_get (j := 2) iO40 rfl dX5_isItem_86 (by decide) in_X5_isItem_X5 fl_X5_isItem_82 rfl ?_
  refine v_top (y := nI (p + 1)) (sI_at _ _ _ _) ?_
  refine v_iload dX5_isItem_89 rfl ?_
  refine n_if_ne (tgt := 98) dX5_isItem_91 (by decide) (by omega) (fun c91 => absurd c91 (by omega)) (fun c91 => ?_)
  refine v_iconst (x := nI 0) dX5_isItem_94 (by decide +kernel) ?_
  refine v_goto (tgt := 99) dX5_isItem_95 (by decide) ?_
  refine n_iadd dX5_isItem_99 ?_
  refine pX5_2 dX5_isItem_100 in_X5_isItem_X5 fl_X5_isItem_82 ?_
  refine v_aload_n dX5_isItem_103 rfl ?_
  refine v_get (j := 28) iO40 rfl dX5_isItem_104 (by decide) in_X5_isItem_X5 fl_X5_isItem_69 rfl ?_
  refine v_iload dX5_isItem_107 rfl ?_
  refine v_iload_n dX5_isItem_109 rfl ?_
  refine v_if_eq (tgt := 120) dX5_isItem_110 (by decide) (fun c110 => absurd c110 (by decide)) (fun c110 => ?_)
  refine v_aload_n dX5_isItem_113 rfl ?_
  refine v_callVi (M' := M_X5_number) (As := []) iO40 (s_X5_number ((hI0.at _).at _).1 (p := (p + 1)) (t := t0) (sI_at _ _ _ _) D0 E0 (by omega)) dX5_isItem_114 gX5_isItem_X5_number rfl rfl nn_X5_number ⟨rfl, rfl⟩ ⟨by decide, by decide⟩ rfl rfl (Nat.le_of_ble_eq_true rfl) ?_
  refine v_goto (tgt := 121) dX5_isItem_117 (by decide) ?_
  by_cases T0 : 1 ≤ t0 ∧ t0 ≤ 3
  · refine v_top (y := nI (valF u (p + 1) t0)) (if_pos T0) ?_
    have V0 := td_lt D0 T0
    refine v_iastN 0 iI60 dX5_isItem_121 rfl (by decide) (by decide) ?_
    refine v_aload_n dX5_isItem_122 rfl ?_
    refine v_get (j := 28) iO40 rfl dX5_isItem_123 (by decide) in_X5_isItem_X5 fl_X5_isItem_69 rfl ?_
    refine v_iload dX5_isItem_126 rfl ?_
    refine v_ialdN 0 iI60 dX5_isItem_128 rfl (by decide) (by decide) ?_
    refine v_top (y := nI (valF u (p + 1) t0)) (sI_at _ _ _ _) ?_
    refine n_if_lt (tgt := 136) dX5_isItem_129 (by decide) (by omega) ?_
    refine v_iconst (x := nI 1) dX5_isItem_132 (by decide +kernel) ?_
    refine v_goto (tgt := 137) dX5_isItem_133 (by decide) ?_
    refine v_istore_n (L' := [(3, _), (4, _), (2, _), (1, _), (0, _)]) dX5_isItem_137 rfl (by decide) rfl ?_
    refine n_iinc (n := 1) (L' := [(4, _), (3, _), (2, _), (1, _), (0, _)]) dX5_isItem_138 rfl (by decide) rfl ?_
    refine v_goto (tgt := 38) dX5_isItem_141 (by decide) ?_
    refine v_iload dX5_isItem_38 rfl ?_
    refine v_iload_n dX5_isItem_40 rfl ?_
    refine n_icmp_ge (tgt := 144) dX5_isItem_41 (by decide) (by omega) (by omega) (fun c41 => absurd c41 (by omega)) (fun c41 => ?_)
    refine v_iload_n dX5_isItem_44 rfl ?_
    refine v_if_eq (tgt := 144) dX5_isItem_45 (by decide) (fun c45 => absurd c45 (by decide)) (fun c45 => ?_)
    refine v_iload dX5_isItem_48 rfl ?_
    refine n_if_eq (tgt := 78) dX5_isItem_50 (by decide) (by omega) (fun c50 => absurd c50 (by omega)) (fun c50 => ?_)
    refine v_aload_n dX5_isItem_53 rfl ?_
    refine v_get (j := 2) iO40 rfl dX5_isItem_54 (by decide) in_X5_isItem_X5 fl_X5_isItem_82 rfl ?_
    refine v_top (y := nI ((p + 1) + t0)) ((sI_ne _ _ (by omega)).trans (sI_at _ _ _ _)) ?_
    refine v_aload_n dX5_isItem_57 rfl ?_
    refine v_get (j := 0) iO40 rfl dX5_isItem_58 (by decide) in_X5_isItem_X5 fl_X5_isItem_78 rfl ?_
    refine v_top (y := nI len) ((((hI0.at _).at _).at _).got 0 _).1.1 ?_
    refine n_icmp_ge (tgt := 82) dX5_isItem_61 (by decide) (by omega) (by omega) (fun c61 => ?_) (fun c61 => ?_)
    · have S0 : sepAt u len ((p + 1) + t0) 44 = false := by rw [sepAt, decide_eq_false (by omega)]; rfl
      refine v_iconst (x := nI 0) dX5_isItem_82 (by decide +kernel) ?_
      refine v_istore_n (L' := [(3, _), (4, _), (2, _), (1, _), (0, _)]) dX5_isItem_83 rfl (by decide) rfl ?_
      refine v_aload_n dX5_isItem_84 rfl ?_
      refine v_dup dX5_isItem_85 rfl ?_
      refine v_get (j := 2) iO40 rfl dX5_isItem_86 (by decide) in_X5_isItem_X5 fl_X5_isItem_82 rfl ?_
      refine v_top (y := nI ((p + 1) + t0)) ((sI_ne _ _ (by omega)).trans (sI_at _ _ _ _)) ?_
      refine v_iload dX5_isItem_89 rfl ?_
      refine n_if_ne (tgt := 98) dX5_isItem_91 (by decide) (by omega) (fun c91 => ?_) (fun c91 => absurd c91 (by omega))
      refine v_iconst (x := nI 1) dX5_isItem_98 (by decide +kernel) ?_
      refine n_iadd dX5_isItem_99 ?_
      refine pX5_2 dX5_isItem_100 in_X5_isItem_X5 fl_X5_isItem_82 ?_
      refine v_aload_n dX5_isItem_103 rfl ?_
      refine v_get (j := 28) iO40 rfl dX5_isItem_104 (by decide) in_X5_isItem_X5 fl_X5_isItem_69 rfl ?_
      refine v_iload dX5_isItem_107 rfl ?_
      refine v_iload_n dX5_isItem_109 rfl ?_
      refine v_if_eq (tgt := 120) dX5_isItem_110 (by decide) (fun c110 => ?_) (fun c110 => absurd rfl c110)
      refine v_iconst (x := (-1)) dX5_isItem_120 rfl ?_
      refine v_iastN 1 iI60 dX5_isItem_121 rfl (by decide) (by decide) ?_
      refine v_aload_n dX5_isItem_122 rfl ?_
      refine v_get (j := 28) iO40 rfl dX5_isItem_123 (by decide) in_X5_isItem_X5 fl_X5_isItem_69 rfl ?_
      refine v_iload dX5_isItem_126 rfl ?_
      refine v_ialdN 1 iI60 dX5_isItem_128 rfl (by decide) (by decide) ?_
      refine v_top (y := -1) (sI_at _ _ _ _) ?_
      refine v_if_lt (tgt := 136) dX5_isItem_129 (by decide) (fun c129 => ?_) (fun c129 => absurd (by decide) c129)
      refine v_iconst (x := nI 0) dX5_isItem_136 (by decide +kernel) ?_
      refine v_istore_n (L' := [(3, _), (4, _), (2, _), (1, _), (0, _)]) dX5_isItem_137 rfl (by decide) rfl ?_
      refine n_iinc (n := 1) (L' := [(4, _), (3, _), (2, _), (1, _), (0, _)]) dX5_isItem_138 rfl (by decide) rfl ?_
      refine v_goto (tgt := 38) dX5_isItem_141 (by decide) ?_
      refine v_iload dX5_isItem_38 rfl ?_
      refine v_iload_n dX5_isItem_40 rfl ?_
      refine n_icmp_ge (tgt := 144) dX5_isItem_41 (by decide) (by omega) (by omega) (fun c41 => absurd c41 (by omega)) (fun c41 => ?_)
      refine v_iload_n dX5_isItem_44 rfl ?_
      refine v_if_eq (tgt := 144) dX5_isItem_45 (by decide) (fun c45 => ?_) (fun c45 => absurd rfl c45)
      refine v_iload_n dX5_isItem_144 rfl ?_
      refine v_if_eq (tgt := 177) dX5_isItem_145 (by decide) (fun c145 => ?_) (fun c145 => absurd rfl c145)
      refine v_iconst (x := nI 0) dX5_isItem_177 (by decide +kernel) ?_
      refine v_istore_n (L' := [(3, _), (4, _), (2, _), (1, _), (0, _)]) dX5_isItem_178 rfl (by decide) rfl ?_
      refine v_aload_n dX5_isItem_179 rfl ?_
      refine v_dup dX5_isItem_180 rfl ?_
      refine v_get (j := 2) iO40 rfl dX5_isItem_181 (by decide) in_X5_isItem_X5 fl_X5_isItem_82 rfl ?_
      refine v_top (y := nI (((p + 1) + t0) + 1)) ((sI_ne _ _ (by omega)).trans (sI_at _ _ _ _)) ?_
      refine v_iconst (x := nI 1) dX5_isItem_184 (by decide +kernel) ?_
      refine n_iadd dX5_isItem_185 ?_
      refine pX5_2 dX5_isItem_186 in_X5_isItem_X5 fl_X5_isItem_82 ?_
      refine v_iload_n dX5_isItem_189 rfl ?_
      refine v_if_eq (tgt := 205) dX5_isItem_190 (by decide) (fun c190 => ?_) (fun c190 => absurd rfl c190)
      refine v_iconst (x := nI 0) dX5_isItem_205 (by decide +kernel) ?_
      exact v_zret rfl (by decide) dX5_isItem_206 ⟨congrArg (fun z => some (Value.int z)) (bI_f (by rw [itemAt_no_c e9 (by rw [i3]; simp only [(show n1 u len (p + 1) 44 = none from by rw [n1_td D0 E0 (by decide), if_neg (fun q => by rw [S0] at q; cases q.2)])])]; rfl)), (((((((hI0.at _).at _).at _).got 0 _).at _).got 1 _).at _).2.2, fun q9 w9 h9 => by rw [itemAt_no_c e9 (by rw [i3]; simp only [(show n1 u len (p + 1) 44 = none from by rw [n1_td D0 E0 (by decide), if_neg (fun q => by rw [S0] at q; cases q.2)])])] at h9; cases h9⟩
    · refine v_aload_n dX5_isItem_64 rfl ?_
      refine v_get (j := 1) iO40 rfl dX5_isItem_65 (by decide) in_X5_isItem_X5 fl_X5_isItem_7 rfl ?_
      refine v_aload_n dX5_isItem_68 rfl ?_
      refine v_get (j := 2) iO40 rfl dX5_isItem_69 (by decide) in_X5_isItem_X5 fl_X5_isItem_82 rfl ?_
      refine v_top (y := nI ((p + 1) + t0)) ((sI_ne _ _ (by omega)).trans (sI_at _ _ _ _)) ?_
      refine v_baldN ((p + 1) + t0) iB41 dX5_isItem_72 rfl (by omega) (by decide) ?_
      refine v_top (y := sb_b (u ((p + 1) + t0))) (((((hI0.at _).at _).at _).got 0 _).1.2.2 ((p + 1) + t0) c61).2 ?_
      refine v_bipush (x := nI 44) dX5_isItem_73 (by decide +kernel) ?_
      refine v_icmp_ne (tgt := 82) dX5_isItem_75 (by decide) (fun c75 => ?_) (fun c75 => ?_)
      · have S0 : sepAt u len ((p + 1) + t0) 44 = false := by rw [sepAt, decide_eq_false (p := u ((p + 1) + t0) = 44) (fun q => c75 ((sb_asc _ (hM.2.2 _ c61).1 44 (by decide)).mpr q)), Bool.and_false]
        refine v_iconst (x := nI 0) dX5_isItem_82 (by decide +kernel) ?_
        refine v_istore_n (L' := [(3, _), (4, _), (2, _), (1, _), (0, _)]) dX5_isItem_83 rfl (by decide) rfl ?_
        refine v_aload_n dX5_isItem_84 rfl ?_
        refine v_dup dX5_isItem_85 rfl ?_
        refine v_get (j := 2) iO40 rfl dX5_isItem_86 (by decide) in_X5_isItem_X5 fl_X5_isItem_82 rfl ?_
        refine v_top (y := nI ((p + 1) + t0)) ((sI_ne _ _ (by omega)).trans (sI_at _ _ _ _)) ?_
        refine v_iload dX5_isItem_89 rfl ?_
        refine n_if_ne (tgt := 98) dX5_isItem_91 (by decide) (by omega) (fun c91 => ?_) (fun c91 => absurd c91 (by omega))
        refine v_iconst (x := nI 1) dX5_isItem_98 (by decide +kernel) ?_
        refine n_iadd dX5_isItem_99 ?_
        refine pX5_2 dX5_isItem_100 in_X5_isItem_X5 fl_X5_isItem_82 ?_
        refine v_aload_n dX5_isItem_103 rfl ?_
        refine v_get (j := 28) iO40 rfl dX5_isItem_104 (by decide) in_X5_isItem_X5 fl_X5_isItem_69 rfl ?_
        refine v_iload dX5_isItem_107 rfl ?_
        refine v_iload_n dX5_isItem_109 rfl ?_
        refine v_if_eq (tgt := 120) dX5_isItem_110 (by decide) (fun c110 => ?_) (fun c110 => absurd rfl c110)
        refine v_iconst (x := (-1)) dX5_isItem_120 rfl ?_
        refine v_iastN 1 iI60 dX5_isItem_121 rfl (by decide) (by decide) ?_
        refine v_aload_n dX5_isItem_122 rfl ?_
        refine v_get (j := 28) iO40 rfl dX5_isItem_123 (by decide) in_X5_isItem_X5 fl_X5_isItem_69 rfl ?_
        refine v_iload dX5_isItem_126 rfl ?_
        refine v_ialdN 1 iI60 dX5_isItem_128 rfl (by decide) (by decide) ?_
        refine v_top (y := -1) (sI_at _ _ _ _) ?_
        refine v_if_lt (tgt := 136) dX5_isItem_129 (by decide) (fun c129 => ?_) (fun c129 => absurd (by decide) c129)
        refine v_iconst (x := nI 0) dX5_isItem_136 (by decide +kernel) ?_
        refine v_istore_n (L' := [(3, _), (4, _), (2, _), (1, _), (0, _)]) dX5_isItem_137 rfl (by decide) rfl ?_
        refine n_iinc (n := 1) (L' := [(4, _), (3, _), (2, _), (1, _), (0, _)]) dX5_isItem_138 rfl (by decide) rfl ?_
        refine v_goto (tgt := 38) dX5_isItem_141 (by decide) ?_
        refine v_iload dX5_isItem_38 rfl ?_
        refine v_iload_n dX5_isItem_40 rfl ?_
        refine n_icmp_ge (tgt := 144) dX5_isItem_41 (by decide) (by omega) (by omega) (fun c41 => absurd c41 (by omega)) (fun c41 => ?_)
        refine v_iload_n dX5_isItem_44 rfl ?_
        refine v_if_eq (tgt := 144) dX5_isItem_45 (by decide) (fun c45 => ?_) (fun c45 => absurd rfl c45)
        refine v_iload_n dX5_isItem_144 rfl ?_
        refine v_if_eq (tgt := 177) dX5_isItem_145 (by decide) (fun c145 => ?_) (fun c145 => absurd rfl c145)
        refine v_iconst (x := nI 0) dX5_isItem_177 (by decide +kernel) ?_
        refine v_istore_n (L' := [(3, _), (4, _), (2, _), (1, _), (0, _)]) dX5_isItem_178 rfl (by decide) rfl ?_
        refine v_aload_n dX5_isItem_179 rfl ?_
        refine v_dup dX5_isItem_180 rfl ?_
        refine v_get (j := 2) iO40 rfl dX5_isItem_181 (by decide) in_X5_isItem_X5 fl_X5_isItem_82 rfl ?_
        refine v_top (y := nI (((p + 1) + t0) + 1)) ((sI_ne _ _ (by omega)).trans (sI_at _ _ _ _)) ?_
        refine v_iconst (x := nI 1) dX5_isItem_184 (by decide +kernel) ?_
        refine n_iadd dX5_isItem_185 ?_
        refine pX5_2 dX5_isItem_186 in_X5_isItem_X5 fl_X5_isItem_82 ?_
        refine v_iload_n dX5_isItem_189 rfl ?_
        refine v_if_eq (tgt := 205) dX5_isItem_190 (by decide) (fun c190 => ?_) (fun c190 => absurd rfl c190)
        refine v_iconst (x := nI 0) dX5_isItem_205 (by decide +kernel) ?_
        exact v_zret rfl (by decide) dX5_isItem_206 ⟨congrArg (fun z => some (Value.int z)) (bI_f (by rw [itemAt_no_c e9 (by rw [i3]; simp only [(show n1 u len (p + 1) 44 = none from by rw [n1_td D0 E0 (by decide), if_neg (fun q => by rw [S0] at q; cases q.2)])])]; rfl)), (((((((hI0.at _).at _).at _).got 0 _).at _).got 1 _).at _).2.2, fun q9 w9 h9 => by rw [itemAt_no_c e9 (by rw [i3]; simp only [(show n1 u len (p + 1) 44 = none from by rw [n1_td D0 E0 (by decide), if_neg (fun q => by rw [S0] at q; cases q.2)])])] at h9; cases h9⟩
      · have S0 : sepAt u len ((p + 1) + t0) 44 = true := sepAt_iff.mpr ⟨c61, (sb_asc _ (hM.2.2 _ c61).1 44 (by decide)).mp c75⟩
        refine v_iconst (x := nI 1) dX5_isItem_78 (by decide +kernel) ?_
        refine v_goto (tgt := 83) dX5_isItem_79 (by decide) ?_
        refine v_istore_n (L' := [(3, _), (4, _), (2, _), (1, _), (0, _)]) dX5_isItem_83 rfl (by decide) rfl ?_
        obtain ⟨t1, D1, E1, B1⟩ := ex_td u len ((p + 1) + t0 + 1)
        refine v_aload_n dX5_isItem_84 rfl ?_
        refine v_dup dX5_isItem_85 rfl ?_
        refine v_get (j := 2) iO40 rfl dX5_isItem_86 (by decide) in_X5_isItem_X5 fl_X5_isItem_82 rfl ?_
        refine v_top (y := nI ((p + 1) + t0)) ((sI_ne _ _ (by omega)).trans (sI_at _ _ _ _)) ?_
        refine v_iload dX5_isItem_89 rfl ?_
        refine n_if_ne (tgt := 98) dX5_isItem_91 (by decide) (by omega) (fun c91 => ?_) (fun c91 => absurd c91 (by omega))
        refine v_iconst (x := nI 1) dX5_isItem_98 (by decide +kernel) ?_
        refine n_iadd dX5_isItem_99 ?_
        refine pX5_2 dX5_isItem_100 in_X5_isItem_X5 fl_X5_isItem_82 ?_
        refine v_aload_n dX5_isItem_103 rfl ?_
        refine v_get (j := 28) iO40 rfl dX5_isItem_104 (by decide) in_X5_isItem_X5 fl_X5_isItem_69 rfl ?_
        refine v_iload dX5_isItem_107 rfl ?_
        refine v_iload_n dX5_isItem_109 rfl ?_
        refine v_if_eq (tgt := 120) dX5_isItem_110 (by decide) (fun c110 => absurd c110 (by decide)) (fun c110 => ?_)
        refine v_aload_n dX5_isItem_113 rfl ?_
        refine v_callVi (M' := M_X5_number) (As := []) iO40 (s_X5_number (((((hI0.at _).at _).at _).got 0 _).at _).1 (p := ((p + 1) + t0 + 1)) (t := t1) (sI_at _ _ _ _) D1 E1 (by omega)) dX5_isItem_114 gX5_isItem_X5_number rfl rfl nn_X5_number ⟨rfl, rfl⟩ ⟨by decide, by decide⟩ rfl rfl (Nat.le_of_ble_eq_true rfl) ?_
        refine v_goto (tgt := 121) dX5_isItem_117 (by decide) ?_
        by_cases T1 : 1 ≤ t1 ∧ t1 ≤ 3
        · refine v_top (y := nI (valF u ((p + 1) + t0 + 1) t1)) (if_pos T1) ?_
          have V1 := td_lt D1 T1
          refine v_iastN 1 iI60 dX5_isItem_121 rfl (by decide) (by decide) ?_
          refine v_aload_n dX5_isItem_122 rfl ?_
          refine v_get (j := 28) iO40 rfl dX5_isItem_123 (by decide) in_X5_isItem_X5 fl_X5_isItem_69 rfl ?_
          refine v_iload dX5_isItem_126 rfl ?_
          refine v_ialdN 1 iI60 dX5_isItem_128 rfl (by decide) (by decide) ?_
          refine v_top (y := nI (valF u ((p + 1) + t0 + 1) t1)) (sI_at _ _ _ _) ?_
          refine n_if_lt (tgt := 136) dX5_isItem_129 (by decide) (by omega) ?_
          refine v_iconst (x := nI 1) dX5_isItem_132 (by decide +kernel) ?_
          refine v_goto (tgt := 137) dX5_isItem_133 (by decide) ?_
          refine v_istore_n (L' := [(3, _), (4, _), (2, _), (1, _), (0, _)]) dX5_isItem_137 rfl (by decide) rfl ?_
          refine n_iinc (n := 1) (L' := [(4, _), (3, _), (2, _), (1, _), (0, _)]) dX5_isItem_138 rfl (by decide) rfl ?_
          refine v_goto (tgt := 38) dX5_isItem_141 (by decide) ?_
          refine v_iload dX5_isItem_38 rfl ?_
          refine v_iload_n dX5_isItem_40 rfl ?_
          refine n_icmp_ge (tgt := 144) dX5_isItem_41 (by decide) (by omega) (by omega) (fun c41 => absurd c41 (by omega)) (fun c41 => ?_)
          refine v_iload_n dX5_isItem_44 rfl ?_
          refine v_if_eq (tgt := 144) dX5_isItem_45 (by decide) (fun c45 => absurd c45 (by decide)) (fun c45 => ?_)
          refine v_iload dX5_isItem_48 rfl ?_
          refine n_if_eq (tgt := 78) dX5_isItem_50 (by decide) (by omega) (fun c50 => absurd c50 (by omega)) (fun c50 => ?_)
          refine v_aload_n dX5_isItem_53 rfl ?_
          refine v_get (j := 2) iO40 rfl dX5_isItem_54 (by decide) in_X5_isItem_X5 fl_X5_isItem_82 rfl ?_
          refine v_top (y := nI (((p + 1) + t0 + 1) + t1)) ((sI_ne _ _ (by omega)).trans (sI_at _ _ _ _)) ?_
          refine v_aload_n dX5_isItem_57 rfl ?_
          refine v_get (j := 0) iO40 rfl dX5_isItem_58 (by decide) in_X5_isItem_X5 fl_X5_isItem_78 rfl ?_
          refine v_top (y := nI len) (((((((hI0.at _).at _).at _).got 0 _).at _).at _).got 1 _).1.1 ?_
          refine n_icmp_ge (tgt := 82) dX5_isItem_61 (by decide) (by omega) (by omega) (fun c61 => ?_) (fun c61 => ?_)
          · have S1 : sepAt u len (((p + 1) + t0 + 1) + t1) 44 = false := by rw [sepAt, decide_eq_false (by omega)]; rfl
            refine v_iconst (x := nI 0) dX5_isItem_82 (by decide +kernel) ?_
            refine v_istore_n (L' := [(3, _), (4, _), (2, _), (1, _), (0, _)]) dX5_isItem_83 rfl (by decide) rfl ?_
            refine v_aload_n dX5_isItem_84 rfl ?_
            refine v_dup dX5_isItem_85 rfl ?_
            refine v_get (j := 2) iO40 rfl dX5_isItem_86 (by decide) in_X5_isItem_X5 fl_X5_isItem_82 rfl ?_
            refine v_top (y := nI (((p + 1) + t0 + 1) + t1)) ((sI_ne _ _ (by omega)).trans (sI_at _ _ _ _)) ?_
            refine v_iload dX5_isItem_89 rfl ?_
            refine n_if_ne (tgt := 98) dX5_isItem_91 (by decide) (by omega) (fun c91 => ?_) (fun c91 => absurd c91 (by omega))
            refine v_iconst (x := nI 1) dX5_isItem_98 (by decide +kernel) ?_
            refine n_iadd dX5_isItem_99 ?_
            refine pX5_2 dX5_isItem_100 in_X5_isItem_X5 fl_X5_isItem_82 ?_
            refine v_aload_n dX5_isItem_103 rfl ?_
            refine v_get (j := 28) iO40 rfl dX5_isItem_104 (by decide) in_X5_isItem_X5 fl_X5_isItem_69 rfl ?_
            refine v_iload dX5_isItem_107 rfl ?_
            refine v_iload_n dX5_isItem_109 rfl ?_
            refine v_if_eq (tgt := 120) dX5_isItem_110 (by decide) (fun c110 => ?_) (fun c110 => absurd rfl c110)
            refine v_iconst (x := (-1)) dX5_isItem_120 rfl ?_
            refine v_iastN 2 iI60 dX5_isItem_121 rfl (by decide) (by decide) ?_
            refine v_aload_n dX5_isItem_122 rfl ?_
            refine v_get (j := 28) iO40 rfl dX5_isItem_123 (by decide) in_X5_isItem_X5 fl_X5_isItem_69 rfl ?_
            refine v_iload dX5_isItem_126 rfl ?_
            refine v_ialdN 2 iI60 dX5_isItem_128 rfl (by decide) (by decide) ?_
            refine v_top (y := -1) (sI_at _ _ _ _) ?_
            refine v_if_lt (tgt := 136) dX5_isItem_129 (by decide) (fun c129 => ?_) (fun c129 => absurd (by decide) c129)
            refine v_iconst (x := nI 0) dX5_isItem_136 (by decide +kernel) ?_
            refine v_istore_n (L' := [(3, _), (4, _), (2, _), (1, _), (0, _)]) dX5_isItem_137 rfl (by decide) rfl ?_
            refine n_iinc (n := 1) (L' := [(4, _), (3, _), (2, _), (1, _), (0, _)]) dX5_isItem_138 rfl (by decide) rfl ?_
            refine v_goto (tgt := 38) dX5_isItem_141 (by decide) ?_
            refine v_iload dX5_isItem_38 rfl ?_
            refine v_iload_n dX5_isItem_40 rfl ?_
            refine n_icmp_ge (tgt := 144) dX5_isItem_41 (by decide) (by omega) (by omega) (fun c41 => ?_) (fun c41 => absurd c41 (by omega))
            refine v_iload_n dX5_isItem_144 rfl ?_
            refine v_if_eq (tgt := 177) dX5_isItem_145 (by decide) (fun c145 => ?_) (fun c145 => absurd rfl c145)
            refine v_iconst (x := nI 0) dX5_isItem_177 (by decide +kernel) ?_
            refine v_istore_n (L' := [(3, _), (4, _), (2, _), (1, _), (0, _)]) dX5_isItem_178 rfl (by decide) rfl ?_
            refine v_aload_n dX5_isItem_179 rfl ?_
            refine v_dup dX5_isItem_180 rfl ?_
            refine v_get (j := 2) iO40 rfl dX5_isItem_181 (by decide) in_X5_isItem_X5 fl_X5_isItem_82 rfl ?_
            refine v_top (y := nI ((((p + 1) + t0 + 1) + t1) + 1)) ((sI_ne _ _ (by omega)).trans (sI_at _ _ _ _)) ?_
            refine v_iconst (x := nI 1) dX5_isItem_184 (by decide +kernel) ?_
            refine n_iadd dX5_isItem_185 ?_
            refine pX5_2 dX5_isItem_186 in_X5_isItem_X5 fl_X5_isItem_82 ?_
            refine v_iload_n dX5_isItem_189 rfl ?_
            refine v_if_eq (tgt := 205) dX5_isItem_190 (by decide) (fun c190 => ?_) (fun c190 => absurd rfl c190)
            refine v_iconst (x := nI 0) dX5_isItem_205 (by decide +kernel) ?_
            exact v_zret rfl (by decide) dX5_isItem_206 ⟨congrArg (fun z => some (Value.int z)) (bI_f (by rw [itemAt_no_c e9 (by rw [i3]; simp only [(show n1 u len (p + 1) 44 = some (valF u (p + 1) t0, ((p + 1) + t0 + 1)) from by rw [n1_td D0 E0 (by decide), if_pos ⟨T0, S0⟩]), (show n1 u len ((p + 1) + t0 + 1) 44 = none from by rw [n1_td D1 E1 (by decide), if_neg (fun q => by rw [S1] at q; cases q.2)])])]; rfl)), ((((((((((hI0.at _).at _).at _).got 0 _).at _).at _).got 1 _).at _).got 2 _).at _).2.2, fun q9 w9 h9 => by rw [itemAt_no_c e9 (by rw [i3]; simp only [(show n1 u len (p + 1) 44 = some (valF u (p + 1) t0, ((p + 1) + t0 + 1)) from by rw [n1_td D0 E0 (by decide), if_pos ⟨T0, S0⟩]), (show n1 u len ((p + 1) + t0 + 1) 44 = none from by rw [n1_td D1 E1 (by decide), if_neg (fun q => by rw [S1] at q; cases q.2)])])] at h9; cases h9⟩
          · refine v_aload_n dX5_isItem_64 rfl ?_
            refine v_get (j := 1) iO40 rfl dX5_isItem_65 (by decide) in_X5_isItem_X5 fl_X5_isItem_7 rfl ?_
            refine v_aload_n dX5_isItem_68 rfl ?_
            refine v_get (j := 2) iO40 rfl dX5_isItem_69 (by decide) in_X5_isItem_X5 fl_X5_isItem_82 rfl ?_
            refine v_top (y := nI (((p + 1) + t0 + 1) + t1)) ((sI_ne _ _ (by omega)).trans (sI_at _ _ _ _)) ?_
            refine v_baldN (((p + 1) + t0 + 1) + t1) iB41 dX5_isItem_72 rfl (by omega) (by decide) ?_
            refine v_top (y := sb_b (u (((p + 1) + t0 + 1) + t1))) ((((((((hI0.at _).at _).at _).got 0 _).at _).at _).got 1 _).1.2.2 (((p + 1) + t0 + 1) + t1) c61).2 ?_
            refine v_bipush (x := nI 44) dX5_isItem_73 (by decide +kernel) ?_
            refine v_icmp_ne (tgt := 82) dX5_isItem_75 (by decide) (fun c75 => ?_) (fun c75 => ?_)
            · have S1 : sepAt u len (((p + 1) + t0 + 1) + t1) 44 = false := by rw [sepAt, decide_eq_false (p := u (((p + 1) + t0 + 1) + t1) = 44) (fun q => c75 ((sb_asc _ (hM.2.2 _ c61).1 44 (by decide)).mpr q)), Bool.and_false]
              refine v_iconst (x := nI 0) dX5_isItem_82 (by decide +kernel) ?_
              refine v_istore_n (L' := [(3, _), (4, _), (2, _), (1, _), (0, _)]) dX5_isItem_83 rfl (by decide) rfl ?_
              refine v_aload_n dX5_isItem_84 rfl ?_
              refine v_dup dX5_isItem_85 rfl ?_
              refine v_get (j := 2) iO40 rfl dX5_isItem_86 (by decide) in_X5_isItem_X5 fl_X5_isItem_82 rfl ?_
              refine v_top (y := nI (((p + 1) + t0 + 1) + t1)) ((sI_ne _ _ (by omega)).trans (sI_at _ _ _ _)) ?_
              refine v_iload dX5_isItem_89 rfl ?_
              refine n_if_ne (tgt := 98) dX5_isItem_91 (by decide) (by omega) (fun c91 => ?_) (fun c91 => absurd c91 (by omega))
              refine v_iconst (x := nI 1) dX5_isItem_98 (by decide +kernel) ?_
              refine n_iadd dX5_isItem_99 ?_
              refine pX5_2 dX5_isItem_100 in_X5_isItem_X5 fl_X5_isItem_82 ?_
              refine v_aload_n dX5_isItem_103 rfl ?_
              refine v_get (j := 28) iO40 rfl dX5_isItem_104 (by decide) in_X5_isItem_X5 fl_X5_isItem_69 rfl ?_
              refine v_iload dX5_isItem_107 rfl ?_
              refine v_iload_n dX5_isItem_109 rfl ?_
              refine v_if_eq (tgt := 120) dX5_isItem_110 (by decide) (fun c110 => ?_) (fun c110 => absurd rfl c110)
              refine v_iconst (x := (-1)) dX5_isItem_120 rfl ?_
              refine v_iastN 2 iI60 dX5_isItem_121 rfl (by decide) (by decide) ?_
              refine v_aload_n dX5_isItem_122 rfl ?_
              refine v_get (j := 28) iO40 rfl dX5_isItem_123 (by decide) in_X5_isItem_X5 fl_X5_isItem_69 rfl ?_
              refine v_iload dX5_isItem_126 rfl ?_
              refine v_ialdN 2 iI60 dX5_isItem_128 rfl (by decide) (by decide) ?_
              refine v_top (y := -1) (sI_at _ _ _ _) ?_
              refine v_if_lt (tgt := 136) dX5_isItem_129 (by decide) (fun c129 => ?_) (fun c129 => absurd (by decide) c129)
              refine v_iconst (x := nI 0) dX5_isItem_136 (by decide +kernel) ?_
              refine v_istore_n (L' := [(3, _), (4, _), (2, _), (1, _), (0, _)]) dX5_isItem_137 rfl (by decide) rfl ?_
              refine n_iinc (n := 1) (L' := [(4, _), (3, _), (2, _), (1, _), (0, _)]) dX5_isItem_138 rfl (by decide) rfl ?_
              refine v_goto (tgt := 38) dX5_isItem_141 (by decide) ?_
              refine v_iload dX5_isItem_38 rfl ?_
              refine v_iload_n dX5_isItem_40 rfl ?_
              refine n_icmp_ge (tgt := 144) dX5_isItem_41 (by decide) (by omega) (by omega) (fun c41 => ?_) (fun c41 => absurd c41 (by omega))
              refine v_iload_n dX5_isItem_144 rfl ?_
              refine v_if_eq (tgt := 177) dX5_isItem_145 (by decide) (fun c145 => ?_) (fun c145 => absurd rfl c145)
              refine v_iconst (x := nI 0) dX5_isItem_177 (by decide +kernel) ?_
              refine v_istore_n (L' := [(3, _), (4, _), (2, _), (1, _), (0, _)]) dX5_isItem_178 rfl (by decide) rfl ?_
              refine v_aload_n dX5_isItem_179 rfl ?_
              refine v_dup dX5_isItem_180 rfl ?_
              refine v_get (j := 2) iO40 rfl dX5_isItem_181 (by decide) in_X5_isItem_X5 fl_X5_isItem_82 rfl ?_
              refine v_top (y := nI ((((p + 1) + t0 + 1) + t1) + 1)) ((sI_ne _ _ (by omega)).trans (sI_at _ _ _ _)) ?_
              refine v_iconst (x := nI 1) dX5_isItem_184 (by decide +kernel) ?_
              refine n_iadd dX5_isItem_185 ?_
              refine pX5_2 dX5_isItem_186 in_X5_isItem_X5 fl_X5_isItem_82 ?_
              refine v_iload_n dX5_isItem_189 rfl ?_
              refine v_if_eq (tgt := 205) dX5_isItem_190 (by decide) (fun c190 => ?_) (fun c190 => absurd rfl c190)
              refine v_iconst (x := nI 0) dX5_isItem_205 (by decide +kernel) ?_
              exact v_zret rfl (by decide) dX5_isItem_206 ⟨congrArg (fun z => some (Value.int z)) (bI_f (by rw [itemAt_no_c e9 (by rw [i3]; simp only [(show n1 u len (p + 1) 44 = some (valF u (p + 1) t0, ((p + 1) + t0 + 1)) from by rw [n1_td D0 E0 (by decide), if_pos ⟨T0, S0⟩]), (show n1 u len ((p + 1) + t0 + 1) 44 = none from by rw [n1_td D1 E1 (by decide), if_neg (fun q => by rw [S1] at q; cases q.2)])])]; rfl)), ((((((((((hI0.at _).at _).at _).got 0 _).at _).at _).got 1 _).at _).got 2 _).at _).2.2, fun q9 w9 h9 => by rw [itemAt_no_c e9 (by rw [i3]; simp only [(show n1 u len (p + 1) 44 = some (valF u (p + 1) t0, ((p + 1) + t0 + 1)) from by rw [n1_td D0 E0 (by decide), if_pos ⟨T0, S0⟩]), (show n1 u len ((p + 1) + t0 + 1) 44 = none from by rw [n1_td D1 E1 (by decide), if_neg (fun q => by rw [S1] at q; cases q.2)])])] at h9; cases h9⟩
            · have S1 : sepAt u len (((p + 1) + t0 + 1) + t1) 44 = true := sepAt_iff.mpr ⟨c61, (sb_asc _ (hM.2.2 _ c61).1 44 (by decide)).mp c75⟩
              refine v_iconst (x := nI 1) dX5_isItem_78 (by decide +kernel) ?_
              refine v_goto (tgt := 83) dX5_isItem_79 (by decide) ?_
              refine v_istore_n (L' := [(3, _), (4, _), (2, _), (1, _), (0, _)]) dX5_isItem_83 rfl (by decide) rfl ?_
              obtain ⟨t2, D2, E2, B2⟩ := ex_td u len (((p + 1) + t0 + 1) + t1 + 1)
              refine v_aload_n dX5_isItem_84 rfl ?_
              refine v_dup dX5_isItem_85 rfl ?_
              refine v_get (j := 2) iO40 rfl dX5_isItem_86 (by decide) in_X5_isItem_X5 fl_X5_isItem_82 rfl ?_
              refine v_top (y := nI (((p + 1) + t0 + 1) + t1)) ((sI_ne _ _ (by omega)).trans (sI_at _ _ _ _)) ?_
              refine v_iload dX5_isItem_89 rfl ?_
              refine n_if_ne (tgt := 98) dX5_isItem_91 (by decide) (by omega) (fun c91 => ?_) (fun c91 => absurd c91 (by omega))
              refine v_iconst (x := nI 1) dX5_isItem_98 (by decide +kernel) ?_
              refine n_iadd dX5_isItem_99 ?_
              refine pX5_2 dX5_isItem_100 in_X5_isItem_X5 fl_X5_isItem_82 ?_
              refine v_aload_n dX5_isItem_103 rfl ?_
              refine v_get (j := 28) iO40 rfl dX5_isItem_104 (by decide) in_X5_isItem_X5 fl_X5_isItem_69 rfl ?_
              refine v_iload dX5_isItem_107 rfl ?_
              refine v_iload_n dX5_isItem_109 rfl ?_
              refine v_if_eq (tgt := 120) dX5_isItem_110 (by decide) (fun c110 => absurd c110 (by decide)) (fun c110 => ?_)
              refine v_aload_n dX5_isItem_113 rfl ?_
              refine v_callVi (M' := M_X5_number) (As := []) iO40 (s_X5_number ((((((((hI0.at _).at _).at _).got 0 _).at _).at _).got 1 _).at _).1 (p := (((p + 1) + t0 + 1) + t1 + 1)) (t := t2) (sI_at _ _ _ _) D2 E2 (by omega)) dX5_isItem_114 gX5_isItem_X5_number rfl rfl nn_X5_number ⟨rfl, rfl⟩ ⟨by decide, by decide⟩ rfl rfl (Nat.le_of_ble_eq_true rfl) ?_
              refine v_goto (tgt := 121) dX5_isItem_117 (by decide) ?_
              by_cases T2 : 1 ≤ t2 ∧ t2 ≤ 3
              · refine v_top (y := nI (valF u (((p + 1) + t0 + 1) + t1 + 1) t2)) (if_pos T2) ?_
                have V2 := td_lt D2 T2
                refine v_iastN 2 iI60 dX5_isItem_121 rfl (by decide) (by decide) ?_
                refine v_aload_n dX5_isItem_122 rfl ?_
                refine v_get (j := 28) iO40 rfl dX5_isItem_123 (by decide) in_X5_isItem_X5 fl_X5_isItem_69 rfl ?_
                refine v_iload dX5_isItem_126 rfl ?_
                refine v_ialdN 2 iI60 dX5_isItem_128 rfl (by decide) (by decide) ?_
                refine v_top (y := nI (valF u (((p + 1) + t0 + 1) + t1 + 1) t2)) (sI_at _ _ _ _) ?_
                refine n_if_lt (tgt := 136) dX5_isItem_129 (by decide) (by omega) ?_
                refine v_iconst (x := nI 1) dX5_isItem_132 (by decide +kernel) ?_
                refine v_goto (tgt := 137) dX5_isItem_133 (by decide) ?_
                refine v_istore_n (L' := [(3, _), (4, _), (2, _), (1, _), (0, _)]) dX5_isItem_137 rfl (by decide) rfl ?_
                refine n_iinc (n := 1) (L' := [(4, _), (3, _), (2, _), (1, _), (0, _)]) dX5_isItem_138 rfl (by decide) rfl ?_
                refine v_goto (tgt := 38) dX5_isItem_141 (by decide) ?_
                refine v_iload dX5_isItem_38 rfl ?_
                refine v_iload_n dX5_isItem_40 rfl ?_
                refine n_icmp_ge (tgt := 144) dX5_isItem_41 (by decide) (by omega) (by omega) (fun c41 => ?_) (fun c41 => absurd c41 (by omega))
                refine v_iload_n dX5_isItem_144 rfl ?_
                refine v_if_eq (tgt := 177) dX5_isItem_145 (by decide) (fun c145 => absurd c145 (by decide)) (fun c145 => ?_)
                refine v_aload_n dX5_isItem_148 rfl ?_
                refine v_get (j := 2) iO40 rfl dX5_isItem_149 (by decide) in_X5_isItem_X5 fl_X5_isItem_82 rfl ?_
                refine v_top (y := nI ((((p + 1) + t0 + 1) + t1 + 1) + t2)) ((sI_ne _ _ (by omega)).trans (sI_at _ _ _ _)) ?_
                refine v_aload_n dX5_isItem_152 rfl ?_
                refine v_get (j := 0) iO40 rfl dX5_isItem_153 (by decide) in_X5_isItem_X5 fl_X5_isItem_78 rfl ?_
                refine v_top (y := nI len) ((((((((((hI0.at _).at _).at _).got 0 _).at _).at _).got 1 _).at _).at _).got 2 _).1.1 ?_
                refine n_icmp_ge (tgt := 177) dX5_isItem_156 (by decide) (by omega) (by omega) (fun c156 => ?_) (fun c156 => ?_)
                · have S2 : sepAt u len ((((p + 1) + t0 + 1) + t1 + 1) + t2) 59 = false := by rw [sepAt, decide_eq_false (by omega)]; rfl
                  refine v_iconst (x := nI 0) dX5_isItem_177 (by decide +kernel) ?_
                  refine v_istore_n (L' := [(3, _), (4, _), (2, _), (1, _), (0, _)]) dX5_isItem_178 rfl (by decide) rfl ?_
                  refine v_aload_n dX5_isItem_179 rfl ?_
                  refine v_dup dX5_isItem_180 rfl ?_
                  refine v_get (j := 2) iO40 rfl dX5_isItem_181 (by decide) in_X5_isItem_X5 fl_X5_isItem_82 rfl ?_
                  refine v_top (y := nI ((((p + 1) + t0 + 1) + t1 + 1) + t2)) ((sI_ne _ _ (by omega)).trans (sI_at _ _ _ _)) ?_
                  refine v_iconst (x := nI 1) dX5_isItem_184 (by decide +kernel) ?_
                  refine n_iadd dX5_isItem_185 ?_
                  refine pX5_2 dX5_isItem_186 in_X5_isItem_X5 fl_X5_isItem_82 ?_
                  refine v_iload_n dX5_isItem_189 rfl ?_
                  refine v_if_eq (tgt := 205) dX5_isItem_190 (by decide) (fun c190 => ?_) (fun c190 => absurd rfl c190)
                  refine v_iconst (x := nI 0) dX5_isItem_205 (by decide +kernel) ?_
                  exact v_zret rfl (by decide) dX5_isItem_206 ⟨congrArg (fun z => some (Value.int z)) (bI_f (by rw [itemAt_no_c e9 (by rw [i3]; simp only [(show n1 u len (p + 1) 44 = some (valF u (p + 1) t0, ((p + 1) + t0 + 1)) from by rw [n1_td D0 E0 (by decide), if_pos ⟨T0, S0⟩]), (show n1 u len ((p + 1) + t0 + 1) 44 = some (valF u ((p + 1) + t0 + 1) t1, (((p + 1) + t0 + 1) + t1 + 1)) from by rw [n1_td D1 E1 (by decide), if_pos ⟨T1, S1⟩]), (show n1 u len (((p + 1) + t0 + 1) + t1 + 1) 59 = none from by rw [n1_td59 D2 E2, if_neg (fun q => by rw [S2] at q; cases q.2)])])]; rfl)), (((((((((((hI0.at _).at _).at _).got 0 _).at _).at _).got 1 _).at _).at _).got 2 _).at _).2.2, fun q9 w9 h9 => by rw [itemAt_no_c e9 (by rw [i3]; simp only [(show n1 u len (p + 1) 44 = some (valF u (p + 1) t0, ((p + 1) + t0 + 1)) from by rw [n1_td D0 E0 (by decide), if_pos ⟨T0, S0⟩]), (show n1 u len ((p + 1) + t0 + 1) 44 = some (valF u ((p + 1) + t0 + 1) t1, (((p + 1) + t0 + 1) + t1 + 1)) from by rw [n1_td D1 E1 (by decide), if_pos ⟨T1, S1⟩]), (show n1 u len (((p + 1) + t0 + 1) + t1 + 1) 59 = none from by rw [n1_td59 D2 E2, if_neg (fun q => by rw [S2] at q; cases q.2)])])] at h9; cases h9⟩
                · refine v_aload_n dX5_isItem_159 rfl ?_
                  refine v_get (j := 1) iO40 rfl dX5_isItem_160 (by decide) in_X5_isItem_X5 fl_X5_isItem_7 rfl ?_
                  refine v_aload_n dX5_isItem_163 rfl ?_
                  refine v_get (j := 2) iO40 rfl dX5_isItem_164 (by decide) in_X5_isItem_X5 fl_X5_isItem_82 rfl ?_
                  refine v_top (y := nI ((((p + 1) + t0 + 1) + t1 + 1) + t2)) ((sI_ne _ _ (by omega)).trans (sI_at _ _ _ _)) ?_
                  refine v_baldN ((((p + 1) + t0 + 1) + t1 + 1) + t2) iB41 dX5_isItem_167 rfl (by omega) (by decide) ?_
                  refine v_top (y := sb_b (u ((((p + 1) + t0 + 1) + t1 + 1) + t2))) (((((((((((hI0.at _).at _).at _).got 0 _).at _).at _).got 1 _).at _).at _).got 2 _).1.2.2 ((((p + 1) + t0 + 1) + t1 + 1) + t2) c156).2 ?_
                  refine v_bipush (x := nI 59) dX5_isItem_168 (by decide +kernel) ?_
                  refine v_icmp_ne (tgt := 177) dX5_isItem_170 (by decide) (fun c170 => ?_) (fun c170 => ?_)
                  · have S2 : sepAt u len ((((p + 1) + t0 + 1) + t1 + 1) + t2) 59 = false := by rw [sepAt, decide_eq_false (p := u ((((p + 1) + t0 + 1) + t1 + 1) + t2) = 59) (fun q => c170 ((sb_asc _ (hM.2.2 _ c156).1 59 (by decide)).mpr q)), Bool.and_false]
                    refine v_iconst (x := nI 0) dX5_isItem_177 (by decide +kernel) ?_
                    refine v_istore_n (L' := [(3, _), (4, _), (2, _), (1, _), (0, _)]) dX5_isItem_178 rfl (by decide) rfl ?_
                    refine v_aload_n dX5_isItem_179 rfl ?_
                    refine v_dup dX5_isItem_180 rfl ?_
                    refine v_get (j := 2) iO40 rfl dX5_isItem_181 (by decide) in_X5_isItem_X5 fl_X5_isItem_82 rfl ?_
                    refine v_top (y := nI ((((p + 1) + t0 + 1) + t1 + 1) + t2)) ((sI_ne _ _ (by omega)).trans (sI_at _ _ _ _)) ?_
                    refine v_iconst (x := nI 1) dX5_isItem_184 (by decide +kernel) ?_
                    refine n_iadd dX5_isItem_185 ?_
                    refine pX5_2 dX5_isItem_186 in_X5_isItem_X5 fl_X5_isItem_82 ?_
                    refine v_iload_n dX5_isItem_189 rfl ?_
                    refine v_if_eq (tgt := 205) dX5_isItem_190 (by decide) (fun c190 => ?_) (fun c190 => absurd rfl c190)
                    refine v_iconst (x := nI 0) dX5_isItem_205 (by decide +kernel) ?_
                    exact v_zret rfl (by decide) dX5_isItem_206 ⟨congrArg (fun z => some (Value.int z)) (bI_f (by rw [itemAt_no_c e9 (by rw [i3]; simp only [(show n1 u len (p + 1) 44 = some (valF u (p + 1) t0, ((p + 1) + t0 + 1)) from by rw [n1_td D0 E0 (by decide), if_pos ⟨T0, S0⟩]), (show n1 u len ((p + 1) + t0 + 1) 44 = some (valF u ((p + 1) + t0 + 1) t1, (((p + 1) + t0 + 1) + t1 + 1)) from by rw [n1_td D1 E1 (by decide), if_pos ⟨T1, S1⟩]), (show n1 u len (((p + 1) + t0 + 1) + t1 + 1) 59 = none from by rw [n1_td59 D2 E2, if_neg (fun q => by rw [S2] at q; cases q.2)])])]; rfl)), (((((((((((hI0.at _).at _).at _).got 0 _).at _).at _).got 1 _).at _).at _).got 2 _).at _).2.2, fun q9 w9 h9 => by rw [itemAt_no_c e9 (by rw [i3]; simp only [(show n1 u len (p + 1) 44 = some (valF u (p + 1) t0, ((p + 1) + t0 + 1)) from by rw [n1_td D0 E0 (by decide), if_pos ⟨T0, S0⟩]), (show n1 u len ((p + 1) + t0 + 1) 44 = some (valF u ((p + 1) + t0 + 1) t1, (((p + 1) + t0 + 1) + t1 + 1)) from by rw [n1_td D1 E1 (by decide), if_pos ⟨T1, S1⟩]), (show n1 u len (((p + 1) + t0 + 1) + t1 + 1) 59 = none from by rw [n1_td59 D2 E2, if_neg (fun q => by rw [S2] at q; cases q.2)])])] at h9; cases h9⟩
                  · have S2 : sepAt u len ((((p + 1) + t0 + 1) + t1 + 1) + t2) 59 = true := sepAt_iff.mpr ⟨c156, (sb_asc _ (hM.2.2 _ c156).1 59 (by decide)).mp c170⟩
                    refine v_iconst (x := nI 1) dX5_isItem_173 (by decide +kernel) ?_
                    refine v_goto (tgt := 178) dX5_isItem_174 (by decide) ?_
                    refine v_istore_n (L' := [(3, _), (4, _), (2, _), (1, _), (0, _)]) dX5_isItem_178 rfl (by decide) rfl ?_
                    refine v_aload_n dX5_isItem_179 rfl ?_
                    refine v_dup dX5_isItem_180 rfl ?_
                    refine v_get (j := 2) iO40 rfl dX5_isItem_181 (by decide) in_X5_isItem_X5 fl_X5_isItem_82 rfl ?_
                    refine v_top (y := nI ((((p + 1) + t0 + 1) + t1 + 1) + t2)) ((sI_ne _ _ (by omega)).trans (sI_at _ _ _ _)) ?_
                    refine v_iconst (x := nI 1) dX5_isItem_184 (by decide +kernel) ?_
                    refine n_iadd dX5_isItem_185 ?_
                    refine pX5_2 dX5_isItem_186 in_X5_isItem_X5 fl_X5_isItem_82 ?_
                    refine v_iload_n dX5_isItem_189 rfl ?_
                    refine v_if_eq (tgt := 205) dX5_isItem_190 (by decide) (fun c190 => absurd c190 (by decide)) (fun c190 => ?_)
                    refine v_aload_n dX5_isItem_193 rfl ?_
                    refine v_iload_n dX5_isItem_194 rfl ?_
                    refine v_callVRi (M' := M_X5_isGood) (As := [_]) iO40 (s_X5_isGood_c (((((((((((hI0.at _).at _).at _).got 0 _).at _).at _).got 1 _).at _).at _).got 2 _).at _).2.1 hv (td_lt D0 T0) (td_lt D1 T1) (td_lt D2 T2) (by simp [sI, upd]) (by simp [sI, upd]) (by simp [sI, upd])) dX5_isItem_195 gX5_isItem_X5_isGood rfl rfl nn_X5_isGood ⟨rfl, rfl⟩ ⟨by decide, by decide⟩ rfl rfl (Nat.le_of_ble_eq_true rfl) (fun s1 h1 => ?_)
                    refine b_if_eq (tgt := 205) dX5_isItem_198 (by decide) (fun c198 => ?_) (fun c198 => ?_)
                    · have hx9 : iC w (valF u (p + 1) t0) (valF u ((p + 1) + t0 + 1) t1) (valF u (((p + 1) + t0 + 1) + t1 + 1) t2) = none := by cases h : iC w (valF u (p + 1) t0) (valF u ((p + 1) + t0 + 1) t1) (valF u (((p + 1) + t0 + 1) + t1 + 1) t2) with | none => rfl | some y => rw [h] at c198; cases c198
                      refine v_iconst (x := nI 0) dX5_isItem_205 (by decide +kernel) ?_
                      exact v_zret rfl (by decide) dX5_isItem_206 ⟨congrArg (fun z => some (Value.int z)) (bI_f (by rw [itemAt_yes_c (a := valF u (p + 1) t0) (c := valF u ((p + 1) + t0 + 1) t1) (d := valF u (((p + 1) + t0 + 1) + t1 + 1) t2) (q := ((((p + 1) + t0 + 1) + t1 + 1) + t2 + 1)) e9 (by rw [i3]; simp only [(show n1 u len (p + 1) 44 = some (valF u (p + 1) t0, ((p + 1) + t0 + 1)) from by rw [n1_td D0 E0 (by decide), if_pos ⟨T0, S0⟩]), (show n1 u len ((p + 1) + t0 + 1) 44 = some (valF u ((p + 1) + t0 + 1) t1, (((p + 1) + t0 + 1) + t1 + 1)) from by rw [n1_td D1 E1 (by decide), if_pos ⟨T1, S1⟩]), (show n1 u len (((p + 1) + t0 + 1) + t1 + 1) 59 = some (valF u (((p + 1) + t0 + 1) + t1 + 1) t2, ((((p + 1) + t0 + 1) + t1 + 1) + t2 + 1)) from by rw [n1_td59 D2 E2, if_pos ⟨T2, S2⟩])]), hx9]; rfl)), (((((((((((hI0.at _).at _).at _).got 0 _).at _).at _).got 1 _).at _).at _).got 2 _).at _).2.2.tr h1.1, fun q9 w9 h9 => by rw [itemAt_yes_c (a := valF u (p + 1) t0) (c := valF u ((p + 1) + t0 + 1) t1) (d := valF u (((p + 1) + t0 + 1) + t1 + 1) t2) (q := ((((p + 1) + t0 + 1) + t1 + 1) + t2 + 1)) e9 (by rw [i3]; simp only [(show n1 u len (p + 1) 44 = some (valF u (p + 1) t0, ((p + 1) + t0 + 1)) from by rw [n1_td D0 E0 (by decide), if_pos ⟨T0, S0⟩]), (show n1 u len ((p + 1) + t0 + 1) 44 = some (valF u ((p + 1) + t0 + 1) t1, (((p + 1) + t0 + 1) + t1 + 1)) from by rw [n1_td D1 E1 (by decide), if_pos ⟨T1, S1⟩]), (show n1 u len (((p + 1) + t0 + 1) + t1 + 1) 59 = some (valF u (((p + 1) + t0 + 1) + t1 + 1) t2, ((((p + 1) + t0 + 1) + t1 + 1) + t2 + 1)) from by rw [n1_td59 D2 E2, if_pos ⟨T2, S2⟩])]), hx9] at h9; cases h9⟩
                    · obtain ⟨y9, hx9⟩ : ∃ y, iC w (valF u (p + 1) t0) (valF u ((p + 1) + t0 + 1) t1) (valF u (((p + 1) + t0 + 1) + t1 + 1) t2) = some y := by cases h : iC w (valF u (p + 1) t0) (valF u ((p + 1) + t0 + 1) t1) (valF u (((p + 1) + t0 + 1) + t1 + 1) t2) with | none => rw [h] at c198; cases c198 | some y => exact ⟨y, rfl⟩
                      refine v_iconst (x := nI 1) dX5_isItem_201 (by decide +kernel) ?_
                      refine v_goto (tgt := 206) dX5_isItem_202 (by decide) ?_
                      exact v_zret rfl (by decide) dX5_isItem_206 ⟨congrArg (fun z => some (Value.int z)) (bI_t (by rw [itemAt_yes_c (a := valF u (p + 1) t0) (c := valF u ((p + 1) + t0 + 1) t1) (d := valF u (((p + 1) + t0 + 1) + t1 + 1) t2) (q := ((((p + 1) + t0 + 1) + t1 + 1) + t2 + 1)) e9 (by rw [i3]; simp only [(show n1 u len (p + 1) 44 = some (valF u (p + 1) t0, ((p + 1) + t0 + 1)) from by rw [n1_td D0 E0 (by decide), if_pos ⟨T0, S0⟩]), (show n1 u len ((p + 1) + t0 + 1) 44 = some (valF u ((p + 1) + t0 + 1) t1, (((p + 1) + t0 + 1) + t1 + 1)) from by rw [n1_td D1 E1 (by decide), if_pos ⟨T1, S1⟩]), (show n1 u len (((p + 1) + t0 + 1) + t1 + 1) 59 = some (valF u (((p + 1) + t0 + 1) + t1 + 1) t2, ((((p + 1) + t0 + 1) + t1 + 1) + t2 + 1)) from by rw [n1_td59 D2 E2, if_pos ⟨T2, S2⟩])]), hx9]; rfl)), (((((((((((hI0.at _).at _).at _).got 0 _).at _).at _).got 1 _).at _).at _).got 2 _).at _).2.2.tr h1.1, fun q9 w9 h9 => by rw [itemAt_yes_c (a := valF u (p + 1) t0) (c := valF u ((p + 1) + t0 + 1) t1) (d := valF u (((p + 1) + t0 + 1) + t1 + 1) t2) (q := ((((p + 1) + t0 + 1) + t1 + 1) + t2 + 1)) e9 (by rw [i3]; simp only [(show n1 u len (p + 1) 44 = some (valF u (p + 1) t0, ((p + 1) + t0 + 1)) from by rw [n1_td D0 E0 (by decide), if_pos ⟨T0, S0⟩]), (show n1 u len ((p + 1) + t0 + 1) 44 = some (valF u ((p + 1) + t0 + 1) t1, (((p + 1) + t0 + 1) + t1 + 1)) from by rw [n1_td D1 E1 (by decide), if_pos ⟨T1, S1⟩]), (show n1 u len (((p + 1) + t0 + 1) + t1 + 1) 59 = some (valF u (((p + 1) + t0 + 1) + t1 + 1) t2, ((((p + 1) + t0 + 1) + t1 + 1) + t2 + 1)) from by rw [n1_td59 D2 E2, if_pos ⟨T2, S2⟩])]), hx9] at h9; cases h9; exact ⟨h1.2.1 _ hx9, h1.2.2.trans (sI_at _ _ _ _)⟩⟩
              · refine v_top (y := -1) (if_neg T2) ?_
                refine v_iastN 2 iI60 dX5_isItem_121 rfl (by decide) (by decide) ?_
                refine v_aload_n dX5_isItem_122 rfl ?_
                refine v_get (j := 28) iO40 rfl dX5_isItem_123 (by decide) in_X5_isItem_X5 fl_X5_isItem_69 rfl ?_
                refine v_iload dX5_isItem_126 rfl ?_
                refine v_ialdN 2 iI60 dX5_isItem_128 rfl (by decide) (by decide) ?_
                refine v_top (y := -1) (sI_at _ _ _ _) ?_
                refine v_if_lt (tgt := 136) dX5_isItem_129 (by decide) (fun c129 => ?_) (fun c129 => absurd (by decide) c129)
                refine v_iconst (x := nI 0) dX5_isItem_136 (by decide +kernel) ?_
                refine v_istore_n (L' := [(3, _), (4, _), (2, _), (1, _), (0, _)]) dX5_isItem_137 rfl (by decide) rfl ?_
                refine n_iinc (n := 1) (L' := [(4, _), (3, _), (2, _), (1, _), (0, _)]) dX5_isItem_138 rfl (by decide) rfl ?_
                refine v_goto (tgt := 38) dX5_isItem_141 (by decide) ?_
                refine v_iload dX5_isItem_38 rfl ?_
                refine v_iload_n dX5_isItem_40 rfl ?_
                refine n_icmp_ge (tgt := 144) dX5_isItem_41 (by decide) (by omega) (by omega) (fun c41 => ?_) (fun c41 => absurd c41 (by omega))
                refine v_iload_n dX5_isItem_144 rfl ?_
                refine v_if_eq (tgt := 177) dX5_isItem_145 (by decide) (fun c145 => ?_) (fun c145 => absurd rfl c145)
                refine v_iconst (x := nI 0) dX5_isItem_177 (by decide +kernel) ?_
                refine v_istore_n (L' := [(3, _), (4, _), (2, _), (1, _), (0, _)]) dX5_isItem_178 rfl (by decide) rfl ?_
                refine v_aload_n dX5_isItem_179 rfl ?_
                refine v_dup dX5_isItem_180 rfl ?_
                refine v_get (j := 2) iO40 rfl dX5_isItem_181 (by decide) in_X5_isItem_X5 fl_X5_isItem_82 rfl ?_
                refine v_top (y := nI ((((p + 1) + t0 + 1) + t1 + 1) + t2)) ((sI_ne _ _ (by omega)).trans (sI_at _ _ _ _)) ?_
                refine v_iconst (x := nI 1) dX5_isItem_184 (by decide +kernel) ?_
                refine n_iadd dX5_isItem_185 ?_
                refine pX5_2 dX5_isItem_186 in_X5_isItem_X5 fl_X5_isItem_82 ?_
                refine v_iload_n dX5_isItem_189 rfl ?_
                refine v_if_eq (tgt := 205) dX5_isItem_190 (by decide) (fun c190 => ?_) (fun c190 => absurd rfl c190)
                refine v_iconst (x := nI 0) dX5_isItem_205 (by decide +kernel) ?_
                exact v_zret rfl (by decide) dX5_isItem_206 ⟨congrArg (fun z => some (Value.int z)) (bI_f (by rw [itemAt_no_c e9 (by rw [i3]; simp only [(show n1 u len (p + 1) 44 = some (valF u (p + 1) t0, ((p + 1) + t0 + 1)) from by rw [n1_td D0 E0 (by decide), if_pos ⟨T0, S0⟩]), (show n1 u len ((p + 1) + t0 + 1) 44 = some (valF u ((p + 1) + t0 + 1) t1, (((p + 1) + t0 + 1) + t1 + 1)) from by rw [n1_td D1 E1 (by decide), if_pos ⟨T1, S1⟩]), (show n1 u len (((p + 1) + t0 + 1) + t1 + 1) 59 = none from by rw [n1_td59 D2 E2, if_neg (fun q => T2 q.1)])])]; rfl)), (((((((((((hI0.at _).at _).at _).got 0 _).at _).at _).got 1 _).at _).at _).got 2 _).at _).2.2, fun q9 w9 h9 => by rw [itemAt_no_c e9 (by rw [i3]; simp only [(show n1 u len (p + 1) 44 = some (valF u (p + 1) t0, ((p + 1) + t0 + 1)) from by rw [n1_td D0 E0 (by decide), if_pos ⟨T0, S0⟩]), (show n1 u len ((p + 1) + t0 + 1) 44 = some (valF u ((p + 1) + t0 + 1) t1, (((p + 1) + t0 + 1) + t1 + 1)) from by rw [n1_td D1 E1 (by decide), if_pos ⟨T1, S1⟩]), (show n1 u len (((p + 1) + t0 + 1) + t1 + 1) 59 = none from by rw [n1_td59 D2 E2, if_neg (fun q => T2 q.1)])])] at h9; cases h9⟩
        · refine v_top (y := -1) (if_neg T1) ?_
          refine v_iastN 1 iI60 dX5_isItem_121 rfl (by decide) (by decide) ?_
          refine v_aload_n dX5_isItem_122 rfl ?_
          refine v_get (j := 28) iO40 rfl dX5_isItem_123 (by decide) in_X5_isItem_X5 fl_X5_isItem_69 rfl ?_
          refine v_iload dX5_isItem_126 rfl ?_
          refine v_ialdN 1 iI60 dX5_isItem_128 rfl (by decide) (by decide) ?_
          refine v_top (y := -1) (sI_at _ _ _ _) ?_
          refine v_if_lt (tgt := 136) dX5_isItem_129 (by decide) (fun c129 => ?_) (fun c129 => absurd (by decide) c129)
          refine v_iconst (x := nI 0) dX5_isItem_136 (by decide +kernel) ?_
          refine v_istore_n (L' := [(3, _), (4, _), (2, _), (1, _), (0, _)]) dX5_isItem_137 rfl (by decide) rfl ?_
          refine n_iinc (n := 1) (L' := [(4, _), (3, _), (2, _), (1, _), (0, _)]) dX5_isItem_138 rfl (by decide) rfl ?_
          refine v_goto (tgt := 38) dX5_isItem_141 (by decide) ?_
          refine v_iload dX5_isItem_38 rfl ?_
          refine v_iload_n dX5_isItem_40 rfl ?_
          refine n_icmp_ge (tgt := 144) dX5_isItem_41 (by decide) (by omega) (by omega) (fun c41 => absurd c41 (by omega)) (fun c41 => ?_)
          refine v_iload_n dX5_isItem_44 rfl ?_
          refine v_if_eq (tgt := 144) dX5_isItem_45 (by decide) (fun c45 => ?_) (fun c45 => absurd rfl c45)
          refine v_iload_n dX5_isItem_144 rfl ?_
          refine v_if_eq (tgt := 177) dX5_isItem_145 (by decide) (fun c145 => ?_) (fun c145 => absurd rfl c145)
          refine v_iconst (x := nI 0) dX5_isItem_177 (by decide +kernel) ?_
          refine v_istore_n (L' := [(3, _), (4, _), (2, _), (1, _), (0, _)]) dX5_isItem_178 rfl (by decide) rfl ?_
          refine v_aload_n dX5_isItem_179 rfl ?_
          refine v_dup dX5_isItem_180 rfl ?_
          refine v_get (j := 2) iO40 rfl dX5_isItem_181 (by decide) in_X5_isItem_X5 fl_X5_isItem_82 rfl ?_
          refine v_top (y := nI (((p + 1) + t0 + 1) + t1)) ((sI_ne _ _ (by omega)).trans (sI_at _ _ _ _)) ?_
          refine v_iconst (x := nI 1) dX5_isItem_184 (by decide +kernel) ?_
          refine n_iadd dX5_isItem_185 ?_
          refine pX5_2 dX5_isItem_186 in_X5_isItem_X5 fl_X5_isItem_82 ?_
          refine v_iload_n dX5_isItem_189 rfl ?_
          refine v_if_eq (tgt := 205) dX5_isItem_190 (by decide) (fun c190 => ?_) (fun c190 => absurd rfl c190)
          refine v_iconst (x := nI 0) dX5_isItem_205 (by decide +kernel) ?_
          exact v_zret rfl (by decide) dX5_isItem_206 ⟨congrArg (fun z => some (Value.int z)) (bI_f (by rw [itemAt_no_c e9 (by rw [i3]; simp only [(show n1 u len (p + 1) 44 = some (valF u (p + 1) t0, ((p + 1) + t0 + 1)) from by rw [n1_td D0 E0 (by decide), if_pos ⟨T0, S0⟩]), (show n1 u len ((p + 1) + t0 + 1) 44 = none from by rw [n1_td D1 E1 (by decide), if_neg (fun q => T1 q.1)])])]; rfl)), ((((((((hI0.at _).at _).at _).got 0 _).at _).at _).got 1 _).at _).2.2, fun q9 w9 h9 => by rw [itemAt_no_c e9 (by rw [i3]; simp only [(show n1 u len (p + 1) 44 = some (valF u (p + 1) t0, ((p + 1) + t0 + 1)) from by rw [n1_td D0 E0 (by decide), if_pos ⟨T0, S0⟩]), (show n1 u len ((p + 1) + t0 + 1) 44 = none from by rw [n1_td D1 E1 (by decide), if_neg (fun q => T1 q.1)])])] at h9; cases h9⟩
  · refine v_top (y := -1) (if_neg T0) ?_
    refine v_iastN 0 iI60 dX5_isItem_121 rfl (by decide) (by decide) ?_
    refine v_aload_n dX5_isItem_122 rfl ?_
    refine v_get (j := 28) iO40 rfl dX5_isItem_123 (by decide) in_X5_isItem_X5 fl_X5_isItem_69 rfl ?_
    refine v_iload dX5_isItem_126 rfl ?_
    refine v_ialdN 0 iI60 dX5_isItem_128 rfl (by decide) (by decide) ?_
    refine v_top (y := -1) (sI_at _ _ _ _) ?_
    refine v_if_lt (tgt := 136) dX5_isItem_129 (by decide) (fun c129 => ?_) (fun c129 => absurd (by decide) c129)
    refine v_iconst (x := nI 0) dX5_isItem_136 (by decide +kernel) ?_
    refine v_istore_n (L' := [(3, _), (4, _), (2, _), (1, _), (0, _)]) dX5_isItem_137 rfl (by decide) rfl ?_
    refine n_iinc (n := 1) (L' := [(4, _), (3, _), (2, _), (1, _), (0, _)]) dX5_isItem_138 rfl (by decide) rfl ?_
    refine v_goto (tgt := 38) dX5_isItem_141 (by decide) ?_
    refine v_iload dX5_isItem_38 rfl ?_
    refine v_iload_n dX5_isItem_40 rfl ?_
    refine n_icmp_ge (tgt := 144) dX5_isItem_41 (by decide) (by omega) (by omega) (fun c41 => absurd c41 (by omega)) (fun c41 => ?_)
    refine v_iload_n dX5_isItem_44 rfl ?_
    refine v_if_eq (tgt := 144) dX5_isItem_45 (by decide) (fun c45 => ?_) (fun c45 => absurd rfl c45)
    refine v_iload_n dX5_isItem_144 rfl ?_
    refine v_if_eq (tgt := 177) dX5_isItem_145 (by decide) (fun c145 => ?_) (fun c145 => absurd rfl c145)
    refine v_iconst (x := nI 0) dX5_isItem_177 (by decide +kernel) ?_
    refine v_istore_n (L' := [(3, _), (4, _), (2, _), (1, _), (0, _)]) dX5_isItem_178 rfl (by decide) rfl ?_
    refine v_aload_n dX5_isItem_179 rfl ?_
    refine v_dup dX5_isItem_180 rfl ?_
    refine v_get (j := 2) iO40 rfl dX5_isItem_181 (by decide) in_X5_isItem_X5 fl_X5_isItem_82 rfl ?_
    refine v_top (y := nI ((p + 1) + t0)) ((sI_ne _ _ (by omega)).trans (sI_at _ _ _ _)) ?_
    refine v_iconst (x := nI 1) dX5_isItem_184 (by decide +kernel) ?_
    refine n_iadd dX5_isItem_185 ?_
    refine pX5_2 dX5_isItem_186 in_X5_isItem_X5 fl_X5_isItem_82 ?_
    refine v_iload_n dX5_isItem_189 rfl ?_
    refine v_if_eq (tgt := 205) dX5_isItem_190 (by decide) (fun c190 => ?_) (fun c190 => absurd rfl c190)
    refine v_iconst (x := nI 0) dX5_isItem_205 (by decide +kernel) ?_
    exact v_zret rfl (by decide) dX5_isItem_206 ⟨congrArg (fun z => some (Value.int z)) (bI_f (by rw [itemAt_no_c e9 (by rw [i3]; simp only [(show n1 u len (p + 1) 44 = none from by rw [n1_td D0 E0 (by decide), if_neg (fun q => T0 q.1)])])]; rfl)), (((((hI0.at _).at _).at _).got 0 _).at _).2.2, fun q9 w9 h9 => by rw [itemAt_no_c e9 (by rw [i3]; simp only [(show n1 u len (p + 1) 44 = none from by rw [n1_td D0 E0 (by decide), if_neg (fun q => T0 q.1)])])] at h9; cases h9⟩
set_option maxRecDepth 100000 in
set_option maxHeartbeats 4000000 in
theorem s_X5_isItem_t {v : EE} {u : Nat → Nat} {len : Nat} {w : WD} {z : Nat} {σ : SS} (hM : MTx u len σ) (hw : MH 1 w σ) (hv : WV z w) {p : Nat} (ha : σ.1 40 2 = nI p) (hp : p < len) (e9 : u p = 116) : SR v M_X5_isItem [.ref (v.1 40)] σ (some (.int (bI (itemAt u len p w).isSome))) (fun σ' => FD σ σ' ∧ ∀ q w', itemAt u len p w = some (q, w') → MH 1 w' σ' ∧ σ'.1 40 2 = nI q) := by
  refine Sp.of rfl (by decide) rfl (Nat.le_of_ble_eq_true rfl) ?_
  show V v M_X5_isItem _ 0 [(0, .ref (v.1 40))] [] σ
  have hl := hM.2.1
  have hI0 : MI u len w σ σ := ⟨hM, hw, FD.rf σ⟩
  refine v_aload_n dX5_isItem_0 rfl ?_
  refine v_get (j := 1) iO40 rfl dX5_isItem_1 (by decide) in_X5_isItem_X5 fl_X5_isItem_7 rfl ?_
  refine v_aload_n dX5_isItem_4 rfl ?_
  refine v_get (j := 2) iO40 rfl dX5_isItem_5 (by decide) in_X5_isItem_X5 fl_X5_isItem_82 rfl ?_
  refine v_top ha ?_
  refine v_baldN p iB41 dX5_isItem_8 rfl (by omega) (by decide) ?_
  refine v_top (y := nI 116) ((hM.2.2 p hp).2.trans (by rw [e9]; decide +kernel)) ?_
  refine v_istore_n (L' := [(1, _), (0, _)]) dX5_isItem_9 rfl (by decide) rfl ?_
  refine v_aload_n dX5_isItem_10 rfl ?_
  refine v_dup dX5_isItem_11 rfl ?_
  refine v_get (j := 2) iO40 rfl dX5_isItem_12 (by decide) in_X5_isItem_X5 fl_X5_isItem_82 rfl ?_
  refine v_top ha ?_
  refine v_iconst (x := nI 1) dX5_isItem_15 (by decide +kernel) ?_
  refine n_iadd dX5_isItem_16 ?_
  refine pX5_2 dX5_isItem_17 in_X5_isItem_X5 fl_X5_isItem_82 ?_
  refine v_iload_n dX5_isItem_20 rfl ?_
  refine v_callSi (M' := M_X5_figures) (As := [_]) (s_X5_figures_116) dX5_isItem_21 gX5_isItem_X5_figures rfl nn_X5_figures ⟨rfl, rfl⟩ ⟨by decide, by decide⟩ rfl rfl (Nat.le_of_ble_eq_true rfl) ?_
  refine v_istore_n (L' := [(2, _), (1, _), (0, _)]) dX5_isItem_24 rfl (by decide) rfl ?_
  refine v_iload_n dX5_isItem_25 rfl ?_
  refine n_if_le (tgt := 33) dX5_isItem_26 (by decide) (by omega) (fun c26 => absurd c26 (by omega)) (fun c26 => ?_)
  refine v_iconst (x := nI 1) dX5_isItem_29 (by decide +kernel) ?_
  refine v_goto (tgt := 34) dX5_isItem_30 (by decide) ?_
  refine v_istore_n (L' := [(3, _), (2, _), (1, _), (0, _)]) dX5_isItem_34 rfl (by decide) rfl ?_
  refine v_iconst (x := nI 0) dX5_isItem_35 (by decide +kernel) ?_
  refine v_istore (L' := [(4, _), (3, _), (2, _), (1, _), (0, _)]) dX5_isItem_36 (by decide) rfl ?_
  refine v_iload dX5_isItem_38 rfl ?_
  refine v_iload_n dX5_isItem_40 rfl ?_
  refine n_icmp_ge (tgt := 144) dX5_isItem_41 (by decide) (by omega) (by omega) (fun c41 => absurd c41 (by omega)) (fun c41 => ?_)
  refine v_iload_n dX5_isItem_44 rfl ?_
  refine v_if_eq (tgt := 144) dX5_isItem_45 (by decide) (fun c45 => absurd c45 (by decide)) (fun c45 => ?_)
  refine v_iload dX5_isItem_48 rfl ?_
  refine n_if_eq (tgt := 78) dX5_isItem_50 (by decide) (by omega) (fun c50 => ?_) (fun c50 => absurd c50 (by omega))
  refine v_iconst (x := nI 1) dX5_isItem_78 (by decide +kernel) ?_
  refine v_goto (tgt := 83) dX5_isItem_79 (by decide) ?_
  refine v_istore_n (L' := [(3, _), (4, _), (2, _), (1, _), (0, _)]) dX5_isItem_83 rfl (by decide) rfl ?_
  obtain ⟨t0, D0, E0, B0⟩ := ex_td u len (p + 1)
  refine v_aload_n dX5_isItem_84 rfl ?_
  refine v_dup dX5_isItem_85 rfl ?_
  refine v_get (j := 2) iO40 rfl dX5_isItem_86 (by decide) in_X5_isItem_X5 fl_X5_isItem_82 rfl ?_
  refine v_top (y := nI (p + 1)) (sI_at _ _ _ _) ?_
  refine v_iload dX5_isItem_89 rfl ?_
  refine n_if_ne (tgt := 98) dX5_isItem_91 (by decide) (by omega) (fun c91 => absurd c91 (by omega)) (fun c91 => ?_)
  refine v_iconst (x := nI 0) dX5_isItem_94 (by decide +kernel) ?_
  refine v_goto (tgt := 99) dX5_isItem_95 (by decide) ?_
  refine n_iadd dX5_isItem_99 ?_
  refine pX5_2 dX5_isItem_100 in_X5_isItem_X5 fl_X5_isItem_82 ?_
  refine v_aload_n dX5_isItem_103 rfl ?_
  refine v_get (j := 28) iO40 rfl dX5_isItem_104 (by decide) in_X5_isItem_X5 fl_X5_isItem_69 rfl ?_
  refine v_iload dX5_isItem_107 rfl ?_
  refine v_iload_n dX5_isItem_109 rfl ?_
  refine v_if_eq (tgt := 120) dX5_isItem_110 (by decide) (fun c110 => absurd c110 (by decide)) (fun c110 => ?_)
  refine v_aload_n dX5_isItem_113 rfl ?_
  refine v_callVi (M' := M_X5_number) (As := []) iO40 (s_X5_number ((hI0.at _).at _).1 (p := (p + 1)) (t := t0) (sI_at _ _ _ _) D0 E0 (by omega)) dX5_isItem_114 gX5_isItem_X5_number rfl rfl nn_X5_number ⟨rfl, rfl⟩ ⟨by decide, by decide⟩ rfl rfl (Nat.le_of_ble_eq_true rfl) ?_
  refine v_goto (tgt := 121) dX5_isItem_117 (by decide) ?_
  by_cases T0 : 1 ≤ t0 ∧ t0 ≤ 3
  · refine v_top (y := nI (valF u (p + 1) t0)) (if_pos T0) ?_
    have V0 := td_lt D0 T0
    refine v_iastN 0 iI60 dX5_isItem_121 rfl (by decide) (by decide) ?_
    refine v_aload_n dX5_isItem_122 rfl ?_
    refine v_get (j := 28) iO40 rfl dX5_isItem_123 (by decide) in_X5_isItem_X5 fl_X5_isItem_69 rfl ?_
    refine v_iload dX5_isItem_126 rfl ?_
    refine v_ialdN 0 iI60 dX5_isItem_128 rfl (by decide) (by decide) ?_
    refine v_top (y := nI (valF u (p + 1) t0)) (sI_at _ _ _ _) ?_
    refine n_if_lt (tgt := 136) dX5_isItem_129 (by decide) (by omega) ?_
    refine v_iconst (x := nI 1) dX5_isItem_132 (by decide +kernel) ?_
    refine v_goto (tgt := 137) dX5_isItem_133 (by decide) ?_
    refine v_istore_n (L' := [(3, _), (4, _), (2, _), (1, _), (0, _)]) dX5_isItem_137 rfl (by decide) rfl ?_
    refine n_iinc (n := 1) (L' := [(4, _), (3, _), (2, _), (1, _), (0, _)]) dX5_isItem_138 rfl (by decide) rfl ?_
    refine v_goto (tgt := 38) dX5_isItem_141 (by decide) ?_
    refine v_iload dX5_isItem_38 rfl ?_
    refine v_iload_n dX5_isItem_40 rfl ?_
    refine n_icmp_ge (tgt := 144) dX5_isItem_41 (by decide) (by omega) (by omega) (fun c41 => absurd c41 (by omega)) (fun c41 => ?_)
    refine v_iload_n dX5_isItem_44 rfl ?_
    refine v_if_eq (tgt := 144) dX5_isItem_45 (by decide) (fun c45 => absurd c45 (by decide)) (fun c45 => ?_)
    refine v_iload dX5_isItem_48 rfl ?_
    refine n_if_eq (tgt := 78) dX5_isItem_50 (by decide) (by omega) (fun c50 => absurd c50 (by omega)) (fun c50 => ?_)
    refine v_aload_n dX5_isItem_53 rfl ?_
    refine v_get (j := 2) iO40 rfl dX5_isItem_54 (by decide) in_X5_isItem_X5 fl_X5_isItem_82 rfl ?_
    refine v_top (y := nI ((p + 1) + t0)) ((sI_ne _ _ (by omega)).trans (sI_at _ _ _ _)) ?_
    refine v_aload_n dX5_isItem_57 rfl ?_
    refine v_get (j := 0) iO40 rfl dX5_isItem_58 (by decide) in_X5_isItem_X5 fl_X5_isItem_78 rfl ?_
    refine v_top (y := nI len) ((((hI0.at _).at _).at _).got 0 _).1.1 ?_
    refine n_icmp_ge (tgt := 82) dX5_isItem_61 (by decide) (by omega) (by omega) (fun c61 => ?_) (fun c61 => ?_)
    · have S0 : sepAt u len ((p + 1) + t0) 44 = false := by rw [sepAt, decide_eq_false (by omega)]; rfl
      refine v_iconst (x := nI 0) dX5_isItem_82 (by decide +kernel) ?_
      refine v_istore_n (L' := [(3, _), (4, _), (2, _), (1, _), (0, _)]) dX5_isItem_83 rfl (by decide) rfl ?_
      refine v_aload_n dX5_isItem_84 rfl ?_
      refine v_dup dX5_isItem_85 rfl ?_
      refine v_get (j := 2) iO40 rfl dX5_isItem_86 (by decide) in_X5_isItem_X5 fl_X5_isItem_82 rfl ?_
      refine v_top (y := nI ((p + 1) + t0)) ((sI_ne _ _ (by omega)).trans (sI_at _ _ _ _)) ?_
      refine v_iload dX5_isItem_89 rfl ?_
      refine n_if_ne (tgt := 98) dX5_isItem_91 (by decide) (by omega) (fun c91 => ?_) (fun c91 => absurd c91 (by omega))
      refine v_iconst (x := nI 1) dX5_isItem_98 (by decide +kernel) ?_
      refine n_iadd dX5_isItem_99 ?_
      refine pX5_2 dX5_isItem_100 in_X5_isItem_X5 fl_X5_isItem_82 ?_
      refine v_aload_n dX5_isItem_103 rfl ?_
      refine v_get (j := 28) iO40 rfl dX5_isItem_104 (by decide) in_X5_isItem_X5 fl_X5_isItem_69 rfl ?_
      refine v_iload dX5_isItem_107 rfl ?_
      refine v_iload_n dX5_isItem_109 rfl ?_
      refine v_if_eq (tgt := 120) dX5_isItem_110 (by decide) (fun c110 => ?_) (fun c110 => absurd rfl c110)
      refine v_iconst (x := (-1)) dX5_isItem_120 rfl ?_
      refine v_iastN 1 iI60 dX5_isItem_121 rfl (by decide) (by decide) ?_
      refine v_aload_n dX5_isItem_122 rfl ?_
      refine v_get (j := 28) iO40 rfl dX5_isItem_123 (by decide) in_X5_isItem_X5 fl_X5_isItem_69 rfl ?_
      refine v_iload dX5_isItem_126 rfl ?_
      refine v_ialdN 1 iI60 dX5_isItem_128 rfl (by decide) (by decide) ?_
      refine v_top (y := -1) (sI_at _ _ _ _) ?_
      refine v_if_lt (tgt := 136) dX5_isItem_129 (by decide) (fun c129 => ?_) (fun c129 => absurd (by decide) c129)
      refine v_iconst (x := nI 0) dX5_isItem_136 (by decide +kernel) ?_
      refine v_istore_n (L' := [(3, _), (4, _), (2, _), (1, _), (0, _)]) dX5_isItem_137 rfl (by decide) rfl ?_
      refine n_iinc (n := 1) (L' := [(4, _), (3, _), (2, _), (1, _), (0, _)]) dX5_isItem_138 rfl (by decide) rfl ?_
      refine v_goto (tgt := 38) dX5_isItem_141 (by decide) ?_
      refine v_iload dX5_isItem_38 rfl ?_
      refine v_iload_n dX5_isItem_40 rfl ?_
      refine n_icmp_ge (tgt := 144) dX5_isItem_41 (by decide) (by omega) (by omega) (fun c41 => absurd c41 (by omega)) (fun c41 => ?_)
      refine v_iload_n dX5_isItem_44 rfl ?_
      refine v_if_eq (tgt := 144) dX5_isItem_45 (by decide) (fun c45 => ?_) (fun c45 => absurd rfl c45)
      refine v_iload_n dX5_isItem_144 rfl ?_
      refine v_if_eq (tgt := 177) dX5_isItem_145 (by decide) (fun c145 => ?_) (fun c145 => absurd rfl c145)
      refine v_iconst (x := nI 0) dX5_isItem_177 (by decide +kernel) ?_
      refine v_istore_n (L' := [(3, _), (4, _), (2, _), (1, _), (0, _)]) dX5_isItem_178 rfl (by decide) rfl ?_
      refine v_aload_n dX5_isItem_179 rfl ?_
      refine v_dup dX5_isItem_180 rfl ?_
      refine v_get (j := 2) iO40 rfl dX5_isItem_181 (by decide) in_X5_isItem_X5 fl_X5_isItem_82 rfl ?_
      refine v_top (y := nI (((p + 1) + t0) + 1)) ((sI_ne _ _ (by omega)).trans (sI_at _ _ _ _)) ?_
      refine v_iconst (x := nI 1) dX5_isItem_184 (by decide +kernel) ?_
      refine n_iadd dX5_isItem_185 ?_
      refine pX5_2 dX5_isItem_186 in_X5_isItem_X5 fl_X5_isItem_82 ?_
      refine v_iload_n dX5_isItem_189 rfl ?_
      refine v_if_eq (tgt := 205) dX5_isItem_190 (by decide) (fun c190 => ?_) (fun c190 => absurd rfl c190)
      refine v_iconst (x := nI 0) dX5_isItem_205 (by decide +kernel) ?_
      exact v_zret rfl (by decide) dX5_isItem_206 ⟨congrArg (fun z => some (Value.int z)) (bI_f (by rw [itemAt_no_t e9 (by rw [i3]; simp only [(show n1 u len (p + 1) 44 = none from by rw [n1_td D0 E0 (by decide), if_neg (fun q => by rw [S0] at q; cases q.2)])])]; rfl)), (((((((hI0.at _).at _).at _).got 0 _).at _).got 1 _).at _).2.2, fun q9 w9 h9 => by rw [itemAt_no_t e9 (by rw [i3]; simp only [(show n1 u len (p + 1) 44 = none from by rw [n1_td D0 E0 (by decide), if_neg (fun q => by rw [S0] at q; cases q.2)])])] at h9; cases h9⟩
    · refine v_aload_n dX5_isItem_64 rfl ?_
      refine v_get (j := 1) iO40 rfl dX5_isItem_65 (by decide) in_X5_isItem_X5 fl_X5_isItem_7 rfl ?_
      refine v_aload_n dX5_isItem_68 rfl ?_
      refine v_get (j := 2) iO40 rfl dX5_isItem_69 (by decide) in_X5_isItem_X5 fl_X5_isItem_82 rfl ?_
      refine v_top (y := nI ((p + 1) + t0)) ((sI_ne _ _ (by omega)).trans (sI_at _ _ _ _)) ?_
      refine v_baldN ((p + 1) + t0) iB41 dX5_isItem_72 rfl (by omega) (by decide) ?_
      refine v_top (y := sb_b (u ((p + 1) + t0))) (((((hI0.at _).at _).at _).got 0 _).1.2.2 ((p + 1) + t0) c61).2 ?_
      refine v_bipush (x := nI 44) dX5_isItem_73 (by decide +kernel) ?_
      refine v_icmp_ne (tgt := 82) dX5_isItem_75 (by decide) (fun c75 => ?_) (fun c75 => ?_)
      · have S0 : sepAt u len ((p + 1) + t0) 44 = false := by rw [sepAt, decide_eq_false (p := u ((p + 1) + t0) = 44) (fun q => c75 ((sb_asc _ (hM.2.2 _ c61).1 44 (by decide)).mpr q)), Bool.and_false]
        refine v_iconst (x := nI 0) dX5_isItem_82 (by decide +kernel) ?_
        refine v_istore_n (L' := [(3, _), (4, _), (2, _), (1, _), (0, _)]) dX5_isItem_83 rfl (by decide) rfl ?_
        refine v_aload_n dX5_isItem_84 rfl ?_
        refine v_dup dX5_isItem_85 rfl ?_
        refine v_get (j := 2) iO40 rfl dX5_isItem_86 (by decide) in_X5_isItem_X5 fl_X5_isItem_82 rfl ?_
        refine v_top (y := nI ((p + 1) + t0)) ((sI_ne _ _ (by omega)).trans (sI_at _ _ _ _)) ?_
        refine v_iload dX5_isItem_89 rfl ?_
        refine n_if_ne (tgt := 98) dX5_isItem_91 (by decide) (by omega) (fun c91 => ?_) (fun c91 => absurd c91 (by omega))
        refine v_iconst (x := nI 1) dX5_isItem_98 (by decide +kernel) ?_
        refine n_iadd dX5_isItem_99 ?_
        refine pX5_2 dX5_isItem_100 in_X5_isItem_X5 fl_X5_isItem_82 ?_
        refine v_aload_n dX5_isItem_103 rfl ?_
        refine v_get (j := 28) iO40 rfl dX5_isItem_104 (by decide) in_X5_isItem_X5 fl_X5_isItem_69 rfl ?_
        refine v_iload dX5_isItem_107 rfl ?_
        refine v_iload_n dX5_isItem_109 rfl ?_
        refine v_if_eq (tgt := 120) dX5_isItem_110 (by decide) (fun c110 => ?_) (fun c110 => absurd rfl c110)
        refine v_iconst (x := (-1)) dX5_isItem_120 rfl ?_
        refine v_iastN 1 iI60 dX5_isItem_121 rfl (by decide) (by decide) ?_
        refine v_aload_n dX5_isItem_122 rfl ?_
        refine v_get (j := 28) iO40 rfl dX5_isItem_123 (by decide) in_X5_isItem_X5 fl_X5_isItem_69 rfl ?_
        refine v_iload dX5_isItem_126 rfl ?_
        refine v_ialdN 1 iI60 dX5_isItem_128 rfl (by decide) (by decide) ?_
        refine v_top (y := -1) (sI_at _ _ _ _) ?_
        refine v_if_lt (tgt := 136) dX5_isItem_129 (by decide) (fun c129 => ?_) (fun c129 => absurd (by decide) c129)
        refine v_iconst (x := nI 0) dX5_isItem_136 (by decide +kernel) ?_
        refine v_istore_n (L' := [(3, _), (4, _), (2, _), (1, _), (0, _)]) dX5_isItem_137 rfl (by decide) rfl ?_
        refine n_iinc (n := 1) (L' := [(4, _), (3, _), (2, _), (1, _), (0, _)]) dX5_isItem_138 rfl (by decide) rfl ?_
        refine v_goto (tgt := 38) dX5_isItem_141 (by decide) ?_
        refine v_iload dX5_isItem_38 rfl ?_
        refine v_iload_n dX5_isItem_40 rfl ?_
        refine n_icmp_ge (tgt := 144) dX5_isItem_41 (by decide) (by omega) (by omega) (fun c41 => absurd c41 (by omega)) (fun c41 => ?_)
        refine v_iload_n dX5_isItem_44 rfl ?_
        refine v_if_eq (tgt := 144) dX5_isItem_45 (by decide) (fun c45 => ?_) (fun c45 => absurd rfl c45)
        refine v_iload_n dX5_isItem_144 rfl ?_
        refine v_if_eq (tgt := 177) dX5_isItem_145 (by decide) (fun c145 => ?_) (fun c145 => absurd rfl c145)
        refine v_iconst (x := nI 0) dX5_isItem_177 (by decide +kernel) ?_
        refine v_istore_n (L' := [(3, _), (4, _), (2, _), (1, _), (0, _)]) dX5_isItem_178 rfl (by decide) rfl ?_
        refine v_aload_n dX5_isItem_179 rfl ?_
        refine v_dup dX5_isItem_180 rfl ?_
        refine v_get (j := 2) iO40 rfl dX5_isItem_181 (by decide) in_X5_isItem_X5 fl_X5_isItem_82 rfl ?_
        refine v_top (y := nI (((p + 1) + t0) + 1)) ((sI_ne _ _ (by omega)).trans (sI_at _ _ _ _)) ?_
        refine v_iconst (x := nI 1) dX5_isItem_184 (by decide +kernel) ?_
        refine n_iadd dX5_isItem_185 ?_
        refine pX5_2 dX5_isItem_186 in_X5_isItem_X5 fl_X5_isItem_82 ?_
        refine v_iload_n dX5_isItem_189 rfl ?_
        refine v_if_eq (tgt := 205) dX5_isItem_190 (by decide) (fun c190 => ?_) (fun c190 => absurd rfl c190)
        refine v_iconst (x := nI 0) dX5_isItem_205 (by decide +kernel) ?_
        exact v_zret rfl (by decide) dX5_isItem_206 ⟨congrArg (fun z => some (Value.int z)) (bI_f (by rw [itemAt_no_t e9 (by rw [i3]; simp only [(show n1 u len (p + 1) 44 = none from by rw [n1_td D0 E0 (by decide), if_neg (fun q => by rw [S0] at q; cases q.2)])])]; rfl)), (((((((hI0.at _).at _).at _).got 0 _).at _).got 1 _).at _).2.2, fun q9 w9 h9 => by rw [itemAt_no_t e9 (by rw [i3]; simp only [(show n1 u len (p + 1) 44 = none from by rw [n1_td D0 E0 (by decide), if_neg (fun q => by rw [S0] at q; cases q.2)])])] at h9; cases h9⟩
      · have S0 : sepAt u len ((p + 1) + t0) 44 = true := sepAt_iff.mpr ⟨c61, (sb_asc _ (hM.2.2 _ c61).1 44 (by decide)).mp c75⟩
        refine v_iconst (x := nI 1) dX5_isItem_78 (by decide +kernel) ?_
        refine v_goto (tgt := 83) dX5_isItem_79 (by decide) ?_
        refine v_istore_n (L' := [(3, _), (4, _), (2, _), (1, _), (0, _)]) dX5_isItem_83 rfl (by decide) rfl ?_
        obtain ⟨t1, D1, E1, B1⟩ := ex_td u len ((p + 1) + t0 + 1)
        refine v_aload_n dX5_isItem_84 rfl ?_
        refine v_dup dX5_isItem_85 rfl ?_
        refine v_get (j := 2) iO40 rfl dX5_isItem_86 (by decide) in_X5_isItem_X5 fl_X5_isItem_82 rfl ?_
        refine v_top (y := nI ((p + 1) + t0)) ((sI_ne _ _ (by omega)).trans (sI_at _ _ _ _)) ?_
        refine v_iload dX5_isItem_89 rfl ?_
        refine n_if_ne (tgt := 98) dX5_isItem_91 (by decide) (by omega) (fun c91 => ?_) (fun c91 => absurd c91 (by omega))
        refine v_iconst (x := nI 1) dX5_isItem_98 (by decide +kernel) ?_
        refine n_iadd dX5_isItem_99 ?_
        refine pX5_2 dX5_isItem_100 in_X5_isItem_X5 fl_X5_isItem_82 ?_
        refine v_aload_n dX5_isItem_103 rfl ?_
        refine v_get (j := 28) iO40 rfl dX5_isItem_104 (by decide) in_X5_isItem_X5 fl_X5_isItem_69 rfl ?_
        refine v_iload dX5_isItem_107 rfl ?_
        refine v_iload_n dX5_isItem_109 rfl ?_
        refine v_if_eq (tgt := 120) dX5_isItem_110 (by decide) (fun c110 => absurd c110 (by decide)) (fun c110 => ?_)
        refine v_aload_n dX5_isItem_113 rfl ?_
        refine v_callVi (M' := M_X5_number) (As := []) iO40 (s_X5_number (((((hI0.at _).at _).at _).got 0 _).at _).1 (p := ((p + 1) + t0 + 1)) (t := t1) (sI_at _ _ _ _) D1 E1 (by omega)) dX5_isItem_114 gX5_isItem_X5_number rfl rfl nn_X5_number ⟨rfl, rfl⟩ ⟨by decide, by decide⟩ rfl rfl (Nat.le_of_ble_eq_true rfl) ?_
        refine v_goto (tgt := 121) dX5_isItem_117 (by decide) ?_
        by_cases T1 : 1 ≤ t1 ∧ t1 ≤ 3
        · refine v_top (y := nI (valF u ((p + 1) + t0 + 1) t1)) (if_pos T1) ?_
          have V1 := td_lt D1 T1
          refine v_iastN 1 iI60 dX5_isItem_121 rfl (by decide) (by decide) ?_
          refine v_aload_n dX5_isItem_122 rfl ?_
          refine v_get (j := 28) iO40 rfl dX5_isItem_123 (by decide) in_X5_isItem_X5 fl_X5_isItem_69 rfl ?_
          refine v_iload dX5_isItem_126 rfl ?_
          refine v_ialdN 1 iI60 dX5_isItem_128 rfl (by decide) (by decide) ?_
          refine v_top (y := nI (valF u ((p + 1) + t0 + 1) t1)) (sI_at _ _ _ _) ?_
          refine n_if_lt (tgt := 136) dX5_isItem_129 (by decide) (by omega) ?_
          refine v_iconst (x := nI 1) dX5_isItem_132 (by decide +kernel) ?_
          refine v_goto (tgt := 137) dX5_isItem_133 (by decide) ?_
          refine v_istore_n (L' := [(3, _), (4, _), (2, _), (1, _), (0, _)]) dX5_isItem_137 rfl (by decide) rfl ?_
          refine n_iinc (n := 1) (L' := [(4, _), (3, _), (2, _), (1, _), (0, _)]) dX5_isItem_138 rfl (by decide) rfl ?_
          refine v_goto (tgt := 38) dX5_isItem_141 (by decide) ?_
          refine v_iload dX5_isItem_38 rfl ?_
          refine v_iload_n dX5_isItem_40 rfl ?_
          refine n_icmp_ge (tgt := 144) dX5_isItem_41 (by decide) (by omega) (by omega) (fun c41 => absurd c41 (by omega)) (fun c41 => ?_)
          refine v_iload_n dX5_isItem_44 rfl ?_
          refine v_if_eq (tgt := 144) dX5_isItem_45 (by decide) (fun c45 => absurd c45 (by decide)) (fun c45 => ?_)
          refine v_iload dX5_isItem_48 rfl ?_
          refine n_if_eq (tgt := 78) dX5_isItem_50 (by decide) (by omega) (fun c50 => absurd c50 (by omega)) (fun c50 => ?_)
          refine v_aload_n dX5_isItem_53 rfl ?_
          refine v_get (j := 2) iO40 rfl dX5_isItem_54 (by decide) in_X5_isItem_X5 fl_X5_isItem_82 rfl ?_
          refine v_top (y := nI (((p + 1) + t0 + 1) + t1)) ((sI_ne _ _ (by omega)).trans (sI_at _ _ _ _)) ?_
          refine v_aload_n dX5_isItem_57 rfl ?_
          refine v_get (j := 0) iO40 rfl dX5_isItem_58 (by decide) in_X5_isItem_X5 fl_X5_isItem_78 rfl ?_
          refine v_top (y := nI len) (((((((hI0.at _).at _).at _).got 0 _).at _).at _).got 1 _).1.1 ?_
          refine n_icmp_ge (tgt := 82) dX5_isItem_61 (by decide) (by omega) (by omega) (fun c61 => ?_) (fun c61 => ?_)
          · have S1 : sepAt u len (((p + 1) + t0 + 1) + t1) 44 = false := by rw [sepAt, decide_eq_false (by omega)]; rfl
            refine v_iconst (x := nI 0) dX5_isItem_82 (by decide +kernel) ?_
            refine v_istore_n (L' := [(3, _), (4, _), (2, _), (1, _), (0, _)]) dX5_isItem_83 rfl (by decide) rfl ?_
            refine v_aload_n dX5_isItem_84 rfl ?_
            refine v_dup dX5_isItem_85 rfl ?_
            refine v_get (j := 2) iO40 rfl dX5_isItem_86 (by decide) in_X5_isItem_X5 fl_X5_isItem_82 rfl ?_
            refine v_top (y := nI (((p + 1) + t0 + 1) + t1)) ((sI_ne _ _ (by omega)).trans (sI_at _ _ _ _)) ?_
            refine v_iload dX5_isItem_89 rfl ?_
            refine n_if_ne (tgt := 98) dX5_isItem_91 (by decide) (by omega) (fun c91 => ?_) (fun c91 => absurd c91 (by omega))
            refine v_iconst (x := nI 1) dX5_isItem_98 (by decide +kernel) ?_
            refine n_iadd dX5_isItem_99 ?_
            refine pX5_2 dX5_isItem_100 in_X5_isItem_X5 fl_X5_isItem_82 ?_
            refine v_aload_n dX5_isItem_103 rfl ?_
            refine v_get (j := 28) iO40 rfl dX5_isItem_104 (by decide) in_X5_isItem_X5 fl_X5_isItem_69 rfl ?_
            refine v_iload dX5_isItem_107 rfl ?_
            refine v_iload_n dX5_isItem_109 rfl ?_
            refine v_if_eq (tgt := 120) dX5_isItem_110 (by decide) (fun c110 => ?_) (fun c110 => absurd rfl c110)
            refine v_iconst (x := (-1)) dX5_isItem_120 rfl ?_
            refine v_iastN 2 iI60 dX5_isItem_121 rfl (by decide) (by decide) ?_
            refine v_aload_n dX5_isItem_122 rfl ?_
            refine v_get (j := 28) iO40 rfl dX5_isItem_123 (by decide) in_X5_isItem_X5 fl_X5_isItem_69 rfl ?_
            refine v_iload dX5_isItem_126 rfl ?_
            refine v_ialdN 2 iI60 dX5_isItem_128 rfl (by decide) (by decide) ?_
            refine v_top (y := -1) (sI_at _ _ _ _) ?_
            refine v_if_lt (tgt := 136) dX5_isItem_129 (by decide) (fun c129 => ?_) (fun c129 => absurd (by decide) c129)
            refine v_iconst (x := nI 0) dX5_isItem_136 (by decide +kernel) ?_
            refine v_istore_n (L' := [(3, _), (4, _), (2, _), (1, _), (0, _)]) dX5_isItem_137 rfl (by decide) rfl ?_
            refine n_iinc (n := 1) (L' := [(4, _), (3, _), (2, _), (1, _), (0, _)]) dX5_isItem_138 rfl (by decide) rfl ?_
            refine v_goto (tgt := 38) dX5_isItem_141 (by decide) ?_
            refine v_iload dX5_isItem_38 rfl ?_
            refine v_iload_n dX5_isItem_40 rfl ?_
            refine n_icmp_ge (tgt := 144) dX5_isItem_41 (by decide) (by omega) (by omega) (fun c41 => ?_) (fun c41 => absurd c41 (by omega))
            refine v_iload_n dX5_isItem_144 rfl ?_
            refine v_if_eq (tgt := 177) dX5_isItem_145 (by decide) (fun c145 => ?_) (fun c145 => absurd rfl c145)
            refine v_iconst (x := nI 0) dX5_isItem_177 (by decide +kernel) ?_
            refine v_istore_n (L' := [(3, _), (4, _), (2, _), (1, _), (0, _)]) dX5_isItem_178 rfl (by decide) rfl ?_
            refine v_aload_n dX5_isItem_179 rfl ?_
            refine v_dup dX5_isItem_180 rfl ?_
            refine v_get (j := 2) iO40 rfl dX5_isItem_181 (by decide) in_X5_isItem_X5 fl_X5_isItem_82 rfl ?_
            refine v_top (y := nI ((((p + 1) + t0 + 1) + t1) + 1)) ((sI_ne _ _ (by omega)).trans (sI_at _ _ _ _)) ?_
            refine v_iconst (x := nI 1) dX5_isItem_184 (by decide +kernel) ?_
            refine n_iadd dX5_isItem_185 ?_
            refine pX5_2 dX5_isItem_186 in_X5_isItem_X5 fl_X5_isItem_82 ?_
            refine v_iload_n dX5_isItem_189 rfl ?_
            refine v_if_eq (tgt := 205) dX5_isItem_190 (by decide) (fun c190 => ?_) (fun c190 => absurd rfl c190)
            refine v_iconst (x := nI 0) dX5_isItem_205 (by decide +kernel) ?_
            exact v_zret rfl (by decide) dX5_isItem_206 ⟨congrArg (fun z => some (Value.int z)) (bI_f (by rw [itemAt_no_t e9 (by rw [i3]; simp only [(show n1 u len (p + 1) 44 = some (valF u (p + 1) t0, ((p + 1) + t0 + 1)) from by rw [n1_td D0 E0 (by decide), if_pos ⟨T0, S0⟩]), (show n1 u len ((p + 1) + t0 + 1) 44 = none from by rw [n1_td D1 E1 (by decide), if_neg (fun q => by rw [S1] at q; cases q.2)])])]; rfl)), ((((((((((hI0.at _).at _).at _).got 0 _).at _).at _).got 1 _).at _).got 2 _).at _).2.2, fun q9 w9 h9 => by rw [itemAt_no_t e9 (by rw [i3]; simp only [(show n1 u len (p + 1) 44 = some (valF u (p + 1) t0, ((p + 1) + t0 + 1)) from by rw [n1_td D0 E0 (by decide), if_pos ⟨T0, S0⟩]), (show n1 u len ((p + 1) + t0 + 1) 44 = none from by rw [n1_td D1 E1 (by decide), if_neg (fun q => by rw [S1] at q; cases q.2)])])] at h9; cases h9⟩
          · refine v_aload_n dX5_isItem_64 rfl ?_
            refine v_get (j := 1) iO40 rfl dX5_isItem_65 (by decide) in_X5_isItem_X5 fl_X5_isItem_7 rfl ?_
            refine v_aload_n dX5_isItem_68 rfl ?_
            refine v_get (j := 2) iO40 rfl dX5_isItem_69 (by decide) in_X5_isItem_X5 fl_X5_isItem_82 rfl ?_
            refine v_top (y := nI (((p + 1) + t0 + 1) + t1)) ((sI_ne _ _ (by omega)).trans (sI_at _ _ _ _)) ?_
            refine v_baldN (((p + 1) + t0 + 1) + t1) iB41 dX5_isItem_72 rfl (by omega) (by decide) ?_
            refine v_top (y := sb_b (u (((p + 1) + t0 + 1) + t1))) ((((((((hI0.at _).at _).at _).got 0 _).at _).at _).got 1 _).1.2.2 (((p + 1) + t0 + 1) + t1) c61).2 ?_
            refine v_bipush (x := nI 44) dX5_isItem_73 (by decide +kernel) ?_
            refine v_icmp_ne (tgt := 82) dX5_isItem_75 (by decide) (fun c75 => ?_) (fun c75 => ?_)
            · have S1 : sepAt u len (((p + 1) + t0 + 1) + t1) 44 = false := by rw [sepAt, decide_eq_false (p := u (((p + 1) + t0 + 1) + t1) = 44) (fun q => c75 ((sb_asc _ (hM.2.2 _ c61).1 44 (by decide)).mpr q)), Bool.and_false]
              refine v_iconst (x := nI 0) dX5_isItem_82 (by decide +kernel) ?_
              refine v_istore_n (L' := [(3, _), (4, _), (2, _), (1, _), (0, _)]) dX5_isItem_83 rfl (by decide) rfl ?_
              refine v_aload_n dX5_isItem_84 rfl ?_
              refine v_dup dX5_isItem_85 rfl ?_
              refine v_get (j := 2) iO40 rfl dX5_isItem_86 (by decide) in_X5_isItem_X5 fl_X5_isItem_82 rfl ?_
              refine v_top (y := nI (((p + 1) + t0 + 1) + t1)) ((sI_ne _ _ (by omega)).trans (sI_at _ _ _ _)) ?_
              refine v_iload dX5_isItem_89 rfl ?_
              refine n_if_ne (tgt := 98) dX5_isItem_91 (by decide) (by omega) (fun c91 => ?_) (fun c91 => absurd c91 (by omega))
              refine v_iconst (x := nI 1) dX5_isItem_98 (by decide +kernel) ?_
              refine n_iadd dX5_isItem_99 ?_
              refine pX5_2 dX5_isItem_100 in_X5_isItem_X5 fl_X5_isItem_82 ?_
              refine v_aload_n dX5_isItem_103 rfl ?_
              refine v_get (j := 28) iO40 rfl dX5_isItem_104 (by decide) in_X5_isItem_X5 fl_X5_isItem_69 rfl ?_
              refine v_iload dX5_isItem_107 rfl ?_
              refine v_iload_n dX5_isItem_109 rfl ?_
              refine v_if_eq (tgt := 120) dX5_isItem_110 (by decide) (fun c110 => ?_) (fun c110 => absurd rfl c110)
              refine v_iconst (x := (-1)) dX5_isItem_120 rfl ?_
              refine v_iastN 2 iI60 dX5_isItem_121 rfl (by decide) (by decide) ?_
              refine v_aload_n dX5_isItem_122 rfl ?_
              refine v_get (j := 28) iO40 rfl dX5_isItem_123 (by decide) in_X5_isItem_X5 fl_X5_isItem_69 rfl ?_
              refine v_iload dX5_isItem_126 rfl ?_
              refine v_ialdN 2 iI60 dX5_isItem_128 rfl (by decide) (by decide) ?_
              refine v_top (y := -1) (sI_at _ _ _ _) ?_
              refine v_if_lt (tgt := 136) dX5_isItem_129 (by decide) (fun c129 => ?_) (fun c129 => absurd (by decide) c129)
              refine v_iconst (x := nI 0) dX5_isItem_136 (by decide +kernel) ?_
              refine v_istore_n (L' := [(3, _), (4, _), (2, _), (1, _), (0, _)]) dX5_isItem_137 rfl (by decide) rfl ?_
              refine n_iinc (n := 1) (L' := [(4, _), (3, _), (2, _), (1, _), (0, _)]) dX5_isItem_138 rfl (by decide) rfl ?_
              refine v_goto (tgt := 38) dX5_isItem_141 (by decide) ?_
              refine v_iload dX5_isItem_38 rfl ?_
              refine v_iload_n dX5_isItem_40 rfl ?_
              refine n_icmp_ge (tgt := 144) dX5_isItem_41 (by decide) (by omega) (by omega) (fun c41 => ?_) (fun c41 => absurd c41 (by omega))
              refine v_iload_n dX5_isItem_144 rfl ?_
              refine v_if_eq (tgt := 177) dX5_isItem_145 (by decide) (fun c145 => ?_) (fun c145 => absurd rfl c145)
              refine v_iconst (x := nI 0) dX5_isItem_177 (by decide +kernel) ?_
              refine v_istore_n (L' := [(3, _), (4, _), (2, _), (1, _), (0, _)]) dX5_isItem_178 rfl (by decide) rfl ?_
              refine v_aload_n dX5_isItem_179 rfl ?_
              refine v_dup dX5_isItem_180 rfl ?_
              refine v_get (j := 2) iO40 rfl dX5_isItem_181 (by decide) in_X5_isItem_X5 fl_X5_isItem_82 rfl ?_
              refine v_top (y := nI ((((p + 1) + t0 + 1) + t1) + 1)) ((sI_ne _ _ (by omega)).trans (sI_at _ _ _ _)) ?_
              refine v_iconst (x := nI 1) dX5_isItem_184 (by decide +kernel) ?_
              refine n_iadd dX5_isItem_185 ?_
              refine pX5_2 dX5_isItem_186 in_X5_isItem_X5 fl_X5_isItem_82 ?_
              refine v_iload_n dX5_isItem_189 rfl ?_
              refine v_if_eq (tgt := 205) dX5_isItem_190 (by decide) (fun c190 => ?_) (fun c190 => absurd rfl c190)
              refine v_iconst (x := nI 0) dX5_isItem_205 (by decide +kernel) ?_
              exact v_zret rfl (by decide) dX5_isItem_206 ⟨congrArg (fun z => some (Value.int z)) (bI_f (by rw [itemAt_no_t e9 (by rw [i3]; simp only [(show n1 u len (p + 1) 44 = some (valF u (p + 1) t0, ((p + 1) + t0 + 1)) from by rw [n1_td D0 E0 (by decide), if_pos ⟨T0, S0⟩]), (show n1 u len ((p + 1) + t0 + 1) 44 = none from by rw [n1_td D1 E1 (by decide), if_neg (fun q => by rw [S1] at q; cases q.2)])])]; rfl)), ((((((((((hI0.at _).at _).at _).got 0 _).at _).at _).got 1 _).at _).got 2 _).at _).2.2, fun q9 w9 h9 => by rw [itemAt_no_t e9 (by rw [i3]; simp only [(show n1 u len (p + 1) 44 = some (valF u (p + 1) t0, ((p + 1) + t0 + 1)) from by rw [n1_td D0 E0 (by decide), if_pos ⟨T0, S0⟩]), (show n1 u len ((p + 1) + t0 + 1) 44 = none from by rw [n1_td D1 E1 (by decide), if_neg (fun q => by rw [S1] at q; cases q.2)])])] at h9; cases h9⟩
            · have S1 : sepAt u len (((p + 1) + t0 + 1) + t1) 44 = true := sepAt_iff.mpr ⟨c61, (sb_asc _ (hM.2.2 _ c61).1 44 (by decide)).mp c75⟩
              refine v_iconst (x := nI 1) dX5_isItem_78 (by decide +kernel) ?_
              refine v_goto (tgt := 83) dX5_isItem_79 (by decide) ?_
              refine v_istore_n (L' := [(3, _), (4, _), (2, _), (1, _), (0, _)]) dX5_isItem_83 rfl (by decide) rfl ?_
              obtain ⟨t2, D2, E2, B2⟩ := ex_td u len (((p + 1) + t0 + 1) + t1 + 1)
              refine v_aload_n dX5_isItem_84 rfl ?_
              refine v_dup dX5_isItem_85 rfl ?_
              refine v_get (j := 2) iO40 rfl dX5_isItem_86 (by decide) in_X5_isItem_X5 fl_X5_isItem_82 rfl ?_
              refine v_top (y := nI (((p + 1) + t0 + 1) + t1)) ((sI_ne _ _ (by omega)).trans (sI_at _ _ _ _)) ?_
              refine v_iload dX5_isItem_89 rfl ?_
              refine n_if_ne (tgt := 98) dX5_isItem_91 (by decide) (by omega) (fun c91 => ?_) (fun c91 => absurd c91 (by omega))
              refine v_iconst (x := nI 1) dX5_isItem_98 (by decide +kernel) ?_
              refine n_iadd dX5_isItem_99 ?_
              refine pX5_2 dX5_isItem_100 in_X5_isItem_X5 fl_X5_isItem_82 ?_
              refine v_aload_n dX5_isItem_103 rfl ?_
              refine v_get (j := 28) iO40 rfl dX5_isItem_104 (by decide) in_X5_isItem_X5 fl_X5_isItem_69 rfl ?_
              refine v_iload dX5_isItem_107 rfl ?_
              refine v_iload_n dX5_isItem_109 rfl ?_
              refine v_if_eq (tgt := 120) dX5_isItem_110 (by decide) (fun c110 => absurd c110 (by decide)) (fun c110 => ?_)
              refine v_aload_n dX5_isItem_113 rfl ?_
              refine v_callVi (M' := M_X5_number) (As := []) iO40 (s_X5_number ((((((((hI0.at _).at _).at _).got 0 _).at _).at _).got 1 _).at _).1 (p := (((p + 1) + t0 + 1) + t1 + 1)) (t := t2) (sI_at _ _ _ _) D2 E2 (by omega)) dX5_isItem_114 gX5_isItem_X5_number rfl rfl nn_X5_number ⟨rfl, rfl⟩ ⟨by decide, by decide⟩ rfl rfl (Nat.le_of_ble_eq_true rfl) ?_
              refine v_goto (tgt := 121) dX5_isItem_117 (by decide) ?_
              by_cases T2 : 1 ≤ t2 ∧ t2 ≤ 3
              · refine v_top (y := nI (valF u (((p + 1) + t0 + 1) + t1 + 1) t2)) (if_pos T2) ?_
                have V2 := td_lt D2 T2
                refine v_iastN 2 iI60 dX5_isItem_121 rfl (by decide) (by decide) ?_
                refine v_aload_n dX5_isItem_122 rfl ?_
                refine v_get (j := 28) iO40 rfl dX5_isItem_123 (by decide) in_X5_isItem_X5 fl_X5_isItem_69 rfl ?_
                refine v_iload dX5_isItem_126 rfl ?_
                refine v_ialdN 2 iI60 dX5_isItem_128 rfl (by decide) (by decide) ?_
                refine v_top (y := nI (valF u (((p + 1) + t0 + 1) + t1 + 1) t2)) (sI_at _ _ _ _) ?_
                refine n_if_lt (tgt := 136) dX5_isItem_129 (by decide) (by omega) ?_
                refine v_iconst (x := nI 1) dX5_isItem_132 (by decide +kernel) ?_
                refine v_goto (tgt := 137) dX5_isItem_133 (by decide) ?_
                refine v_istore_n (L' := [(3, _), (4, _), (2, _), (1, _), (0, _)]) dX5_isItem_137 rfl (by decide) rfl ?_
                refine n_iinc (n := 1) (L' := [(4, _), (3, _), (2, _), (1, _), (0, _)]) dX5_isItem_138 rfl (by decide) rfl ?_
                refine v_goto (tgt := 38) dX5_isItem_141 (by decide) ?_
                refine v_iload dX5_isItem_38 rfl ?_
                refine v_iload_n dX5_isItem_40 rfl ?_
                refine n_icmp_ge (tgt := 144) dX5_isItem_41 (by decide) (by omega) (by omega) (fun c41 => ?_) (fun c41 => absurd c41 (by omega))
                refine v_iload_n dX5_isItem_144 rfl ?_
                refine v_if_eq (tgt := 177) dX5_isItem_145 (by decide) (fun c145 => absurd c145 (by decide)) (fun c145 => ?_)
                refine v_aload_n dX5_isItem_148 rfl ?_
                refine v_get (j := 2) iO40 rfl dX5_isItem_149 (by decide) in_X5_isItem_X5 fl_X5_isItem_82 rfl ?_
                refine v_top (y := nI ((((p + 1) + t0 + 1) + t1 + 1) + t2)) ((sI_ne _ _ (by omega)).trans (sI_at _ _ _ _)) ?_
                refine v_aload_n dX5_isItem_152 rfl ?_
                refine v_get (j := 0) iO40 rfl dX5_isItem_153 (by decide) in_X5_isItem_X5 fl_X5_isItem_78 rfl ?_
                refine v_top (y := nI len) ((((((((((hI0.at _).at _).at _).got 0 _).at _).at _).got 1 _).at _).at _).got 2 _).1.1 ?_
                refine n_icmp_ge (tgt := 177) dX5_isItem_156 (by decide) (by omega) (by omega) (fun c156 => ?_) (fun c156 => ?_)
                · have S2 : sepAt u len ((((p + 1) + t0 + 1) + t1 + 1) + t2) 59 = false := by rw [sepAt, decide_eq_false (by omega)]; rfl
                  refine v_iconst (x := nI 0) dX5_isItem_177 (by decide +kernel) ?_
                  refine v_istore_n (L' := [(3, _), (4, _), (2, _), (1, _), (0, _)]) dX5_isItem_178 rfl (by decide) rfl ?_
                  refine v_aload_n dX5_isItem_179 rfl ?_
                  refine v_dup dX5_isItem_180 rfl ?_
                  refine v_get (j := 2) iO40 rfl dX5_isItem_181 (by decide) in_X5_isItem_X5 fl_X5_isItem_82 rfl ?_
                  refine v_top (y := nI ((((p + 1) + t0 + 1) + t1 + 1) + t2)) ((sI_ne _ _ (by omega)).trans (sI_at _ _ _ _)) ?_
                  refine v_iconst (x := nI 1) dX5_isItem_184 (by decide +kernel) ?_
                  refine n_iadd dX5_isItem_185 ?_
                  refine pX5_2 dX5_isItem_186 in_X5_isItem_X5 fl_X5_isItem_82 ?_
                  refine v_iload_n dX5_isItem_189 rfl ?_
                  refine v_if_eq (tgt := 205) dX5_isItem_190 (by decide) (fun c190 => ?_) (fun c190 => absurd rfl c190)
                  refine v_iconst (x := nI 0) dX5_isItem_205 (by decide +kernel) ?_
                  exact v_zret rfl (by decide) dX5_isItem_206 ⟨congrArg (fun z => some (Value.int z)) (bI_f (by rw [itemAt_no_t e9 (by rw [i3]; simp only [(show n1 u len (p + 1) 44 = some (valF u (p + 1) t0, ((p + 1) + t0 + 1)) from by rw [n1_td D0 E0 (by decide), if_pos ⟨T0, S0⟩]), (show n1 u len ((p + 1) + t0 + 1) 44 = some (valF u ((p + 1) + t0 + 1) t1, (((p + 1) + t0 + 1) + t1 + 1)) from by rw [n1_td D1 E1 (by decide), if_pos ⟨T1, S1⟩]), (show n1 u len (((p + 1) + t0 + 1) + t1 + 1) 59 = none from by rw [n1_td59 D2 E2, if_neg (fun q => by rw [S2] at q; cases q.2)])])]; rfl)), (((((((((((hI0.at _).at _).at _).got 0 _).at _).at _).got 1 _).at _).at _).got 2 _).at _).2.2, fun q9 w9 h9 => by rw [itemAt_no_t e9 (by rw [i3]; simp only [(show n1 u len (p + 1) 44 = some (valF u (p + 1) t0, ((p + 1) + t0 + 1)) from by rw [n1_td D0 E0 (by decide), if_pos ⟨T0, S0⟩]), (show n1 u len ((p + 1) + t0 + 1) 44 = some (valF u ((p + 1) + t0 + 1) t1, (((p + 1) + t0 + 1) + t1 + 1)) from by rw [n1_td D1 E1 (by decide), if_pos ⟨T1, S1⟩]), (show n1 u len (((p + 1) + t0 + 1) + t1 + 1) 59 = none from by rw [n1_td59 D2 E2, if_neg (fun q => by rw [S2] at q; cases q.2)])])] at h9; cases h9⟩
                · refine v_aload_n dX5_isItem_159 rfl ?_
                  refine v_get (j := 1) iO40 rfl dX5_isItem_160 (by decide) in_X5_isItem_X5 fl_X5_isItem_7 rfl ?_
                  refine v_aload_n dX5_isItem_163 rfl ?_
                  refine v_get (j := 2) iO40 rfl dX5_isItem_164 (by decide) in_X5_isItem_X5 fl_X5_isItem_82 rfl ?_
                  refine v_top (y := nI ((((p + 1) + t0 + 1) + t1 + 1) + t2)) ((sI_ne _ _ (by omega)).trans (sI_at _ _ _ _)) ?_
                  refine v_baldN ((((p + 1) + t0 + 1) + t1 + 1) + t2) iB41 dX5_isItem_167 rfl (by omega) (by decide) ?_
                  refine v_top (y := sb_b (u ((((p + 1) + t0 + 1) + t1 + 1) + t2))) (((((((((((hI0.at _).at _).at _).got 0 _).at _).at _).got 1 _).at _).at _).got 2 _).1.2.2 ((((p + 1) + t0 + 1) + t1 + 1) + t2) c156).2 ?_
                  refine v_bipush (x := nI 59) dX5_isItem_168 (by decide +kernel) ?_
                  refine v_icmp_ne (tgt := 177) dX5_isItem_170 (by decide) (fun c170 => ?_) (fun c170 => ?_)
                  · have S2 : sepAt u len ((((p + 1) + t0 + 1) + t1 + 1) + t2) 59 = false := by rw [sepAt, decide_eq_false (p := u ((((p + 1) + t0 + 1) + t1 + 1) + t2) = 59) (fun q => c170 ((sb_asc _ (hM.2.2 _ c156).1 59 (by decide)).mpr q)), Bool.and_false]
                    refine v_iconst (x := nI 0) dX5_isItem_177 (by decide +kernel) ?_
                    refine v_istore_n (L' := [(3, _), (4, _), (2, _), (1, _), (0, _)]) dX5_isItem_178 rfl (by decide) rfl ?_
                    refine v_aload_n dX5_isItem_179 rfl ?_
                    refine v_dup dX5_isItem_180 rfl ?_
                    refine v_get (j := 2) iO40 rfl dX5_isItem_181 (by decide) in_X5_isItem_X5 fl_X5_isItem_82 rfl ?_
                    refine v_top (y := nI ((((p + 1) + t0 + 1) + t1 + 1) + t2)) ((sI_ne _ _ (by omega)).trans (sI_at _ _ _ _)) ?_
                    refine v_iconst (x := nI 1) dX5_isItem_184 (by decide +kernel) ?_
                    refine n_iadd dX5_isItem_185 ?_
                    refine pX5_2 dX5_isItem_186 in_X5_isItem_X5 fl_X5_isItem_82 ?_
                    refine v_iload_n dX5_isItem_189 rfl ?_
                    refine v_if_eq (tgt := 205) dX5_isItem_190 (by decide) (fun c190 => ?_) (fun c190 => absurd rfl c190)
                    refine v_iconst (x := nI 0) dX5_isItem_205 (by decide +kernel) ?_
                    exact v_zret rfl (by decide) dX5_isItem_206 ⟨congrArg (fun z => some (Value.int z)) (bI_f (by rw [itemAt_no_t e9 (by rw [i3]; simp only [(show n1 u len (p + 1) 44 = some (valF u (p + 1) t0, ((p + 1) + t0 + 1)) from by rw [n1_td D0 E0 (by decide), if_pos ⟨T0, S0⟩]), (show n1 u len ((p + 1) + t0 + 1) 44 = some (valF u ((p + 1) + t0 + 1) t1, (((p + 1) + t0 + 1) + t1 + 1)) from by rw [n1_td D1 E1 (by decide), if_pos ⟨T1, S1⟩]), (show n1 u len (((p + 1) + t0 + 1) + t1 + 1) 59 = none from by rw [n1_td59 D2 E2, if_neg (fun q => by rw [S2] at q; cases q.2)])])]; rfl)), (((((((((((hI0.at _).at _).at _).got 0 _).at _).at _).got 1 _).at _).at _).got 2 _).at _).2.2, fun q9 w9 h9 => by rw [itemAt_no_t e9 (by rw [i3]; simp only [(show n1 u len (p + 1) 44 = some (valF u (p + 1) t0, ((p + 1) + t0 + 1)) from by rw [n1_td D0 E0 (by decide), if_pos ⟨T0, S0⟩]), (show n1 u len ((p + 1) + t0 + 1) 44 = some (valF u ((p + 1) + t0 + 1) t1, (((p + 1) + t0 + 1) + t1 + 1)) from by rw [n1_td D1 E1 (by decide), if_pos ⟨T1, S1⟩]), (show n1 u len (((p + 1) + t0 + 1) + t1 + 1) 59 = none from by rw [n1_td59 D2 E2, if_neg (fun q => by rw [S2] at q; cases q.2)])])] at h9; cases h9⟩
                  · have S2 : sepAt u len ((((p + 1) + t0 + 1) + t1 + 1) + t2) 59 = true := sepAt_iff.mpr ⟨c156, (sb_asc _ (hM.2.2 _ c156).1 59 (by decide)).mp c170⟩
                    refine v_iconst (x := nI 1) dX5_isItem_173 (by decide +kernel) ?_
                    refine v_goto (tgt := 178) dX5_isItem_174 (by decide) ?_
                    refine v_istore_n (L' := [(3, _), (4, _), (2, _), (1, _), (0, _)]) dX5_isItem_178 rfl (by decide) rfl ?_
                    refine v_aload_n dX5_isItem_179 rfl ?_
                    refine v_dup dX5_isItem_180 rfl ?_
                    refine v_get (j := 2) iO40 rfl dX5_isItem_181 (by decide) in_X5_isItem_X5 fl_X5_isItem_82 rfl ?_
                    refine v_top (y := nI ((((p + 1) + t0 + 1) + t1 + 1) + t2)) ((sI_ne _ _ (by omega)).trans (sI_at _ _ _ _)) ?_
                    refine v_iconst (x := nI 1) dX5_isItem_184 (by decide +kernel) ?_
                    refine n_iadd dX5_isItem_185 ?_
                    refine pX5_2 dX5_isItem_186 in_X5_isItem_X5 fl_X5_isItem_82 ?_
                    refine v_iload_n dX5_isItem_189 rfl ?_
                    refine v_if_eq (tgt := 205) dX5_isItem_190 (by decide) (fun c190 => absurd c190 (by decide)) (fun c190 => ?_)
                    refine v_aload_n dX5_isItem_193 rfl ?_
                    refine v_iload_n dX5_isItem_194 rfl ?_
                    refine v_callVRi (M' := M_X5_isGood) (As := [_]) iO40 (s_X5_isGood_t (((((((((((hI0.at _).at _).at _).got 0 _).at _).at _).got 1 _).at _).at _).got 2 _).at _).2.1 hv (td_lt D0 T0) (td_lt D1 T1) (td_lt D2 T2) (by simp [sI, upd]) (by simp [sI, upd]) (by simp [sI, upd])) dX5_isItem_195 gX5_isItem_X5_isGood rfl rfl nn_X5_isGood ⟨rfl, rfl⟩ ⟨by decide, by decide⟩ rfl rfl (Nat.le_of_ble_eq_true rfl) (fun s1 h1 => ?_)
                    refine b_if_eq (tgt := 205) dX5_isItem_198 (by decide) (fun c198 => ?_) (fun c198 => ?_)
                    · have hx9 : iT w (valF u (p + 1) t0) (valF u ((p + 1) + t0 + 1) t1) (valF u (((p + 1) + t0 + 1) + t1 + 1) t2) = none := by cases h : iT w (valF u (p + 1) t0) (valF u ((p + 1) + t0 + 1) t1) (valF u (((p + 1) + t0 + 1) + t1 + 1) t2) with | none => rfl | some y => rw [h] at c198; cases c198
                      refine v_iconst (x := nI 0) dX5_isItem_205 (by decide +kernel) ?_
                      exact v_zret rfl (by decide) dX5_isItem_206 ⟨congrArg (fun z => some (Value.int z)) (bI_f (by rw [itemAt_yes_t (a := valF u (p + 1) t0) (c := valF u ((p + 1) + t0 + 1) t1) (d := valF u (((p + 1) + t0 + 1) + t1 + 1) t2) (q := ((((p + 1) + t0 + 1) + t1 + 1) + t2 + 1)) e9 (by rw [i3]; simp only [(show n1 u len (p + 1) 44 = some (valF u (p + 1) t0, ((p + 1) + t0 + 1)) from by rw [n1_td D0 E0 (by decide), if_pos ⟨T0, S0⟩]), (show n1 u len ((p + 1) + t0 + 1) 44 = some (valF u ((p + 1) + t0 + 1) t1, (((p + 1) + t0 + 1) + t1 + 1)) from by rw [n1_td D1 E1 (by decide), if_pos ⟨T1, S1⟩]), (show n1 u len (((p + 1) + t0 + 1) + t1 + 1) 59 = some (valF u (((p + 1) + t0 + 1) + t1 + 1) t2, ((((p + 1) + t0 + 1) + t1 + 1) + t2 + 1)) from by rw [n1_td59 D2 E2, if_pos ⟨T2, S2⟩])]), hx9]; rfl)), (((((((((((hI0.at _).at _).at _).got 0 _).at _).at _).got 1 _).at _).at _).got 2 _).at _).2.2.tr h1.1, fun q9 w9 h9 => by rw [itemAt_yes_t (a := valF u (p + 1) t0) (c := valF u ((p + 1) + t0 + 1) t1) (d := valF u (((p + 1) + t0 + 1) + t1 + 1) t2) (q := ((((p + 1) + t0 + 1) + t1 + 1) + t2 + 1)) e9 (by rw [i3]; simp only [(show n1 u len (p + 1) 44 = some (valF u (p + 1) t0, ((p + 1) + t0 + 1)) from by rw [n1_td D0 E0 (by decide), if_pos ⟨T0, S0⟩]), (show n1 u len ((p + 1) + t0 + 1) 44 = some (valF u ((p + 1) + t0 + 1) t1, (((p + 1) + t0 + 1) + t1 + 1)) from by rw [n1_td D1 E1 (by decide), if_pos ⟨T1, S1⟩]), (show n1 u len (((p + 1) + t0 + 1) + t1 + 1) 59 = some (valF u (((p + 1) + t0 + 1) + t1 + 1) t2, ((((p + 1) + t0 + 1) + t1 + 1) + t2 + 1)) from by rw [n1_td59 D2 E2, if_pos ⟨T2, S2⟩])]), hx9] at h9; cases h9⟩
                    · obtain ⟨y9, hx9⟩ : ∃ y, iT w (valF u (p + 1) t0) (valF u ((p + 1) + t0 + 1) t1) (valF u (((p + 1) + t0 + 1) + t1 + 1) t2) = some y := by cases h : iT w (valF u (p + 1) t0) (valF u ((p + 1) + t0 + 1) t1) (valF u (((p + 1) + t0 + 1) + t1 + 1) t2) with | none => rw [h] at c198; cases c198 | some y => exact ⟨y, rfl⟩
                      refine v_iconst (x := nI 1) dX5_isItem_201 (by decide +kernel) ?_
                      refine v_goto (tgt := 206) dX5_isItem_202 (by decide) ?_
                      exact v_zret rfl (by decide) dX5_isItem_206 ⟨congrArg (fun z => some (Value.int z)) (bI_t (by rw [itemAt_yes_t (a := valF u (p + 1) t0) (c := valF u ((p + 1) + t0 + 1) t1) (d := valF u (((p + 1) + t0 + 1) + t1 + 1) t2) (q := ((((p + 1) + t0 + 1) + t1 + 1) + t2 + 1)) e9 (by rw [i3]; simp only [(show n1 u len (p + 1) 44 = some (valF u (p + 1) t0, ((p + 1) + t0 + 1)) from by rw [n1_td D0 E0 (by decide), if_pos ⟨T0, S0⟩]), (show n1 u len ((p + 1) + t0 + 1) 44 = some (valF u ((p + 1) + t0 + 1) t1, (((p + 1) + t0 + 1) + t1 + 1)) from by rw [n1_td D1 E1 (by decide), if_pos ⟨T1, S1⟩]), (show n1 u len (((p + 1) + t0 + 1) + t1 + 1) 59 = some (valF u (((p + 1) + t0 + 1) + t1 + 1) t2, ((((p + 1) + t0 + 1) + t1 + 1) + t2 + 1)) from by rw [n1_td59 D2 E2, if_pos ⟨T2, S2⟩])]), hx9]; rfl)), (((((((((((hI0.at _).at _).at _).got 0 _).at _).at _).got 1 _).at _).at _).got 2 _).at _).2.2.tr h1.1, fun q9 w9 h9 => by rw [itemAt_yes_t (a := valF u (p + 1) t0) (c := valF u ((p + 1) + t0 + 1) t1) (d := valF u (((p + 1) + t0 + 1) + t1 + 1) t2) (q := ((((p + 1) + t0 + 1) + t1 + 1) + t2 + 1)) e9 (by rw [i3]; simp only [(show n1 u len (p + 1) 44 = some (valF u (p + 1) t0, ((p + 1) + t0 + 1)) from by rw [n1_td D0 E0 (by decide), if_pos ⟨T0, S0⟩]), (show n1 u len ((p + 1) + t0 + 1) 44 = some (valF u ((p + 1) + t0 + 1) t1, (((p + 1) + t0 + 1) + t1 + 1)) from by rw [n1_td D1 E1 (by decide), if_pos ⟨T1, S1⟩]), (show n1 u len (((p + 1) + t0 + 1) + t1 + 1) 59 = some (valF u (((p + 1) + t0 + 1) + t1 + 1) t2, ((((p + 1) + t0 + 1) + t1 + 1) + t2 + 1)) from by rw [n1_td59 D2 E2, if_pos ⟨T2, S2⟩])]), hx9] at h9; cases h9; exact ⟨h1.2.1 _ hx9, h1.2.2.trans (sI_at _ _ _ _)⟩⟩
              · refine v_top (y := -1) (if_neg T2) ?_
                refine v_iastN 2 iI60 dX5_isItem_121 rfl (by decide) (by decide) ?_
                refine v_aload_n dX5_isItem_122 rfl ?_
                refine v_get (j := 28) iO40 rfl dX5_isItem_123 (by decide) in_X5_isItem_X5 fl_X5_isItem_69 rfl ?_
                refine v_iload dX5_isItem_126 rfl ?_
                refine v_ialdN 2 iI60 dX5_isItem_128 rfl (by decide) (by decide) ?_
                refine v_top (y := -1) (sI_at _ _ _ _) ?_
                refine v_if_lt (tgt := 136) dX5_isItem_129 (by decide) (fun c129 => ?_) (fun c129 => absurd (by decide) c129)
                refine v_iconst (x := nI 0) dX5_isItem_136 (by decide +kernel) ?_
                refine v_istore_n (L' := [(3, _), (4, _), (2, _), (1, _), (0, _)]) dX5_isItem_137 rfl (by decide) rfl ?_
                refine n_iinc (n := 1) (L' := [(4, _), (3, _), (2, _), (1, _), (0, _)]) dX5_isItem_138 rfl (by decide) rfl ?_
                refine v_goto (tgt := 38) dX5_isItem_141 (by decide) ?_
                refine v_iload dX5_isItem_38 rfl ?_
                refine v_iload_n dX5_isItem_40 rfl ?_
                refine n_icmp_ge (tgt := 144) dX5_isItem_41 (by decide) (by omega) (by omega) (fun c41 => ?_) (fun c41 => absurd c41 (by omega))
                refine v_iload_n dX5_isItem_144 rfl ?_
                refine v_if_eq (tgt := 177) dX5_isItem_145 (by decide) (fun c145 => ?_) (fun c145 => absurd rfl c145)
                refine v_iconst (x := nI 0) dX5_isItem_177 (by decide +kernel) ?_
                refine v_istore_n (L' := [(3, _), (4, _), (2, _), (1, _), (0, _)]) dX5_isItem_178 rfl (by decide) rfl ?_
                refine v_aload_n dX5_isItem_179 rfl ?_
                refine v_dup dX5_isItem_180 rfl ?_
                refine v_get (j := 2) iO40 rfl dX5_isItem_181 (by decide) in_X5_isItem_X5 fl_X5_isItem_82 rfl ?_
                refine v_top (y := nI ((((p + 1) + t0 + 1) + t1 + 1) + t2)) ((sI_ne _ _ (by omega)).trans (sI_at _ _ _ _)) ?_
                refine v_iconst (x := nI 1) dX5_isItem_184 (by decide +kernel) ?_
                refine n_iadd dX5_isItem_185 ?_
                refine pX5_2 dX5_isItem_186 in_X5_isItem_X5 fl_X5_isItem_82 ?_
                refine v_iload_n dX5_isItem_189 rfl ?_
                refine v_if_eq (tgt := 205) dX5_isItem_190 (by decide) (fun c190 => ?_) (fun c190 => absurd rfl c190)
                refine v_iconst (x := nI 0) dX5_isItem_205 (by decide +kernel) ?_
                exact v_zret rfl (by decide) dX5_isItem_206 ⟨congrArg (fun z => some (Value.int z)) (bI_f (by rw [itemAt_no_t e9 (by rw [i3]; simp only [(show n1 u len (p + 1) 44 = some (valF u (p + 1) t0, ((p + 1) + t0 + 1)) from by rw [n1_td D0 E0 (by decide), if_pos ⟨T0, S0⟩]), (show n1 u len ((p + 1) + t0 + 1) 44 = some (valF u ((p + 1) + t0 + 1) t1, (((p + 1) + t0 + 1) + t1 + 1)) from by rw [n1_td D1 E1 (by decide), if_pos ⟨T1, S1⟩]), (show n1 u len (((p + 1) + t0 + 1) + t1 + 1) 59 = none from by rw [n1_td59 D2 E2, if_neg (fun q => T2 q.1)])])]; rfl)), (((((((((((hI0.at _).at _).at _).got 0 _).at _).at _).got 1 _).at _).at _).got 2 _).at _).2.2, fun q9 w9 h9 => by rw [itemAt_no_t e9 (by rw [i3]; simp only [(show n1 u len (p + 1) 44 = some (valF u (p + 1) t0, ((p + 1) + t0 + 1)) from by rw [n1_td D0 E0 (by decide), if_pos ⟨T0, S0⟩]), (show n1 u len ((p + 1) + t0 + 1) 44 = some (valF u ((p + 1) + t0 + 1) t1, (((p + 1) + t0 + 1) + t1 + 1)) from by rw [n1_td D1 E1 (by decide), if_pos ⟨T1, S1⟩]), (show n1 u len (((p + 1) + t0 + 1) + t1 + 1) 59 = none from by rw [n1_td59 D2 E2, if_neg (fun q => T2 q.1)])])] at h9; cases h9⟩
        · refine v_top (y := -1) (if_neg T1) ?_
          refine v_iastN 1 iI60 dX5_isItem_121 rfl (by decide) (by decide) ?_
          refine v_aload_n dX5_isItem_122 rfl ?_
          refine v_get (j := 28) iO40 rfl dX5_isItem_123 (by decide) in_X5_isItem_X5 fl_X5_isItem_69 rfl ?_
          refine v_iload dX5_isItem_126 rfl ?_
          refine v_ialdN 1 iI60 dX5_isItem_128 rfl (by decide) (by decide) ?_
          refine v_top (y := -1) (sI_at _ _ _ _) ?_
          refine v_if_lt (tgt := 136) dX5_isItem_129 (by decide) (fun c129 => ?_) (fun c129 => absurd (by decide) c129)
          refine v_iconst (x := nI 0) dX5_isItem_136 (by decide +kernel) ?_
          refine v_istore_n (L' := [(3, _), (4, _), (2, _), (1, _), (0, _)]) dX5_isItem_137 rfl (by decide) rfl ?_
          refine n_iinc (n := 1) (L' := [(4, _), (3, _), (2, _), (1, _), (0, _)]) dX5_isItem_138 rfl (by decide) rfl ?_
          refine v_goto (tgt := 38) dX5_isItem_141 (by decide) ?_
          refine v_iload dX5_isItem_38 rfl ?_
          refine v_iload_n dX5_isItem_40 rfl ?_
          refine n_icmp_ge (tgt := 144) dX5_isItem_41 (by decide) (by omega) (by omega) (fun c41 => absurd c41 (by omega)) (fun c41 => ?_)
          refine v_iload_n dX5_isItem_44 rfl ?_
          refine v_if_eq (tgt := 144) dX5_isItem_45 (by decide) (fun c45 => ?_) (fun c45 => absurd rfl c45)
          refine v_iload_n dX5_isItem_144 rfl ?_
          refine v_if_eq (tgt := 177) dX5_isItem_145 (by decide) (fun c145 => ?_) (fun c145 => absurd rfl c145)
          refine v_iconst (x := nI 0) dX5_isItem_177 (by decide +kernel) ?_
          refine v_istore_n (L' := [(3, _), (4, _), (2, _), (1, _), (0, _)]) dX5_isItem_178 rfl (by decide) rfl ?_
          refine v_aload_n dX5_isItem_179 rfl ?_
          refine v_dup dX5_isItem_180 rfl ?_
          refine v_get (j := 2) iO40 rfl dX5_isItem_181 (by decide) in_X5_isItem_X5 fl_X5_isItem_82 rfl ?_
          refine v_top (y := nI (((p + 1) + t0 + 1) + t1)) ((sI_ne _ _ (by omega)).trans (sI_at _ _ _ _)) ?_
          refine v_iconst (x := nI 1) dX5_isItem_184 (by decide +kernel) ?_
          refine n_iadd dX5_isItem_185 ?_
          refine pX5_2 dX5_isItem_186 in_X5_isItem_X5 fl_X5_isItem_82 ?_
          refine v_iload_n dX5_isItem_189 rfl ?_
          refine v_if_eq (tgt := 205) dX5_isItem_190 (by decide) (fun c190 => ?_) (fun c190 => absurd rfl c190)
          refine v_iconst (x := nI 0) dX5_isItem_205 (by decide +kernel) ?_
          exact v_zret rfl (by decide) dX5_isItem_206 ⟨congrArg (fun z => some (Value.int z)) (bI_f (by rw [itemAt_no_t e9 (by rw [i3]; simp only [(show n1 u len (p + 1) 44 = some (valF u (p + 1) t0, ((p + 1) + t0 + 1)) from by rw [n1_td D0 E0 (by decide), if_pos ⟨T0, S0⟩]), (show n1 u len ((p + 1) + t0 + 1) 44 = none from by rw [n1_td D1 E1 (by decide), if_neg (fun q => T1 q.1)])])]; rfl)), ((((((((hI0.at _).at _).at _).got 0 _).at _).at _).got 1 _).at _).2.2, fun q9 w9 h9 => by rw [itemAt_no_t e9 (by rw [i3]; simp only [(show n1 u len (p + 1) 44 = some (valF u (p + 1) t0, ((p + 1) + t0 + 1)) from by rw [n1_td D0 E0 (by decide), if_pos ⟨T0, S0⟩]), (show n1 u len ((p + 1) + t0 + 1) 44 = none from by rw [n1_td D1 E1 (by decide), if_neg (fun q => T1 q.1)])])] at h9; cases h9⟩
  · refine v_top (y := -1) (if_neg T0) ?_
    refine v_iastN 0 iI60 dX5_isItem_121 rfl (by decide) (by decide) ?_
    refine v_aload_n dX5_isItem_122 rfl ?_
    refine v_get (j := 28) iO40 rfl dX5_isItem_123 (by decide) in_X5_isItem_X5 fl_X5_isItem_69 rfl ?_
    refine v_iload dX5_isItem_126 rfl ?_
    refine v_ialdN 0 iI60 dX5_isItem_128 rfl (by decide) (by decide) ?_
    refine v_top (y := -1) (sI_at _ _ _ _) ?_
    refine v_if_lt (tgt := 136) dX5_isItem_129 (by decide) (fun c129 => ?_) (fun c129 => absurd (by decide) c129)
    refine v_iconst (x := nI 0) dX5_isItem_136 (by decide +kernel) ?_
    refine v_istore_n (L' := [(3, _), (4, _), (2, _), (1, _), (0, _)]) dX5_isItem_137 rfl (by decide) rfl ?_
    refine n_iinc (n := 1) (L' := [(4, _), (3, _), (2, _), (1, _), (0, _)]) dX5_isItem_138 rfl (by decide) rfl ?_
    refine v_goto (tgt := 38) dX5_isItem_141 (by decide) ?_
    refine v_iload dX5_isItem_38 rfl ?_
    refine v_iload_n dX5_isItem_40 rfl ?_
    refine n_icmp_ge (tgt := 144) dX5_isItem_41 (by decide) (by omega) (by omega) (fun c41 => absurd c41 (by omega)) (fun c41 => ?_)
    refine v_iload_n dX5_isItem_44 rfl ?_
    refine v_if_eq (tgt := 144) dX5_isItem_45 (by decide) (fun c45 => ?_) (fun c45 => absurd rfl c45)
    refine v_iload_n dX5_isItem_144 rfl ?_
    refine v_if_eq (tgt := 177) dX5_isItem_145 (by decide) (fun c145 => ?_) (fun c145 => absurd rfl c145)
    refine v_iconst (x := nI 0) dX5_isItem_177 (by decide +kernel) ?_
    refine v_istore_n (L' := [(3, _), (4, _), (2, _), (1, _), (0, _)]) dX5_isItem_178 rfl (by decide) rfl ?_
    refine v_aload_n dX5_isItem_179 rfl ?_
    refine v_dup dX5_isItem_180 rfl ?_
    refine v_get (j := 2) iO40 rfl dX5_isItem_181 (by decide) in_X5_isItem_X5 fl_X5_isItem_82 rfl ?_
    refine v_top (y := nI ((p + 1) + t0)) ((sI_ne _ _ (by omega)).trans (sI_at _ _ _ _)) ?_
    refine v_iconst (x := nI 1) dX5_isItem_184 (by decide +kernel) ?_
    refine n_iadd dX5_isItem_185 ?_
    refine pX5_2 dX5_isItem_186 in_X5_isItem_X5 fl_X5_isItem_82 ?_
    refine v_iload_n dX5_isItem_189 rfl ?_
    refine v_if_eq (tgt := 205) dX5_isItem_190 (by decide) (fun c190 => ?_) (fun c190 => absurd rfl c190)
    refine v_iconst (x := nI 0) dX5_isItem_205 (by decide +kernel) ?_
    exact v_zret rfl (by decide) dX5_isItem_206 ⟨congrArg (fun z => some (Value.int z)) (bI_f (by rw [itemAt_no_t e9 (by rw [i3]; simp only [(show n1 u len (p + 1) 44 = none from by rw [n1_td D0 E0 (by decide), if_neg (fun q => T0 q.1)])])]; rfl)), (((((hI0.at _).at _).at _).got 0 _).at _).2.2, fun q9 w9 h9 => by rw [itemAt_no_t e9 (by rw [i3]; simp only [(show n1 u len (p + 1) 44 = none from by rw [n1_td D0 E0 (by decide), if_neg (fun q => T0 q.1)])])] at h9; cases h9⟩
set_option maxRecDepth 100000 in
set_option maxHeartbeats 4000000 in
theorem s_X5_isItem_b {v : EE} {u : Nat → Nat} {len : Nat} {w : WD} {z : Nat} {σ : SS} (hM : MTx u len σ) (hw : MH 1 w σ) (hv : WV z w) {p : Nat} (ha : σ.1 40 2 = nI p) (hp : p < len) (e9 : u p = 98) : SR v M_X5_isItem [.ref (v.1 40)] σ (some (.int (bI (itemAt u len p w).isSome))) (fun σ' => FD σ σ' ∧ ∀ q w', itemAt u len p w = some (q, w') → MH 1 w' σ' ∧ σ'.1 40 2 = nI q) := by
  refine Sp.of rfl (by decide) rfl (Nat.le_of_ble_eq_true rfl) ?_
  show V v M_X5_isItem _ 0 [(0, .ref (v.1 40))] [] σ
  have hl := hM.2.1
  have hI0 : MI u len w σ σ := ⟨hM, hw, FD.rf σ⟩
  refine v_aload_n dX5_isItem_0 rfl ?_
  refine v_get (j := 1) iO40 rfl dX5_isItem_1 (by decide) in_X5_isItem_X5 fl_X5_isItem_7 rfl ?_
  refine v_aload_n dX5_isItem_4 rfl ?_
  refine v_get (j := 2) iO40 rfl dX5_isItem_5 (by decide) in_X5_isItem_X5 fl_X5_isItem_82 rfl ?_
  refine v_top ha ?_
  refine v_baldN p iB41 dX5_isItem_8 rfl (by omega) (by decide) ?_
  refine v_top (y := nI 98) ((hM.2.2 p hp).2.trans (by rw [e9]; decide +kernel)) ?_
  refine v_istore_n (L' := [(1, _), (0, _)]) dX5_isItem_9 rfl (by decide) rfl ?_
  refine v_aload_n dX5_isItem_10 rfl ?_
  refine v_dup dX5_isItem_11 rfl ?_
  refine v_get (j := 2) iO40 rfl dX5_isItem_12 (by decide) in_X5_isItem_X5 fl_X5_isItem_82 rfl ?_
  refine v_top ha ?_
  refine v_iconst (x := nI 1) dX5_isItem_15 (by decide +kernel) ?_
  refine n_iadd dX5_isItem_16 ?_
  refine pX5_2 dX5_isItem_17 in_X5_isItem_X5 fl_X5_isItem_82 ?_
  refine v_iload_n dX5_isItem_20 rfl ?_
  refine v_callSi (M' := M_X5_figures) (As := [_]) (s_X5_figures_98) dX5_isItem_21 gX5_isItem_X5_figures rfl nn_X5_figures ⟨rfl, rfl⟩ ⟨by decide, by decide⟩ rfl rfl (Nat.le_of_ble_eq_true rfl) ?_
  refine v_istore_n (L' := [(2, _), (1, _), (0, _)]) dX5_isItem_24 rfl (by decide) rfl ?_
  refine v_iload_n dX5_isItem_25 rfl ?_
  refine n_if_le (tgt := 33) dX5_isItem_26 (by decide) (by omega) (fun c26 => absurd c26 (by omega)) (fun c26 => ?_)
  refine v_iconst (x := nI 1) dX5_isItem_29 (by decide +kernel) ?_
  refine v_goto (tgt := 34) dX5_isItem_30 (by decide) ?_
  refine v_istore_n (L' := [(3, _), (2, _), (1, _), (0, _)]) dX5_isItem_34 rfl (by decide) rfl ?_
  refine v_iconst (x := nI 0) dX5_isItem_35 (by decide +kernel) ?_
  refine v_istore (L' := [(4, _), (3, _), (2, _), (1, _), (0, _)]) dX5_isItem_36 (by decide) rfl ?_
  refine v_iload dX5_isItem_38 rfl ?_
  refine v_iload_n dX5_isItem_40 rfl ?_
  refine n_icmp_ge (tgt := 144) dX5_isItem_41 (by decide) (by omega) (by omega) (fun c41 => absurd c41 (by omega)) (fun c41 => ?_)
  refine v_iload_n dX5_isItem_44 rfl ?_
  refine v_if_eq (tgt := 144) dX5_isItem_45 (by decide) (fun c45 => absurd c45 (by decide)) (fun c45 => ?_)
  refine v_iload dX5_isItem_48 rfl ?_
  refine n_if_eq (tgt := 78) dX5_isItem_50 (by decide) (by omega) (fun c50 => ?_) (fun c50 => absurd c50 (by omega))
  refine v_iconst (x := nI 1) dX5_isItem_78 (by decide +kernel) ?_
  refine v_goto (tgt := 83) dX5_isItem_79 (by decide) ?_
  refine v_istore_n (L' := [(3, _), (4, _), (2, _), (1, _), (0, _)]) dX5_isItem_83 rfl (by decide) rfl ?_
  obtain ⟨t0, D0, E0, B0⟩ := ex_td u len (p + 1)
  refine v_aload_n dX5_isItem_84 rfl ?_
  refine v_dup dX5_isItem_85 rfl ?_
  refine v_get (j := 2) iO40 rfl dX5_isItem_86 (by decide) in_X5_isItem_X5 fl_X5_isItem_82 rfl ?_
  refine v_top (y := nI (p + 1)) (sI_at _ _ _ _) ?_
  refine v_iload dX5_isItem_89 rfl ?_
  refine n_if_ne (tgt := 98) dX5_isItem_91 (by decide) (by omega) (fun c91 => absurd c91 (by omega)) (fun c91 => ?_)
  refine v_iconst (x := nI 0) dX5_isItem_94 (by decide +kernel) ?_
  refine v_goto (tgt := 99) dX5_isItem_95 (by decide) ?_
  refine n_iadd dX5_isItem_99 ?_
  refine pX5_2 dX5_isItem_100 in_X5_isItem_X5 fl_X5_isItem_82 ?_
  refine v_aload_n dX5_isItem_103 rfl ?_
  refine v_get (j := 28) iO40 rfl dX5_isItem_104 (by decide) in_X5_isItem_X5 fl_X5_isItem_69 rfl ?_
  refine v_iload dX5_isItem_107 rfl ?_
  refine v_iload_n dX5_isItem_109 rfl ?_
  refine v_if_eq (tgt := 120) dX5_isItem_110 (by decide) (fun c110 => absurd c110 (by decide)) (fun c110 => ?_)
  refine v_aload_n dX5_isItem_113 rfl ?_
  refine v_callVi (M' := M_X5_number) (As := []) iO40 (s_X5_number ((hI0.at _).at _).1 (p := (p + 1)) (t := t0) (sI_at _ _ _ _) D0 E0 (by omega)) dX5_isItem_114 gX5_isItem_X5_number rfl rfl nn_X5_number ⟨rfl, rfl⟩ ⟨by decide, by decide⟩ rfl rfl (Nat.le_of_ble_eq_true rfl) ?_
  refine v_goto (tgt := 121) dX5_isItem_117 (by decide) ?_
  by_cases T0 : 1 ≤ t0 ∧ t0 ≤ 3
  · refine v_top (y := nI (valF u (p + 1) t0)) (if_pos T0) ?_
    have V0 := td_lt D0 T0
    refine v_iastN 0 iI60 dX5_isItem_121 rfl (by decide) (by decide) ?_
    refine v_aload_n dX5_isItem_122 rfl ?_
    refine v_get (j := 28) iO40 rfl dX5_isItem_123 (by decide) in_X5_isItem_X5 fl_X5_isItem_69 rfl ?_
    refine v_iload dX5_isItem_126 rfl ?_
    refine v_ialdN 0 iI60 dX5_isItem_128 rfl (by decide) (by decide) ?_
    refine v_top (y := nI (valF u (p + 1) t0)) (sI_at _ _ _ _) ?_
    refine n_if_lt (tgt := 136) dX5_isItem_129 (by decide) (by omega) ?_
    refine v_iconst (x := nI 1) dX5_isItem_132 (by decide +kernel) ?_
    refine v_goto (tgt := 137) dX5_isItem_133 (by decide) ?_
    refine v_istore_n (L' := [(3, _), (4, _), (2, _), (1, _), (0, _)]) dX5_isItem_137 rfl (by decide) rfl ?_
    refine n_iinc (n := 1) (L' := [(4, _), (3, _), (2, _), (1, _), (0, _)]) dX5_isItem_138 rfl (by decide) rfl ?_
    refine v_goto (tgt := 38) dX5_isItem_141 (by decide) ?_
    refine v_iload dX5_isItem_38 rfl ?_
    refine v_iload_n dX5_isItem_40 rfl ?_
    refine n_icmp_ge (tgt := 144) dX5_isItem_41 (by decide) (by omega) (by omega) (fun c41 => absurd c41 (by omega)) (fun c41 => ?_)
    refine v_iload_n dX5_isItem_44 rfl ?_
    refine v_if_eq (tgt := 144) dX5_isItem_45 (by decide) (fun c45 => absurd c45 (by decide)) (fun c45 => ?_)
    refine v_iload dX5_isItem_48 rfl ?_
    refine n_if_eq (tgt := 78) dX5_isItem_50 (by decide) (by omega) (fun c50 => absurd c50 (by omega)) (fun c50 => ?_)
    refine v_aload_n dX5_isItem_53 rfl ?_
    refine v_get (j := 2) iO40 rfl dX5_isItem_54 (by decide) in_X5_isItem_X5 fl_X5_isItem_82 rfl ?_
    refine v_top (y := nI ((p + 1) + t0)) ((sI_ne _ _ (by omega)).trans (sI_at _ _ _ _)) ?_
    refine v_aload_n dX5_isItem_57 rfl ?_
    refine v_get (j := 0) iO40 rfl dX5_isItem_58 (by decide) in_X5_isItem_X5 fl_X5_isItem_78 rfl ?_
    refine v_top (y := nI len) ((((hI0.at _).at _).at _).got 0 _).1.1 ?_
    refine n_icmp_ge (tgt := 82) dX5_isItem_61 (by decide) (by omega) (by omega) (fun c61 => ?_) (fun c61 => ?_)
    · have S0 : sepAt u len ((p + 1) + t0) 44 = false := by rw [sepAt, decide_eq_false (by omega)]; rfl
      refine v_iconst (x := nI 0) dX5_isItem_82 (by decide +kernel) ?_
      refine v_istore_n (L' := [(3, _), (4, _), (2, _), (1, _), (0, _)]) dX5_isItem_83 rfl (by decide) rfl ?_
      refine v_aload_n dX5_isItem_84 rfl ?_
      refine v_dup dX5_isItem_85 rfl ?_
      refine v_get (j := 2) iO40 rfl dX5_isItem_86 (by decide) in_X5_isItem_X5 fl_X5_isItem_82 rfl ?_
      refine v_top (y := nI ((p + 1) + t0)) ((sI_ne _ _ (by omega)).trans (sI_at _ _ _ _)) ?_
      refine v_iload dX5_isItem_89 rfl ?_
      refine n_if_ne (tgt := 98) dX5_isItem_91 (by decide) (by omega) (fun c91 => ?_) (fun c91 => absurd c91 (by omega))
      refine v_iconst (x := nI 1) dX5_isItem_98 (by decide +kernel) ?_
      refine n_iadd dX5_isItem_99 ?_
      refine pX5_2 dX5_isItem_100 in_X5_isItem_X5 fl_X5_isItem_82 ?_
      refine v_aload_n dX5_isItem_103 rfl ?_
      refine v_get (j := 28) iO40 rfl dX5_isItem_104 (by decide) in_X5_isItem_X5 fl_X5_isItem_69 rfl ?_
      refine v_iload dX5_isItem_107 rfl ?_
      refine v_iload_n dX5_isItem_109 rfl ?_
      refine v_if_eq (tgt := 120) dX5_isItem_110 (by decide) (fun c110 => ?_) (fun c110 => absurd rfl c110)
      refine v_iconst (x := (-1)) dX5_isItem_120 rfl ?_
      refine v_iastN 1 iI60 dX5_isItem_121 rfl (by decide) (by decide) ?_
      refine v_aload_n dX5_isItem_122 rfl ?_
      refine v_get (j := 28) iO40 rfl dX5_isItem_123 (by decide) in_X5_isItem_X5 fl_X5_isItem_69 rfl ?_
      refine v_iload dX5_isItem_126 rfl ?_
      refine v_ialdN 1 iI60 dX5_isItem_128 rfl (by decide) (by decide) ?_
      refine v_top (y := -1) (sI_at _ _ _ _) ?_
      refine v_if_lt (tgt := 136) dX5_isItem_129 (by decide) (fun c129 => ?_) (fun c129 => absurd (by decide) c129)
      refine v_iconst (x := nI 0) dX5_isItem_136 (by decide +kernel) ?_
      refine v_istore_n (L' := [(3, _), (4, _), (2, _), (1, _), (0, _)]) dX5_isItem_137 rfl (by decide) rfl ?_
      refine n_iinc (n := 1) (L' := [(4, _), (3, _), (2, _), (1, _), (0, _)]) dX5_isItem_138 rfl (by decide) rfl ?_
      refine v_goto (tgt := 38) dX5_isItem_141 (by decide) ?_
      refine v_iload dX5_isItem_38 rfl ?_
      refine v_iload_n dX5_isItem_40 rfl ?_
      refine n_icmp_ge (tgt := 144) dX5_isItem_41 (by decide) (by omega) (by omega) (fun c41 => ?_) (fun c41 => absurd c41 (by omega))
      refine v_iload_n dX5_isItem_144 rfl ?_
      refine v_if_eq (tgt := 177) dX5_isItem_145 (by decide) (fun c145 => ?_) (fun c145 => absurd rfl c145)
      refine v_iconst (x := nI 0) dX5_isItem_177 (by decide +kernel) ?_
      refine v_istore_n (L' := [(3, _), (4, _), (2, _), (1, _), (0, _)]) dX5_isItem_178 rfl (by decide) rfl ?_
      refine v_aload_n dX5_isItem_179 rfl ?_
      refine v_dup dX5_isItem_180 rfl ?_
      refine v_get (j := 2) iO40 rfl dX5_isItem_181 (by decide) in_X5_isItem_X5 fl_X5_isItem_82 rfl ?_
      refine v_top (y := nI (((p + 1) + t0) + 1)) ((sI_ne _ _ (by omega)).trans (sI_at _ _ _ _)) ?_
      refine v_iconst (x := nI 1) dX5_isItem_184 (by decide +kernel) ?_
      refine n_iadd dX5_isItem_185 ?_
      refine pX5_2 dX5_isItem_186 in_X5_isItem_X5 fl_X5_isItem_82 ?_
      refine v_iload_n dX5_isItem_189 rfl ?_
      refine v_if_eq (tgt := 205) dX5_isItem_190 (by decide) (fun c190 => ?_) (fun c190 => absurd rfl c190)
      refine v_iconst (x := nI 0) dX5_isItem_205 (by decide +kernel) ?_
      exact v_zret rfl (by decide) dX5_isItem_206 ⟨congrArg (fun z => some (Value.int z)) (bI_f (by rw [itemAt_no_b e9 (by rw [i2]; simp only [(show n1 u len (p + 1) 44 = none from by rw [n1_td D0 E0 (by decide), if_neg (fun q => by rw [S0] at q; cases q.2)])])]; rfl)), (((((((hI0.at _).at _).at _).got 0 _).at _).got 1 _).at _).2.2, fun q9 w9 h9 => by rw [itemAt_no_b e9 (by rw [i2]; simp only [(show n1 u len (p + 1) 44 = none from by rw [n1_td D0 E0 (by decide), if_neg (fun q => by rw [S0] at q; cases q.2)])])] at h9; cases h9⟩
    · refine v_aload_n dX5_isItem_64 rfl ?_
      refine v_get (j := 1) iO40 rfl dX5_isItem_65 (by decide) in_X5_isItem_X5 fl_X5_isItem_7 rfl ?_
      refine v_aload_n dX5_isItem_68 rfl ?_
      refine v_get (j := 2) iO40 rfl dX5_isItem_69 (by decide) in_X5_isItem_X5 fl_X5_isItem_82 rfl ?_
      refine v_top (y := nI ((p + 1) + t0)) ((sI_ne _ _ (by omega)).trans (sI_at _ _ _ _)) ?_
      refine v_baldN ((p + 1) + t0) iB41 dX5_isItem_72 rfl (by omega) (by decide) ?_
      refine v_top (y := sb_b (u ((p + 1) + t0))) (((((hI0.at _).at _).at _).got 0 _).1.2.2 ((p + 1) + t0) c61).2 ?_
      refine v_bipush (x := nI 44) dX5_isItem_73 (by decide +kernel) ?_
      refine v_icmp_ne (tgt := 82) dX5_isItem_75 (by decide) (fun c75 => ?_) (fun c75 => ?_)
      · have S0 : sepAt u len ((p + 1) + t0) 44 = false := by rw [sepAt, decide_eq_false (p := u ((p + 1) + t0) = 44) (fun q => c75 ((sb_asc _ (hM.2.2 _ c61).1 44 (by decide)).mpr q)), Bool.and_false]
        refine v_iconst (x := nI 0) dX5_isItem_82 (by decide +kernel) ?_
        refine v_istore_n (L' := [(3, _), (4, _), (2, _), (1, _), (0, _)]) dX5_isItem_83 rfl (by decide) rfl ?_
        refine v_aload_n dX5_isItem_84 rfl ?_
        refine v_dup dX5_isItem_85 rfl ?_
        refine v_get (j := 2) iO40 rfl dX5_isItem_86 (by decide) in_X5_isItem_X5 fl_X5_isItem_82 rfl ?_
        refine v_top (y := nI ((p + 1) + t0)) ((sI_ne _ _ (by omega)).trans (sI_at _ _ _ _)) ?_
        refine v_iload dX5_isItem_89 rfl ?_
        refine n_if_ne (tgt := 98) dX5_isItem_91 (by decide) (by omega) (fun c91 => ?_) (fun c91 => absurd c91 (by omega))
        refine v_iconst (x := nI 1) dX5_isItem_98 (by decide +kernel) ?_
        refine n_iadd dX5_isItem_99 ?_
        refine pX5_2 dX5_isItem_100 in_X5_isItem_X5 fl_X5_isItem_82 ?_
        refine v_aload_n dX5_isItem_103 rfl ?_
        refine v_get (j := 28) iO40 rfl dX5_isItem_104 (by decide) in_X5_isItem_X5 fl_X5_isItem_69 rfl ?_
        refine v_iload dX5_isItem_107 rfl ?_
        refine v_iload_n dX5_isItem_109 rfl ?_
        refine v_if_eq (tgt := 120) dX5_isItem_110 (by decide) (fun c110 => ?_) (fun c110 => absurd rfl c110)
        refine v_iconst (x := (-1)) dX5_isItem_120 rfl ?_
        refine v_iastN 1 iI60 dX5_isItem_121 rfl (by decide) (by decide) ?_
        refine v_aload_n dX5_isItem_122 rfl ?_
        refine v_get (j := 28) iO40 rfl dX5_isItem_123 (by decide) in_X5_isItem_X5 fl_X5_isItem_69 rfl ?_
        refine v_iload dX5_isItem_126 rfl ?_
        refine v_ialdN 1 iI60 dX5_isItem_128 rfl (by decide) (by decide) ?_
        refine v_top (y := -1) (sI_at _ _ _ _) ?_
        refine v_if_lt (tgt := 136) dX5_isItem_129 (by decide) (fun c129 => ?_) (fun c129 => absurd (by decide) c129)
        refine v_iconst (x := nI 0) dX5_isItem_136 (by decide +kernel) ?_
        refine v_istore_n (L' := [(3, _), (4, _), (2, _), (1, _), (0, _)]) dX5_isItem_137 rfl (by decide) rfl ?_
        refine n_iinc (n := 1) (L' := [(4, _), (3, _), (2, _), (1, _), (0, _)]) dX5_isItem_138 rfl (by decide) rfl ?_
        refine v_goto (tgt := 38) dX5_isItem_141 (by decide) ?_
        refine v_iload dX5_isItem_38 rfl ?_
        refine v_iload_n dX5_isItem_40 rfl ?_
        refine n_icmp_ge (tgt := 144) dX5_isItem_41 (by decide) (by omega) (by omega) (fun c41 => ?_) (fun c41 => absurd c41 (by omega))
        refine v_iload_n dX5_isItem_144 rfl ?_
        refine v_if_eq (tgt := 177) dX5_isItem_145 (by decide) (fun c145 => ?_) (fun c145 => absurd rfl c145)
        refine v_iconst (x := nI 0) dX5_isItem_177 (by decide +kernel) ?_
        refine v_istore_n (L' := [(3, _), (4, _), (2, _), (1, _), (0, _)]) dX5_isItem_178 rfl (by decide) rfl ?_
        refine v_aload_n dX5_isItem_179 rfl ?_
        refine v_dup dX5_isItem_180 rfl ?_
        refine v_get (j := 2) iO40 rfl dX5_isItem_181 (by decide) in_X5_isItem_X5 fl_X5_isItem_82 rfl ?_
        refine v_top (y := nI (((p + 1) + t0) + 1)) ((sI_ne _ _ (by omega)).trans (sI_at _ _ _ _)) ?_
        refine v_iconst (x := nI 1) dX5_isItem_184 (by decide +kernel) ?_
        refine n_iadd dX5_isItem_185 ?_
        refine pX5_2 dX5_isItem_186 in_X5_isItem_X5 fl_X5_isItem_82 ?_
        refine v_iload_n dX5_isItem_189 rfl ?_
        refine v_if_eq (tgt := 205) dX5_isItem_190 (by decide) (fun c190 => ?_) (fun c190 => absurd rfl c190)
        refine v_iconst (x := nI 0) dX5_isItem_205 (by decide +kernel) ?_
        exact v_zret rfl (by decide) dX5_isItem_206 ⟨congrArg (fun z => some (Value.int z)) (bI_f (by rw [itemAt_no_b e9 (by rw [i2]; simp only [(show n1 u len (p + 1) 44 = none from by rw [n1_td D0 E0 (by decide), if_neg (fun q => by rw [S0] at q; cases q.2)])])]; rfl)), (((((((hI0.at _).at _).at _).got 0 _).at _).got 1 _).at _).2.2, fun q9 w9 h9 => by rw [itemAt_no_b e9 (by rw [i2]; simp only [(show n1 u len (p + 1) 44 = none from by rw [n1_td D0 E0 (by decide), if_neg (fun q => by rw [S0] at q; cases q.2)])])] at h9; cases h9⟩
      · have S0 : sepAt u len ((p + 1) + t0) 44 = true := sepAt_iff.mpr ⟨c61, (sb_asc _ (hM.2.2 _ c61).1 44 (by decide)).mp c75⟩
        refine v_iconst (x := nI 1) dX5_isItem_78 (by decide +kernel) ?_
        refine v_goto (tgt := 83) dX5_isItem_79 (by decide) ?_
        refine v_istore_n (L' := [(3, _), (4, _), (2, _), (1, _), (0, _)]) dX5_isItem_83 rfl (by decide) rfl ?_
        obtain ⟨t1, D1, E1, B1⟩ := ex_td u len ((p + 1) + t0 + 1)
        refine v_aload_n dX5_isItem_84 rfl ?_
        refine v_dup dX5_isItem_85 rfl ?_
        refine v_get (j := 2) iO40 rfl dX5_isItem_86 (by decide) in_X5_isItem_X5 fl_X5_isItem_82 rfl ?_
        refine v_top (y := nI ((p + 1) + t0)) ((sI_ne _ _ (by omega)).trans (sI_at _ _ _ _)) ?_
        refine v_iload dX5_isItem_89 rfl ?_
        refine n_if_ne (tgt := 98) dX5_isItem_91 (by decide) (by omega) (fun c91 => ?_) (fun c91 => absurd c91 (by omega))
        refine v_iconst (x := nI 1) dX5_isItem_98 (by decide +kernel) ?_
        refine n_iadd dX5_isItem_99 ?_
        refine pX5_2 dX5_isItem_100 in_X5_isItem_X5 fl_X5_isItem_82 ?_
        refine v_aload_n dX5_isItem_103 rfl ?_
        refine v_get (j := 28) iO40 rfl dX5_isItem_104 (by decide) in_X5_isItem_X5 fl_X5_isItem_69 rfl ?_
        refine v_iload dX5_isItem_107 rfl ?_
        refine v_iload_n dX5_isItem_109 rfl ?_
        refine v_if_eq (tgt := 120) dX5_isItem_110 (by decide) (fun c110 => absurd c110 (by decide)) (fun c110 => ?_)
        refine v_aload_n dX5_isItem_113 rfl ?_
        refine v_callVi (M' := M_X5_number) (As := []) iO40 (s_X5_number (((((hI0.at _).at _).at _).got 0 _).at _).1 (p := ((p + 1) + t0 + 1)) (t := t1) (sI_at _ _ _ _) D1 E1 (by omega)) dX5_isItem_114 gX5_isItem_X5_number rfl rfl nn_X5_number ⟨rfl, rfl⟩ ⟨by decide, by decide⟩ rfl rfl (Nat.le_of_ble_eq_true rfl) ?_
        refine v_goto (tgt := 121) dX5_isItem_117 (by decide) ?_
        by_cases T1 : 1 ≤ t1 ∧ t1 ≤ 3
        · refine v_top (y := nI (valF u ((p + 1) + t0 + 1) t1)) (if_pos T1) ?_
          have V1 := td_lt D1 T1
          refine v_iastN 1 iI60 dX5_isItem_121 rfl (by decide) (by decide) ?_
          refine v_aload_n dX5_isItem_122 rfl ?_
          refine v_get (j := 28) iO40 rfl dX5_isItem_123 (by decide) in_X5_isItem_X5 fl_X5_isItem_69 rfl ?_
          refine v_iload dX5_isItem_126 rfl ?_
          refine v_ialdN 1 iI60 dX5_isItem_128 rfl (by decide) (by decide) ?_
          refine v_top (y := nI (valF u ((p + 1) + t0 + 1) t1)) (sI_at _ _ _ _) ?_
          refine n_if_lt (tgt := 136) dX5_isItem_129 (by decide) (by omega) ?_
          refine v_iconst (x := nI 1) dX5_isItem_132 (by decide +kernel) ?_
          refine v_goto (tgt := 137) dX5_isItem_133 (by decide) ?_
          refine v_istore_n (L' := [(3, _), (4, _), (2, _), (1, _), (0, _)]) dX5_isItem_137 rfl (by decide) rfl ?_
          refine n_iinc (n := 1) (L' := [(4, _), (3, _), (2, _), (1, _), (0, _)]) dX5_isItem_138 rfl (by decide) rfl ?_
          refine v_goto (tgt := 38) dX5_isItem_141 (by decide) ?_
          refine v_iload dX5_isItem_38 rfl ?_
          refine v_iload_n dX5_isItem_40 rfl ?_
          refine n_icmp_ge (tgt := 144) dX5_isItem_41 (by decide) (by omega) (by omega) (fun c41 => ?_) (fun c41 => absurd c41 (by omega))
          refine v_iload_n dX5_isItem_144 rfl ?_
          refine v_if_eq (tgt := 177) dX5_isItem_145 (by decide) (fun c145 => absurd c145 (by decide)) (fun c145 => ?_)
          refine v_aload_n dX5_isItem_148 rfl ?_
          refine v_get (j := 2) iO40 rfl dX5_isItem_149 (by decide) in_X5_isItem_X5 fl_X5_isItem_82 rfl ?_
          refine v_top (y := nI (((p + 1) + t0 + 1) + t1)) ((sI_ne _ _ (by omega)).trans (sI_at _ _ _ _)) ?_
          refine v_aload_n dX5_isItem_152 rfl ?_
          refine v_get (j := 0) iO40 rfl dX5_isItem_153 (by decide) in_X5_isItem_X5 fl_X5_isItem_78 rfl ?_
          refine v_top (y := nI len) (((((((hI0.at _).at _).at _).got 0 _).at _).at _).got 1 _).1.1 ?_
          refine n_icmp_ge (tgt := 177) dX5_isItem_156 (by decide) (by omega) (by omega) (fun c156 => ?_) (fun c156 => ?_)
          · have S1 : sepAt u len (((p + 1) + t0 + 1) + t1) 59 = false := by rw [sepAt, decide_eq_false (by omega)]; rfl
            refine v_iconst (x := nI 0) dX5_isItem_177 (by decide +kernel) ?_
            refine v_istore_n (L' := [(3, _), (4, _), (2, _), (1, _), (0, _)]) dX5_isItem_178 rfl (by decide) rfl ?_
            refine v_aload_n dX5_isItem_179 rfl ?_
            refine v_dup dX5_isItem_180 rfl ?_
            refine v_get (j := 2) iO40 rfl dX5_isItem_181 (by decide) in_X5_isItem_X5 fl_X5_isItem_82 rfl ?_
            refine v_top (y := nI (((p + 1) + t0 + 1) + t1)) ((sI_ne _ _ (by omega)).trans (sI_at _ _ _ _)) ?_
            refine v_iconst (x := nI 1) dX5_isItem_184 (by decide +kernel) ?_
            refine n_iadd dX5_isItem_185 ?_
            refine pX5_2 dX5_isItem_186 in_X5_isItem_X5 fl_X5_isItem_82 ?_
            refine v_iload_n dX5_isItem_189 rfl ?_
            refine v_if_eq (tgt := 205) dX5_isItem_190 (by decide) (fun c190 => ?_) (fun c190 => absurd rfl c190)
            refine v_iconst (x := nI 0) dX5_isItem_205 (by decide +kernel) ?_
            exact v_zret rfl (by decide) dX5_isItem_206 ⟨congrArg (fun z => some (Value.int z)) (bI_f (by rw [itemAt_no_b e9 (by rw [i2]; simp only [(show n1 u len (p + 1) 44 = some (valF u (p + 1) t0, ((p + 1) + t0 + 1)) from by rw [n1_td D0 E0 (by decide), if_pos ⟨T0, S0⟩]), (show n1 u len ((p + 1) + t0 + 1) 59 = none from by rw [n1_td59 D1 E1, if_neg (fun q => by rw [S1] at q; cases q.2)])])]; rfl)), ((((((((hI0.at _).at _).at _).got 0 _).at _).at _).got 1 _).at _).2.2, fun q9 w9 h9 => by rw [itemAt_no_b e9 (by rw [i2]; simp only [(show n1 u len (p + 1) 44 = some (valF u (p + 1) t0, ((p + 1) + t0 + 1)) from by rw [n1_td D0 E0 (by decide), if_pos ⟨T0, S0⟩]), (show n1 u len ((p + 1) + t0 + 1) 59 = none from by rw [n1_td59 D1 E1, if_neg (fun q => by rw [S1] at q; cases q.2)])])] at h9; cases h9⟩
          · refine v_aload_n dX5_isItem_159 rfl ?_
            refine v_get (j := 1) iO40 rfl dX5_isItem_160 (by decide) in_X5_isItem_X5 fl_X5_isItem_7 rfl ?_
            refine v_aload_n dX5_isItem_163 rfl ?_
            refine v_get (j := 2) iO40 rfl dX5_isItem_164 (by decide) in_X5_isItem_X5 fl_X5_isItem_82 rfl ?_
            refine v_top (y := nI (((p + 1) + t0 + 1) + t1)) ((sI_ne _ _ (by omega)).trans (sI_at _ _ _ _)) ?_
            refine v_baldN (((p + 1) + t0 + 1) + t1) iB41 dX5_isItem_167 rfl (by omega) (by decide) ?_
            refine v_top (y := sb_b (u (((p + 1) + t0 + 1) + t1))) ((((((((hI0.at _).at _).at _).got 0 _).at _).at _).got 1 _).1.2.2 (((p + 1) + t0 + 1) + t1) c156).2 ?_
            refine v_bipush (x := nI 59) dX5_isItem_168 (by decide +kernel) ?_
            refine v_icmp_ne (tgt := 177) dX5_isItem_170 (by decide) (fun c170 => ?_) (fun c170 => ?_)
            · have S1 : sepAt u len (((p + 1) + t0 + 1) + t1) 59 = false := by rw [sepAt, decide_eq_false (p := u (((p + 1) + t0 + 1) + t1) = 59) (fun q => c170 ((sb_asc _ (hM.2.2 _ c156).1 59 (by decide)).mpr q)), Bool.and_false]
              refine v_iconst (x := nI 0) dX5_isItem_177 (by decide +kernel) ?_
              refine v_istore_n (L' := [(3, _), (4, _), (2, _), (1, _), (0, _)]) dX5_isItem_178 rfl (by decide) rfl ?_
              refine v_aload_n dX5_isItem_179 rfl ?_
              refine v_dup dX5_isItem_180 rfl ?_
              refine v_get (j := 2) iO40 rfl dX5_isItem_181 (by decide) in_X5_isItem_X5 fl_X5_isItem_82 rfl ?_
              refine v_top (y := nI (((p + 1) + t0 + 1) + t1)) ((sI_ne _ _ (by omega)).trans (sI_at _ _ _ _)) ?_
              refine v_iconst (x := nI 1) dX5_isItem_184 (by decide +kernel) ?_
              refine n_iadd dX5_isItem_185 ?_
              refine pX5_2 dX5_isItem_186 in_X5_isItem_X5 fl_X5_isItem_82 ?_
              refine v_iload_n dX5_isItem_189 rfl ?_
              refine v_if_eq (tgt := 205) dX5_isItem_190 (by decide) (fun c190 => ?_) (fun c190 => absurd rfl c190)
              refine v_iconst (x := nI 0) dX5_isItem_205 (by decide +kernel) ?_
              exact v_zret rfl (by decide) dX5_isItem_206 ⟨congrArg (fun z => some (Value.int z)) (bI_f (by rw [itemAt_no_b e9 (by rw [i2]; simp only [(show n1 u len (p + 1) 44 = some (valF u (p + 1) t0, ((p + 1) + t0 + 1)) from by rw [n1_td D0 E0 (by decide), if_pos ⟨T0, S0⟩]), (show n1 u len ((p + 1) + t0 + 1) 59 = none from by rw [n1_td59 D1 E1, if_neg (fun q => by rw [S1] at q; cases q.2)])])]; rfl)), ((((((((hI0.at _).at _).at _).got 0 _).at _).at _).got 1 _).at _).2.2, fun q9 w9 h9 => by rw [itemAt_no_b e9 (by rw [i2]; simp only [(show n1 u len (p + 1) 44 = some (valF u (p + 1) t0, ((p + 1) + t0 + 1)) from by rw [n1_td D0 E0 (by decide), if_pos ⟨T0, S0⟩]), (show n1 u len ((p + 1) + t0 + 1) 59 = none from by rw [n1_td59 D1 E1, if_neg (fun q => by rw [S1] at q; cases q.2)])])] at h9; cases h9⟩
            · have S1 : sepAt u len (((p + 1) + t0 + 1) + t1) 59 = true := sepAt_iff.mpr ⟨c156, (sb_asc _ (hM.2.2 _ c156).1 59 (by decide)).mp c170⟩
              refine v_iconst (x := nI 1) dX5_isItem_173 (by decide +kernel) ?_
              refine v_goto (tgt := 178) dX5_isItem_174 (by decide) ?_
              refine v_istore_n (L' := [(3, _), (4, _), (2, _), (1, _), (0, _)]) dX5_isItem_178 rfl (by decide) rfl ?_
              refine v_aload_n dX5_isItem_179 rfl ?_
              refine v_dup dX5_isItem_180 rfl ?_
              refine v_get (j := 2) iO40 rfl dX5_isItem_181 (by decide) in_X5_isItem_X5 fl_X5_isItem_82 rfl ?_
              refine v_top (y := nI (((p + 1) + t0 + 1) + t1)) ((sI_ne _ _ (by omega)).trans (sI_at _ _ _ _)) ?_
              refine v_iconst (x := nI 1) dX5_isItem_184 (by decide +kernel) ?_
              refine n_iadd dX5_isItem_185 ?_
              refine pX5_2 dX5_isItem_186 in_X5_isItem_X5 fl_X5_isItem_82 ?_
              refine v_iload_n dX5_isItem_189 rfl ?_
              refine v_if_eq (tgt := 205) dX5_isItem_190 (by decide) (fun c190 => absurd c190 (by decide)) (fun c190 => ?_)
              refine v_aload_n dX5_isItem_193 rfl ?_
              refine v_iload_n dX5_isItem_194 rfl ?_
              refine v_callVRi (M' := M_X5_isGood) (As := [_]) iO40 (s_X5_isGood_b ((((((((hI0.at _).at _).at _).got 0 _).at _).at _).got 1 _).at _).2.1 hv (td_lt D0 T0) (td_lt D1 T1) (by simp [sI, upd]) (by simp [sI, upd])) dX5_isItem_195 gX5_isItem_X5_isGood rfl rfl nn_X5_isGood ⟨rfl, rfl⟩ ⟨by decide, by decide⟩ rfl rfl (Nat.le_of_ble_eq_true rfl) (fun s1 h1 => ?_)
              refine b_if_eq (tgt := 205) dX5_isItem_198 (by decide) (fun c198 => ?_) (fun c198 => ?_)
              · have hx9 : iB w (valF u (p + 1) t0) (valF u ((p + 1) + t0 + 1) t1) = none := by cases h : iB w (valF u (p + 1) t0) (valF u ((p + 1) + t0 + 1) t1) with | none => rfl | some y => rw [h] at c198; cases c198
                refine v_iconst (x := nI 0) dX5_isItem_205 (by decide +kernel) ?_
                exact v_zret rfl (by decide) dX5_isItem_206 ⟨congrArg (fun z => some (Value.int z)) (bI_f (by rw [itemAt_yes_b (a := valF u (p + 1) t0) (c := valF u ((p + 1) + t0 + 1) t1) (q := (((p + 1) + t0 + 1) + t1 + 1)) e9 (by rw [i2]; simp only [(show n1 u len (p + 1) 44 = some (valF u (p + 1) t0, ((p + 1) + t0 + 1)) from by rw [n1_td D0 E0 (by decide), if_pos ⟨T0, S0⟩]), (show n1 u len ((p + 1) + t0 + 1) 59 = some (valF u ((p + 1) + t0 + 1) t1, (((p + 1) + t0 + 1) + t1 + 1)) from by rw [n1_td59 D1 E1, if_pos ⟨T1, S1⟩])]), hx9]; rfl)), ((((((((hI0.at _).at _).at _).got 0 _).at _).at _).got 1 _).at _).2.2.tr h1.1, fun q9 w9 h9 => by rw [itemAt_yes_b (a := valF u (p + 1) t0) (c := valF u ((p + 1) + t0 + 1) t1) (q := (((p + 1) + t0 + 1) + t1 + 1)) e9 (by rw [i2]; simp only [(show n1 u len (p + 1) 44 = some (valF u (p + 1) t0, ((p + 1) + t0 + 1)) from by rw [n1_td D0 E0 (by decide), if_pos ⟨T0, S0⟩]), (show n1 u len ((p + 1) + t0 + 1) 59 = some (valF u ((p + 1) + t0 + 1) t1, (((p + 1) + t0 + 1) + t1 + 1)) from by rw [n1_td59 D1 E1, if_pos ⟨T1, S1⟩])]), hx9] at h9; cases h9⟩
              · obtain ⟨y9, hx9⟩ : ∃ y, iB w (valF u (p + 1) t0) (valF u ((p + 1) + t0 + 1) t1) = some y := by cases h : iB w (valF u (p + 1) t0) (valF u ((p + 1) + t0 + 1) t1) with | none => rw [h] at c198; cases c198 | some y => exact ⟨y, rfl⟩
                refine v_iconst (x := nI 1) dX5_isItem_201 (by decide +kernel) ?_
                refine v_goto (tgt := 206) dX5_isItem_202 (by decide) ?_
                exact v_zret rfl (by decide) dX5_isItem_206 ⟨congrArg (fun z => some (Value.int z)) (bI_t (by rw [itemAt_yes_b (a := valF u (p + 1) t0) (c := valF u ((p + 1) + t0 + 1) t1) (q := (((p + 1) + t0 + 1) + t1 + 1)) e9 (by rw [i2]; simp only [(show n1 u len (p + 1) 44 = some (valF u (p + 1) t0, ((p + 1) + t0 + 1)) from by rw [n1_td D0 E0 (by decide), if_pos ⟨T0, S0⟩]), (show n1 u len ((p + 1) + t0 + 1) 59 = some (valF u ((p + 1) + t0 + 1) t1, (((p + 1) + t0 + 1) + t1 + 1)) from by rw [n1_td59 D1 E1, if_pos ⟨T1, S1⟩])]), hx9]; rfl)), ((((((((hI0.at _).at _).at _).got 0 _).at _).at _).got 1 _).at _).2.2.tr h1.1, fun q9 w9 h9 => by rw [itemAt_yes_b (a := valF u (p + 1) t0) (c := valF u ((p + 1) + t0 + 1) t1) (q := (((p + 1) + t0 + 1) + t1 + 1)) e9 (by rw [i2]; simp only [(show n1 u len (p + 1) 44 = some (valF u (p + 1) t0, ((p + 1) + t0 + 1)) from by rw [n1_td D0 E0 (by decide), if_pos ⟨T0, S0⟩]), (show n1 u len ((p + 1) + t0 + 1) 59 = some (valF u ((p + 1) + t0 + 1) t1, (((p + 1) + t0 + 1) + t1 + 1)) from by rw [n1_td59 D1 E1, if_pos ⟨T1, S1⟩])]), hx9] at h9; cases h9; exact ⟨h1.2.1 _ hx9, h1.2.2.trans (sI_at _ _ _ _)⟩⟩
        · refine v_top (y := -1) (if_neg T1) ?_
          refine v_iastN 1 iI60 dX5_isItem_121 rfl (by decide) (by decide) ?_
          refine v_aload_n dX5_isItem_122 rfl ?_
          refine v_get (j := 28) iO40 rfl dX5_isItem_123 (by decide) in_X5_isItem_X5 fl_X5_isItem_69 rfl ?_
          refine v_iload dX5_isItem_126 rfl ?_
          refine v_ialdN 1 iI60 dX5_isItem_128 rfl (by decide) (by decide) ?_
          refine v_top (y := -1) (sI_at _ _ _ _) ?_
          refine v_if_lt (tgt := 136) dX5_isItem_129 (by decide) (fun c129 => ?_) (fun c129 => absurd (by decide) c129)
          refine v_iconst (x := nI 0) dX5_isItem_136 (by decide +kernel) ?_
          refine v_istore_n (L' := [(3, _), (4, _), (2, _), (1, _), (0, _)]) dX5_isItem_137 rfl (by decide) rfl ?_
          refine n_iinc (n := 1) (L' := [(4, _), (3, _), (2, _), (1, _), (0, _)]) dX5_isItem_138 rfl (by decide) rfl ?_
          refine v_goto (tgt := 38) dX5_isItem_141 (by decide) ?_
          refine v_iload dX5_isItem_38 rfl ?_
          refine v_iload_n dX5_isItem_40 rfl ?_
          refine n_icmp_ge (tgt := 144) dX5_isItem_41 (by decide) (by omega) (by omega) (fun c41 => ?_) (fun c41 => absurd c41 (by omega))
          refine v_iload_n dX5_isItem_144 rfl ?_
          refine v_if_eq (tgt := 177) dX5_isItem_145 (by decide) (fun c145 => ?_) (fun c145 => absurd rfl c145)
          refine v_iconst (x := nI 0) dX5_isItem_177 (by decide +kernel) ?_
          refine v_istore_n (L' := [(3, _), (4, _), (2, _), (1, _), (0, _)]) dX5_isItem_178 rfl (by decide) rfl ?_
          refine v_aload_n dX5_isItem_179 rfl ?_
          refine v_dup dX5_isItem_180 rfl ?_
          refine v_get (j := 2) iO40 rfl dX5_isItem_181 (by decide) in_X5_isItem_X5 fl_X5_isItem_82 rfl ?_
          refine v_top (y := nI (((p + 1) + t0 + 1) + t1)) ((sI_ne _ _ (by omega)).trans (sI_at _ _ _ _)) ?_
          refine v_iconst (x := nI 1) dX5_isItem_184 (by decide +kernel) ?_
          refine n_iadd dX5_isItem_185 ?_
          refine pX5_2 dX5_isItem_186 in_X5_isItem_X5 fl_X5_isItem_82 ?_
          refine v_iload_n dX5_isItem_189 rfl ?_
          refine v_if_eq (tgt := 205) dX5_isItem_190 (by decide) (fun c190 => ?_) (fun c190 => absurd rfl c190)
          refine v_iconst (x := nI 0) dX5_isItem_205 (by decide +kernel) ?_
          exact v_zret rfl (by decide) dX5_isItem_206 ⟨congrArg (fun z => some (Value.int z)) (bI_f (by rw [itemAt_no_b e9 (by rw [i2]; simp only [(show n1 u len (p + 1) 44 = some (valF u (p + 1) t0, ((p + 1) + t0 + 1)) from by rw [n1_td D0 E0 (by decide), if_pos ⟨T0, S0⟩]), (show n1 u len ((p + 1) + t0 + 1) 59 = none from by rw [n1_td59 D1 E1, if_neg (fun q => T1 q.1)])])]; rfl)), ((((((((hI0.at _).at _).at _).got 0 _).at _).at _).got 1 _).at _).2.2, fun q9 w9 h9 => by rw [itemAt_no_b e9 (by rw [i2]; simp only [(show n1 u len (p + 1) 44 = some (valF u (p + 1) t0, ((p + 1) + t0 + 1)) from by rw [n1_td D0 E0 (by decide), if_pos ⟨T0, S0⟩]), (show n1 u len ((p + 1) + t0 + 1) 59 = none from by rw [n1_td59 D1 E1, if_neg (fun q => T1 q.1)])])] at h9; cases h9⟩
  · refine v_top (y := -1) (if_neg T0) ?_
    refine v_iastN 0 iI60 dX5_isItem_121 rfl (by decide) (by decide) ?_
    refine v_aload_n dX5_isItem_122 rfl ?_
    refine v_get (j := 28) iO40 rfl dX5_isItem_123 (by decide) in_X5_isItem_X5 fl_X5_isItem_69 rfl ?_
    refine v_iload dX5_isItem_126 rfl ?_
    refine v_ialdN 0 iI60 dX5_isItem_128 rfl (by decide) (by decide) ?_
    refine v_top (y := -1) (sI_at _ _ _ _) ?_
    refine v_if_lt (tgt := 136) dX5_isItem_129 (by decide) (fun c129 => ?_) (fun c129 => absurd (by decide) c129)
    refine v_iconst (x := nI 0) dX5_isItem_136 (by decide +kernel) ?_
    refine v_istore_n (L' := [(3, _), (4, _), (2, _), (1, _), (0, _)]) dX5_isItem_137 rfl (by decide) rfl ?_
    refine n_iinc (n := 1) (L' := [(4, _), (3, _), (2, _), (1, _), (0, _)]) dX5_isItem_138 rfl (by decide) rfl ?_
    refine v_goto (tgt := 38) dX5_isItem_141 (by decide) ?_
    refine v_iload dX5_isItem_38 rfl ?_
    refine v_iload_n dX5_isItem_40 rfl ?_
    refine n_icmp_ge (tgt := 144) dX5_isItem_41 (by decide) (by omega) (by omega) (fun c41 => absurd c41 (by omega)) (fun c41 => ?_)
    refine v_iload_n dX5_isItem_44 rfl ?_
    refine v_if_eq (tgt := 144) dX5_isItem_45 (by decide) (fun c45 => ?_) (fun c45 => absurd rfl c45)
    refine v_iload_n dX5_isItem_144 rfl ?_
    refine v_if_eq (tgt := 177) dX5_isItem_145 (by decide) (fun c145 => ?_) (fun c145 => absurd rfl c145)
    refine v_iconst (x := nI 0) dX5_isItem_177 (by decide +kernel) ?_
    refine v_istore_n (L' := [(3, _), (4, _), (2, _), (1, _), (0, _)]) dX5_isItem_178 rfl (by decide) rfl ?_
    refine v_aload_n dX5_isItem_179 rfl ?_
    refine v_dup dX5_isItem_180 rfl ?_
    refine v_get (j := 2) iO40 rfl dX5_isItem_181 (by decide) in_X5_isItem_X5 fl_X5_isItem_82 rfl ?_
    refine v_top (y := nI ((p + 1) + t0)) ((sI_ne _ _ (by omega)).trans (sI_at _ _ _ _)) ?_
    refine v_iconst (x := nI 1) dX5_isItem_184 (by decide +kernel) ?_
    refine n_iadd dX5_isItem_185 ?_
    refine pX5_2 dX5_isItem_186 in_X5_isItem_X5 fl_X5_isItem_82 ?_
    refine v_iload_n dX5_isItem_189 rfl ?_
    refine v_if_eq (tgt := 205) dX5_isItem_190 (by decide) (fun c190 => ?_) (fun c190 => absurd rfl c190)
    refine v_iconst (x := nI 0) dX5_isItem_205 (by decide +kernel) ?_
    exact v_zret rfl (by decide) dX5_isItem_206 ⟨congrArg (fun z => some (Value.int z)) (bI_f (by rw [itemAt_no_b e9 (by rw [i2]; simp only [(show n1 u len (p + 1) 44 = none from by rw [n1_td D0 E0 (by decide), if_neg (fun q => T0 q.1)])])]; rfl)), (((((hI0.at _).at _).at _).got 0 _).at _).2.2, fun q9 w9 h9 => by rw [itemAt_no_b e9 (by rw [i2]; simp only [(show n1 u len (p + 1) 44 = none from by rw [n1_td D0 E0 (by decide), if_neg (fun q => T0 q.1)])])] at h9; cases h9⟩
set_option maxRecDepth 100000 in
set_option maxHeartbeats 4000000 in
theorem s_X5_isItem_n {v : EE} {u : Nat → Nat} {len : Nat} {w : WD} {z : Nat} {σ : SS} (hM : MTx u len σ) (hw : MH 1 w σ) (hv : WV z w) {p : Nat} (ha : σ.1 40 2 = nI p) (hp : p < len) (e9 : u p = 110) : SR v M_X5_isItem [.ref (v.1 40)] σ (some (.int (bI (itemAt u len p w).isSome))) (fun σ' => FD σ σ' ∧ ∀ q w', itemAt u len p w = some (q, w') → MH 1 w' σ' ∧ σ'.1 40 2 = nI q) := by
  refine Sp.of rfl (by decide) rfl (Nat.le_of_ble_eq_true rfl) ?_
  show V v M_X5_isItem _ 0 [(0, .ref (v.1 40))] [] σ
  have hl := hM.2.1
  have hI0 : MI u len w σ σ := ⟨hM, hw, FD.rf σ⟩
  refine v_aload_n dX5_isItem_0 rfl ?_
  refine v_get (j := 1) iO40 rfl dX5_isItem_1 (by decide) in_X5_isItem_X5 fl_X5_isItem_7 rfl ?_
  refine v_aload_n dX5_isItem_4 rfl ?_
  refine v_get (j := 2) iO40 rfl dX5_isItem_5 (by decide) in_X5_isItem_X5 fl_X5_isItem_82 rfl ?_
  refine v_top ha ?_
  refine v_baldN p iB41 dX5_isItem_8 rfl (by omega) (by decide) ?_
  refine v_top (y := nI 110) ((hM.2.2 p hp).2.trans (by rw [e9]; decide +kernel)) ?_
  refine v_istore_n (L' := [(1, _), (0, _)]) dX5_isItem_9 rfl (by decide) rfl ?_
  refine v_aload_n dX5_isItem_10 rfl ?_
  refine v_dup dX5_isItem_11 rfl ?_
  refine v_get (j := 2) iO40 rfl dX5_isItem_12 (by decide) in_X5_isItem_X5 fl_X5_isItem_82 rfl ?_
  refine v_top ha ?_
  refine v_iconst (x := nI 1) dX5_isItem_15 (by decide +kernel) ?_
  refine n_iadd dX5_isItem_16 ?_
  refine pX5_2 dX5_isItem_17 in_X5_isItem_X5 fl_X5_isItem_82 ?_
  refine v_iload_n dX5_isItem_20 rfl ?_
  refine v_callSi (M' := M_X5_figures) (As := [_]) (s_X5_figures_110) dX5_isItem_21 gX5_isItem_X5_figures rfl nn_X5_figures ⟨rfl, rfl⟩ ⟨by decide, by decide⟩ rfl rfl (Nat.le_of_ble_eq_true rfl) ?_
  refine v_istore_n (L' := [(2, _), (1, _), (0, _)]) dX5_isItem_24 rfl (by decide) rfl ?_
  refine v_iload_n dX5_isItem_25 rfl ?_
  refine n_if_le (tgt := 33) dX5_isItem_26 (by decide) (by omega) (fun c26 => absurd c26 (by omega)) (fun c26 => ?_)
  refine v_iconst (x := nI 1) dX5_isItem_29 (by decide +kernel) ?_
  refine v_goto (tgt := 34) dX5_isItem_30 (by decide) ?_
  refine v_istore_n (L' := [(3, _), (2, _), (1, _), (0, _)]) dX5_isItem_34 rfl (by decide) rfl ?_
  refine v_iconst (x := nI 0) dX5_isItem_35 (by decide +kernel) ?_
  refine v_istore (L' := [(4, _), (3, _), (2, _), (1, _), (0, _)]) dX5_isItem_36 (by decide) rfl ?_
  refine v_iload dX5_isItem_38 rfl ?_
  refine v_iload_n dX5_isItem_40 rfl ?_
  refine n_icmp_ge (tgt := 144) dX5_isItem_41 (by decide) (by omega) (by omega) (fun c41 => absurd c41 (by omega)) (fun c41 => ?_)
  refine v_iload_n dX5_isItem_44 rfl ?_
  refine v_if_eq (tgt := 144) dX5_isItem_45 (by decide) (fun c45 => absurd c45 (by decide)) (fun c45 => ?_)
  refine v_iload dX5_isItem_48 rfl ?_
  refine n_if_eq (tgt := 78) dX5_isItem_50 (by decide) (by omega) (fun c50 => ?_) (fun c50 => absurd c50 (by omega))
  refine v_iconst (x := nI 1) dX5_isItem_78 (by decide +kernel) ?_
  refine v_goto (tgt := 83) dX5_isItem_79 (by decide) ?_
  refine v_istore_n (L' := [(3, _), (4, _), (2, _), (1, _), (0, _)]) dX5_isItem_83 rfl (by decide) rfl ?_
  obtain ⟨t0, D0, E0, B0⟩ := ex_td u len (p + 1)
  refine v_aload_n dX5_isItem_84 rfl ?_
  refine v_dup dX5_isItem_85 rfl ?_
  refine v_get (j := 2) iO40 rfl dX5_isItem_86 (by decide) in_X5_isItem_X5 fl_X5_isItem_82 rfl ?_
  refine v_top (y := nI (p + 1)) (sI_at _ _ _ _) ?_
  refine v_iload dX5_isItem_89 rfl ?_
  refine n_if_ne (tgt := 98) dX5_isItem_91 (by decide) (by omega) (fun c91 => absurd c91 (by omega)) (fun c91 => ?_)
  refine v_iconst (x := nI 0) dX5_isItem_94 (by decide +kernel) ?_
  refine v_goto (tgt := 99) dX5_isItem_95 (by decide) ?_
  refine n_iadd dX5_isItem_99 ?_
  refine pX5_2 dX5_isItem_100 in_X5_isItem_X5 fl_X5_isItem_82 ?_
  refine v_aload_n dX5_isItem_103 rfl ?_
  refine v_get (j := 28) iO40 rfl dX5_isItem_104 (by decide) in_X5_isItem_X5 fl_X5_isItem_69 rfl ?_
  refine v_iload dX5_isItem_107 rfl ?_
  refine v_iload_n dX5_isItem_109 rfl ?_
  refine v_if_eq (tgt := 120) dX5_isItem_110 (by decide) (fun c110 => absurd c110 (by decide)) (fun c110 => ?_)
  refine v_aload_n dX5_isItem_113 rfl ?_
  refine v_callVi (M' := M_X5_number) (As := []) iO40 (s_X5_number ((hI0.at _).at _).1 (p := (p + 1)) (t := t0) (sI_at _ _ _ _) D0 E0 (by omega)) dX5_isItem_114 gX5_isItem_X5_number rfl rfl nn_X5_number ⟨rfl, rfl⟩ ⟨by decide, by decide⟩ rfl rfl (Nat.le_of_ble_eq_true rfl) ?_
  refine v_goto (tgt := 121) dX5_isItem_117 (by decide) ?_
  by_cases T0 : 1 ≤ t0 ∧ t0 ≤ 3
  · refine v_top (y := nI (valF u (p + 1) t0)) (if_pos T0) ?_
    have V0 := td_lt D0 T0
    refine v_iastN 0 iI60 dX5_isItem_121 rfl (by decide) (by decide) ?_
    refine v_aload_n dX5_isItem_122 rfl ?_
    refine v_get (j := 28) iO40 rfl dX5_isItem_123 (by decide) in_X5_isItem_X5 fl_X5_isItem_69 rfl ?_
    refine v_iload dX5_isItem_126 rfl ?_
    refine v_ialdN 0 iI60 dX5_isItem_128 rfl (by decide) (by decide) ?_
    refine v_top (y := nI (valF u (p + 1) t0)) (sI_at _ _ _ _) ?_
    refine n_if_lt (tgt := 136) dX5_isItem_129 (by decide) (by omega) ?_
    refine v_iconst (x := nI 1) dX5_isItem_132 (by decide +kernel) ?_
    refine v_goto (tgt := 137) dX5_isItem_133 (by decide) ?_
    refine v_istore_n (L' := [(3, _), (4, _), (2, _), (1, _), (0, _)]) dX5_isItem_137 rfl (by decide) rfl ?_
    refine n_iinc (n := 1) (L' := [(4, _), (3, _), (2, _), (1, _), (0, _)]) dX5_isItem_138 rfl (by decide) rfl ?_
    refine v_goto (tgt := 38) dX5_isItem_141 (by decide) ?_
    refine v_iload dX5_isItem_38 rfl ?_
    refine v_iload_n dX5_isItem_40 rfl ?_
    refine n_icmp_ge (tgt := 144) dX5_isItem_41 (by decide) (by omega) (by omega) (fun c41 => absurd c41 (by omega)) (fun c41 => ?_)
    refine v_iload_n dX5_isItem_44 rfl ?_
    refine v_if_eq (tgt := 144) dX5_isItem_45 (by decide) (fun c45 => absurd c45 (by decide)) (fun c45 => ?_)
    refine v_iload dX5_isItem_48 rfl ?_
    refine n_if_eq (tgt := 78) dX5_isItem_50 (by decide) (by omega) (fun c50 => absurd c50 (by omega)) (fun c50 => ?_)
    refine v_aload_n dX5_isItem_53 rfl ?_
    refine v_get (j := 2) iO40 rfl dX5_isItem_54 (by decide) in_X5_isItem_X5 fl_X5_isItem_82 rfl ?_
    refine v_top (y := nI ((p + 1) + t0)) ((sI_ne _ _ (by omega)).trans (sI_at _ _ _ _)) ?_
    refine v_aload_n dX5_isItem_57 rfl ?_
    refine v_get (j := 0) iO40 rfl dX5_isItem_58 (by decide) in_X5_isItem_X5 fl_X5_isItem_78 rfl ?_
    refine v_top (y := nI len) ((((hI0.at _).at _).at _).got 0 _).1.1 ?_
    refine n_icmp_ge (tgt := 82) dX5_isItem_61 (by decide) (by omega) (by omega) (fun c61 => ?_) (fun c61 => ?_)
    · have S0 : sepAt u len ((p + 1) + t0) 44 = false := by rw [sepAt, decide_eq_false (by omega)]; rfl
      refine v_iconst (x := nI 0) dX5_isItem_82 (by decide +kernel) ?_
      refine v_istore_n (L' := [(3, _), (4, _), (2, _), (1, _), (0, _)]) dX5_isItem_83 rfl (by decide) rfl ?_
      refine v_aload_n dX5_isItem_84 rfl ?_
      refine v_dup dX5_isItem_85 rfl ?_
      refine v_get (j := 2) iO40 rfl dX5_isItem_86 (by decide) in_X5_isItem_X5 fl_X5_isItem_82 rfl ?_
      refine v_top (y := nI ((p + 1) + t0)) ((sI_ne _ _ (by omega)).trans (sI_at _ _ _ _)) ?_
      refine v_iload dX5_isItem_89 rfl ?_
      refine n_if_ne (tgt := 98) dX5_isItem_91 (by decide) (by omega) (fun c91 => ?_) (fun c91 => absurd c91 (by omega))
      refine v_iconst (x := nI 1) dX5_isItem_98 (by decide +kernel) ?_
      refine n_iadd dX5_isItem_99 ?_
      refine pX5_2 dX5_isItem_100 in_X5_isItem_X5 fl_X5_isItem_82 ?_
      refine v_aload_n dX5_isItem_103 rfl ?_
      refine v_get (j := 28) iO40 rfl dX5_isItem_104 (by decide) in_X5_isItem_X5 fl_X5_isItem_69 rfl ?_
      refine v_iload dX5_isItem_107 rfl ?_
      refine v_iload_n dX5_isItem_109 rfl ?_
      refine v_if_eq (tgt := 120) dX5_isItem_110 (by decide) (fun c110 => ?_) (fun c110 => absurd rfl c110)
      refine v_iconst (x := (-1)) dX5_isItem_120 rfl ?_
      refine v_iastN 1 iI60 dX5_isItem_121 rfl (by decide) (by decide) ?_
      refine v_aload_n dX5_isItem_122 rfl ?_
      refine v_get (j := 28) iO40 rfl dX5_isItem_123 (by decide) in_X5_isItem_X5 fl_X5_isItem_69 rfl ?_
      refine v_iload dX5_isItem_126 rfl ?_
      refine v_ialdN 1 iI60 dX5_isItem_128 rfl (by decide) (by decide) ?_
      refine v_top (y := -1) (sI_at _ _ _ _) ?_
      refine v_if_lt (tgt := 136) dX5_isItem_129 (by decide) (fun c129 => ?_) (fun c129 => absurd (by decide) c129)
      refine v_iconst (x := nI 0) dX5_isItem_136 (by decide +kernel) ?_
      refine v_istore_n (L' := [(3, _), (4, _), (2, _), (1, _), (0, _)]) dX5_isItem_137 rfl (by decide) rfl ?_
      refine n_iinc (n := 1) (L' := [(4, _), (3, _), (2, _), (1, _), (0, _)]) dX5_isItem_138 rfl (by decide) rfl ?_
      refine v_goto (tgt := 38) dX5_isItem_141 (by decide) ?_
      refine v_iload dX5_isItem_38 rfl ?_
      refine v_iload_n dX5_isItem_40 rfl ?_
      refine n_icmp_ge (tgt := 144) dX5_isItem_41 (by decide) (by omega) (by omega) (fun c41 => ?_) (fun c41 => absurd c41 (by omega))
      refine v_iload_n dX5_isItem_144 rfl ?_
      refine v_if_eq (tgt := 177) dX5_isItem_145 (by decide) (fun c145 => ?_) (fun c145 => absurd rfl c145)
      refine v_iconst (x := nI 0) dX5_isItem_177 (by decide +kernel) ?_
      refine v_istore_n (L' := [(3, _), (4, _), (2, _), (1, _), (0, _)]) dX5_isItem_178 rfl (by decide) rfl ?_
      refine v_aload_n dX5_isItem_179 rfl ?_
      refine v_dup dX5_isItem_180 rfl ?_
      refine v_get (j := 2) iO40 rfl dX5_isItem_181 (by decide) in_X5_isItem_X5 fl_X5_isItem_82 rfl ?_
      refine v_top (y := nI (((p + 1) + t0) + 1)) ((sI_ne _ _ (by omega)).trans (sI_at _ _ _ _)) ?_
      refine v_iconst (x := nI 1) dX5_isItem_184 (by decide +kernel) ?_
      refine n_iadd dX5_isItem_185 ?_
      refine pX5_2 dX5_isItem_186 in_X5_isItem_X5 fl_X5_isItem_82 ?_
      refine v_iload_n dX5_isItem_189 rfl ?_
      refine v_if_eq (tgt := 205) dX5_isItem_190 (by decide) (fun c190 => ?_) (fun c190 => absurd rfl c190)
      refine v_iconst (x := nI 0) dX5_isItem_205 (by decide +kernel) ?_
      exact v_zret rfl (by decide) dX5_isItem_206 ⟨congrArg (fun z => some (Value.int z)) (bI_f (by rw [itemAt_no_n e9 (by rw [i2]; simp only [(show n1 u len (p + 1) 44 = none from by rw [n1_td D0 E0 (by decide), if_neg (fun q => by rw [S0] at q; cases q.2)])])]; rfl)), (((((((hI0.at _).at _).at _).got 0 _).at _).got 1 _).at _).2.2, fun q9 w9 h9 => by rw [itemAt_no_n e9 (by rw [i2]; simp only [(show n1 u len (p + 1) 44 = none from by rw [n1_td D0 E0 (by decide), if_neg (fun q => by rw [S0] at q; cases q.2)])])] at h9; cases h9⟩
    · refine v_aload_n dX5_isItem_64 rfl ?_
      refine v_get (j := 1) iO40 rfl dX5_isItem_65 (by decide) in_X5_isItem_X5 fl_X5_isItem_7 rfl ?_
      refine v_aload_n dX5_isItem_68 rfl ?_
      refine v_get (j := 2) iO40 rfl dX5_isItem_69 (by decide) in_X5_isItem_X5 fl_X5_isItem_82 rfl ?_
      refine v_top (y := nI ((p + 1) + t0)) ((sI_ne _ _ (by omega)).trans (sI_at _ _ _ _)) ?_
      refine v_baldN ((p + 1) + t0) iB41 dX5_isItem_72 rfl (by omega) (by decide) ?_
      refine v_top (y := sb_b (u ((p + 1) + t0))) (((((hI0.at _).at _).at _).got 0 _).1.2.2 ((p + 1) + t0) c61).2 ?_
      refine v_bipush (x := nI 44) dX5_isItem_73 (by decide +kernel) ?_
      refine v_icmp_ne (tgt := 82) dX5_isItem_75 (by decide) (fun c75 => ?_) (fun c75 => ?_)
      · have S0 : sepAt u len ((p + 1) + t0) 44 = false := by rw [sepAt, decide_eq_false (p := u ((p + 1) + t0) = 44) (fun q => c75 ((sb_asc _ (hM.2.2 _ c61).1 44 (by decide)).mpr q)), Bool.and_false]
        refine v_iconst (x := nI 0) dX5_isItem_82 (by decide +kernel) ?_
        refine v_istore_n (L' := [(3, _), (4, _), (2, _), (1, _), (0, _)]) dX5_isItem_83 rfl (by decide) rfl ?_
        refine v_aload_n dX5_isItem_84 rfl ?_
        refine v_dup dX5_isItem_85 rfl ?_
        refine v_get (j := 2) iO40 rfl dX5_isItem_86 (by decide) in_X5_isItem_X5 fl_X5_isItem_82 rfl ?_
        refine v_top (y := nI ((p + 1) + t0)) ((sI_ne _ _ (by omega)).trans (sI_at _ _ _ _)) ?_
        refine v_iload dX5_isItem_89 rfl ?_
        refine n_if_ne (tgt := 98) dX5_isItem_91 (by decide) (by omega) (fun c91 => ?_) (fun c91 => absurd c91 (by omega))
        refine v_iconst (x := nI 1) dX5_isItem_98 (by decide +kernel) ?_
        refine n_iadd dX5_isItem_99 ?_
        refine pX5_2 dX5_isItem_100 in_X5_isItem_X5 fl_X5_isItem_82 ?_
        refine v_aload_n dX5_isItem_103 rfl ?_
        refine v_get (j := 28) iO40 rfl dX5_isItem_104 (by decide) in_X5_isItem_X5 fl_X5_isItem_69 rfl ?_
        refine v_iload dX5_isItem_107 rfl ?_
        refine v_iload_n dX5_isItem_109 rfl ?_
        refine v_if_eq (tgt := 120) dX5_isItem_110 (by decide) (fun c110 => ?_) (fun c110 => absurd rfl c110)
        refine v_iconst (x := (-1)) dX5_isItem_120 rfl ?_
        refine v_iastN 1 iI60 dX5_isItem_121 rfl (by decide) (by decide) ?_
        refine v_aload_n dX5_isItem_122 rfl ?_
        refine v_get (j := 28) iO40 rfl dX5_isItem_123 (by decide) in_X5_isItem_X5 fl_X5_isItem_69 rfl ?_
        refine v_iload dX5_isItem_126 rfl ?_
        refine v_ialdN 1 iI60 dX5_isItem_128 rfl (by decide) (by decide) ?_
        refine v_top (y := -1) (sI_at _ _ _ _) ?_
        refine v_if_lt (tgt := 136) dX5_isItem_129 (by decide) (fun c129 => ?_) (fun c129 => absurd (by decide) c129)
        refine v_iconst (x := nI 0) dX5_isItem_136 (by decide +kernel) ?_
        refine v_istore_n (L' := [(3, _), (4, _), (2, _), (1, _), (0, _)]) dX5_isItem_137 rfl (by decide) rfl ?_
        refine n_iinc (n := 1) (L' := [(4, _), (3, _), (2, _), (1, _), (0, _)]) dX5_isItem_138 rfl (by decide) rfl ?_
        refine v_goto (tgt := 38) dX5_isItem_141 (by decide) ?_
        refine v_iload dX5_isItem_38 rfl ?_
        refine v_iload_n dX5_isItem_40 rfl ?_
        refine n_icmp_ge (tgt := 144) dX5_isItem_41 (by decide) (by omega) (by omega) (fun c41 => ?_) (fun c41 => absurd c41 (by omega))
        refine v_iload_n dX5_isItem_144 rfl ?_
        refine v_if_eq (tgt := 177) dX5_isItem_145 (by decide) (fun c145 => ?_) (fun c145 => absurd rfl c145)
        refine v_iconst (x := nI 0) dX5_isItem_177 (by decide +kernel) ?_
        refine v_istore_n (L' := [(3, _), (4, _), (2, _), (1, _), (0, _)]) dX5_isItem_178 rfl (by decide) rfl ?_
        refine v_aload_n dX5_isItem_179 rfl ?_
        refine v_dup dX5_isItem_180 rfl ?_
        refine v_get (j := 2) iO40 rfl dX5_isItem_181 (by decide) in_X5_isItem_X5 fl_X5_isItem_82 rfl ?_
        refine v_top (y := nI (((p + 1) + t0) + 1)) ((sI_ne _ _ (by omega)).trans (sI_at _ _ _ _)) ?_
        refine v_iconst (x := nI 1) dX5_isItem_184 (by decide +kernel) ?_
        refine n_iadd dX5_isItem_185 ?_
        refine pX5_2 dX5_isItem_186 in_X5_isItem_X5 fl_X5_isItem_82 ?_
        refine v_iload_n dX5_isItem_189 rfl ?_
        refine v_if_eq (tgt := 205) dX5_isItem_190 (by decide) (fun c190 => ?_) (fun c190 => absurd rfl c190)
        refine v_iconst (x := nI 0) dX5_isItem_205 (by decide +kernel) ?_
        exact v_zret rfl (by decide) dX5_isItem_206 ⟨congrArg (fun z => some (Value.int z)) (bI_f (by rw [itemAt_no_n e9 (by rw [i2]; simp only [(show n1 u len (p + 1) 44 = none from by rw [n1_td D0 E0 (by decide), if_neg (fun q => by rw [S0] at q; cases q.2)])])]; rfl)), (((((((hI0.at _).at _).at _).got 0 _).at _).got 1 _).at _).2.2, fun q9 w9 h9 => by rw [itemAt_no_n e9 (by rw [i2]; simp only [(show n1 u len (p + 1) 44 = none from by rw [n1_td D0 E0 (by decide), if_neg (fun q => by rw [S0] at q; cases q.2)])])] at h9; cases h9⟩
      · have S0 : sepAt u len ((p + 1) + t0) 44 = true := sepAt_iff.mpr ⟨c61, (sb_asc _ (hM.2.2 _ c61).1 44 (by decide)).mp c75⟩
        refine v_iconst (x := nI 1) dX5_isItem_78 (by decide +kernel) ?_
        refine v_goto (tgt := 83) dX5_isItem_79 (by decide) ?_
        refine v_istore_n (L' := [(3, _), (4, _), (2, _), (1, _), (0, _)]) dX5_isItem_83 rfl (by decide) rfl ?_
        obtain ⟨t1, D1, E1, B1⟩ := ex_td u len ((p + 1) + t0 + 1)
        refine v_aload_n dX5_isItem_84 rfl ?_
        refine v_dup dX5_isItem_85 rfl ?_
        refine v_get (j := 2) iO40 rfl dX5_isItem_86 (by decide) in_X5_isItem_X5 fl_X5_isItem_82 rfl ?_
        refine v_top (y := nI ((p + 1) + t0)) ((sI_ne _ _ (by omega)).trans (sI_at _ _ _ _)) ?_
        refine v_iload dX5_isItem_89 rfl ?_
        refine n_if_ne (tgt := 98) dX5_isItem_91 (by decide) (by omega) (fun c91 => ?_) (fun c91 => absurd c91 (by omega))
        refine v_iconst (x := nI 1) dX5_isItem_98 (by decide +kernel) ?_
        refine n_iadd dX5_isItem_99 ?_
        refine pX5_2 dX5_isItem_100 in_X5_isItem_X5 fl_X5_isItem_82 ?_
        refine v_aload_n dX5_isItem_103 rfl ?_
        refine v_get (j := 28) iO40 rfl dX5_isItem_104 (by decide) in_X5_isItem_X5 fl_X5_isItem_69 rfl ?_
        refine v_iload dX5_isItem_107 rfl ?_
        refine v_iload_n dX5_isItem_109 rfl ?_
        refine v_if_eq (tgt := 120) dX5_isItem_110 (by decide) (fun c110 => absurd c110 (by decide)) (fun c110 => ?_)
        refine v_aload_n dX5_isItem_113 rfl ?_
        refine v_callVi (M' := M_X5_number) (As := []) iO40 (s_X5_number (((((hI0.at _).at _).at _).got 0 _).at _).1 (p := ((p + 1) + t0 + 1)) (t := t1) (sI_at _ _ _ _) D1 E1 (by omega)) dX5_isItem_114 gX5_isItem_X5_number rfl rfl nn_X5_number ⟨rfl, rfl⟩ ⟨by decide, by decide⟩ rfl rfl (Nat.le_of_ble_eq_true rfl) ?_
        refine v_goto (tgt := 121) dX5_isItem_117 (by decide) ?_
        by_cases T1 : 1 ≤ t1 ∧ t1 ≤ 3
        · refine v_top (y := nI (valF u ((p + 1) + t0 + 1) t1)) (if_pos T1) ?_
          have V1 := td_lt D1 T1
          refine v_iastN 1 iI60 dX5_isItem_121 rfl (by decide) (by decide) ?_
          refine v_aload_n dX5_isItem_122 rfl ?_
          refine v_get (j := 28) iO40 rfl dX5_isItem_123 (by decide) in_X5_isItem_X5 fl_X5_isItem_69 rfl ?_
          refine v_iload dX5_isItem_126 rfl ?_
          refine v_ialdN 1 iI60 dX5_isItem_128 rfl (by decide) (by decide) ?_
          refine v_top (y := nI (valF u ((p + 1) + t0 + 1) t1)) (sI_at _ _ _ _) ?_
          refine n_if_lt (tgt := 136) dX5_isItem_129 (by decide) (by omega) ?_
          refine v_iconst (x := nI 1) dX5_isItem_132 (by decide +kernel) ?_
          refine v_goto (tgt := 137) dX5_isItem_133 (by decide) ?_
          refine v_istore_n (L' := [(3, _), (4, _), (2, _), (1, _), (0, _)]) dX5_isItem_137 rfl (by decide) rfl ?_
          refine n_iinc (n := 1) (L' := [(4, _), (3, _), (2, _), (1, _), (0, _)]) dX5_isItem_138 rfl (by decide) rfl ?_
          refine v_goto (tgt := 38) dX5_isItem_141 (by decide) ?_
          refine v_iload dX5_isItem_38 rfl ?_
          refine v_iload_n dX5_isItem_40 rfl ?_
          refine n_icmp_ge (tgt := 144) dX5_isItem_41 (by decide) (by omega) (by omega) (fun c41 => ?_) (fun c41 => absurd c41 (by omega))
          refine v_iload_n dX5_isItem_144 rfl ?_
          refine v_if_eq (tgt := 177) dX5_isItem_145 (by decide) (fun c145 => absurd c145 (by decide)) (fun c145 => ?_)
          refine v_aload_n dX5_isItem_148 rfl ?_
          refine v_get (j := 2) iO40 rfl dX5_isItem_149 (by decide) in_X5_isItem_X5 fl_X5_isItem_82 rfl ?_
          refine v_top (y := nI (((p + 1) + t0 + 1) + t1)) ((sI_ne _ _ (by omega)).trans (sI_at _ _ _ _)) ?_
          refine v_aload_n dX5_isItem_152 rfl ?_
          refine v_get (j := 0) iO40 rfl dX5_isItem_153 (by decide) in_X5_isItem_X5 fl_X5_isItem_78 rfl ?_
          refine v_top (y := nI len) (((((((hI0.at _).at _).at _).got 0 _).at _).at _).got 1 _).1.1 ?_
          refine n_icmp_ge (tgt := 177) dX5_isItem_156 (by decide) (by omega) (by omega) (fun c156 => ?_) (fun c156 => ?_)
          · have S1 : sepAt u len (((p + 1) + t0 + 1) + t1) 59 = false := by rw [sepAt, decide_eq_false (by omega)]; rfl
            refine v_iconst (x := nI 0) dX5_isItem_177 (by decide +kernel) ?_
            refine v_istore_n (L' := [(3, _), (4, _), (2, _), (1, _), (0, _)]) dX5_isItem_178 rfl (by decide) rfl ?_
            refine v_aload_n dX5_isItem_179 rfl ?_
            refine v_dup dX5_isItem_180 rfl ?_
            refine v_get (j := 2) iO40 rfl dX5_isItem_181 (by decide) in_X5_isItem_X5 fl_X5_isItem_82 rfl ?_
            refine v_top (y := nI (((p + 1) + t0 + 1) + t1)) ((sI_ne _ _ (by omega)).trans (sI_at _ _ _ _)) ?_
            refine v_iconst (x := nI 1) dX5_isItem_184 (by decide +kernel) ?_
            refine n_iadd dX5_isItem_185 ?_
            refine pX5_2 dX5_isItem_186 in_X5_isItem_X5 fl_X5_isItem_82 ?_
            refine v_iload_n dX5_isItem_189 rfl ?_
            refine v_if_eq (tgt := 205) dX5_isItem_190 (by decide) (fun c190 => ?_) (fun c190 => absurd rfl c190)
            refine v_iconst (x := nI 0) dX5_isItem_205 (by decide +kernel) ?_
            exact v_zret rfl (by decide) dX5_isItem_206 ⟨congrArg (fun z => some (Value.int z)) (bI_f (by rw [itemAt_no_n e9 (by rw [i2]; simp only [(show n1 u len (p + 1) 44 = some (valF u (p + 1) t0, ((p + 1) + t0 + 1)) from by rw [n1_td D0 E0 (by decide), if_pos ⟨T0, S0⟩]), (show n1 u len ((p + 1) + t0 + 1) 59 = none from by rw [n1_td59 D1 E1, if_neg (fun q => by rw [S1] at q; cases q.2)])])]; rfl)), ((((((((hI0.at _).at _).at _).got 0 _).at _).at _).got 1 _).at _).2.2, fun q9 w9 h9 => by rw [itemAt_no_n e9 (by rw [i2]; simp only [(show n1 u len (p + 1) 44 = some (valF u (p + 1) t0, ((p + 1) + t0 + 1)) from by rw [n1_td D0 E0 (by decide), if_pos ⟨T0, S0⟩]), (show n1 u len ((p + 1) + t0 + 1) 59 = none from by rw [n1_td59 D1 E1, if_neg (fun q => by rw [S1] at q; cases q.2)])])] at h9; cases h9⟩
          · refine v_aload_n dX5_isItem_159 rfl ?_
            refine v_get (j := 1) iO40 rfl dX5_isItem_160 (by decide) in_X5_isItem_X5 fl_X5_isItem_7 rfl ?_
            refine v_aload_n dX5_isItem_163 rfl ?_
            refine v_get (j := 2) iO40 rfl dX5_isItem_164 (by decide) in_X5_isItem_X5 fl_X5_isItem_82 rfl ?_
            refine v_top (y := nI (((p + 1) + t0 + 1) + t1)) ((sI_ne _ _ (by omega)).trans (sI_at _ _ _ _)) ?_
            refine v_baldN (((p + 1) + t0 + 1) + t1) iB41 dX5_isItem_167 rfl (by omega) (by decide) ?_
            refine v_top (y := sb_b (u (((p + 1) + t0 + 1) + t1))) ((((((((hI0.at _).at _).at _).got 0 _).at _).at _).got 1 _).1.2.2 (((p + 1) + t0 + 1) + t1) c156).2 ?_
            refine v_bipush (x := nI 59) dX5_isItem_168 (by decide +kernel) ?_
            refine v_icmp_ne (tgt := 177) dX5_isItem_170 (by decide) (fun c170 => ?_) (fun c170 => ?_)
            · have S1 : sepAt u len (((p + 1) + t0 + 1) + t1) 59 = false := by rw [sepAt, decide_eq_false (p := u (((p + 1) + t0 + 1) + t1) = 59) (fun q => c170 ((sb_asc _ (hM.2.2 _ c156).1 59 (by decide)).mpr q)), Bool.and_false]
              refine v_iconst (x := nI 0) dX5_isItem_177 (by decide +kernel) ?_
              refine v_istore_n (L' := [(3, _), (4, _), (2, _), (1, _), (0, _)]) dX5_isItem_178 rfl (by decide) rfl ?_
              refine v_aload_n dX5_isItem_179 rfl ?_
              refine v_dup dX5_isItem_180 rfl ?_
              refine v_get (j := 2) iO40 rfl dX5_isItem_181 (by decide) in_X5_isItem_X5 fl_X5_isItem_82 rfl ?_
              refine v_top (y := nI (((p + 1) + t0 + 1) + t1)) ((sI_ne _ _ (by omega)).trans (sI_at _ _ _ _)) ?_
              refine v_iconst (x := nI 1) dX5_isItem_184 (by decide +kernel) ?_
              refine n_iadd dX5_isItem_185 ?_
              refine pX5_2 dX5_isItem_186 in_X5_isItem_X5 fl_X5_isItem_82 ?_
              refine v_iload_n dX5_isItem_189 rfl ?_
              refine v_if_eq (tgt := 205) dX5_isItem_190 (by decide) (fun c190 => ?_) (fun c190 => absurd rfl c190)
              refine v_iconst (x := nI 0) dX5_isItem_205 (by decide +kernel) ?_
              exact v_zret rfl (by decide) dX5_isItem_206 ⟨congrArg (fun z => some (Value.int z)) (bI_f (by rw [itemAt_no_n e9 (by rw [i2]; simp only [(show n1 u len (p + 1) 44 = some (valF u (p + 1) t0, ((p + 1) + t0 + 1)) from by rw [n1_td D0 E0 (by decide), if_pos ⟨T0, S0⟩]), (show n1 u len ((p + 1) + t0 + 1) 59 = none from by rw [n1_td59 D1 E1, if_neg (fun q => by rw [S1] at q; cases q.2)])])]; rfl)), ((((((((hI0.at _).at _).at _).got 0 _).at _).at _).got 1 _).at _).2.2, fun q9 w9 h9 => by rw [itemAt_no_n e9 (by rw [i2]; simp only [(show n1 u len (p + 1) 44 = some (valF u (p + 1) t0, ((p + 1) + t0 + 1)) from by rw [n1_td D0 E0 (by decide), if_pos ⟨T0, S0⟩]), (show n1 u len ((p + 1) + t0 + 1) 59 = none from by rw [n1_td59 D1 E1, if_neg (fun q => by rw [S1] at q; cases q.2)])])] at h9; cases h9⟩
            · have S1 : sepAt u len (((p + 1) + t0 + 1) + t1) 59 = true := sepAt_iff.mpr ⟨c156, (sb_asc _ (hM.2.2 _ c156).1 59 (by decide)).mp c170⟩
              refine v_iconst (x := nI 1) dX5_isItem_173 (by decide +kernel) ?_
              refine v_goto (tgt := 178) dX5_isItem_174 (by decide) ?_
              refine v_istore_n (L' := [(3, _), (4, _), (2, _), (1, _), (0, _)]) dX5_isItem_178 rfl (by decide) rfl ?_
              refine v_aload_n dX5_isItem_179 rfl ?_
              refine v_dup dX5_isItem_180 rfl ?_
              refine v_get (j := 2) iO40 rfl dX5_isItem_181 (by decide) in_X5_isItem_X5 fl_X5_isItem_82 rfl ?_
              refine v_top (y := nI (((p + 1) + t0 + 1) + t1)) ((sI_ne _ _ (by omega)).trans (sI_at _ _ _ _)) ?_
              refine v_iconst (x := nI 1) dX5_isItem_184 (by decide +kernel) ?_
              refine n_iadd dX5_isItem_185 ?_
              refine pX5_2 dX5_isItem_186 in_X5_isItem_X5 fl_X5_isItem_82 ?_
              refine v_iload_n dX5_isItem_189 rfl ?_
              refine v_if_eq (tgt := 205) dX5_isItem_190 (by decide) (fun c190 => absurd c190 (by decide)) (fun c190 => ?_)
              refine v_aload_n dX5_isItem_193 rfl ?_
              refine v_iload_n dX5_isItem_194 rfl ?_
              refine v_callVRi (M' := M_X5_isGood) (As := [_]) iO40 (s_X5_isGood_n ((((((((hI0.at _).at _).at _).got 0 _).at _).at _).got 1 _).at _).2.1 hv (td_lt D0 T0) (td_lt D1 T1) (by simp [sI, upd]) (by simp [sI, upd])) dX5_isItem_195 gX5_isItem_X5_isGood rfl rfl nn_X5_isGood ⟨rfl, rfl⟩ ⟨by decide, by decide⟩ rfl rfl (Nat.le_of_ble_eq_true rfl) (fun s1 h1 => ?_)
              refine b_if_eq (tgt := 205) dX5_isItem_198 (by decide) (fun c198 => ?_) (fun c198 => ?_)
              · have hx9 : iN w (valF u (p + 1) t0) (valF u ((p + 1) + t0 + 1) t1) = none := by cases h : iN w (valF u (p + 1) t0) (valF u ((p + 1) + t0 + 1) t1) with | none => rfl | some y => rw [h] at c198; cases c198
                refine v_iconst (x := nI 0) dX5_isItem_205 (by decide +kernel) ?_
                exact v_zret rfl (by decide) dX5_isItem_206 ⟨congrArg (fun z => some (Value.int z)) (bI_f (by rw [itemAt_yes_n (a := valF u (p + 1) t0) (c := valF u ((p + 1) + t0 + 1) t1) (q := (((p + 1) + t0 + 1) + t1 + 1)) e9 (by rw [i2]; simp only [(show n1 u len (p + 1) 44 = some (valF u (p + 1) t0, ((p + 1) + t0 + 1)) from by rw [n1_td D0 E0 (by decide), if_pos ⟨T0, S0⟩]), (show n1 u len ((p + 1) + t0 + 1) 59 = some (valF u ((p + 1) + t0 + 1) t1, (((p + 1) + t0 + 1) + t1 + 1)) from by rw [n1_td59 D1 E1, if_pos ⟨T1, S1⟩])]), hx9]; rfl)), ((((((((hI0.at _).at _).at _).got 0 _).at _).at _).got 1 _).at _).2.2.tr h1.1, fun q9 w9 h9 => by rw [itemAt_yes_n (a := valF u (p + 1) t0) (c := valF u ((p + 1) + t0 + 1) t1) (q := (((p + 1) + t0 + 1) + t1 + 1)) e9 (by rw [i2]; simp only [(show n1 u len (p + 1) 44 = some (valF u (p + 1) t0, ((p + 1) + t0 + 1)) from by rw [n1_td D0 E0 (by decide), if_pos ⟨T0, S0⟩]), (show n1 u len ((p + 1) + t0 + 1) 59 = some (valF u ((p + 1) + t0 + 1) t1, (((p + 1) + t0 + 1) + t1 + 1)) from by rw [n1_td59 D1 E1, if_pos ⟨T1, S1⟩])]), hx9] at h9; cases h9⟩
              · obtain ⟨y9, hx9⟩ : ∃ y, iN w (valF u (p + 1) t0) (valF u ((p + 1) + t0 + 1) t1) = some y := by cases h : iN w (valF u (p + 1) t0) (valF u ((p + 1) + t0 + 1) t1) with | none => rw [h] at c198; cases c198 | some y => exact ⟨y, rfl⟩
                refine v_iconst (x := nI 1) dX5_isItem_201 (by decide +kernel) ?_
                refine v_goto (tgt := 206) dX5_isItem_202 (by decide) ?_
                exact v_zret rfl (by decide) dX5_isItem_206 ⟨congrArg (fun z => some (Value.int z)) (bI_t (by rw [itemAt_yes_n (a := valF u (p + 1) t0) (c := valF u ((p + 1) + t0 + 1) t1) (q := (((p + 1) + t0 + 1) + t1 + 1)) e9 (by rw [i2]; simp only [(show n1 u len (p + 1) 44 = some (valF u (p + 1) t0, ((p + 1) + t0 + 1)) from by rw [n1_td D0 E0 (by decide), if_pos ⟨T0, S0⟩]), (show n1 u len ((p + 1) + t0 + 1) 59 = some (valF u ((p + 1) + t0 + 1) t1, (((p + 1) + t0 + 1) + t1 + 1)) from by rw [n1_td59 D1 E1, if_pos ⟨T1, S1⟩])]), hx9]; rfl)), ((((((((hI0.at _).at _).at _).got 0 _).at _).at _).got 1 _).at _).2.2.tr h1.1, fun q9 w9 h9 => by rw [itemAt_yes_n (a := valF u (p + 1) t0) (c := valF u ((p + 1) + t0 + 1) t1) (q := (((p + 1) + t0 + 1) + t1 + 1)) e9 (by rw [i2]; simp only [(show n1 u len (p + 1) 44 = some (valF u (p + 1) t0, ((p + 1) + t0 + 1)) from by rw [n1_td D0 E0 (by decide), if_pos ⟨T0, S0⟩]), (show n1 u len ((p + 1) + t0 + 1) 59 = some (valF u ((p + 1) + t0 + 1) t1, (((p + 1) + t0 + 1) + t1 + 1)) from by rw [n1_td59 D1 E1, if_pos ⟨T1, S1⟩])]), hx9] at h9; cases h9; exact ⟨h1.2.1 _ hx9, h1.2.2.trans (sI_at _ _ _ _)⟩⟩
        · refine v_top (y := -1) (if_neg T1) ?_
          refine v_iastN 1 iI60 dX5_isItem_121 rfl (by decide) (by decide) ?_
          refine v_aload_n dX5_isItem_122 rfl ?_
          refine v_get (j := 28) iO40 rfl dX5_isItem_123 (by decide) in_X5_isItem_X5 fl_X5_isItem_69 rfl ?_
          refine v_iload dX5_isItem_126 rfl ?_
          refine v_ialdN 1 iI60 dX5_isItem_128 rfl (by decide) (by decide) ?_
          refine v_top (y := -1) (sI_at _ _ _ _) ?_
          refine v_if_lt (tgt := 136) dX5_isItem_129 (by decide) (fun c129 => ?_) (fun c129 => absurd (by decide) c129)
          refine v_iconst (x := nI 0) dX5_isItem_136 (by decide +kernel) ?_
          refine v_istore_n (L' := [(3, _), (4, _), (2, _), (1, _), (0, _)]) dX5_isItem_137 rfl (by decide) rfl ?_
          refine n_iinc (n := 1) (L' := [(4, _), (3, _), (2, _), (1, _), (0, _)]) dX5_isItem_138 rfl (by decide) rfl ?_
          refine v_goto (tgt := 38) dX5_isItem_141 (by decide) ?_
          refine v_iload dX5_isItem_38 rfl ?_
          refine v_iload_n dX5_isItem_40 rfl ?_
          refine n_icmp_ge (tgt := 144) dX5_isItem_41 (by decide) (by omega) (by omega) (fun c41 => ?_) (fun c41 => absurd c41 (by omega))
          refine v_iload_n dX5_isItem_144 rfl ?_
          refine v_if_eq (tgt := 177) dX5_isItem_145 (by decide) (fun c145 => ?_) (fun c145 => absurd rfl c145)
          refine v_iconst (x := nI 0) dX5_isItem_177 (by decide +kernel) ?_
          refine v_istore_n (L' := [(3, _), (4, _), (2, _), (1, _), (0, _)]) dX5_isItem_178 rfl (by decide) rfl ?_
          refine v_aload_n dX5_isItem_179 rfl ?_
          refine v_dup dX5_isItem_180 rfl ?_
          refine v_get (j := 2) iO40 rfl dX5_isItem_181 (by decide) in_X5_isItem_X5 fl_X5_isItem_82 rfl ?_
          refine v_top (y := nI (((p + 1) + t0 + 1) + t1)) ((sI_ne _ _ (by omega)).trans (sI_at _ _ _ _)) ?_
          refine v_iconst (x := nI 1) dX5_isItem_184 (by decide +kernel) ?_
          refine n_iadd dX5_isItem_185 ?_
          refine pX5_2 dX5_isItem_186 in_X5_isItem_X5 fl_X5_isItem_82 ?_
          refine v_iload_n dX5_isItem_189 rfl ?_
          refine v_if_eq (tgt := 205) dX5_isItem_190 (by decide) (fun c190 => ?_) (fun c190 => absurd rfl c190)
          refine v_iconst (x := nI 0) dX5_isItem_205 (by decide +kernel) ?_
          exact v_zret rfl (by decide) dX5_isItem_206 ⟨congrArg (fun z => some (Value.int z)) (bI_f (by rw [itemAt_no_n e9 (by rw [i2]; simp only [(show n1 u len (p + 1) 44 = some (valF u (p + 1) t0, ((p + 1) + t0 + 1)) from by rw [n1_td D0 E0 (by decide), if_pos ⟨T0, S0⟩]), (show n1 u len ((p + 1) + t0 + 1) 59 = none from by rw [n1_td59 D1 E1, if_neg (fun q => T1 q.1)])])]; rfl)), ((((((((hI0.at _).at _).at _).got 0 _).at _).at _).got 1 _).at _).2.2, fun q9 w9 h9 => by rw [itemAt_no_n e9 (by rw [i2]; simp only [(show n1 u len (p + 1) 44 = some (valF u (p + 1) t0, ((p + 1) + t0 + 1)) from by rw [n1_td D0 E0 (by decide), if_pos ⟨T0, S0⟩]), (show n1 u len ((p + 1) + t0 + 1) 59 = none from by rw [n1_td59 D1 E1, if_neg (fun q => T1 q.1)])])] at h9; cases h9⟩
  · refine v_top (y := -1) (if_neg T0) ?_
    refine v_iastN 0 iI60 dX5_isItem_121 rfl (by decide) (by decide) ?_
    refine v_aload_n dX5_isItem_122 rfl ?_
    refine v_get (j := 28) iO40 rfl dX5_isItem_123 (by decide) in_X5_isItem_X5 fl_X5_isItem_69 rfl ?_
    refine v_iload dX5_isItem_126 rfl ?_
    refine v_ialdN 0 iI60 dX5_isItem_128 rfl (by decide) (by decide) ?_
    refine v_top (y := -1) (sI_at _ _ _ _) ?_
    refine v_if_lt (tgt := 136) dX5_isItem_129 (by decide) (fun c129 => ?_) (fun c129 => absurd (by decide) c129)
    refine v_iconst (x := nI 0) dX5_isItem_136 (by decide +kernel) ?_
    refine v_istore_n (L' := [(3, _), (4, _), (2, _), (1, _), (0, _)]) dX5_isItem_137 rfl (by decide) rfl ?_
    refine n_iinc (n := 1) (L' := [(4, _), (3, _), (2, _), (1, _), (0, _)]) dX5_isItem_138 rfl (by decide) rfl ?_
    refine v_goto (tgt := 38) dX5_isItem_141 (by decide) ?_
    refine v_iload dX5_isItem_38 rfl ?_
    refine v_iload_n dX5_isItem_40 rfl ?_
    refine n_icmp_ge (tgt := 144) dX5_isItem_41 (by decide) (by omega) (by omega) (fun c41 => absurd c41 (by omega)) (fun c41 => ?_)
    refine v_iload_n dX5_isItem_44 rfl ?_
    refine v_if_eq (tgt := 144) dX5_isItem_45 (by decide) (fun c45 => ?_) (fun c45 => absurd rfl c45)
    refine v_iload_n dX5_isItem_144 rfl ?_
    refine v_if_eq (tgt := 177) dX5_isItem_145 (by decide) (fun c145 => ?_) (fun c145 => absurd rfl c145)
    refine v_iconst (x := nI 0) dX5_isItem_177 (by decide +kernel) ?_
    refine v_istore_n (L' := [(3, _), (4, _), (2, _), (1, _), (0, _)]) dX5_isItem_178 rfl (by decide) rfl ?_
    refine v_aload_n dX5_isItem_179 rfl ?_
    refine v_dup dX5_isItem_180 rfl ?_
    refine v_get (j := 2) iO40 rfl dX5_isItem_181 (by decide) in_X5_isItem_X5 fl_X5_isItem_82 rfl ?_
    refine v_top (y := nI ((p + 1) + t0)) ((sI_ne _ _ (by omega)).trans (sI_at _ _ _ _)) ?_
    refine v_iconst (x := nI 1) dX5_isItem_184 (by decide +kernel) ?_
    refine n_iadd dX5_isItem_185 ?_
    refine pX5_2 dX5_isItem_186 in_X5_isItem_X5 fl_X5_isItem_82 ?_
    refine v_iload_n dX5_isItem_189 rfl ?_
    refine v_if_eq (tgt := 205) dX5_isItem_190 (by decide) (fun c190 => ?_) (fun c190 => absurd rfl c190)
    refine v_iconst (x := nI 0) dX5_isItem_205 (by decide +kernel) ?_
    exact v_zret rfl (by decide) dX5_isItem_206 ⟨congrArg (fun z => some (Value.int z)) (bI_f (by rw [itemAt_no_n e9 (by rw [i2]; simp only [(show n1 u len (p + 1) 44 = none from by rw [n1_td D0 E0 (by decide), if_neg (fun q => T0 q.1)])])]; rfl)), (((((hI0.at _).at _).at _).got 0 _).at _).2.2, fun q9 w9 h9 => by rw [itemAt_no_n e9 (by rw [i2]; simp only [(show n1 u len (p + 1) 44 = none from by rw [n1_td D0 E0 (by decide), if_neg (fun q => T0 q.1)])])] at h9; cases h9⟩
set_option maxRecDepth 100000 in
set_option maxHeartbeats 4000000 in
theorem s_X5_isItem_a {v : EE} {u : Nat → Nat} {len : Nat} {w : WD} {z : Nat} {σ : SS} (hM : MTx u len σ) (hw : MH 1 w σ) (hv : WV z w) {p : Nat} (ha : σ.1 40 2 = nI p) (hp : p < len) (e9 : u p = 97) : SR v M_X5_isItem [.ref (v.1 40)] σ (some (.int (bI (itemAt u len p w).isSome))) (fun σ' => FD σ σ' ∧ ∀ q w', itemAt u len p w = some (q, w') → MH 1 w' σ' ∧ σ'.1 40 2 = nI q) := by
  refine Sp.of rfl (by decide) rfl (Nat.le_of_ble_eq_true rfl) ?_
  show V v M_X5_isItem _ 0 [(0, .ref (v.1 40))] [] σ
  have hl := hM.2.1
  have hI0 : MI u len w σ σ := ⟨hM, hw, FD.rf σ⟩
  refine v_aload_n dX5_isItem_0 rfl ?_
  refine v_get (j := 1) iO40 rfl dX5_isItem_1 (by decide) in_X5_isItem_X5 fl_X5_isItem_7 rfl ?_
  refine v_aload_n dX5_isItem_4 rfl ?_
  refine v_get (j := 2) iO40 rfl dX5_isItem_5 (by decide) in_X5_isItem_X5 fl_X5_isItem_82 rfl ?_
  refine v_top ha ?_
  refine v_baldN p iB41 dX5_isItem_8 rfl (by omega) (by decide) ?_
  refine v_top (y := nI 97) ((hM.2.2 p hp).2.trans (by rw [e9]; decide +kernel)) ?_
  refine v_istore_n (L' := [(1, _), (0, _)]) dX5_isItem_9 rfl (by decide) rfl ?_
  refine v_aload_n dX5_isItem_10 rfl ?_
  refine v_dup dX5_isItem_11 rfl ?_
  refine v_get (j := 2) iO40 rfl dX5_isItem_12 (by decide) in_X5_isItem_X5 fl_X5_isItem_82 rfl ?_
  refine v_top ha ?_
  refine v_iconst (x := nI 1) dX5_isItem_15 (by decide +kernel) ?_
  refine n_iadd dX5_isItem_16 ?_
  refine pX5_2 dX5_isItem_17 in_X5_isItem_X5 fl_X5_isItem_82 ?_
  refine v_iload_n dX5_isItem_20 rfl ?_
  refine v_callSi (M' := M_X5_figures) (As := [_]) (s_X5_figures_97) dX5_isItem_21 gX5_isItem_X5_figures rfl nn_X5_figures ⟨rfl, rfl⟩ ⟨by decide, by decide⟩ rfl rfl (Nat.le_of_ble_eq_true rfl) ?_
  refine v_istore_n (L' := [(2, _), (1, _), (0, _)]) dX5_isItem_24 rfl (by decide) rfl ?_
  refine v_iload_n dX5_isItem_25 rfl ?_
  refine n_if_le (tgt := 33) dX5_isItem_26 (by decide) (by omega) (fun c26 => absurd c26 (by omega)) (fun c26 => ?_)
  refine v_iconst (x := nI 1) dX5_isItem_29 (by decide +kernel) ?_
  refine v_goto (tgt := 34) dX5_isItem_30 (by decide) ?_
  refine v_istore_n (L' := [(3, _), (2, _), (1, _), (0, _)]) dX5_isItem_34 rfl (by decide) rfl ?_
  refine v_iconst (x := nI 0) dX5_isItem_35 (by decide +kernel) ?_
  refine v_istore (L' := [(4, _), (3, _), (2, _), (1, _), (0, _)]) dX5_isItem_36 (by decide) rfl ?_
  refine v_iload dX5_isItem_38 rfl ?_
  refine v_iload_n dX5_isItem_40 rfl ?_
  refine n_icmp_ge (tgt := 144) dX5_isItem_41 (by decide) (by omega) (by omega) (fun c41 => absurd c41 (by omega)) (fun c41 => ?_)
  refine v_iload_n dX5_isItem_44 rfl ?_
  refine v_if_eq (tgt := 144) dX5_isItem_45 (by decide) (fun c45 => absurd c45 (by decide)) (fun c45 => ?_)
  refine v_iload dX5_isItem_48 rfl ?_
  refine n_if_eq (tgt := 78) dX5_isItem_50 (by decide) (by omega) (fun c50 => ?_) (fun c50 => absurd c50 (by omega))
  refine v_iconst (x := nI 1) dX5_isItem_78 (by decide +kernel) ?_
  refine v_goto (tgt := 83) dX5_isItem_79 (by decide) ?_
  refine v_istore_n (L' := [(3, _), (4, _), (2, _), (1, _), (0, _)]) dX5_isItem_83 rfl (by decide) rfl ?_
  obtain ⟨t0, D0, E0, B0⟩ := ex_td u len (p + 1)
  refine v_aload_n dX5_isItem_84 rfl ?_
  refine v_dup dX5_isItem_85 rfl ?_
  refine v_get (j := 2) iO40 rfl dX5_isItem_86 (by decide) in_X5_isItem_X5 fl_X5_isItem_82 rfl ?_
  refine v_top (y := nI (p + 1)) (sI_at _ _ _ _) ?_
  refine v_iload dX5_isItem_89 rfl ?_
  refine n_if_ne (tgt := 98) dX5_isItem_91 (by decide) (by omega) (fun c91 => absurd c91 (by omega)) (fun c91 => ?_)
  refine v_iconst (x := nI 0) dX5_isItem_94 (by decide +kernel) ?_
  refine v_goto (tgt := 99) dX5_isItem_95 (by decide) ?_
  refine n_iadd dX5_isItem_99 ?_
  refine pX5_2 dX5_isItem_100 in_X5_isItem_X5 fl_X5_isItem_82 ?_
  refine v_aload_n dX5_isItem_103 rfl ?_
  refine v_get (j := 28) iO40 rfl dX5_isItem_104 (by decide) in_X5_isItem_X5 fl_X5_isItem_69 rfl ?_
  refine v_iload dX5_isItem_107 rfl ?_
  refine v_iload_n dX5_isItem_109 rfl ?_
  refine v_if_eq (tgt := 120) dX5_isItem_110 (by decide) (fun c110 => absurd c110 (by decide)) (fun c110 => ?_)
  refine v_aload_n dX5_isItem_113 rfl ?_
  refine v_callVi (M' := M_X5_number) (As := []) iO40 (s_X5_number ((hI0.at _).at _).1 (p := (p + 1)) (t := t0) (sI_at _ _ _ _) D0 E0 (by omega)) dX5_isItem_114 gX5_isItem_X5_number rfl rfl nn_X5_number ⟨rfl, rfl⟩ ⟨by decide, by decide⟩ rfl rfl (Nat.le_of_ble_eq_true rfl) ?_
  refine v_goto (tgt := 121) dX5_isItem_117 (by decide) ?_
  by_cases T0 : 1 ≤ t0 ∧ t0 ≤ 3
  · refine v_top (y := nI (valF u (p + 1) t0)) (if_pos T0) ?_
    have V0 := td_lt D0 T0
    refine v_iastN 0 iI60 dX5_isItem_121 rfl (by decide) (by decide) ?_
    refine v_aload_n dX5_isItem_122 rfl ?_
    refine v_get (j := 28) iO40 rfl dX5_isItem_123 (by decide) in_X5_isItem_X5 fl_X5_isItem_69 rfl ?_
    refine v_iload dX5_isItem_126 rfl ?_
    refine v_ialdN 0 iI60 dX5_isItem_128 rfl (by decide) (by decide) ?_
    refine v_top (y := nI (valF u (p + 1) t0)) (sI_at _ _ _ _) ?_
    refine n_if_lt (tgt := 136) dX5_isItem_129 (by decide) (by omega) ?_
    refine v_iconst (x := nI 1) dX5_isItem_132 (by decide +kernel) ?_
    refine v_goto (tgt := 137) dX5_isItem_133 (by decide) ?_
    refine v_istore_n (L' := [(3, _), (4, _), (2, _), (1, _), (0, _)]) dX5_isItem_137 rfl (by decide) rfl ?_
    refine n_iinc (n := 1) (L' := [(4, _), (3, _), (2, _), (1, _), (0, _)]) dX5_isItem_138 rfl (by decide) rfl ?_
    refine v_goto (tgt := 38) dX5_isItem_141 (by decide) ?_
    refine v_iload dX5_isItem_38 rfl ?_
    refine v_iload_n dX5_isItem_40 rfl ?_
    refine n_icmp_ge (tgt := 144) dX5_isItem_41 (by decide) (by omega) (by omega) (fun c41 => absurd c41 (by omega)) (fun c41 => ?_)
    refine v_iload_n dX5_isItem_44 rfl ?_
    refine v_if_eq (tgt := 144) dX5_isItem_45 (by decide) (fun c45 => absurd c45 (by decide)) (fun c45 => ?_)
    refine v_iload dX5_isItem_48 rfl ?_
    refine n_if_eq (tgt := 78) dX5_isItem_50 (by decide) (by omega) (fun c50 => absurd c50 (by omega)) (fun c50 => ?_)
    refine v_aload_n dX5_isItem_53 rfl ?_
    refine v_get (j := 2) iO40 rfl dX5_isItem_54 (by decide) in_X5_isItem_X5 fl_X5_isItem_82 rfl ?_
    refine v_top (y := nI ((p + 1) + t0)) ((sI_ne _ _ (by omega)).trans (sI_at _ _ _ _)) ?_
    refine v_aload_n dX5_isItem_57 rfl ?_
    refine v_get (j := 0) iO40 rfl dX5_isItem_58 (by decide) in_X5_isItem_X5 fl_X5_isItem_78 rfl ?_
    refine v_top (y := nI len) ((((hI0.at _).at _).at _).got 0 _).1.1 ?_
    refine n_icmp_ge (tgt := 82) dX5_isItem_61 (by decide) (by omega) (by omega) (fun c61 => ?_) (fun c61 => ?_)
    · have S0 : sepAt u len ((p + 1) + t0) 44 = false := by rw [sepAt, decide_eq_false (by omega)]; rfl
      refine v_iconst (x := nI 0) dX5_isItem_82 (by decide +kernel) ?_
      refine v_istore_n (L' := [(3, _), (4, _), (2, _), (1, _), (0, _)]) dX5_isItem_83 rfl (by decide) rfl ?_
      refine v_aload_n dX5_isItem_84 rfl ?_
      refine v_dup dX5_isItem_85 rfl ?_
      refine v_get (j := 2) iO40 rfl dX5_isItem_86 (by decide) in_X5_isItem_X5 fl_X5_isItem_82 rfl ?_
      refine v_top (y := nI ((p + 1) + t0)) ((sI_ne _ _ (by omega)).trans (sI_at _ _ _ _)) ?_
      refine v_iload dX5_isItem_89 rfl ?_
      refine n_if_ne (tgt := 98) dX5_isItem_91 (by decide) (by omega) (fun c91 => ?_) (fun c91 => absurd c91 (by omega))
      refine v_iconst (x := nI 1) dX5_isItem_98 (by decide +kernel) ?_
      refine n_iadd dX5_isItem_99 ?_
      refine pX5_2 dX5_isItem_100 in_X5_isItem_X5 fl_X5_isItem_82 ?_
      refine v_aload_n dX5_isItem_103 rfl ?_
      refine v_get (j := 28) iO40 rfl dX5_isItem_104 (by decide) in_X5_isItem_X5 fl_X5_isItem_69 rfl ?_
      refine v_iload dX5_isItem_107 rfl ?_
      refine v_iload_n dX5_isItem_109 rfl ?_
      refine v_if_eq (tgt := 120) dX5_isItem_110 (by decide) (fun c110 => ?_) (fun c110 => absurd rfl c110)
      refine v_iconst (x := (-1)) dX5_isItem_120 rfl ?_
      refine v_iastN 1 iI60 dX5_isItem_121 rfl (by decide) (by decide) ?_
      refine v_aload_n dX5_isItem_122 rfl ?_
      refine v_get (j := 28) iO40 rfl dX5_isItem_123 (by decide) in_X5_isItem_X5 fl_X5_isItem_69 rfl ?_
      refine v_iload dX5_isItem_126 rfl ?_
      refine v_ialdN 1 iI60 dX5_isItem_128 rfl (by decide) (by decide) ?_
      refine v_top (y := -1) (sI_at _ _ _ _) ?_
      refine v_if_lt (tgt := 136) dX5_isItem_129 (by decide) (fun c129 => ?_) (fun c129 => absurd (by decide) c129)
      refine v_iconst (x := nI 0) dX5_isItem_136 (by decide +kernel) ?_
      refine v_istore_n (L' := [(3, _), (4, _), (2, _), (1, _), (0, _)]) dX5_isItem_137 rfl (by decide) rfl ?_
      refine n_iinc (n := 1) (L' := [(4, _), (3, _), (2, _), (1, _), (0, _)]) dX5_isItem_138 rfl (by decide) rfl ?_
      refine v_goto (tgt := 38) dX5_isItem_141 (by decide) ?_
      refine v_iload dX5_isItem_38 rfl ?_
      refine v_iload_n dX5_isItem_40 rfl ?_
      refine n_icmp_ge (tgt := 144) dX5_isItem_41 (by decide) (by omega) (by omega) (fun c41 => absurd c41 (by omega)) (fun c41 => ?_)
      refine v_iload_n dX5_isItem_44 rfl ?_
      refine v_if_eq (tgt := 144) dX5_isItem_45 (by decide) (fun c45 => ?_) (fun c45 => absurd rfl c45)
      refine v_iload_n dX5_isItem_144 rfl ?_
      refine v_if_eq (tgt := 177) dX5_isItem_145 (by decide) (fun c145 => ?_) (fun c145 => absurd rfl c145)
      refine v_iconst (x := nI 0) dX5_isItem_177 (by decide +kernel) ?_
      refine v_istore_n (L' := [(3, _), (4, _), (2, _), (1, _), (0, _)]) dX5_isItem_178 rfl (by decide) rfl ?_
      refine v_aload_n dX5_isItem_179 rfl ?_
      refine v_dup dX5_isItem_180 rfl ?_
      refine v_get (j := 2) iO40 rfl dX5_isItem_181 (by decide) in_X5_isItem_X5 fl_X5_isItem_82 rfl ?_
      refine v_top (y := nI (((p + 1) + t0) + 1)) ((sI_ne _ _ (by omega)).trans (sI_at _ _ _ _)) ?_
      refine v_iconst (x := nI 1) dX5_isItem_184 (by decide +kernel) ?_
      refine n_iadd dX5_isItem_185 ?_
      refine pX5_2 dX5_isItem_186 in_X5_isItem_X5 fl_X5_isItem_82 ?_
      refine v_iload_n dX5_isItem_189 rfl ?_
      refine v_if_eq (tgt := 205) dX5_isItem_190 (by decide) (fun c190 => ?_) (fun c190 => absurd rfl c190)
      refine v_iconst (x := nI 0) dX5_isItem_205 (by decide +kernel) ?_
      exact v_zret rfl (by decide) dX5_isItem_206 ⟨congrArg (fun z => some (Value.int z)) (bI_f (by rw [itemAt_no_a e9 (by rw [i3]; simp only [(show n1 u len (p + 1) 44 = none from by rw [n1_td D0 E0 (by decide), if_neg (fun q => by rw [S0] at q; cases q.2)])])]; rfl)), (((((((hI0.at _).at _).at _).got 0 _).at _).got 1 _).at _).2.2, fun q9 w9 h9 => by rw [itemAt_no_a e9 (by rw [i3]; simp only [(show n1 u len (p + 1) 44 = none from by rw [n1_td D0 E0 (by decide), if_neg (fun q => by rw [S0] at q; cases q.2)])])] at h9; cases h9⟩
    · refine v_aload_n dX5_isItem_64 rfl ?_
      refine v_get (j := 1) iO40 rfl dX5_isItem_65 (by decide) in_X5_isItem_X5 fl_X5_isItem_7 rfl ?_
      refine v_aload_n dX5_isItem_68 rfl ?_
      refine v_get (j := 2) iO40 rfl dX5_isItem_69 (by decide) in_X5_isItem_X5 fl_X5_isItem_82 rfl ?_
      refine v_top (y := nI ((p + 1) + t0)) ((sI_ne _ _ (by omega)).trans (sI_at _ _ _ _)) ?_
      refine v_baldN ((p + 1) + t0) iB41 dX5_isItem_72 rfl (by omega) (by decide) ?_
      refine v_top (y := sb_b (u ((p + 1) + t0))) (((((hI0.at _).at _).at _).got 0 _).1.2.2 ((p + 1) + t0) c61).2 ?_
      refine v_bipush (x := nI 44) dX5_isItem_73 (by decide +kernel) ?_
      refine v_icmp_ne (tgt := 82) dX5_isItem_75 (by decide) (fun c75 => ?_) (fun c75 => ?_)
      · have S0 : sepAt u len ((p + 1) + t0) 44 = false := by rw [sepAt, decide_eq_false (p := u ((p + 1) + t0) = 44) (fun q => c75 ((sb_asc _ (hM.2.2 _ c61).1 44 (by decide)).mpr q)), Bool.and_false]
        refine v_iconst (x := nI 0) dX5_isItem_82 (by decide +kernel) ?_
        refine v_istore_n (L' := [(3, _), (4, _), (2, _), (1, _), (0, _)]) dX5_isItem_83 rfl (by decide) rfl ?_
        refine v_aload_n dX5_isItem_84 rfl ?_
        refine v_dup dX5_isItem_85 rfl ?_
        refine v_get (j := 2) iO40 rfl dX5_isItem_86 (by decide) in_X5_isItem_X5 fl_X5_isItem_82 rfl ?_
        refine v_top (y := nI ((p + 1) + t0)) ((sI_ne _ _ (by omega)).trans (sI_at _ _ _ _)) ?_
        refine v_iload dX5_isItem_89 rfl ?_
        refine n_if_ne (tgt := 98) dX5_isItem_91 (by decide) (by omega) (fun c91 => ?_) (fun c91 => absurd c91 (by omega))
        refine v_iconst (x := nI 1) dX5_isItem_98 (by decide +kernel) ?_
        refine n_iadd dX5_isItem_99 ?_
        refine pX5_2 dX5_isItem_100 in_X5_isItem_X5 fl_X5_isItem_82 ?_
        refine v_aload_n dX5_isItem_103 rfl ?_
        refine v_get (j := 28) iO40 rfl dX5_isItem_104 (by decide) in_X5_isItem_X5 fl_X5_isItem_69 rfl ?_
        refine v_iload dX5_isItem_107 rfl ?_
        refine v_iload_n dX5_isItem_109 rfl ?_
        refine v_if_eq (tgt := 120) dX5_isItem_110 (by decide) (fun c110 => ?_) (fun c110 => absurd rfl c110)
        refine v_iconst (x := (-1)) dX5_isItem_120 rfl ?_
        refine v_iastN 1 iI60 dX5_isItem_121 rfl (by decide) (by decide) ?_
        refine v_aload_n dX5_isItem_122 rfl ?_
        refine v_get (j := 28) iO40 rfl dX5_isItem_123 (by decide) in_X5_isItem_X5 fl_X5_isItem_69 rfl ?_
        refine v_iload dX5_isItem_126 rfl ?_
        refine v_ialdN 1 iI60 dX5_isItem_128 rfl (by decide) (by decide) ?_
        refine v_top (y := -1) (sI_at _ _ _ _) ?_
        refine v_if_lt (tgt := 136) dX5_isItem_129 (by decide) (fun c129 => ?_) (fun c129 => absurd (by decide) c129)
        refine v_iconst (x := nI 0) dX5_isItem_136 (by decide +kernel) ?_
        refine v_istore_n (L' := [(3, _), (4, _), (2, _), (1, _), (0, _)]) dX5_isItem_137 rfl (by decide) rfl ?_
        refine n_iinc (n := 1) (L' := [(4, _), (3, _), (2, _), (1, _), (0, _)]) dX5_isItem_138 rfl (by decide) rfl ?_
        refine v_goto (tgt := 38) dX5_isItem_141 (by decide) ?_
        refine v_iload dX5_isItem_38 rfl ?_
        refine v_iload_n dX5_isItem_40 rfl ?_
        refine n_icmp_ge (tgt := 144) dX5_isItem_41 (by decide) (by omega) (by omega) (fun c41 => absurd c41 (by omega)) (fun c41 => ?_)
        refine v_iload_n dX5_isItem_44 rfl ?_
        refine v_if_eq (tgt := 144) dX5_isItem_45 (by decide) (fun c45 => ?_) (fun c45 => absurd rfl c45)
        refine v_iload_n dX5_isItem_144 rfl ?_
        refine v_if_eq (tgt := 177) dX5_isItem_145 (by decide) (fun c145 => ?_) (fun c145 => absurd rfl c145)
        refine v_iconst (x := nI 0) dX5_isItem_177 (by decide +kernel) ?_
        refine v_istore_n (L' := [(3, _), (4, _), (2, _), (1, _), (0, _)]) dX5_isItem_178 rfl (by decide) rfl ?_
        refine v_aload_n dX5_isItem_179 rfl ?_
        refine v_dup dX5_isItem_180 rfl ?_
        refine v_get (j := 2) iO40 rfl dX5_isItem_181 (by decide) in_X5_isItem_X5 fl_X5_isItem_82 rfl ?_
        refine v_top (y := nI (((p + 1) + t0) + 1)) ((sI_ne _ _ (by omega)).trans (sI_at _ _ _ _)) ?_
        refine v_iconst (x := nI 1) dX5_isItem_184 (by decide +kernel) ?_
        refine n_iadd dX5_isItem_185 ?_
        refine pX5_2 dX5_isItem_186 in_X5_isItem_X5 fl_X5_isItem_82 ?_
        refine v_iload_n dX5_isItem_189 rfl ?_
        refine v_if_eq (tgt := 205) dX5_isItem_190 (by decide) (fun c190 => ?_) (fun c190 => absurd rfl c190)
        refine v_iconst (x := nI 0) dX5_isItem_205 (by decide +kernel) ?_
        exact v_zret rfl (by decide) dX5_isItem_206 ⟨congrArg (fun z => some (Value.int z)) (bI_f (by rw [itemAt_no_a e9 (by rw [i3]; simp only [(show n1 u len (p + 1) 44 = none from by rw [n1_td D0 E0 (by decide), if_neg (fun q => by rw [S0] at q; cases q.2)])])]; rfl)), (((((((hI0.at _).at _).at _).got 0 _).at _).got 1 _).at _).2.2, fun q9 w9 h9 => by rw [itemAt_no_a e9 (by rw [i3]; simp only [(show n1 u len (p + 1) 44 = none from by rw [n1_td D0 E0 (by decide), if_neg (fun q => by rw [S0] at q; cases q.2)])])] at h9; cases h9⟩
      · have S0 : sepAt u len ((p + 1) + t0) 44 = true := sepAt_iff.mpr ⟨c61, (sb_asc _ (hM.2.2 _ c61).1 44 (by decide)).mp c75⟩
        refine v_iconst (x := nI 1) dX5_isItem_78 (by decide +kernel) ?_
        refine v_goto (tgt := 83) dX5_isItem_79 (by decide) ?_
        refine v_istore_n (L' := [(3, _), (4, _), (2, _), (1, _), (0, _)]) dX5_isItem_83 rfl (by decide) rfl ?_
        obtain ⟨t1, D1, E1, B1⟩ := ex_td u len ((p + 1) + t0 + 1)
        refine v_aload_n dX5_isItem_84 rfl ?_
        refine v_dup dX5_isItem_85 rfl ?_
        refine v_get (j := 2) iO40 rfl dX5_isItem_86 (by decide) in_X5_isItem_X5 fl_X5_isItem_82 rfl ?_
        refine v_top (y := nI ((p + 1) + t0)) ((sI_ne _ _ (by omega)).trans (sI_at _ _ _ _)) ?_
        refine v_iload dX5_isItem_89 rfl ?_
        refine n_if_ne (tgt := 98) dX5_isItem_91 (by decide) (by omega) (fun c91 => ?_) (fun c91 => absurd c91 (by omega))
        refine v_iconst (x := nI 1) dX5_isItem_98 (by decide +kernel) ?_
        refine n_iadd dX5_isItem_99 ?_
        refine pX5_2 dX5_isItem_100 in_X5_isItem_X5 fl_X5_isItem_82 ?_
        refine v_aload_n dX5_isItem_103 rfl ?_
        refine v_get (j := 28) iO40 rfl dX5_isItem_104 (by decide) in_X5_isItem_X5 fl_X5_isItem_69 rfl ?_
        refine v_iload dX5_isItem_107 rfl ?_
        refine v_iload_n dX5_isItem_109 rfl ?_
        refine v_if_eq (tgt := 120) dX5_isItem_110 (by decide) (fun c110 => absurd c110 (by decide)) (fun c110 => ?_)
        refine v_aload_n dX5_isItem_113 rfl ?_
        refine v_callVi (M' := M_X5_number) (As := []) iO40 (s_X5_number (((((hI0.at _).at _).at _).got 0 _).at _).1 (p := ((p + 1) + t0 + 1)) (t := t1) (sI_at _ _ _ _) D1 E1 (by omega)) dX5_isItem_114 gX5_isItem_X5_number rfl rfl nn_X5_number ⟨rfl, rfl⟩ ⟨by decide, by decide⟩ rfl rfl (Nat.le_of_ble_eq_true rfl) ?_
        refine v_goto (tgt := 121) dX5_isItem_117 (by decide) ?_
        by_cases T1 : 1 ≤ t1 ∧ t1 ≤ 3
        · refine v_top (y := nI (valF u ((p + 1) + t0 + 1) t1)) (if_pos T1) ?_
          have V1 := td_lt D1 T1
          refine v_iastN 1 iI60 dX5_isItem_121 rfl (by decide) (by decide) ?_
          refine v_aload_n dX5_isItem_122 rfl ?_
          refine v_get (j := 28) iO40 rfl dX5_isItem_123 (by decide) in_X5_isItem_X5 fl_X5_isItem_69 rfl ?_
          refine v_iload dX5_isItem_126 rfl ?_
          refine v_ialdN 1 iI60 dX5_isItem_128 rfl (by decide) (by decide) ?_
          refine v_top (y := nI (valF u ((p + 1) + t0 + 1) t1)) (sI_at _ _ _ _) ?_
          refine n_if_lt (tgt := 136) dX5_isItem_129 (by decide) (by omega) ?_
          refine v_iconst (x := nI 1) dX5_isItem_132 (by decide +kernel) ?_
          refine v_goto (tgt := 137) dX5_isItem_133 (by decide) ?_
          refine v_istore_n (L' := [(3, _), (4, _), (2, _), (1, _), (0, _)]) dX5_isItem_137 rfl (by decide) rfl ?_
          refine n_iinc (n := 1) (L' := [(4, _), (3, _), (2, _), (1, _), (0, _)]) dX5_isItem_138 rfl (by decide) rfl ?_
          refine v_goto (tgt := 38) dX5_isItem_141 (by decide) ?_
          refine v_iload dX5_isItem_38 rfl ?_
          refine v_iload_n dX5_isItem_40 rfl ?_
          refine n_icmp_ge (tgt := 144) dX5_isItem_41 (by decide) (by omega) (by omega) (fun c41 => absurd c41 (by omega)) (fun c41 => ?_)
          refine v_iload_n dX5_isItem_44 rfl ?_
          refine v_if_eq (tgt := 144) dX5_isItem_45 (by decide) (fun c45 => absurd c45 (by decide)) (fun c45 => ?_)
          refine v_iload dX5_isItem_48 rfl ?_
          refine n_if_eq (tgt := 78) dX5_isItem_50 (by decide) (by omega) (fun c50 => absurd c50 (by omega)) (fun c50 => ?_)
          refine v_aload_n dX5_isItem_53 rfl ?_
          refine v_get (j := 2) iO40 rfl dX5_isItem_54 (by decide) in_X5_isItem_X5 fl_X5_isItem_82 rfl ?_
          refine v_top (y := nI (((p + 1) + t0 + 1) + t1)) ((sI_ne _ _ (by omega)).trans (sI_at _ _ _ _)) ?_
          refine v_aload_n dX5_isItem_57 rfl ?_
          refine v_get (j := 0) iO40 rfl dX5_isItem_58 (by decide) in_X5_isItem_X5 fl_X5_isItem_78 rfl ?_
          refine v_top (y := nI len) (((((((hI0.at _).at _).at _).got 0 _).at _).at _).got 1 _).1.1 ?_
          refine n_icmp_ge (tgt := 82) dX5_isItem_61 (by decide) (by omega) (by omega) (fun c61 => ?_) (fun c61 => ?_)
          · have S1 : sepAt u len (((p + 1) + t0 + 1) + t1) 44 = false := by rw [sepAt, decide_eq_false (by omega)]; rfl
            refine v_iconst (x := nI 0) dX5_isItem_82 (by decide +kernel) ?_
            refine v_istore_n (L' := [(3, _), (4, _), (2, _), (1, _), (0, _)]) dX5_isItem_83 rfl (by decide) rfl ?_
            refine v_aload_n dX5_isItem_84 rfl ?_
            refine v_dup dX5_isItem_85 rfl ?_
            refine v_get (j := 2) iO40 rfl dX5_isItem_86 (by decide) in_X5_isItem_X5 fl_X5_isItem_82 rfl ?_
            refine v_top (y := nI (((p + 1) + t0 + 1) + t1)) ((sI_ne _ _ (by omega)).trans (sI_at _ _ _ _)) ?_
            refine v_iload dX5_isItem_89 rfl ?_
            refine n_if_ne (tgt := 98) dX5_isItem_91 (by decide) (by omega) (fun c91 => ?_) (fun c91 => absurd c91 (by omega))
            refine v_iconst (x := nI 1) dX5_isItem_98 (by decide +kernel) ?_
            refine n_iadd dX5_isItem_99 ?_
            refine pX5_2 dX5_isItem_100 in_X5_isItem_X5 fl_X5_isItem_82 ?_
            refine v_aload_n dX5_isItem_103 rfl ?_
            refine v_get (j := 28) iO40 rfl dX5_isItem_104 (by decide) in_X5_isItem_X5 fl_X5_isItem_69 rfl ?_
            refine v_iload dX5_isItem_107 rfl ?_
            refine v_iload_n dX5_isItem_109 rfl ?_
            refine v_if_eq (tgt := 120) dX5_isItem_110 (by decide) (fun c110 => ?_) (fun c110 => absurd rfl c110)
            refine v_iconst (x := (-1)) dX5_isItem_120 rfl ?_
            refine v_iastN 2 iI60 dX5_isItem_121 rfl (by decide) (by decide) ?_
            refine v_aload_n dX5_isItem_122 rfl ?_
            refine v_get (j := 28) iO40 rfl dX5_isItem_123 (by decide) in_X5_isItem_X5 fl_X5_isItem_69 rfl ?_
            refine v_iload dX5_isItem_126 rfl ?_
            refine v_ialdN 2 iI60 dX5_isItem_128 rfl (by decide) (by decide) ?_
            refine v_top (y := -1) (sI_at _ _ _ _) ?_
            refine v_if_lt (tgt := 136) dX5_isItem_129 (by decide) (fun c129 => ?_) (fun c129 => absurd (by decide) c129)
            refine v_iconst (x := nI 0) dX5_isItem_136 (by decide +kernel) ?_
            refine v_istore_n (L' := [(3, _), (4, _), (2, _), (1, _), (0, _)]) dX5_isItem_137 rfl (by decide) rfl ?_
            refine n_iinc (n := 1) (L' := [(4, _), (3, _), (2, _), (1, _), (0, _)]) dX5_isItem_138 rfl (by decide) rfl ?_
            refine v_goto (tgt := 38) dX5_isItem_141 (by decide) ?_
            refine v_iload dX5_isItem_38 rfl ?_
            refine v_iload_n dX5_isItem_40 rfl ?_
            refine n_icmp_ge (tgt := 144) dX5_isItem_41 (by decide) (by omega) (by omega) (fun c41 => ?_) (fun c41 => absurd c41 (by omega))
            refine v_iload_n dX5_isItem_144 rfl ?_
            refine v_if_eq (tgt := 177) dX5_isItem_145 (by decide) (fun c145 => ?_) (fun c145 => absurd rfl c145)
            refine v_iconst (x := nI 0) dX5_isItem_177 (by decide +kernel) ?_
            refine v_istore_n (L' := [(3, _), (4, _), (2, _), (1, _), (0, _)]) dX5_isItem_178 rfl (by decide) rfl ?_
            refine v_aload_n dX5_isItem_179 rfl ?_
            refine v_dup dX5_isItem_180 rfl ?_
            refine v_get (j := 2) iO40 rfl dX5_isItem_181 (by decide) in_X5_isItem_X5 fl_X5_isItem_82 rfl ?_
            refine v_top (y := nI ((((p + 1) + t0 + 1) + t1) + 1)) ((sI_ne _ _ (by omega)).trans (sI_at _ _ _ _)) ?_
            refine v_iconst (x := nI 1) dX5_isItem_184 (by decide +kernel) ?_
            refine n_iadd dX5_isItem_185 ?_
            refine pX5_2 dX5_isItem_186 in_X5_isItem_X5 fl_X5_isItem_82 ?_
            refine v_iload_n dX5_isItem_189 rfl ?_
            refine v_if_eq (tgt := 205) dX5_isItem_190 (by decide) (fun c190 => ?_) (fun c190 => absurd rfl c190)
            refine v_iconst (x := nI 0) dX5_isItem_205 (by decide +kernel) ?_
            exact v_zret rfl (by decide) dX5_isItem_206 ⟨congrArg (fun z => some (Value.int z)) (bI_f (by rw [itemAt_no_a e9 (by rw [i3]; simp only [(show n1 u len (p + 1) 44 = some (valF u (p + 1) t0, ((p + 1) + t0 + 1)) from by rw [n1_td D0 E0 (by decide), if_pos ⟨T0, S0⟩]), (show n1 u len ((p + 1) + t0 + 1) 44 = none from by rw [n1_td D1 E1 (by decide), if_neg (fun q => by rw [S1] at q; cases q.2)])])]; rfl)), ((((((((((hI0.at _).at _).at _).got 0 _).at _).at _).got 1 _).at _).got 2 _).at _).2.2, fun q9 w9 h9 => by rw [itemAt_no_a e9 (by rw [i3]; simp only [(show n1 u len (p + 1) 44 = some (valF u (p + 1) t0, ((p + 1) + t0 + 1)) from by rw [n1_td D0 E0 (by decide), if_pos ⟨T0, S0⟩]), (show n1 u len ((p + 1) + t0 + 1) 44 = none from by rw [n1_td D1 E1 (by decide), if_neg (fun q => by rw [S1] at q; cases q.2)])])] at h9; cases h9⟩
          · refine v_aload_n dX5_isItem_64 rfl ?_
            refine v_get (j := 1) iO40 rfl dX5_isItem_65 (by decide) in_X5_isItem_X5 fl_X5_isItem_7 rfl ?_
            refine v_aload_n dX5_isItem_68 rfl ?_
            refine v_get (j := 2) iO40 rfl dX5_isItem_69 (by decide) in_X5_isItem_X5 fl_X5_isItem_82 rfl ?_
            refine v_top (y := nI (((p + 1) + t0 + 1) + t1)) ((sI_ne _ _ (by omega)).trans (sI_at _ _ _ _)) ?_
            refine v_baldN (((p + 1) + t0 + 1) + t1) iB41 dX5_isItem_72 rfl (by omega) (by decide) ?_
            refine v_top (y := sb_b (u (((p + 1) + t0 + 1) + t1))) ((((((((hI0.at _).at _).at _).got 0 _).at _).at _).got 1 _).1.2.2 (((p + 1) + t0 + 1) + t1) c61).2 ?_
            refine v_bipush (x := nI 44) dX5_isItem_73 (by decide +kernel) ?_
            refine v_icmp_ne (tgt := 82) dX5_isItem_75 (by decide) (fun c75 => ?_) (fun c75 => ?_)
            · have S1 : sepAt u len (((p + 1) + t0 + 1) + t1) 44 = false := by rw [sepAt, decide_eq_false (p := u (((p + 1) + t0 + 1) + t1) = 44) (fun q => c75 ((sb_asc _ (hM.2.2 _ c61).1 44 (by decide)).mpr q)), Bool.and_false]
              refine v_iconst (x := nI 0) dX5_isItem_82 (by decide +kernel) ?_
              refine v_istore_n (L' := [(3, _), (4, _), (2, _), (1, _), (0, _)]) dX5_isItem_83 rfl (by decide) rfl ?_
              refine v_aload_n dX5_isItem_84 rfl ?_
              refine v_dup dX5_isItem_85 rfl ?_
              refine v_get (j := 2) iO40 rfl dX5_isItem_86 (by decide) in_X5_isItem_X5 fl_X5_isItem_82 rfl ?_
              refine v_top (y := nI (((p + 1) + t0 + 1) + t1)) ((sI_ne _ _ (by omega)).trans (sI_at _ _ _ _)) ?_
              refine v_iload dX5_isItem_89 rfl ?_
              refine n_if_ne (tgt := 98) dX5_isItem_91 (by decide) (by omega) (fun c91 => ?_) (fun c91 => absurd c91 (by omega))
              refine v_iconst (x := nI 1) dX5_isItem_98 (by decide +kernel) ?_
              refine n_iadd dX5_isItem_99 ?_
              refine pX5_2 dX5_isItem_100 in_X5_isItem_X5 fl_X5_isItem_82 ?_
              refine v_aload_n dX5_isItem_103 rfl ?_
              refine v_get (j := 28) iO40 rfl dX5_isItem_104 (by decide) in_X5_isItem_X5 fl_X5_isItem_69 rfl ?_
              refine v_iload dX5_isItem_107 rfl ?_
              refine v_iload_n dX5_isItem_109 rfl ?_
              refine v_if_eq (tgt := 120) dX5_isItem_110 (by decide) (fun c110 => ?_) (fun c110 => absurd rfl c110)
              refine v_iconst (x := (-1)) dX5_isItem_120 rfl ?_
              refine v_iastN 2 iI60 dX5_isItem_121 rfl (by decide) (by decide) ?_
              refine v_aload_n dX5_isItem_122 rfl ?_
              refine v_get (j := 28) iO40 rfl dX5_isItem_123 (by decide) in_X5_isItem_X5 fl_X5_isItem_69 rfl ?_
              refine v_iload dX5_isItem_126 rfl ?_
              refine v_ialdN 2 iI60 dX5_isItem_128 rfl (by decide) (by decide) ?_
              refine v_top (y := -1) (sI_at _ _ _ _) ?_
              refine v_if_lt (tgt := 136) dX5_isItem_129 (by decide) (fun c129 => ?_) (fun c129 => absurd (by decide) c129)
              refine v_iconst (x := nI 0) dX5_isItem_136 (by decide +kernel) ?_
              refine v_istore_n (L' := [(3, _), (4, _), (2, _), (1, _), (0, _)]) dX5_isItem_137 rfl (by decide) rfl ?_
              refine n_iinc (n := 1) (L' := [(4, _), (3, _), (2, _), (1, _), (0, _)]) dX5_isItem_138 rfl (by decide) rfl ?_
              refine v_goto (tgt := 38) dX5_isItem_141 (by decide) ?_
              refine v_iload dX5_isItem_38 rfl ?_
              refine v_iload_n dX5_isItem_40 rfl ?_
              refine n_icmp_ge (tgt := 144) dX5_isItem_41 (by decide) (by omega) (by omega) (fun c41 => ?_) (fun c41 => absurd c41 (by omega))
              refine v_iload_n dX5_isItem_144 rfl ?_
              refine v_if_eq (tgt := 177) dX5_isItem_145 (by decide) (fun c145 => ?_) (fun c145 => absurd rfl c145)
              refine v_iconst (x := nI 0) dX5_isItem_177 (by decide +kernel) ?_
              refine v_istore_n (L' := [(3, _), (4, _), (2, _), (1, _), (0, _)]) dX5_isItem_178 rfl (by decide) rfl ?_
              refine v_aload_n dX5_isItem_179 rfl ?_
              refine v_dup dX5_isItem_180 rfl ?_
              refine v_get (j := 2) iO40 rfl dX5_isItem_181 (by decide) in_X5_isItem_X5 fl_X5_isItem_82 rfl ?_
              refine v_top (y := nI ((((p + 1) + t0 + 1) + t1) + 1)) ((sI_ne _ _ (by omega)).trans (sI_at _ _ _ _)) ?_
              refine v_iconst (x := nI 1) dX5_isItem_184 (by decide +kernel) ?_
              refine n_iadd dX5_isItem_185 ?_
              refine pX5_2 dX5_isItem_186 in_X5_isItem_X5 fl_X5_isItem_82 ?_
              refine v_iload_n dX5_isItem_189 rfl ?_
              refine v_if_eq (tgt := 205) dX5_isItem_190 (by decide) (fun c190 => ?_) (fun c190 => absurd rfl c190)
              refine v_iconst (x := nI 0) dX5_isItem_205 (by decide +kernel) ?_
              exact v_zret rfl (by decide) dX5_isItem_206 ⟨congrArg (fun z => some (Value.int z)) (bI_f (by rw [itemAt_no_a e9 (by rw [i3]; simp only [(show n1 u len (p + 1) 44 = some (valF u (p + 1) t0, ((p + 1) + t0 + 1)) from by rw [n1_td D0 E0 (by decide), if_pos ⟨T0, S0⟩]), (show n1 u len ((p + 1) + t0 + 1) 44 = none from by rw [n1_td D1 E1 (by decide), if_neg (fun q => by rw [S1] at q; cases q.2)])])]; rfl)), ((((((((((hI0.at _).at _).at _).got 0 _).at _).at _).got 1 _).at _).got 2 _).at _).2.2, fun q9 w9 h9 => by rw [itemAt_no_a e9 (by rw [i3]; simp only [(show n1 u len (p + 1) 44 = some (valF u (p + 1) t0, ((p + 1) + t0 + 1)) from by rw [n1_td D0 E0 (by decide), if_pos ⟨T0, S0⟩]), (show n1 u len ((p + 1) + t0 + 1) 44 = none from by rw [n1_td D1 E1 (by decide), if_neg (fun q => by rw [S1] at q; cases q.2)])])] at h9; cases h9⟩
            · have S1 : sepAt u len (((p + 1) + t0 + 1) + t1) 44 = true := sepAt_iff.mpr ⟨c61, (sb_asc _ (hM.2.2 _ c61).1 44 (by decide)).mp c75⟩
              refine v_iconst (x := nI 1) dX5_isItem_78 (by decide +kernel) ?_
              refine v_goto (tgt := 83) dX5_isItem_79 (by decide) ?_
              refine v_istore_n (L' := [(3, _), (4, _), (2, _), (1, _), (0, _)]) dX5_isItem_83 rfl (by decide) rfl ?_
              obtain ⟨t2, D2, E2, B2⟩ := ex_td u len (((p + 1) + t0 + 1) + t1 + 1)
              refine v_aload_n dX5_isItem_84 rfl ?_
              refine v_dup dX5_isItem_85 rfl ?_
              refine v_get (j := 2) iO40 rfl dX5_isItem_86 (by decide) in_X5_isItem_X5 fl_X5_isItem_82 rfl ?_
              refine v_top (y := nI (((p + 1) + t0 + 1) + t1)) ((sI_ne _ _ (by omega)).trans (sI_at _ _ _ _)) ?_
              refine v_iload dX5_isItem_89 rfl ?_
              refine n_if_ne (tgt := 98) dX5_isItem_91 (by decide) (by omega) (fun c91 => ?_) (fun c91 => absurd c91 (by omega))
              refine v_iconst (x := nI 1) dX5_isItem_98 (by decide +kernel) ?_
              refine n_iadd dX5_isItem_99 ?_
              refine pX5_2 dX5_isItem_100 in_X5_isItem_X5 fl_X5_isItem_82 ?_
              refine v_aload_n dX5_isItem_103 rfl ?_
              refine v_get (j := 28) iO40 rfl dX5_isItem_104 (by decide) in_X5_isItem_X5 fl_X5_isItem_69 rfl ?_
              refine v_iload dX5_isItem_107 rfl ?_
              refine v_iload_n dX5_isItem_109 rfl ?_
              refine v_if_eq (tgt := 120) dX5_isItem_110 (by decide) (fun c110 => absurd c110 (by decide)) (fun c110 => ?_)
              refine v_aload_n dX5_isItem_113 rfl ?_
              refine v_callVi (M' := M_X5_number) (As := []) iO40 (s_X5_number ((((((((hI0.at _).at _).at _).got 0 _).at _).at _).got 1 _).at _).1 (p := (((p + 1) + t0 + 1) + t1 + 1)) (t := t2) (sI_at _ _ _ _) D2 E2 (by omega)) dX5_isItem_114 gX5_isItem_X5_number rfl rfl nn_X5_number ⟨rfl, rfl⟩ ⟨by decide, by decide⟩ rfl rfl (Nat.le_of_ble_eq_true rfl) ?_
              refine v_goto (tgt := 121) dX5_isItem_117 (by decide) ?_
              by_cases T2 : 1 ≤ t2 ∧ t2 ≤ 3
              · refine v_top (y := nI (valF u (((p + 1) + t0 + 1) + t1 + 1) t2)) (if_pos T2) ?_
                have V2 := td_lt D2 T2
                refine v_iastN 2 iI60 dX5_isItem_121 rfl (by decide) (by decide) ?_
                refine v_aload_n dX5_isItem_122 rfl ?_
                refine v_get (j := 28) iO40 rfl dX5_isItem_123 (by decide) in_X5_isItem_X5 fl_X5_isItem_69 rfl ?_
                refine v_iload dX5_isItem_126 rfl ?_
                refine v_ialdN 2 iI60 dX5_isItem_128 rfl (by decide) (by decide) ?_
                refine v_top (y := nI (valF u (((p + 1) + t0 + 1) + t1 + 1) t2)) (sI_at _ _ _ _) ?_
                refine n_if_lt (tgt := 136) dX5_isItem_129 (by decide) (by omega) ?_
                refine v_iconst (x := nI 1) dX5_isItem_132 (by decide +kernel) ?_
                refine v_goto (tgt := 137) dX5_isItem_133 (by decide) ?_
                refine v_istore_n (L' := [(3, _), (4, _), (2, _), (1, _), (0, _)]) dX5_isItem_137 rfl (by decide) rfl ?_
                refine n_iinc (n := 1) (L' := [(4, _), (3, _), (2, _), (1, _), (0, _)]) dX5_isItem_138 rfl (by decide) rfl ?_
                refine v_goto (tgt := 38) dX5_isItem_141 (by decide) ?_
                refine v_iload dX5_isItem_38 rfl ?_
                refine v_iload_n dX5_isItem_40 rfl ?_
                refine n_icmp_ge (tgt := 144) dX5_isItem_41 (by decide) (by omega) (by omega) (fun c41 => ?_) (fun c41 => absurd c41 (by omega))
                refine v_iload_n dX5_isItem_144 rfl ?_
                refine v_if_eq (tgt := 177) dX5_isItem_145 (by decide) (fun c145 => absurd c145 (by decide)) (fun c145 => ?_)
                refine v_aload_n dX5_isItem_148 rfl ?_
                refine v_get (j := 2) iO40 rfl dX5_isItem_149 (by decide) in_X5_isItem_X5 fl_X5_isItem_82 rfl ?_
                refine v_top (y := nI ((((p + 1) + t0 + 1) + t1 + 1) + t2)) ((sI_ne _ _ (by omega)).trans (sI_at _ _ _ _)) ?_
                refine v_aload_n dX5_isItem_152 rfl ?_
                refine v_get (j := 0) iO40 rfl dX5_isItem_153 (by decide) in_X5_isItem_X5 fl_X5_isItem_78 rfl ?_
                refine v_top (y := nI len) ((((((((((hI0.at _).at _).at _).got 0 _).at _).at _).got 1 _).at _).at _).got 2 _).1.1 ?_
                refine n_icmp_ge (tgt := 177) dX5_isItem_156 (by decide) (by omega) (by omega) (fun c156 => ?_) (fun c156 => ?_)
                · have S2 : sepAt u len ((((p + 1) + t0 + 1) + t1 + 1) + t2) 59 = false := by rw [sepAt, decide_eq_false (by omega)]; rfl
                  refine v_iconst (x := nI 0) dX5_isItem_177 (by decide +kernel) ?_
                  refine v_istore_n (L' := [(3, _), (4, _), (2, _), (1, _), (0, _)]) dX5_isItem_178 rfl (by decide) rfl ?_
                  refine v_aload_n dX5_isItem_179 rfl ?_
                  refine v_dup dX5_isItem_180 rfl ?_
                  refine v_get (j := 2) iO40 rfl dX5_isItem_181 (by decide) in_X5_isItem_X5 fl_X5_isItem_82 rfl ?_
                  refine v_top (y := nI ((((p + 1) + t0 + 1) + t1 + 1) + t2)) ((sI_ne _ _ (by omega)).trans (sI_at _ _ _ _)) ?_
                  refine v_iconst (x := nI 1) dX5_isItem_184 (by decide +kernel) ?_
                  refine n_iadd dX5_isItem_185 ?_
                  refine pX5_2 dX5_isItem_186 in_X5_isItem_X5 fl_X5_isItem_82 ?_
                  refine v_iload_n dX5_isItem_189 rfl ?_
                  refine v_if_eq (tgt := 205) dX5_isItem_190 (by decide) (fun c190 => ?_) (fun c190 => absurd rfl c190)
                  refine v_iconst (x := nI 0) dX5_isItem_205 (by decide +kernel) ?_
                  exact v_zret rfl (by decide) dX5_isItem_206 ⟨congrArg (fun z => some (Value.int z)) (bI_f (by rw [itemAt_no_a e9 (by rw [i3]; simp only [(show n1 u len (p + 1) 44 = some (valF u (p + 1) t0, ((p + 1) + t0 + 1)) from by rw [n1_td D0 E0 (by decide), if_pos ⟨T0, S0⟩]), (show n1 u len ((p + 1) + t0 + 1) 44 = some (valF u ((p + 1) + t0 + 1) t1, (((p + 1) + t0 + 1) + t1 + 1)) from by rw [n1_td D1 E1 (by decide), if_pos ⟨T1, S1⟩]), (show n1 u len (((p + 1) + t0 + 1) + t1 + 1) 59 = none from by rw [n1_td59 D2 E2, if_neg (fun q => by rw [S2] at q; cases q.2)])])]; rfl)), (((((((((((hI0.at _).at _).at _).got 0 _).at _).at _).got 1 _).at _).at _).got 2 _).at _).2.2, fun q9 w9 h9 => by rw [itemAt_no_a e9 (by rw [i3]; simp only [(show n1 u len (p + 1) 44 = some (valF u (p + 1) t0, ((p + 1) + t0 + 1)) from by rw [n1_td D0 E0 (by decide), if_pos ⟨T0, S0⟩]), (show n1 u len ((p + 1) + t0 + 1) 44 = some (valF u ((p + 1) + t0 + 1) t1, (((p + 1) + t0 + 1) + t1 + 1)) from by rw [n1_td D1 E1 (by decide), if_pos ⟨T1, S1⟩]), (show n1 u len (((p + 1) + t0 + 1) + t1 + 1) 59 = none from by rw [n1_td59 D2 E2, if_neg (fun q => by rw [S2] at q; cases q.2)])])] at h9; cases h9⟩
                · refine v_aload_n dX5_isItem_159 rfl ?_
                  refine v_get (j := 1) iO40 rfl dX5_isItem_160 (by decide) in_X5_isItem_X5 fl_X5_isItem_7 rfl ?_
                  refine v_aload_n dX5_isItem_163 rfl ?_
                  refine v_get (j := 2) iO40 rfl dX5_isItem_164 (by decide) in_X5_isItem_X5 fl_X5_isItem_82 rfl ?_
                  refine v_top (y := nI ((((p + 1) + t0 + 1) + t1 + 1) + t2)) ((sI_ne _ _ (by omega)).trans (sI_at _ _ _ _)) ?_
                  refine v_baldN ((((p + 1) + t0 + 1) + t1 + 1) + t2) iB41 dX5_isItem_167 rfl (by omega) (by decide) ?_
                  refine v_top (y := sb_b (u ((((p + 1) + t0 + 1) + t1 + 1) + t2))) (((((((((((hI0.at _).at _).at _).got 0 _).at _).at _).got 1 _).at _).at _).got 2 _).1.2.2 ((((p + 1) + t0 + 1) + t1 + 1) + t2) c156).2 ?_
                  refine v_bipush (x := nI 59) dX5_isItem_168 (by decide +kernel) ?_
                  refine v_icmp_ne (tgt := 177) dX5_isItem_170 (by decide) (fun c170 => ?_) (fun c170 => ?_)
                  · have S2 : sepAt u len ((((p + 1) + t0 + 1) + t1 + 1) + t2) 59 = false := by rw [sepAt, decide_eq_false (p := u ((((p + 1) + t0 + 1) + t1 + 1) + t2) = 59) (fun q => c170 ((sb_asc _ (hM.2.2 _ c156).1 59 (by decide)).mpr q)), Bool.and_false]
                    refine v_iconst (x := nI 0) dX5_isItem_177 (by decide +kernel) ?_
                    refine v_istore_n (L' := [(3, _), (4, _), (2, _), (1, _), (0, _)]) dX5_isItem_178 rfl (by decide) rfl ?_
                    refine v_aload_n dX5_isItem_179 rfl ?_
                    refine v_dup dX5_isItem_180 rfl ?_
                    refine v_get (j := 2) iO40 rfl dX5_isItem_181 (by decide) in_X5_isItem_X5 fl_X5_isItem_82 rfl ?_
                    refine v_top (y := nI ((((p + 1) + t0 + 1) + t1 + 1) + t2)) ((sI_ne _ _ (by omega)).trans (sI_at _ _ _ _)) ?_
                    refine v_iconst (x := nI 1) dX5_isItem_184 (by decide +kernel) ?_
                    refine n_iadd dX5_isItem_185 ?_
                    refine pX5_2 dX5_isItem_186 in_X5_isItem_X5 fl_X5_isItem_82 ?_
                    refine v_iload_n dX5_isItem_189 rfl ?_
                    refine v_if_eq (tgt := 205) dX5_isItem_190 (by decide) (fun c190 => ?_) (fun c190 => absurd rfl c190)
                    refine v_iconst (x := nI 0) dX5_isItem_205 (by decide +kernel) ?_
                    exact v_zret rfl (by decide) dX5_isItem_206 ⟨congrArg (fun z => some (Value.int z)) (bI_f (by rw [itemAt_no_a e9 (by rw [i3]; simp only [(show n1 u len (p + 1) 44 = some (valF u (p + 1) t0, ((p + 1) + t0 + 1)) from by rw [n1_td D0 E0 (by decide), if_pos ⟨T0, S0⟩]), (show n1 u len ((p + 1) + t0 + 1) 44 = some (valF u ((p + 1) + t0 + 1) t1, (((p + 1) + t0 + 1) + t1 + 1)) from by rw [n1_td D1 E1 (by decide), if_pos ⟨T1, S1⟩]), (show n1 u len (((p + 1) + t0 + 1) + t1 + 1) 59 = none from by rw [n1_td59 D2 E2, if_neg (fun q => by rw [S2] at q; cases q.2)])])]; rfl)), (((((((((((hI0.at _).at _).at _).got 0 _).at _).at _).got 1 _).at _).at _).got 2 _).at _).2.2, fun q9 w9 h9 => by rw [itemAt_no_a e9 (by rw [i3]; simp only [(show n1 u len (p + 1) 44 = some (valF u (p + 1) t0, ((p + 1) + t0 + 1)) from by rw [n1_td D0 E0 (by decide), if_pos ⟨T0, S0⟩]), (show n1 u len ((p + 1) + t0 + 1) 44 = some (valF u ((p + 1) + t0 + 1) t1, (((p + 1) + t0 + 1) + t1 + 1)) from by rw [n1_td D1 E1 (by decide), if_pos ⟨T1, S1⟩]), (show n1 u len (((p + 1) + t0 + 1) + t1 + 1) 59 = none from by rw [n1_td59 D2 E2, if_neg (fun q => by rw [S2] at q; cases q.2)])])] at h9; cases h9⟩
                  · have S2 : sepAt u len ((((p + 1) + t0 + 1) + t1 + 1) + t2) 59 = true := sepAt_iff.mpr ⟨c156, (sb_asc _ (hM.2.2 _ c156).1 59 (by decide)).mp c170⟩
                    refine v_iconst (x := nI 1) dX5_isItem_173 (by decide +kernel) ?_
                    refine v_goto (tgt := 178) dX5_isItem_174 (by decide) ?_
                    refine v_istore_n (L' := [(3, _), (4, _), (2, _), (1, _), (0, _)]) dX5_isItem_178 rfl (by decide) rfl ?_
                    refine v_aload_n dX5_isItem_179 rfl ?_
                    refine v_dup dX5_isItem_180 rfl ?_
                    refine v_get (j := 2) iO40 rfl dX5_isItem_181 (by decide) in_X5_isItem_X5 fl_X5_isItem_82 rfl ?_
                    refine v_top (y := nI ((((p + 1) + t0 + 1) + t1 + 1) + t2)) ((sI_ne _ _ (by omega)).trans (sI_at _ _ _ _)) ?_
                    refine v_iconst (x := nI 1) dX5_isItem_184 (by decide +kernel) ?_
                    refine n_iadd dX5_isItem_185 ?_
                    refine pX5_2 dX5_isItem_186 in_X5_isItem_X5 fl_X5_isItem_82 ?_
                    refine v_iload_n dX5_isItem_189 rfl ?_
                    refine v_if_eq (tgt := 205) dX5_isItem_190 (by decide) (fun c190 => absurd c190 (by decide)) (fun c190 => ?_)
                    refine v_aload_n dX5_isItem_193 rfl ?_
                    refine v_iload_n dX5_isItem_194 rfl ?_
                    refine v_callVRi (M' := M_X5_isGood) (As := [_]) iO40 (s_X5_isGood_a (((((((((((hI0.at _).at _).at _).got 0 _).at _).at _).got 1 _).at _).at _).got 2 _).at _).2.1 hv (td_lt D0 T0) (td_lt D1 T1) (td_lt D2 T2) (by simp [sI, upd]) (by simp [sI, upd]) (by simp [sI, upd])) dX5_isItem_195 gX5_isItem_X5_isGood rfl rfl nn_X5_isGood ⟨rfl, rfl⟩ ⟨by decide, by decide⟩ rfl rfl (Nat.le_of_ble_eq_true rfl) (fun s1 h1 => ?_)
                    refine b_if_eq (tgt := 205) dX5_isItem_198 (by decide) (fun c198 => ?_) (fun c198 => ?_)
                    · have hx9 : iA w (valF u (p + 1) t0) (valF u ((p + 1) + t0 + 1) t1) (valF u (((p + 1) + t0 + 1) + t1 + 1) t2) = none := by cases h : iA w (valF u (p + 1) t0) (valF u ((p + 1) + t0 + 1) t1) (valF u (((p + 1) + t0 + 1) + t1 + 1) t2) with | none => rfl | some y => rw [h] at c198; cases c198
                      refine v_iconst (x := nI 0) dX5_isItem_205 (by decide +kernel) ?_
                      exact v_zret rfl (by decide) dX5_isItem_206 ⟨congrArg (fun z => some (Value.int z)) (bI_f (by rw [itemAt_yes_a (a := valF u (p + 1) t0) (c := valF u ((p + 1) + t0 + 1) t1) (d := valF u (((p + 1) + t0 + 1) + t1 + 1) t2) (q := ((((p + 1) + t0 + 1) + t1 + 1) + t2 + 1)) e9 (by rw [i3]; simp only [(show n1 u len (p + 1) 44 = some (valF u (p + 1) t0, ((p + 1) + t0 + 1)) from by rw [n1_td D0 E0 (by decide), if_pos ⟨T0, S0⟩]), (show n1 u len ((p + 1) + t0 + 1) 44 = some (valF u ((p + 1) + t0 + 1) t1, (((p + 1) + t0 + 1) + t1 + 1)) from by rw [n1_td D1 E1 (by decide), if_pos ⟨T1, S1⟩]), (show n1 u len (((p + 1) + t0 + 1) + t1 + 1) 59 = some (valF u (((p + 1) + t0 + 1) + t1 + 1) t2, ((((p + 1) + t0 + 1) + t1 + 1) + t2 + 1)) from by rw [n1_td59 D2 E2, if_pos ⟨T2, S2⟩])]), hx9]; rfl)), (((((((((((hI0.at _).at _).at _).got 0 _).at _).at _).got 1 _).at _).at _).got 2 _).at _).2.2.tr h1.1, fun q9 w9 h9 => by rw [itemAt_yes_a (a := valF u (p + 1) t0) (c := valF u ((p + 1) + t0 + 1) t1) (d := valF u (((p + 1) + t0 + 1) + t1 + 1) t2) (q := ((((p + 1) + t0 + 1) + t1 + 1) + t2 + 1)) e9 (by rw [i3]; simp only [(show n1 u len (p + 1) 44 = some (valF u (p + 1) t0, ((p + 1) + t0 + 1)) from by rw [n1_td D0 E0 (by decide), if_pos ⟨T0, S0⟩]), (show n1 u len ((p + 1) + t0 + 1) 44 = some (valF u ((p + 1) + t0 + 1) t1, (((p + 1) + t0 + 1) + t1 + 1)) from by rw [n1_td D1 E1 (by decide), if_pos ⟨T1, S1⟩]), (show n1 u len (((p + 1) + t0 + 1) + t1 + 1) 59 = some (valF u (((p + 1) + t0 + 1) + t1 + 1) t2, ((((p + 1) + t0 + 1) + t1 + 1) + t2 + 1)) from by rw [n1_td59 D2 E2, if_pos ⟨T2, S2⟩])]), hx9] at h9; cases h9⟩
                    · obtain ⟨y9, hx9⟩ : ∃ y, iA w (valF u (p + 1) t0) (valF u ((p + 1) + t0 + 1) t1) (valF u (((p + 1) + t0 + 1) + t1 + 1) t2) = some y := by cases h : iA w (valF u (p + 1) t0) (valF u ((p + 1) + t0 + 1) t1) (valF u (((p + 1) + t0 + 1) + t1 + 1) t2) with | none => rw [h] at c198; cases c198 | some y => exact ⟨y, rfl⟩
                      refine v_iconst (x := nI 1) dX5_isItem_201 (by decide +kernel) ?_
                      refine v_goto (tgt := 206) dX5_isItem_202 (by decide) ?_
                      exact v_zret rfl (by decide) dX5_isItem_206 ⟨congrArg (fun z => some (Value.int z)) (bI_t (by rw [itemAt_yes_a (a := valF u (p + 1) t0) (c := valF u ((p + 1) + t0 + 1) t1) (d := valF u (((p + 1) + t0 + 1) + t1 + 1) t2) (q := ((((p + 1) + t0 + 1) + t1 + 1) + t2 + 1)) e9 (by rw [i3]; simp only [(show n1 u len (p + 1) 44 = some (valF u (p + 1) t0, ((p + 1) + t0 + 1)) from by rw [n1_td D0 E0 (by decide), if_pos ⟨T0, S0⟩]), (show n1 u len ((p + 1) + t0 + 1) 44 = some (valF u ((p + 1) + t0 + 1) t1, (((p + 1) + t0 + 1) + t1 + 1)) from by rw [n1_td D1 E1 (by decide), if_pos ⟨T1, S1⟩]), (show n1 u len (((p + 1) + t0 + 1) + t1 + 1) 59 = some (valF u (((p + 1) + t0 + 1) + t1 + 1) t2, ((((p + 1) + t0 + 1) + t1 + 1) + t2 + 1)) from by rw [n1_td59 D2 E2, if_pos ⟨T2, S2⟩])]), hx9]; rfl)), (((((((((((hI0.at _).at _).at _).got 0 _).at _).at _).got 1 _).at _).at _).got 2 _).at _).2.2.tr h1.1, fun q9 w9 h9 => by rw [itemAt_yes_a (a := valF u (p + 1) t0) (c := valF u ((p + 1) + t0 + 1) t1) (d := valF u (((p + 1) + t0 + 1) + t1 + 1) t2) (q := ((((p + 1) + t0 + 1) + t1 + 1) + t2 + 1)) e9 (by rw [i3]; simp only [(show n1 u len (p + 1) 44 = some (valF u (p + 1) t0, ((p + 1) + t0 + 1)) from by rw [n1_td D0 E0 (by decide), if_pos ⟨T0, S0⟩]), (show n1 u len ((p + 1) + t0 + 1) 44 = some (valF u ((p + 1) + t0 + 1) t1, (((p + 1) + t0 + 1) + t1 + 1)) from by rw [n1_td D1 E1 (by decide), if_pos ⟨T1, S1⟩]), (show n1 u len (((p + 1) + t0 + 1) + t1 + 1) 59 = some (valF u (((p + 1) + t0 + 1) + t1 + 1) t2, ((((p + 1) + t0 + 1) + t1 + 1) + t2 + 1)) from by rw [n1_td59 D2 E2, if_pos ⟨T2, S2⟩])]), hx9] at h9; cases h9; exact ⟨h1.2.1 _ hx9, h1.2.2.trans (sI_at _ _ _ _)⟩⟩
              · refine v_top (y := -1) (if_neg T2) ?_
                refine v_iastN 2 iI60 dX5_isItem_121 rfl (by decide) (by decide) ?_
                refine v_aload_n dX5_isItem_122 rfl ?_
                refine v_get (j := 28) iO40 rfl dX5_isItem_123 (by decide) in_X5_isItem_X5 fl_X5_isItem_69 rfl ?_
                refine v_iload dX5_isItem_126 rfl ?_
                refine v_ialdN 2 iI60 dX5_isItem_128 rfl (by decide) (by decide) ?_
                refine v_top (y := -1) (sI_at _ _ _ _) ?_
                refine v_if_lt (tgt := 136) dX5_isItem_129 (by decide) (fun c129 => ?_) (fun c129 => absurd (by decide) c129)
                refine v_iconst (x := nI 0) dX5_isItem_136 (by decide +kernel) ?_
                refine v_istore_n (L' := [(3, _), (4, _), (2, _), (1, _), (0, _)]) dX5_isItem_137 rfl (by decide) rfl ?_
                refine n_iinc (n := 1) (L' := [(4, _), (3, _), (2, _), (1, _), (0, _)]) dX5_isItem_138 rfl (by decide) rfl ?_
                refine v_goto (tgt := 38) dX5_isItem_141 (by decide) ?_
                refine v_iload dX5_isItem_38 rfl ?_
                refine v_iload_n dX5_isItem_40 rfl ?_
                refine n_icmp_ge (tgt := 144) dX5_isItem_41 (by decide) (by omega) (by omega) (fun c41 => ?_) (fun c41 => absurd c41 (by omega))
                refine v_iload_n dX5_isItem_144 rfl ?_
                refine v_if_eq (tgt := 177) dX5_isItem_145 (by decide) (fun c145 => ?_) (fun c145 => absurd rfl c145)
                refine v_iconst (x := nI 0) dX5_isItem_177 (by decide +kernel) ?_
                refine v_istore_n (L' := [(3, _), (4, _), (2, _), (1, _), (0, _)]) dX5_isItem_178 rfl (by decide) rfl ?_
                refine v_aload_n dX5_isItem_179 rfl ?_
                refine v_dup dX5_isItem_180 rfl ?_
                refine v_get (j := 2) iO40 rfl dX5_isItem_181 (by decide) in_X5_isItem_X5 fl_X5_isItem_82 rfl ?_
                refine v_top (y := nI ((((p + 1) + t0 + 1) + t1 + 1) + t2)) ((sI_ne _ _ (by omega)).trans (sI_at _ _ _ _)) ?_
                refine v_iconst (x := nI 1) dX5_isItem_184 (by decide +kernel) ?_
                refine n_iadd dX5_isItem_185 ?_
                refine pX5_2 dX5_isItem_186 in_X5_isItem_X5 fl_X5_isItem_82 ?_
                refine v_iload_n dX5_isItem_189 rfl ?_
                refine v_if_eq (tgt := 205) dX5_isItem_190 (by decide) (fun c190 => ?_) (fun c190 => absurd rfl c190)
                refine v_iconst (x := nI 0) dX5_isItem_205 (by decide +kernel) ?_
                exact v_zret rfl (by decide) dX5_isItem_206 ⟨congrArg (fun z => some (Value.int z)) (bI_f (by rw [itemAt_no_a e9 (by rw [i3]; simp only [(show n1 u len (p + 1) 44 = some (valF u (p + 1) t0, ((p + 1) + t0 + 1)) from by rw [n1_td D0 E0 (by decide), if_pos ⟨T0, S0⟩]), (show n1 u len ((p + 1) + t0 + 1) 44 = some (valF u ((p + 1) + t0 + 1) t1, (((p + 1) + t0 + 1) + t1 + 1)) from by rw [n1_td D1 E1 (by decide), if_pos ⟨T1, S1⟩]), (show n1 u len (((p + 1) + t0 + 1) + t1 + 1) 59 = none from by rw [n1_td59 D2 E2, if_neg (fun q => T2 q.1)])])]; rfl)), (((((((((((hI0.at _).at _).at _).got 0 _).at _).at _).got 1 _).at _).at _).got 2 _).at _).2.2, fun q9 w9 h9 => by rw [itemAt_no_a e9 (by rw [i3]; simp only [(show n1 u len (p + 1) 44 = some (valF u (p + 1) t0, ((p + 1) + t0 + 1)) from by rw [n1_td D0 E0 (by decide), if_pos ⟨T0, S0⟩]), (show n1 u len ((p + 1) + t0 + 1) 44 = some (valF u ((p + 1) + t0 + 1) t1, (((p + 1) + t0 + 1) + t1 + 1)) from by rw [n1_td D1 E1 (by decide), if_pos ⟨T1, S1⟩]), (show n1 u len (((p + 1) + t0 + 1) + t1 + 1) 59 = none from by rw [n1_td59 D2 E2, if_neg (fun q => T2 q.1)])])] at h9; cases h9⟩
        · refine v_top (y := -1) (if_neg T1) ?_
          refine v_iastN 1 iI60 dX5_isItem_121 rfl (by decide) (by decide) ?_
          refine v_aload_n dX5_isItem_122 rfl ?_
          refine v_get (j := 28) iO40 rfl dX5_isItem_123 (by decide) in_X5_isItem_X5 fl_X5_isItem_69 rfl ?_
          refine v_iload dX5_isItem_126 rfl ?_
          refine v_ialdN 1 iI60 dX5_isItem_128 rfl (by decide) (by decide) ?_
          refine v_top (y := -1) (sI_at _ _ _ _) ?_
          refine v_if_lt (tgt := 136) dX5_isItem_129 (by decide) (fun c129 => ?_) (fun c129 => absurd (by decide) c129)
          refine v_iconst (x := nI 0) dX5_isItem_136 (by decide +kernel) ?_
          refine v_istore_n (L' := [(3, _), (4, _), (2, _), (1, _), (0, _)]) dX5_isItem_137 rfl (by decide) rfl ?_
          refine n_iinc (n := 1) (L' := [(4, _), (3, _), (2, _), (1, _), (0, _)]) dX5_isItem_138 rfl (by decide) rfl ?_
          refine v_goto (tgt := 38) dX5_isItem_141 (by decide) ?_
          refine v_iload dX5_isItem_38 rfl ?_
          refine v_iload_n dX5_isItem_40 rfl ?_
          refine n_icmp_ge (tgt := 144) dX5_isItem_41 (by decide) (by omega) (by omega) (fun c41 => absurd c41 (by omega)) (fun c41 => ?_)
          refine v_iload_n dX5_isItem_44 rfl ?_
          refine v_if_eq (tgt := 144) dX5_isItem_45 (by decide) (fun c45 => ?_) (fun c45 => absurd rfl c45)
          refine v_iload_n dX5_isItem_144 rfl ?_
          refine v_if_eq (tgt := 177) dX5_isItem_145 (by decide) (fun c145 => ?_) (fun c145 => absurd rfl c145)
          refine v_iconst (x := nI 0) dX5_isItem_177 (by decide +kernel) ?_
          refine v_istore_n (L' := [(3, _), (4, _), (2, _), (1, _), (0, _)]) dX5_isItem_178 rfl (by decide) rfl ?_
          refine v_aload_n dX5_isItem_179 rfl ?_
          refine v_dup dX5_isItem_180 rfl ?_
          refine v_get (j := 2) iO40 rfl dX5_isItem_181 (by decide) in_X5_isItem_X5 fl_X5_isItem_82 rfl ?_
          refine v_top (y := nI (((p + 1) + t0 + 1) + t1)) ((sI_ne _ _ (by omega)).trans (sI_at _ _ _ _)) ?_
          refine v_iconst (x := nI 1) dX5_isItem_184 (by decide +kernel) ?_
          refine n_iadd dX5_isItem_185 ?_
          refine pX5_2 dX5_isItem_186 in_X5_isItem_X5 fl_X5_isItem_82 ?_
          refine v_iload_n dX5_isItem_189 rfl ?_
          refine v_if_eq (tgt := 205) dX5_isItem_190 (by decide) (fun c190 => ?_) (fun c190 => absurd rfl c190)
          refine v_iconst (x := nI 0) dX5_isItem_205 (by decide +kernel) ?_
          exact v_zret rfl (by decide) dX5_isItem_206 ⟨congrArg (fun z => some (Value.int z)) (bI_f (by rw [itemAt_no_a e9 (by rw [i3]; simp only [(show n1 u len (p + 1) 44 = some (valF u (p + 1) t0, ((p + 1) + t0 + 1)) from by rw [n1_td D0 E0 (by decide), if_pos ⟨T0, S0⟩]), (show n1 u len ((p + 1) + t0 + 1) 44 = none from by rw [n1_td D1 E1 (by decide), if_neg (fun q => T1 q.1)])])]; rfl)), ((((((((hI0.at _).at _).at _).got 0 _).at _).at _).got 1 _).at _).2.2, fun q9 w9 h9 => by rw [itemAt_no_a e9 (by rw [i3]; simp only [(show n1 u len (p + 1) 44 = some (valF u (p + 1) t0, ((p + 1) + t0 + 1)) from by rw [n1_td D0 E0 (by decide), if_pos ⟨T0, S0⟩]), (show n1 u len ((p + 1) + t0 + 1) 44 = none from by rw [n1_td D1 E1 (by decide), if_neg (fun q => T1 q.1)])])] at h9; cases h9⟩
  · refine v_top (y := -1) (if_neg T0) ?_
    refine v_iastN 0 iI60 dX5_isItem_121 rfl (by decide) (by decide) ?_
    refine v_aload_n dX5_isItem_122 rfl ?_
    refine v_get (j := 28) iO40 rfl dX5_isItem_123 (by decide) in_X5_isItem_X5 fl_X5_isItem_69 rfl ?_
    refine v_iload dX5_isItem_126 rfl ?_
    refine v_ialdN 0 iI60 dX5_isItem_128 rfl (by decide) (by decide) ?_
    refine v_top (y := -1) (sI_at _ _ _ _) ?_
    refine v_if_lt (tgt := 136) dX5_isItem_129 (by decide) (fun c129 => ?_) (fun c129 => absurd (by decide) c129)
    refine v_iconst (x := nI 0) dX5_isItem_136 (by decide +kernel) ?_
    refine v_istore_n (L' := [(3, _), (4, _), (2, _), (1, _), (0, _)]) dX5_isItem_137 rfl (by decide) rfl ?_
    refine n_iinc (n := 1) (L' := [(4, _), (3, _), (2, _), (1, _), (0, _)]) dX5_isItem_138 rfl (by decide) rfl ?_
    refine v_goto (tgt := 38) dX5_isItem_141 (by decide) ?_
    refine v_iload dX5_isItem_38 rfl ?_
    refine v_iload_n dX5_isItem_40 rfl ?_
    refine n_icmp_ge (tgt := 144) dX5_isItem_41 (by decide) (by omega) (by omega) (fun c41 => absurd c41 (by omega)) (fun c41 => ?_)
    refine v_iload_n dX5_isItem_44 rfl ?_
    refine v_if_eq (tgt := 144) dX5_isItem_45 (by decide) (fun c45 => ?_) (fun c45 => absurd rfl c45)
    refine v_iload_n dX5_isItem_144 rfl ?_
    refine v_if_eq (tgt := 177) dX5_isItem_145 (by decide) (fun c145 => ?_) (fun c145 => absurd rfl c145)
    refine v_iconst (x := nI 0) dX5_isItem_177 (by decide +kernel) ?_
    refine v_istore_n (L' := [(3, _), (4, _), (2, _), (1, _), (0, _)]) dX5_isItem_178 rfl (by decide) rfl ?_
    refine v_aload_n dX5_isItem_179 rfl ?_
    refine v_dup dX5_isItem_180 rfl ?_
    refine v_get (j := 2) iO40 rfl dX5_isItem_181 (by decide) in_X5_isItem_X5 fl_X5_isItem_82 rfl ?_
    refine v_top (y := nI ((p + 1) + t0)) ((sI_ne _ _ (by omega)).trans (sI_at _ _ _ _)) ?_
    refine v_iconst (x := nI 1) dX5_isItem_184 (by decide +kernel) ?_
    refine n_iadd dX5_isItem_185 ?_
    refine pX5_2 dX5_isItem_186 in_X5_isItem_X5 fl_X5_isItem_82 ?_
    refine v_iload_n dX5_isItem_189 rfl ?_
    refine v_if_eq (tgt := 205) dX5_isItem_190 (by decide) (fun c190 => ?_) (fun c190 => absurd rfl c190)
    refine v_iconst (x := nI 0) dX5_isItem_205 (by decide +kernel) ?_
    exact v_zret rfl (by decide) dX5_isItem_206 ⟨congrArg (fun z => some (Value.int z)) (bI_f (by rw [itemAt_no_a e9 (by rw [i3]; simp only [(show n1 u len (p + 1) 44 = none from by rw [n1_td D0 E0 (by decide), if_neg (fun q => T0 q.1)])])]; rfl)), (((((hI0.at _).at _).at _).got 0 _).at _).2.2, fun q9 w9 h9 => by rw [itemAt_no_a e9 (by rw [i3]; simp only [(show n1 u len (p + 1) 44 = none from by rw [n1_td D0 E0 (by decide), if_neg (fun q => T0 q.1)])])] at h9; cases h9⟩
set_option maxRecDepth 100000 in
set_option maxHeartbeats 4000000 in
theorem s_X5_isItem_w {v : EE} {u : Nat → Nat} {len : Nat} {w : WD} {z : Nat} {σ : SS} (hM : MTx u len σ) (hw : MH 1 w σ) (hv : WV z w) {p : Nat} (ha : σ.1 40 2 = nI p) (hp : p < len) (e9 : u p = 119) : SR v M_X5_isItem [.ref (v.1 40)] σ (some (.int (bI (itemAt u len p w).isSome))) (fun σ' => FD σ σ' ∧ ∀ q w', itemAt u len p w = some (q, w') → MH 1 w' σ' ∧ σ'.1 40 2 = nI q) := by
  refine Sp.of rfl (by decide) rfl (Nat.le_of_ble_eq_true rfl) ?_
  show V v M_X5_isItem _ 0 [(0, .ref (v.1 40))] [] σ
  have hl := hM.2.1
  have hI0 : MI u len w σ σ := ⟨hM, hw, FD.rf σ⟩
  refine v_aload_n dX5_isItem_0 rfl ?_
  refine v_get (j := 1) iO40 rfl dX5_isItem_1 (by decide) in_X5_isItem_X5 fl_X5_isItem_7 rfl ?_
  refine v_aload_n dX5_isItem_4 rfl ?_
  refine v_get (j := 2) iO40 rfl dX5_isItem_5 (by decide) in_X5_isItem_X5 fl_X5_isItem_82 rfl ?_
  refine v_top ha ?_
  refine v_baldN p iB41 dX5_isItem_8 rfl (by omega) (by decide) ?_
  refine v_top (y := nI 119) ((hM.2.2 p hp).2.trans (by rw [e9]; decide +kernel)) ?_
  refine v_istore_n (L' := [(1, _), (0, _)]) dX5_isItem_9 rfl (by decide) rfl ?_
  refine v_aload_n dX5_isItem_10 rfl ?_
  refine v_dup dX5_isItem_11 rfl ?_
  refine v_get (j := 2) iO40 rfl dX5_isItem_12 (by decide) in_X5_isItem_X5 fl_X5_isItem_82 rfl ?_
  refine v_top ha ?_
  refine v_iconst (x := nI 1) dX5_isItem_15 (by decide +kernel) ?_
  refine n_iadd dX5_isItem_16 ?_
  refine pX5_2 dX5_isItem_17 in_X5_isItem_X5 fl_X5_isItem_82 ?_
  refine v_iload_n dX5_isItem_20 rfl ?_
  refine v_callSi (M' := M_X5_figures) (As := [_]) (s_X5_figures_119) dX5_isItem_21 gX5_isItem_X5_figures rfl nn_X5_figures ⟨rfl, rfl⟩ ⟨by decide, by decide⟩ rfl rfl (Nat.le_of_ble_eq_true rfl) ?_
  refine v_istore_n (L' := [(2, _), (1, _), (0, _)]) dX5_isItem_24 rfl (by decide) rfl ?_
  refine v_iload_n dX5_isItem_25 rfl ?_
  refine n_if_le (tgt := 33) dX5_isItem_26 (by decide) (by omega) (fun c26 => absurd c26 (by omega)) (fun c26 => ?_)
  refine v_iconst (x := nI 1) dX5_isItem_29 (by decide +kernel) ?_
  refine v_goto (tgt := 34) dX5_isItem_30 (by decide) ?_
  refine v_istore_n (L' := [(3, _), (2, _), (1, _), (0, _)]) dX5_isItem_34 rfl (by decide) rfl ?_
  refine v_iconst (x := nI 0) dX5_isItem_35 (by decide +kernel) ?_
  refine v_istore (L' := [(4, _), (3, _), (2, _), (1, _), (0, _)]) dX5_isItem_36 (by decide) rfl ?_
  refine v_iload dX5_isItem_38 rfl ?_
  refine v_iload_n dX5_isItem_40 rfl ?_
  refine n_icmp_ge (tgt := 144) dX5_isItem_41 (by decide) (by omega) (by omega) (fun c41 => absurd c41 (by omega)) (fun c41 => ?_)
  refine v_iload_n dX5_isItem_44 rfl ?_
  refine v_if_eq (tgt := 144) dX5_isItem_45 (by decide) (fun c45 => absurd c45 (by decide)) (fun c45 => ?_)
  refine v_iload dX5_isItem_48 rfl ?_
  refine n_if_eq (tgt := 78) dX5_isItem_50 (by decide) (by omega) (fun c50 => ?_) (fun c50 => absurd c50 (by omega))
  refine v_iconst (x := nI 1) dX5_isItem_78 (by decide +kernel) ?_
  refine v_goto (tgt := 83) dX5_isItem_79 (by decide) ?_
  refine v_istore_n (L' := [(3, _), (4, _), (2, _), (1, _), (0, _)]) dX5_isItem_83 rfl (by decide) rfl ?_
  obtain ⟨t0, D0, E0, B0⟩ := ex_td u len (p + 1)
  refine v_aload_n dX5_isItem_84 rfl ?_
  refine v_dup dX5_isItem_85 rfl ?_
  refine v_get (j := 2) iO40 rfl dX5_isItem_86 (by decide) in_X5_isItem_X5 fl_X5_isItem_82 rfl ?_
  refine v_top (y := nI (p + 1)) (sI_at _ _ _ _) ?_
  refine v_iload dX5_isItem_89 rfl ?_
  refine n_if_ne (tgt := 98) dX5_isItem_91 (by decide) (by omega) (fun c91 => absurd c91 (by omega)) (fun c91 => ?_)
  refine v_iconst (x := nI 0) dX5_isItem_94 (by decide +kernel) ?_
  refine v_goto (tgt := 99) dX5_isItem_95 (by decide) ?_
  refine n_iadd dX5_isItem_99 ?_
  refine pX5_2 dX5_isItem_100 in_X5_isItem_X5 fl_X5_isItem_82 ?_
  refine v_aload_n dX5_isItem_103 rfl ?_
  refine v_get (j := 28) iO40 rfl dX5_isItem_104 (by decide) in_X5_isItem_X5 fl_X5_isItem_69 rfl ?_
  refine v_iload dX5_isItem_107 rfl ?_
  refine v_iload_n dX5_isItem_109 rfl ?_
  refine v_if_eq (tgt := 120) dX5_isItem_110 (by decide) (fun c110 => absurd c110 (by decide)) (fun c110 => ?_)
  refine v_aload_n dX5_isItem_113 rfl ?_
  refine v_callVi (M' := M_X5_number) (As := []) iO40 (s_X5_number ((hI0.at _).at _).1 (p := (p + 1)) (t := t0) (sI_at _ _ _ _) D0 E0 (by omega)) dX5_isItem_114 gX5_isItem_X5_number rfl rfl nn_X5_number ⟨rfl, rfl⟩ ⟨by decide, by decide⟩ rfl rfl (Nat.le_of_ble_eq_true rfl) ?_
  refine v_goto (tgt := 121) dX5_isItem_117 (by decide) ?_
  by_cases T0 : 1 ≤ t0 ∧ t0 ≤ 3
  · refine v_top (y := nI (valF u (p + 1) t0)) (if_pos T0) ?_
    have V0 := td_lt D0 T0
    refine v_iastN 0 iI60 dX5_isItem_121 rfl (by decide) (by decide) ?_
    refine v_aload_n dX5_isItem_122 rfl ?_
    refine v_get (j := 28) iO40 rfl dX5_isItem_123 (by decide) in_X5_isItem_X5 fl_X5_isItem_69 rfl ?_
    refine v_iload dX5_isItem_126 rfl ?_
    refine v_ialdN 0 iI60 dX5_isItem_128 rfl (by decide) (by decide) ?_
    refine v_top (y := nI (valF u (p + 1) t0)) (sI_at _ _ _ _) ?_
    refine n_if_lt (tgt := 136) dX5_isItem_129 (by decide) (by omega) ?_
    refine v_iconst (x := nI 1) dX5_isItem_132 (by decide +kernel) ?_
    refine v_goto (tgt := 137) dX5_isItem_133 (by decide) ?_
    refine v_istore_n (L' := [(3, _), (4, _), (2, _), (1, _), (0, _)]) dX5_isItem_137 rfl (by decide) rfl ?_
    refine n_iinc (n := 1) (L' := [(4, _), (3, _), (2, _), (1, _), (0, _)]) dX5_isItem_138 rfl (by decide) rfl ?_
    refine v_goto (tgt := 38) dX5_isItem_141 (by decide) ?_
    refine v_iload dX5_isItem_38 rfl ?_
    refine v_iload_n dX5_isItem_40 rfl ?_
    refine n_icmp_ge (tgt := 144) dX5_isItem_41 (by decide) (by omega) (by omega) (fun c41 => ?_) (fun c41 => absurd c41 (by omega))
    refine v_iload_n dX5_isItem_144 rfl ?_
    refine v_if_eq (tgt := 177) dX5_isItem_145 (by decide) (fun c145 => absurd c145 (by decide)) (fun c145 => ?_)
    refine v_aload_n dX5_isItem_148 rfl ?_
    refine v_get (j := 2) iO40 rfl dX5_isItem_149 (by decide) in_X5_isItem_X5 fl_X5_isItem_82 rfl ?_
    refine v_top (y := nI ((p + 1) + t0)) ((sI_ne _ _ (by omega)).trans (sI_at _ _ _ _)) ?_
    refine v_aload_n dX5_isItem_152 rfl ?_
    refine v_get (j := 0) iO40 rfl dX5_isItem_153 (by decide) in_X5_isItem_X5 fl_X5_isItem_78 rfl ?_
    refine v_top (y := nI len) ((((hI0.at _).at _).at _).got 0 _).1.1 ?_
    refine n_icmp_ge (tgt := 177) dX5_isItem_156 (by decide) (by omega) (by omega) (fun c156 => ?_) (fun c156 => ?_)
    · have S0 : sepAt u len ((p + 1) + t0) 59 = false := by rw [sepAt, decide_eq_false (by omega)]; rfl
      refine v_iconst (x := nI 0) dX5_isItem_177 (by decide +kernel) ?_
      refine v_istore_n (L' := [(3, _), (4, _), (2, _), (1, _), (0, _)]) dX5_isItem_178 rfl (by decide) rfl ?_
      refine v_aload_n dX5_isItem_179 rfl ?_
      refine v_dup dX5_isItem_180 rfl ?_
      refine v_get (j := 2) iO40 rfl dX5_isItem_181 (by decide) in_X5_isItem_X5 fl_X5_isItem_82 rfl ?_
      refine v_top (y := nI ((p + 1) + t0)) ((sI_ne _ _ (by omega)).trans (sI_at _ _ _ _)) ?_
      refine v_iconst (x := nI 1) dX5_isItem_184 (by decide +kernel) ?_
      refine n_iadd dX5_isItem_185 ?_
      refine pX5_2 dX5_isItem_186 in_X5_isItem_X5 fl_X5_isItem_82 ?_
      refine v_iload_n dX5_isItem_189 rfl ?_
      refine v_if_eq (tgt := 205) dX5_isItem_190 (by decide) (fun c190 => ?_) (fun c190 => absurd rfl c190)
      refine v_iconst (x := nI 0) dX5_isItem_205 (by decide +kernel) ?_
      exact v_zret rfl (by decide) dX5_isItem_206 ⟨congrArg (fun z => some (Value.int z)) (bI_f (by rw [itemAt_no_w e9 (by rw [i1]; simp only [(show n1 u len (p + 1) 59 = none from by rw [n1_td59 D0 E0, if_neg (fun q => by rw [S0] at q; cases q.2)])])]; rfl)), (((((hI0.at _).at _).at _).got 0 _).at _).2.2, fun q9 w9 h9 => by rw [itemAt_no_w e9 (by rw [i1]; simp only [(show n1 u len (p + 1) 59 = none from by rw [n1_td59 D0 E0, if_neg (fun q => by rw [S0] at q; cases q.2)])])] at h9; cases h9⟩
    · refine v_aload_n dX5_isItem_159 rfl ?_
      refine v_get (j := 1) iO40 rfl dX5_isItem_160 (by decide) in_X5_isItem_X5 fl_X5_isItem_7 rfl ?_
      refine v_aload_n dX5_isItem_163 rfl ?_
      refine v_get (j := 2) iO40 rfl dX5_isItem_164 (by decide) in_X5_isItem_X5 fl_X5_isItem_82 rfl ?_
      refine v_top (y := nI ((p + 1) + t0)) ((sI_ne _ _ (by omega)).trans (sI_at _ _ _ _)) ?_
      refine v_baldN ((p + 1) + t0) iB41 dX5_isItem_167 rfl (by omega) (by decide) ?_
      refine v_top (y := sb_b (u ((p + 1) + t0))) (((((hI0.at _).at _).at _).got 0 _).1.2.2 ((p + 1) + t0) c156).2 ?_
      refine v_bipush (x := nI 59) dX5_isItem_168 (by decide +kernel) ?_
      refine v_icmp_ne (tgt := 177) dX5_isItem_170 (by decide) (fun c170 => ?_) (fun c170 => ?_)
      · have S0 : sepAt u len ((p + 1) + t0) 59 = false := by rw [sepAt, decide_eq_false (p := u ((p + 1) + t0) = 59) (fun q => c170 ((sb_asc _ (hM.2.2 _ c156).1 59 (by decide)).mpr q)), Bool.and_false]
        refine v_iconst (x := nI 0) dX5_isItem_177 (by decide +kernel) ?_
        refine v_istore_n (L' := [(3, _), (4, _), (2, _), (1, _), (0, _)]) dX5_isItem_178 rfl (by decide) rfl ?_
        refine v_aload_n dX5_isItem_179 rfl ?_
        refine v_dup dX5_isItem_180 rfl ?_
        refine v_get (j := 2) iO40 rfl dX5_isItem_181 (by decide) in_X5_isItem_X5 fl_X5_isItem_82 rfl ?_
        refine v_top (y := nI ((p + 1) + t0)) ((sI_ne _ _ (by omega)).trans (sI_at _ _ _ _)) ?_
        refine v_iconst (x := nI 1) dX5_isItem_184 (by decide +kernel) ?_
        refine n_iadd dX5_isItem_185 ?_
        refine pX5_2 dX5_isItem_186 in_X5_isItem_X5 fl_X5_isItem_82 ?_
        refine v_iload_n dX5_isItem_189 rfl ?_
        refine v_if_eq (tgt := 205) dX5_isItem_190 (by decide) (fun c190 => ?_) (fun c190 => absurd rfl c190)
        refine v_iconst (x := nI 0) dX5_isItem_205 (by decide +kernel) ?_
        exact v_zret rfl (by decide) dX5_isItem_206 ⟨congrArg (fun z => some (Value.int z)) (bI_f (by rw [itemAt_no_w e9 (by rw [i1]; simp only [(show n1 u len (p + 1) 59 = none from by rw [n1_td59 D0 E0, if_neg (fun q => by rw [S0] at q; cases q.2)])])]; rfl)), (((((hI0.at _).at _).at _).got 0 _).at _).2.2, fun q9 w9 h9 => by rw [itemAt_no_w e9 (by rw [i1]; simp only [(show n1 u len (p + 1) 59 = none from by rw [n1_td59 D0 E0, if_neg (fun q => by rw [S0] at q; cases q.2)])])] at h9; cases h9⟩
      · have S0 : sepAt u len ((p + 1) + t0) 59 = true := sepAt_iff.mpr ⟨c156, (sb_asc _ (hM.2.2 _ c156).1 59 (by decide)).mp c170⟩
        refine v_iconst (x := nI 1) dX5_isItem_173 (by decide +kernel) ?_
        refine v_goto (tgt := 178) dX5_isItem_174 (by decide) ?_
        refine v_istore_n (L' := [(3, _), (4, _), (2, _), (1, _), (0, _)]) dX5_isItem_178 rfl (by decide) rfl ?_
        refine v_aload_n dX5_isItem_179 rfl ?_
        refine v_dup dX5_isItem_180 rfl ?_
        refine v_get (j := 2) iO40 rfl dX5_isItem_181 (by decide) in_X5_isItem_X5 fl_X5_isItem_82 rfl ?_
        refine v_top (y := nI ((p + 1) + t0)) ((sI_ne _ _ (by omega)).trans (sI_at _ _ _ _)) ?_
        refine v_iconst (x := nI 1) dX5_isItem_184 (by decide +kernel) ?_
        refine n_iadd dX5_isItem_185 ?_
        refine pX5_2 dX5_isItem_186 in_X5_isItem_X5 fl_X5_isItem_82 ?_
        refine v_iload_n dX5_isItem_189 rfl ?_
        refine v_if_eq (tgt := 205) dX5_isItem_190 (by decide) (fun c190 => absurd c190 (by decide)) (fun c190 => ?_)
        refine v_aload_n dX5_isItem_193 rfl ?_
        refine v_iload_n dX5_isItem_194 rfl ?_
        refine v_callVRi (M' := M_X5_isGood) (As := [_]) iO40 (s_X5_isGood_w (((((hI0.at _).at _).at _).got 0 _).at _).2.1 hv (td_lt D0 T0) (by simp [sI, upd])) dX5_isItem_195 gX5_isItem_X5_isGood rfl rfl nn_X5_isGood ⟨rfl, rfl⟩ ⟨by decide, by decide⟩ rfl rfl (Nat.le_of_ble_eq_true rfl) (fun s1 h1 => ?_)
        refine b_if_eq (tgt := 205) dX5_isItem_198 (by decide) (fun c198 => ?_) (fun c198 => ?_)
        · have hx9 : iW w (valF u (p + 1) t0) = none := by cases h : iW w (valF u (p + 1) t0) with | none => rfl | some y => rw [h] at c198; cases c198
          refine v_iconst (x := nI 0) dX5_isItem_205 (by decide +kernel) ?_
          exact v_zret rfl (by decide) dX5_isItem_206 ⟨congrArg (fun z => some (Value.int z)) (bI_f (by rw [itemAt_yes_w (a := valF u (p + 1) t0) (q := ((p + 1) + t0 + 1)) e9 (by rw [i1]; simp only [(show n1 u len (p + 1) 59 = some (valF u (p + 1) t0, ((p + 1) + t0 + 1)) from by rw [n1_td59 D0 E0, if_pos ⟨T0, S0⟩])]), hx9]; rfl)), (((((hI0.at _).at _).at _).got 0 _).at _).2.2.tr h1.1, fun q9 w9 h9 => by rw [itemAt_yes_w (a := valF u (p + 1) t0) (q := ((p + 1) + t0 + 1)) e9 (by rw [i1]; simp only [(show n1 u len (p + 1) 59 = some (valF u (p + 1) t0, ((p + 1) + t0 + 1)) from by rw [n1_td59 D0 E0, if_pos ⟨T0, S0⟩])]), hx9] at h9; cases h9⟩
        · obtain ⟨y9, hx9⟩ : ∃ y, iW w (valF u (p + 1) t0) = some y := by cases h : iW w (valF u (p + 1) t0) with | none => rw [h] at c198; cases c198 | some y => exact ⟨y, rfl⟩
          refine v_iconst (x := nI 1) dX5_isItem_201 (by decide +kernel) ?_
          refine v_goto (tgt := 206) dX5_isItem_202 (by decide) ?_
          exact v_zret rfl (by decide) dX5_isItem_206 ⟨congrArg (fun z => some (Value.int z)) (bI_t (by rw [itemAt_yes_w (a := valF u (p + 1) t0) (q := ((p + 1) + t0 + 1)) e9 (by rw [i1]; simp only [(show n1 u len (p + 1) 59 = some (valF u (p + 1) t0, ((p + 1) + t0 + 1)) from by rw [n1_td59 D0 E0, if_pos ⟨T0, S0⟩])]), hx9]; rfl)), (((((hI0.at _).at _).at _).got 0 _).at _).2.2.tr h1.1, fun q9 w9 h9 => by rw [itemAt_yes_w (a := valF u (p + 1) t0) (q := ((p + 1) + t0 + 1)) e9 (by rw [i1]; simp only [(show n1 u len (p + 1) 59 = some (valF u (p + 1) t0, ((p + 1) + t0 + 1)) from by rw [n1_td59 D0 E0, if_pos ⟨T0, S0⟩])]), hx9] at h9; cases h9; exact ⟨h1.2.1 _ hx9, h1.2.2.trans (sI_at _ _ _ _)⟩⟩
  · refine v_top (y := -1) (if_neg T0) ?_
    refine v_iastN 0 iI60 dX5_isItem_121 rfl (by decide) (by decide) ?_
    refine v_aload_n dX5_isItem_122 rfl ?_
    refine v_get (j := 28) iO40 rfl dX5_isItem_123 (by decide) in_X5_isItem_X5 fl_X5_isItem_69 rfl ?_
    refine v_iload dX5_isItem_126 rfl ?_
    refine v_ialdN 0 iI60 dX5_isItem_128 rfl (by decide) (by decide) ?_
    refine v_top (y := -1) (sI_at _ _ _ _) ?_
    refine v_if_lt (tgt := 136) dX5_isItem_129 (by decide) (fun c129 => ?_) (fun c129 => absurd (by decide) c129)
    refine v_iconst (x := nI 0) dX5_isItem_136 (by decide +kernel) ?_
    refine v_istore_n (L' := [(3, _), (4, _), (2, _), (1, _), (0, _)]) dX5_isItem_137 rfl (by decide) rfl ?_
    refine n_iinc (n := 1) (L' := [(4, _), (3, _), (2, _), (1, _), (0, _)]) dX5_isItem_138 rfl (by decide) rfl ?_
    refine v_goto (tgt := 38) dX5_isItem_141 (by decide) ?_
    refine v_iload dX5_isItem_38 rfl ?_
    refine v_iload_n dX5_isItem_40 rfl ?_
    refine n_icmp_ge (tgt := 144) dX5_isItem_41 (by decide) (by omega) (by omega) (fun c41 => ?_) (fun c41 => absurd c41 (by omega))
    refine v_iload_n dX5_isItem_144 rfl ?_
    refine v_if_eq (tgt := 177) dX5_isItem_145 (by decide) (fun c145 => ?_) (fun c145 => absurd rfl c145)
    refine v_iconst (x := nI 0) dX5_isItem_177 (by decide +kernel) ?_
    refine v_istore_n (L' := [(3, _), (4, _), (2, _), (1, _), (0, _)]) dX5_isItem_178 rfl (by decide) rfl ?_
    refine v_aload_n dX5_isItem_179 rfl ?_
    refine v_dup dX5_isItem_180 rfl ?_
    refine v_get (j := 2) iO40 rfl dX5_isItem_181 (by decide) in_X5_isItem_X5 fl_X5_isItem_82 rfl ?_
    refine v_top (y := nI ((p + 1) + t0)) ((sI_ne _ _ (by omega)).trans (sI_at _ _ _ _)) ?_
    refine v_iconst (x := nI 1) dX5_isItem_184 (by decide +kernel) ?_
    refine n_iadd dX5_isItem_185 ?_
    refine pX5_2 dX5_isItem_186 in_X5_isItem_X5 fl_X5_isItem_82 ?_
    refine v_iload_n dX5_isItem_189 rfl ?_
    refine v_if_eq (tgt := 205) dX5_isItem_190 (by decide) (fun c190 => ?_) (fun c190 => absurd rfl c190)
    refine v_iconst (x := nI 0) dX5_isItem_205 (by decide +kernel) ?_
    exact v_zret rfl (by decide) dX5_isItem_206 ⟨congrArg (fun z => some (Value.int z)) (bI_f (by rw [itemAt_no_w e9 (by rw [i1]; simp only [(show n1 u len (p + 1) 59 = none from by rw [n1_td59 D0 E0, if_neg (fun q => T0 q.1)])])]; rfl)), (((((hI0.at _).at _).at _).got 0 _).at _).2.2, fun q9 w9 h9 => by rw [itemAt_no_w e9 (by rw [i1]; simp only [(show n1 u len (p + 1) 59 = none from by rw [n1_td59 D0 E0, if_neg (fun q => T0 q.1)])])] at h9; cases h9⟩
