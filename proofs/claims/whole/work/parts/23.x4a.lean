theorem in_X4_alike_X4 : ∀ w ∈ u_ws RX4 TX4 8, w ∈ mWs M_X4_alike := by decide +kernel
theorem in_X4_areTwoParts_X4 : ∀ w ∈ u_ws RX4 TX4 8, w ∈ mWs M_X4_areTwoParts := by decide +kernel
theorem in_X4_asks_X4 : ∀ w ∈ u_ws RX4 TX4 8, w ∈ mWs M_X4_asks := by decide +kernel
theorem in_X4_count_X2 : ∀ w ∈ u_ws RX2 TX2 3, w ∈ mWs M_X4_count := by decide +kernel
theorem in_X4_count_X3 : ∀ w ∈ u_ws RX3 TX3 12, w ∈ mWs M_X4_count := by decide +kernel
theorem in_X4_count_X4 : ∀ w ∈ u_ws RX4 TX4 8, w ∈ mWs M_X4_count := by decide +kernel
theorem in_X4_grown_X3 : ∀ w ∈ u_ws RX3 TX3 12, w ∈ mWs M_X4_grown := by decide +kernel
theorem in_X4_grown_X4 : ∀ w ∈ u_ws RX4 TX4 8, w ∈ mWs M_X4_grown := by decide +kernel
theorem in_X4_in_X4 : ∀ w ∈ u_ws RX4 TX4 8, w ∈ mWs M_X4_in := by decide +kernel
theorem in_X4_may_X4 : ∀ w ∈ u_ws RX4 TX4 8, w ∈ mWs M_X4_may := by decide +kernel
theorem in_X4_men_X4 : ∀ w ∈ u_ws RX4 TX4 8, w ∈ mWs M_X4_men := by decide +kernel
theorem in_X4_sign_X3 : ∀ w ∈ u_ws RX3 TX3 12, w ∈ mWs M_X4_sign := by decide +kernel
theorem in_X4_sign_X4 : ∀ w ∈ u_ws RX4 TX4 8, w ∈ mWs M_X4_sign := by decide +kernel
theorem in_X4_stones_X4 : ∀ w ∈ u_ws RX4 TX4 8, w ∈ mWs M_X4_stones := by decide +kernel
theorem fl_X4_alike_42 : Cond.fieldLink (mOwn M_X4_alike) 42 (TX4 5).1 (TX4 5).2.1 (TX4 5).2.2.1 ∈ mWs M_X4_alike := by decide +kernel
theorem fl_X4_areTwoParts_42 : Cond.fieldLink (mOwn M_X4_areTwoParts) 42 (TX4 5).1 (TX4 5).2.1 (TX4 5).2.2.1 ∈ mWs M_X4_areTwoParts := by decide +kernel
theorem fl_X4_asks_42 : Cond.fieldLink (mOwn M_X4_asks) 42 (TX4 5).1 (TX4 5).2.1 (TX4 5).2.2.1 ∈ mWs M_X4_asks := by decide +kernel
theorem fl_X4_count_12 : Cond.fieldLink (mOwn M_X4_count) 12 (TX4 0).1 (TX4 0).2.1 (TX4 0).2.2.1 ∈ mWs M_X4_count := by decide +kernel
theorem fl_X4_count_42 : Cond.fieldLink (mOwn M_X4_count) 42 (TX4 5).1 (TX4 5).2.1 (TX4 5).2.2.1 ∈ mWs M_X4_count := by decide +kernel
theorem fl_X4_count_49 : Cond.fieldLink (mOwn M_X4_count) 49 (TX4 7).1 (TX4 7).2.1 (TX4 7).2.2.1 ∈ mWs M_X4_count := by decide +kernel
theorem fl_X4_count_53 : Cond.fieldLink (mOwn M_X4_count) 53 (TX2 2).1 (TX2 2).2.1 (TX2 2).2.2.1 ∈ mWs M_X4_count := by decide +kernel
theorem fl_X4_count_64 : Cond.fieldLink (mOwn M_X4_count) 64 (TX3 9).1 (TX3 9).2.1 (TX3 9).2.2.1 ∈ mWs M_X4_count := by decide +kernel
theorem fl_X4_count_121 : Cond.fieldLink (mOwn M_X4_count) 121 (TX3 8).1 (TX3 8).2.1 (TX3 8).2.2.1 ∈ mWs M_X4_count := by decide +kernel
theorem fl_X4_count_265 : Cond.fieldLink (mOwn M_X4_count) 265 (TX3 10).1 (TX3 10).2.1 (TX3 10).2.2.1 ∈ mWs M_X4_count := by decide +kernel
theorem fl_X4_grown_42 : Cond.fieldLink (mOwn M_X4_grown) 42 (TX4 5).1 (TX4 5).2.1 (TX4 5).2.2.1 ∈ mWs M_X4_grown := by decide +kernel
theorem fl_X4_grown_74 : Cond.fieldLink (mOwn M_X4_grown) 74 (TX3 1).1 (TX3 1).2.1 (TX3 1).2.2.1 ∈ mWs M_X4_grown := by decide +kernel
theorem fl_X4_in_42 : Cond.fieldLink (mOwn M_X4_in) 42 (TX4 5).1 (TX4 5).2.1 (TX4 5).2.2.1 ∈ mWs M_X4_in := by decide +kernel
theorem fl_X4_may_42 : Cond.fieldLink (mOwn M_X4_may) 42 (TX4 5).1 (TX4 5).2.1 (TX4 5).2.2.1 ∈ mWs M_X4_may := by decide +kernel
theorem fl_X4_men_42 : Cond.fieldLink (mOwn M_X4_men) 42 (TX4 5).1 (TX4 5).2.1 (TX4 5).2.2.1 ∈ mWs M_X4_men := by decide +kernel
theorem fl_X4_sign_42 : Cond.fieldLink (mOwn M_X4_sign) 42 (TX4 5).1 (TX4 5).2.1 (TX4 5).2.2.1 ∈ mWs M_X4_sign := by decide +kernel
theorem fl_X4_sign_71 : Cond.fieldLink (mOwn M_X4_sign) 71 (TX3 0).1 (TX3 0).2.1 (TX3 0).2.2.1 ∈ mWs M_X4_sign := by decide +kernel
theorem fl_X4_sign_74 : Cond.fieldLink (mOwn M_X4_sign) 74 (TX3 1).1 (TX3 1).2.1 (TX3 1).2.2.1 ∈ mWs M_X4_sign := by decide +kernel
theorem fl_X4_stones_42 : Cond.fieldLink (mOwn M_X4_stones) 42 (TX4 5).1 (TX4 5).2.1 (TX4 5).2.2.1 ∈ mWs M_X4_stones := by decide +kernel
theorem nn_X3_allStones : (mY M_X3_allStones).cls = mOwn M_X3_allStones ∧ (mY M_X3_allStones).cls ≠ "java/lang/invoke/MethodHandle" ∧ (mY M_X3_allStones).cls ≠ "java/lang/invoke/VarHandle" ∧ (parseMethodDescriptor (mY M_X3_allStones).desc).map (fun d => d.parameters.length) = some 0 := by decide +kernel
theorem nn_X3_columnOf : (mY M_X3_columnOf).cls = mOwn M_X3_columnOf ∧ (mY M_X3_columnOf).cls ≠ "java/lang/invoke/MethodHandle" ∧ (mY M_X3_columnOf).cls ≠ "java/lang/invoke/VarHandle" ∧ (parseMethodDescriptor (mY M_X3_columnOf).desc).map (fun d => d.parameters.length) = some 1 := by decide +kernel
theorem nn_X3_firstWeekShowing : (mY M_X3_firstWeekShowing).cls = mOwn M_X3_firstWeekShowing ∧ (mY M_X3_firstWeekShowing).cls ≠ "java/lang/invoke/MethodHandle" ∧ (mY M_X3_firstWeekShowing).cls ≠ "java/lang/invoke/VarHandle" ∧ (parseMethodDescriptor (mY M_X3_firstWeekShowing).desc).map (fun d => d.parameters.length) = some 1 := by decide +kernel
theorem nn_X3_hasPart : (mY M_X3_hasPart).cls = mOwn M_X3_hasPart ∧ (mY M_X3_hasPart).cls ≠ "java/lang/invoke/MethodHandle" ∧ (mY M_X3_hasPart).cls ≠ "java/lang/invoke/VarHandle" ∧ (parseMethodDescriptor (mY M_X3_hasPart).desc).map (fun d => d.parameters.length) = some 1 := by decide +kernel
theorem nn_X3_mayHaveCut : (mY M_X3_mayHaveCut).cls = mOwn M_X3_mayHaveCut ∧ (mY M_X3_mayHaveCut).cls ≠ "java/lang/invoke/MethodHandle" ∧ (mY M_X3_mayHaveCut).cls ≠ "java/lang/invoke/VarHandle" ∧ (parseMethodDescriptor (mY M_X3_mayHaveCut).desc).map (fun d => d.parameters.length) = some 2 := by decide +kernel
theorem nn_X3_menAtMost : (mY M_X3_menAtMost).cls = mOwn M_X3_menAtMost ∧ (mY M_X3_menAtMost).cls ≠ "java/lang/invoke/MethodHandle" ∧ (mY M_X3_menAtMost).cls ≠ "java/lang/invoke/VarHandle" ∧ (parseMethodDescriptor (mY M_X3_menAtMost).desc).map (fun d => d.parameters.length) = some 1 := by decide +kernel
theorem nn_X3_oneCourseShowsBoth : (mY M_X3_oneCourseShowsBoth).cls = mOwn M_X3_oneCourseShowsBoth ∧ (mY M_X3_oneCourseShowsBoth).cls ≠ "java/lang/invoke/MethodHandle" ∧ (mY M_X3_oneCourseShowsBoth).cls ≠ "java/lang/invoke/VarHandle" ∧ (parseMethodDescriptor (mY M_X3_oneCourseShowsBoth).desc).map (fun d => d.parameters.length) = some 2 := by decide +kernel
theorem nn_X3_partsShowing : (mY M_X3_partsShowing).cls = mOwn M_X3_partsShowing ∧ (mY M_X3_partsShowing).cls ≠ "java/lang/invoke/MethodHandle" ∧ (mY M_X3_partsShowing).cls ≠ "java/lang/invoke/VarHandle" ∧ (parseMethodDescriptor (mY M_X3_partsShowing).desc).map (fun d => d.parameters.length) = some 1 := by decide +kernel
theorem nn_X3_signsIn : (mY M_X3_signsIn).cls = mOwn M_X3_signsIn ∧ (mY M_X3_signsIn).cls ≠ "java/lang/invoke/MethodHandle" ∧ (mY M_X3_signsIn).cls ≠ "java/lang/invoke/VarHandle" ∧ (parseMethodDescriptor (mY M_X3_signsIn).desc).map (fun d => d.parameters.length) = some 1 := by decide +kernel
theorem nn_X3_stonesOfPart : (mY M_X3_stonesOfPart).cls = mOwn M_X3_stonesOfPart ∧ (mY M_X3_stonesOfPart).cls ≠ "java/lang/invoke/MethodHandle" ∧ (mY M_X3_stonesOfPart).cls ≠ "java/lang/invoke/VarHandle" ∧ (parseMethodDescriptor (mY M_X3_stonesOfPart).desc).map (fun d => d.parameters.length) = some 2 := by decide +kernel
theorem nn_X3_stonesShowing : (mY M_X3_stonesShowing).cls = mOwn M_X3_stonesShowing ∧ (mY M_X3_stonesShowing).cls ≠ "java/lang/invoke/MethodHandle" ∧ (mY M_X3_stonesShowing).cls ≠ "java/lang/invoke/VarHandle" ∧ (parseMethodDescriptor (mY M_X3_stonesShowing).desc).map (fun d => d.parameters.length) = some 1 := by decide +kernel
theorem nn_X3_strokesOf : (mY M_X3_strokesOf).cls = mOwn M_X3_strokesOf ∧ (mY M_X3_strokesOf).cls ≠ "java/lang/invoke/MethodHandle" ∧ (mY M_X3_strokesOf).cls ≠ "java/lang/invoke/VarHandle" ∧ (parseMethodDescriptor (mY M_X3_strokesOf).desc).map (fun d => d.parameters.length) = some 1 := by decide +kernel
theorem nn_X4_areTwoParts : (mY M_X4_areTwoParts).cls = mOwn M_X4_areTwoParts ∧ (mY M_X4_areTwoParts).cls ≠ "java/lang/invoke/MethodHandle" ∧ (mY M_X4_areTwoParts).cls ≠ "java/lang/invoke/VarHandle" ∧ (parseMethodDescriptor (mY M_X4_areTwoParts).desc).map (fun d => d.parameters.length) = some 2 := by decide +kernel
set_option maxRecDepth 100000 in
set_option maxHeartbeats 4000000 in
theorem s_X4_areTwoParts {v : EE} {w : WD} {z : Nat} {σ : SS} (hla : isW σ.2.2.1) (hw : CH σ.2.2.1 w σ) (hv : WV z w) (p q : Int32) : S1 v M_X4_areTwoParts [.ref (v.1 0), .int p, .int q] σ (some (.int (bI (two w p q)))) (σ) := by
  refine Sp.of rfl (by decide) rfl (Nat.le_of_ble_eq_true rfl) ?_
  show V v M_X4_areTwoParts _ 0 [(0, .ref (v.1 0)), (1, .int p), (2, .int q)] [] σ
  refine v_aload_n dX4_areTwoParts_0 rfl ?_
  refine v_get (j := 5) iO0 rfl dX4_areTwoParts_1 (by decide) in_X4_areTwoParts_X4 fl_X4_areTwoParts_42 rfl ?_
  refine v_iload_n dX4_areTwoParts_4 rfl ?_
  refine v_callVi (M' := M_X3_hasPart) (As := [_]) (iWO hla) (s_X3_hasPart hla hw hv _) dX4_areTwoParts_5 gX4_areTwoParts_X3_hasPart rfl rfl nn_X3_hasPart ⟨rfl, rfl⟩ ⟨by decide, by decide⟩ rfl rfl (Nat.le_of_ble_eq_true rfl) ?_
  refine v_if_eq (tgt := 31) dX4_areTwoParts_8 (by decide) (fun c8 => ?_) (fun c8 => ?_)
  · refine v_iconst (x := 0) dX4_areTwoParts_31 rfl ?_
    exact v_zret rfl (by decide) dX4_areTwoParts_32 ⟨congrArg (fun z => some (Value.int z)) (bI_f (by rw [two, bI_0.mp c8]; rfl)), rfl⟩
  · refine v_aload_n dX4_areTwoParts_11 rfl ?_
    refine v_get (j := 5) iO0 rfl dX4_areTwoParts_12 (by decide) in_X4_areTwoParts_X4 fl_X4_areTwoParts_42 rfl ?_
    refine v_iload_n dX4_areTwoParts_15 rfl ?_
    refine v_callVi (M' := M_X3_hasPart) (As := [_]) (iWO hla) (s_X3_hasPart hla hw hv _) dX4_areTwoParts_16 gX4_areTwoParts_X3_hasPart rfl rfl nn_X3_hasPart ⟨rfl, rfl⟩ ⟨by decide, by decide⟩ rfl rfl (Nat.le_of_ble_eq_true rfl) ?_
    refine v_if_eq (tgt := 31) dX4_areTwoParts_19 (by decide) (fun c19 => ?_) (fun c19 => ?_)
    · refine v_iconst (x := 0) dX4_areTwoParts_31 rfl ?_
      exact v_zret rfl (by decide) dX4_areTwoParts_32 ⟨congrArg (fun z => some (Value.int z)) (bI_f (by rw [two, bI_0.mp c19, Bool.and_false]; rfl)), rfl⟩
    · refine v_iload_n dX4_areTwoParts_22 rfl ?_
      refine v_iload_n dX4_areTwoParts_23 rfl ?_
      refine v_icmp_eq (tgt := 31) dX4_areTwoParts_24 (by decide) (fun c24 => ?_) (fun c24 => ?_)
      · refine v_iconst (x := 0) dX4_areTwoParts_31 rfl ?_
        exact v_zret rfl (by decide) dX4_areTwoParts_32 ⟨congrArg (fun z => some (Value.int z)) (bI_f (by rw [two, decide_eq_true c24]; exact Bool.and_false _)), rfl⟩
      · refine v_iconst (x := 1) dX4_areTwoParts_27 rfl ?_
        refine v_goto (tgt := 32) dX4_areTwoParts_28 (by decide) ?_
        exact v_zret rfl (by decide) dX4_areTwoParts_32 ⟨congrArg (fun z => some (Value.int z)) (bI_t (by rw [two, bI_n0.mp c8, bI_n0.mp c19, decide_eq_false c24]; rfl)), rfl⟩
set_option maxRecDepth 100000 in
set_option maxHeartbeats 4000000 in
theorem s_X4_sign {v : EE} {w : WD} {z : Nat} {σ : SS} (hla : isW σ.2.2.1) (hw : CH σ.2.2.1 w σ) (hv : WV z w) (hz : z ≤ 1000000) (k what : Int32) : S1 v M_X4_sign [.ref (v.1 0), .int k, .int what] σ (some (.int (q_sign w k what))) (σ) := by
  refine Sp.of rfl (by decide) rfl (Nat.le_of_ble_eq_true rfl) ?_
  show V v M_X4_sign _ 0 [(0, .ref (v.1 0)), (1, .int k), (2, .int what)] [] σ
  refine v_aload_n dX4_sign_0 rfl ?_
  refine v_get (j := 5) iO0 rfl dX4_sign_1 (by decide) in_X4_sign_X4 fl_X4_sign_42 rfl ?_
  refine v_iload_n dX4_sign_4 rfl ?_
  refine v_callVi (M' := M_X3_hasSign) (As := [_]) (iWO hla) (s_X3_hasSign hla hw hv _) dX4_sign_5 gX4_sign_X3_hasSign rfl rfl nn_X3_hasSign ⟨rfl, rfl⟩ ⟨by decide, by decide⟩ rfl rfl (Nat.le_of_ble_eq_true rfl) ?_
  refine v_if_ne (tgt := 13) dX4_sign_8 (by decide) (fun c8 => ?_) (fun c8 => ?_)
  · obtain ⟨j, hj, hj2, rfl⟩ := isN_nI (bI_n0.mp c8)
    have hS := wv_S hv
    refine v_iload_n dX4_sign_13 rfl ?_
    rcases sw4 what with rfl | rfl | rfl | rfl | hsw
    · refine v_tableIn (off := 30) (tgt := 44) dX4_sign_14 (by decide +kernel) (by decide +kernel) rfl (by decide) ?_
      refine v_aload_n dX4_sign_44 rfl ?_
      refine v_get (j := 5) iO0 rfl dX4_sign_45 (by decide) in_X4_sign_X4 fl_X4_sign_42 rfl ?_
      refine v_get (j := 0) (iWO hla) rfl dX4_sign_48 (by decide) in_X4_sign_X3 fl_X4_sign_71 rfl ?_
      refine v_iload_n dX4_sign_51 rfl ?_
      refine v_ialdN j (iW1 hla) dX4_sign_52 rfl (by omega) (by decide) ?_
      refine v_top (ch_T hw hj) ?_
      exact v_iret rfl dX4_sign_53 ⟨congrArg (fun z => some (Value.int z)) (by rw [q_sign, if_pos (bI_n0.mp c8), nI_clamp hj2]; rfl), rfl⟩
    · refine v_tableIn (off := 40) (tgt := 54) dX4_sign_14 (by decide +kernel) (by decide +kernel) rfl (by decide) ?_
      refine v_aload_n dX4_sign_54 rfl ?_
      refine v_get (j := 5) iO0 rfl dX4_sign_55 (by decide) in_X4_sign_X4 fl_X4_sign_42 rfl ?_
      refine v_get (j := 1) (iWO hla) rfl dX4_sign_58 (by decide) in_X4_sign_X3 fl_X4_sign_74 rfl ?_
      refine v_iload_n dX4_sign_61 rfl ?_
      refine v_ialdN j (iW2 hla) dX4_sign_62 rfl (by omega) (by decide) ?_
      refine v_top (ch_G hw hj) ?_
      exact v_iret rfl dX4_sign_63 ⟨congrArg (fun z => some (Value.int z)) (by rw [q_sign, if_pos (bI_n0.mp c8), nI_clamp hj2]; rfl), rfl⟩
    · refine v_tableIn (off := 50) (tgt := 64) dX4_sign_14 (by decide +kernel) (by decide +kernel) rfl (by decide) ?_
      refine v_aload_n dX4_sign_64 rfl ?_
      refine v_get (j := 5) iO0 rfl dX4_sign_65 (by decide) in_X4_sign_X4 fl_X4_sign_42 rfl ?_
      refine v_iload_n dX4_sign_68 rfl ?_
      refine v_callVi (M' := M_X3_stonesShowing) (As := [_]) (iWO hla) (s_X3_stonesShowing hla hw hv (by omega)) dX4_sign_69 gX4_sign_X3_stonesShowing rfl rfl nn_X3_stonesShowing ⟨rfl, rfl⟩ ⟨by decide, by decide⟩ rfl rfl (Nat.le_of_ble_eq_true rfl) ?_
      exact v_iret rfl dX4_sign_72 ⟨congrArg (fun z => some (Value.int z)) (by rw [q_sign, if_pos (bI_n0.mp c8), nI_clamp hj2]; rfl), rfl⟩
    · refine v_tableIn (off := 59) (tgt := 73) dX4_sign_14 (by decide +kernel) (by decide +kernel) rfl (by decide) ?_
      refine v_aload_n dX4_sign_73 rfl ?_
      refine v_get (j := 5) iO0 rfl dX4_sign_74 (by decide) in_X4_sign_X4 fl_X4_sign_42 rfl ?_
      refine v_iload_n dX4_sign_77 rfl ?_
      refine v_callVi (M' := M_X3_partsShowing) (As := [_]) (iWO hla) (s_X3_partsShowing hla hw hv hz (by omega)) dX4_sign_78 gX4_sign_X3_partsShowing rfl rfl nn_X3_partsShowing ⟨rfl, rfl⟩ ⟨by decide, by decide⟩ rfl rfl (Nat.le_of_ble_eq_true rfl) ?_
      exact v_iret rfl dX4_sign_81 ⟨congrArg (fun z => some (Value.int z)) (by rw [q_sign, if_pos (bI_n0.mp c8), nI_clamp hj2]; rfl), rfl⟩
    · refine v_tableOut (tgt := 82) dX4_sign_14 (swo (n := 4) hsw) (by decide) ?_
      refine v_iconst (x := (-1)) dX4_sign_82 rfl ?_
      exact v_iret rfl dX4_sign_83 ⟨congrArg (fun z => some (Value.int z)) (by obtain ⟨n0, n1, n2, n3⟩ := sw4_ne hsw; rw [q_sign, if_pos (bI_n0.mp c8), if_neg n0, if_neg n1, if_neg n2, if_neg n3]), rfl⟩
  · refine v_iconst (x := (-1)) dX4_sign_11 rfl ?_
    exact v_iret rfl dX4_sign_12 ⟨congrArg (fun z => some (Value.int z)) (by rw [q_sign, if_neg (by rw [bI_0.mp c8]; decide)]), rfl⟩
set_option maxRecDepth 100000 in
set_option maxHeartbeats 4000000 in
theorem s_X4_stones {v : EE} {w : WD} {z : Nat} {σ : SS} (hla : isW σ.2.2.1) (hw : CH σ.2.2.1 w σ) (hv : WV z w) (hz : z ≤ 1000000) (c k : Int32) : S1 v M_X4_stones [.ref (v.1 0), .int c, .int k] σ (some (.int (q_stones w c k))) (σ) := by
  refine Sp.of rfl (by decide) rfl (Nat.le_of_ble_eq_true rfl) ?_
  show V v M_X4_stones _ 0 [(0, .ref (v.1 0)), (1, .int c), (2, .int k)] [] σ
  refine v_aload_n dX4_stones_0 rfl ?_
  refine v_get (j := 5) iO0 rfl dX4_stones_1 (by decide) in_X4_stones_X4 fl_X4_stones_42 rfl ?_
  refine v_iload_n dX4_stones_4 rfl ?_
  refine v_callVi (M' := M_X3_columnOf) (As := [_]) (iWO hla) (s_X3_columnOf hla hw hv _) dX4_stones_5 gX4_stones_X3_columnOf rfl rfl nn_X3_columnOf ⟨rfl, rfl⟩ ⟨by decide, by decide⟩ rfl rfl (Nat.le_of_ble_eq_true rfl) ?_
  refine v_istore_n (L' := [(3, _), (0, _), (1, _), (2, _)]) dX4_stones_8 rfl (by decide) rfl ?_
  refine v_aload_n dX4_stones_9 rfl ?_
  refine v_get (j := 5) iO0 rfl dX4_stones_10 (by decide) in_X4_stones_X4 fl_X4_stones_42 rfl ?_
  refine v_iload_n dX4_stones_13 rfl ?_
  refine v_callVi (M' := M_X3_hasCourse) (As := [_]) (iWO hla) (s_X3_hasCourse hla hw hv _) dX4_stones_14 gX4_stones_X3_hasCourse rfl rfl nn_X3_hasCourse ⟨rfl, rfl⟩ ⟨by decide, by decide⟩ rfl rfl (Nat.le_of_ble_eq_true rfl) ?_
  refine v_if_eq (tgt := 24) dX4_stones_17 (by decide) (fun c17 => ?_) (fun c17 => ?_)
  · refine v_iconst (x := (-1)) dX4_stones_24 rfl ?_
    exact v_iret rfl dX4_stones_25 ⟨congrArg (fun z => some (Value.int z)) (by rw [q_stones, if_neg (fun q => by rw [bI_0.mp c17] at q; cases q.1)]), rfl⟩
  · cases hK : isKd w k
    · refine v_iload_n dX4_stones_20 rfl ?_
      refine v_if_ge (tgt := 26) dX4_stones_21 (by decide) (fun c21 => absurd c21 (by rw [kd_no hK]; decide)) (fun c21 => ?_)
      refine v_iconst (x := (-1)) dX4_stones_24 rfl ?_
      exact v_iret rfl dX4_stones_25 ⟨congrArg (fun z => some (Value.int z)) (by rw [q_stones, if_neg (fun q => by rw [hK] at q; cases q.2)]), rfl⟩
    · obtain ⟨l, hl, e1, e2⟩ := kd_col hv hK
      refine v_iload_n dX4_stones_20 rfl ?_
      refine v_top e2 ?_
      refine v_if_ge (tgt := 26) dX4_stones_21 (by decide) (fun c21 => ?_) (fun c21 => absurd (nI_pos' (by omega)) c21)
      obtain ⟨j, hj, hj2, rfl⟩ := isN_nI (bI_n0.mp c17)
      refine v_aload_n dX4_stones_26 rfl ?_
      refine v_get (j := 5) iO0 rfl dX4_stones_27 (by decide) in_X4_stones_X4 fl_X4_stones_42 rfl ?_
      refine v_iload_n dX4_stones_30 rfl ?_
      refine v_iload_n dX4_stones_31 rfl ?_
      refine v_top e2 ?_
      refine v_callVi (M' := M_X3_stonesAt) (As := [_, _]) (iWO hla) (s_X3_stonesAt hla hw hv hj hl) dX4_stones_32 gX4_stones_X3_stonesAt rfl rfl nn_X3_stonesAt ⟨rfl, rfl⟩ ⟨by decide, by decide⟩ rfl rfl (Nat.le_of_ble_eq_true rfl) ?_
      exact v_iret rfl dX4_stones_35 ⟨congrArg (fun z => some (Value.int z)) (by rw [q_stones, if_pos ⟨isN_of hj (by have := wv_C hv; omega), hK⟩, e1, nI_clamp hj2, nI_clamp (by omega)]), rfl⟩
set_option maxRecDepth 100000 in
set_option maxHeartbeats 4000000 in
theorem s_X4_in {v : EE} {w : WD} {z : Nat} {σ : SS} (hla : isW σ.2.2.1) (hw : CH σ.2.2.1 w σ) (hv : WV z w) (hz : z ≤ 1000000) (p k : Int32) : S1 v M_X4_in [.ref (v.1 0), .int p, .int k] σ (some (.int (q_in w p k))) (σ) := by
  refine Sp.of rfl (by decide) rfl (Nat.le_of_ble_eq_true rfl) ?_
  show V v M_X4_in _ 0 [(0, .ref (v.1 0)), (1, .int p), (2, .int k)] [] σ
  refine v_aload_n dX4_in_0 rfl ?_
  refine v_get (j := 5) iO0 rfl dX4_in_1 (by decide) in_X4_in_X4 fl_X4_in_42 rfl ?_
  refine v_iload_n dX4_in_4 rfl ?_
  refine v_callVi (M' := M_X3_columnOf) (As := [_]) (iWO hla) (s_X3_columnOf hla hw hv _) dX4_in_5 gX4_in_X3_columnOf rfl rfl nn_X3_columnOf ⟨rfl, rfl⟩ ⟨by decide, by decide⟩ rfl rfl (Nat.le_of_ble_eq_true rfl) ?_
  refine v_istore_n (L' := [(3, _), (0, _), (1, _), (2, _)]) dX4_in_8 rfl (by decide) rfl ?_
  refine v_aload_n dX4_in_9 rfl ?_
  refine v_get (j := 5) iO0 rfl dX4_in_10 (by decide) in_X4_in_X4 fl_X4_in_42 rfl ?_
  refine v_iload_n dX4_in_13 rfl ?_
  refine v_callVi (M' := M_X3_hasPart) (As := [_]) (iWO hla) (s_X3_hasPart hla hw hv _) dX4_in_14 gX4_in_X3_hasPart rfl rfl nn_X3_hasPart ⟨rfl, rfl⟩ ⟨by decide, by decide⟩ rfl rfl (Nat.le_of_ble_eq_true rfl) ?_
  refine v_if_eq (tgt := 24) dX4_in_17 (by decide) (fun c17 => ?_) (fun c17 => ?_)
  · refine v_iconst (x := (-1)) dX4_in_24 rfl ?_
    exact v_iret rfl dX4_in_25 ⟨congrArg (fun z => some (Value.int z)) (by rw [q_in, if_neg (fun q => by rw [bI_0.mp c17] at q; cases q.1)]), rfl⟩
  · cases hK : isKd w k
    · refine v_iload_n dX4_in_20 rfl ?_
      refine v_if_ge (tgt := 26) dX4_in_21 (by decide) (fun c21 => absurd c21 (by rw [kd_no hK]; decide)) (fun c21 => ?_)
      refine v_iconst (x := (-1)) dX4_in_24 rfl ?_
      exact v_iret rfl dX4_in_25 ⟨congrArg (fun z => some (Value.int z)) (by rw [q_in, if_neg (fun q => by rw [hK] at q; cases q.2)]), rfl⟩
    · obtain ⟨l, hl, e1, e2⟩ := kd_col hv hK
      refine v_iload_n dX4_in_20 rfl ?_
      refine v_top e2 ?_
      refine v_if_ge (tgt := 26) dX4_in_21 (by decide) (fun c21 => ?_) (fun c21 => absurd (nI_pos' (by omega)) c21)
      obtain ⟨j, hj, rfl⟩ := isP_nI (bI_n0.mp c17)
      refine v_aload_n dX4_in_26 rfl ?_
      refine v_get (j := 5) iO0 rfl dX4_in_27 (by decide) in_X4_in_X4 fl_X4_in_42 rfl ?_
      refine v_iload_n dX4_in_30 rfl ?_
      refine v_iload_n dX4_in_31 rfl ?_
      refine v_top e2 ?_
      refine v_callVi (M' := M_X3_stonesOfPart) (As := [_, _]) (iWO hla) (s_X3_stonesOfPart hla hw hv hj hl) dX4_in_32 gX4_in_X3_stonesOfPart rfl rfl nn_X3_stonesOfPart ⟨rfl, rfl⟩ ⟨by decide, by decide⟩ rfl rfl (Nat.le_of_ble_eq_true rfl) ?_
      exact v_iret rfl dX4_in_35 ⟨congrArg (fun z => some (Value.int z)) (by rw [q_in, if_pos ⟨bI_n0.mp c17, hK⟩, e1, nI_clamp (by omega), nI_clamp (by omega)]), rfl⟩
set_option maxRecDepth 100000 in
set_option maxHeartbeats 4000000 in
theorem s_X4_men {v : EE} {w : WD} {z : Nat} {σ : SS} (hla : isW σ.2.2.1) (hw : CH σ.2.2.1 w σ) (hv : WV z w) (hz : z ≤ 1000000) (c what : Int32) : S1 v M_X4_men [.ref (v.1 0), .int c, .int what] σ (some (.int (q_men w c what))) (σ) := by
  refine Sp.of rfl (by decide) rfl (Nat.le_of_ble_eq_true rfl) ?_
  show V v M_X4_men _ 0 [(0, .ref (v.1 0)), (1, .int c), (2, .int what)] [] σ
  refine v_aload_n dX4_men_0 rfl ?_
  refine v_get (j := 5) iO0 rfl dX4_men_1 (by decide) in_X4_men_X4 fl_X4_men_42 rfl ?_
  refine v_iload_n dX4_men_4 rfl ?_
  refine v_callVi (M' := M_X3_hasCourse) (As := [_]) (iWO hla) (s_X3_hasCourse hla hw hv _) dX4_men_5 gX4_men_X3_hasCourse rfl rfl nn_X3_hasCourse ⟨rfl, rfl⟩ ⟨by decide, by decide⟩ rfl rfl (Nat.le_of_ble_eq_true rfl) ?_
  refine v_if_ne (tgt := 13) dX4_men_8 (by decide) (fun c8 => ?_) (fun c8 => ?_)
  · obtain ⟨j, hj, hj2, rfl⟩ := isN_nI (bI_n0.mp c8)
    refine v_iload_n dX4_men_13 rfl ?_
    rcases sw3 what with rfl | rfl | rfl | hsw
    · refine v_tableIn (off := 26) (tgt := 40) dX4_men_14 (by decide +kernel) (by decide +kernel) rfl (by decide) ?_
      refine v_aload_n dX4_men_40 rfl ?_
      refine v_get (j := 5) iO0 rfl dX4_men_41 (by decide) in_X4_men_X4 fl_X4_men_42 rfl ?_
      refine v_iload_n dX4_men_44 rfl ?_
      refine v_callVi (M' := M_X3_menAtLeast) (As := [_]) (iWO hla) (s_X3_menAtLeast hla hw hv hz hj) dX4_men_45 gX4_men_X3_menAtLeast rfl rfl nn_X3_menAtLeast ⟨rfl, rfl⟩ ⟨by decide, by decide⟩ rfl rfl (Nat.le_of_ble_eq_true rfl) ?_
      exact v_iret rfl dX4_men_48 ⟨congrArg (fun z => some (Value.int z)) (by rw [q_men, if_pos (bI_n0.mp c8), nI_clamp hj2]; rfl), rfl⟩
    · refine v_tableIn (off := 35) (tgt := 49) dX4_men_14 (by decide +kernel) (by decide +kernel) rfl (by decide) ?_
      refine v_aload_n dX4_men_49 rfl ?_
      refine v_get (j := 5) iO0 rfl dX4_men_50 (by decide) in_X4_men_X4 fl_X4_men_42 rfl ?_
      refine v_iload_n dX4_men_53 rfl ?_
      refine v_callVi (M' := M_X3_menAtMost) (As := [_]) (iWO hla) (s_X3_menAtMost hla hw hv hz hj) dX4_men_54 gX4_men_X3_menAtMost rfl rfl nn_X3_menAtMost ⟨rfl, rfl⟩ ⟨by decide, by decide⟩ rfl rfl (Nat.le_of_ble_eq_true rfl) ?_
      exact v_iret rfl dX4_men_57 ⟨congrArg (fun z => some (Value.int z)) (by rw [q_men, if_pos (bI_n0.mp c8), nI_clamp hj2]; rfl), rfl⟩
    · refine v_tableIn (off := 44) (tgt := 58) dX4_men_14 (by decide +kernel) (by decide +kernel) rfl (by decide) ?_
      refine v_aload_n dX4_men_58 rfl ?_
      refine v_get (j := 5) iO0 rfl dX4_men_59 (by decide) in_X4_men_X4 fl_X4_men_42 rfl ?_
      refine v_iload_n dX4_men_62 rfl ?_
      refine v_callVi (M' := M_X3_stonesOfCourse) (As := [_]) (iWO hla) (s_X3_stonesOfCourse hla hw hv hj) dX4_men_63 gX4_men_X3_stonesOfCourse rfl rfl nn_X3_stonesOfCourse ⟨rfl, rfl⟩ ⟨by decide, by decide⟩ rfl rfl (Nat.le_of_ble_eq_true rfl) ?_
      refine v_aload_n dX4_men_66 rfl ?_
      refine v_get (j := 5) iO0 rfl dX4_men_67 (by decide) in_X4_men_X4 fl_X4_men_42 rfl ?_
      refine v_iload_n dX4_men_70 rfl ?_
      refine v_callVi (M' := M_X3_weeksOfCourse) (As := [_]) (iWO hla) (s_X3_weeksOfCourse hla hw hv hj) dX4_men_71 gX4_men_X3_weeksOfCourse rfl rfl nn_X3_weeksOfCourse ⟨rfl, rfl⟩ ⟨by decide, by decide⟩ rfl rfl (Nat.le_of_ble_eq_true rfl) ?_
      refine v_callSi (M' := M_X4_roundedUp) (As := [_, _]) (s_X4_roundedUp (wks_le hv hj).1 (by have := smc_le hv hj; have := wks_le hv hj; omega)) dX4_men_74 gX4_men_X4_roundedUp rfl nn_X4_roundedUp ⟨rfl, rfl⟩ ⟨by decide, by decide⟩ rfl rfl (Nat.le_of_ble_eq_true rfl) ?_
      exact v_iret rfl dX4_men_77 ⟨congrArg (fun z => some (Value.int z)) (by rw [q_men, if_pos (bI_n0.mp c8), nI_clamp hj2]; rfl), rfl⟩
    · refine v_tableOut (tgt := 78) dX4_men_14 (swo (n := 3) hsw) (by decide) ?_
      refine v_iconst (x := (-1)) dX4_men_78 rfl ?_
      exact v_iret rfl dX4_men_79 ⟨congrArg (fun z => some (Value.int z)) (by obtain ⟨n0, n1, n2⟩ := sw3_ne hsw; rw [q_men, if_pos (bI_n0.mp c8), if_neg n0, if_neg n1, if_neg n2]), rfl⟩
  · refine v_iconst (x := (-1)) dX4_men_11 rfl ?_
    exact v_iret rfl dX4_men_12 ⟨congrArg (fun z => some (Value.int z)) (by rw [q_men, if_neg (by rw [bI_0.mp c8]; decide)]), rfl⟩
set_option maxRecDepth 100000 in
set_option maxHeartbeats 4000000 in
theorem s_X4_asks {v : EE} {w : WD} {z : Nat} {σ : SS} (hla : isW σ.2.2.1) (hw : CH σ.2.2.1 w σ) (hv : WV z w) (hz : z ≤ 1000000) (k c : Int32) : S1 v M_X4_asks [.ref (v.1 0), .int k, .int c] σ (some (.int (q_asks w k c))) (σ) := by
  refine Sp.of rfl (by decide) rfl (Nat.le_of_ble_eq_true rfl) ?_
  show V v M_X4_asks _ 0 [(0, .ref (v.1 0)), (1, .int k), (2, .int c)] [] σ
  refine v_aload_n dX4_asks_0 rfl ?_
  refine v_get (j := 5) iO0 rfl dX4_asks_1 (by decide) in_X4_asks_X4 fl_X4_asks_42 rfl ?_
  refine v_iload_n dX4_asks_4 rfl ?_
  refine v_callVi (M' := M_X3_hasSign) (As := [_]) (iWO hla) (s_X3_hasSign hla hw hv _) dX4_asks_5 gX4_asks_X3_hasSign rfl rfl nn_X3_hasSign ⟨rfl, rfl⟩ ⟨by decide, by decide⟩ rfl rfl (Nat.le_of_ble_eq_true rfl) ?_
  refine v_if_eq (tgt := 22) dX4_asks_8 (by decide) (fun c8 => ?_) (fun c8 => ?_)
  · refine v_iconst (x := (-1)) dX4_asks_22 rfl ?_
    exact v_iret rfl dX4_asks_23 ⟨congrArg (fun z => some (Value.int z)) (by rw [q_asks, if_neg (fun q => by rw [bI_0.mp c8] at q; cases q.1)]), rfl⟩
  · refine v_aload_n dX4_asks_11 rfl ?_
    refine v_get (j := 5) iO0 rfl dX4_asks_12 (by decide) in_X4_asks_X4 fl_X4_asks_42 rfl ?_
    refine v_iload_n dX4_asks_15 rfl ?_
    refine v_callVi (M' := M_X3_hasCourse) (As := [_]) (iWO hla) (s_X3_hasCourse hla hw hv _) dX4_asks_16 gX4_asks_X3_hasCourse rfl rfl nn_X3_hasCourse ⟨rfl, rfl⟩ ⟨by decide, by decide⟩ rfl rfl (Nat.le_of_ble_eq_true rfl) ?_
    refine v_if_ne (tgt := 24) dX4_asks_19 (by decide) (fun c19 => ?_) (fun c19 => ?_)
    · obtain ⟨j, hj, hj2, rfl⟩ := isN_nI (bI_n0.mp c8)
      obtain ⟨l, hl, hl2, rfl⟩ := isN_nI (bI_n0.mp c19)
      have hS := wv_S hv
      refine v_aload_n dX4_asks_24 rfl ?_
      refine v_get (j := 5) iO0 rfl dX4_asks_25 (by decide) in_X4_asks_X4 fl_X4_asks_42 rfl ?_
      refine v_iload_n dX4_asks_28 rfl ?_
      refine v_iload_n dX4_asks_29 rfl ?_
      refine v_callVi (M' := M_X3_weeksAsked) (As := [_, _]) (iWO hla) (s_X3_weeksAsked hla hw hv hz hl (by omega)) dX4_asks_30 gX4_asks_X3_weeksAsked rfl rfl nn_X3_weeksAsked ⟨rfl, rfl⟩ ⟨by decide, by decide⟩ rfl rfl (Nat.le_of_ble_eq_true rfl) ?_
      exact v_iret rfl dX4_asks_33 ⟨congrArg (fun z => some (Value.int z)) (by rw [q_asks, if_pos ⟨bI_n0.mp c8, bI_n0.mp c19⟩, nI_clamp hj2, nI_clamp hl2]), rfl⟩
    · refine v_iconst (x := (-1)) dX4_asks_22 rfl ?_
      exact v_iret rfl dX4_asks_23 ⟨congrArg (fun z => some (Value.int z)) (by rw [q_asks, if_neg (fun q => by rw [bI_0.mp c19] at q; cases q.2)]), rfl⟩
set_option maxRecDepth 100000 in
set_option maxHeartbeats 4000000 in
theorem s_X4_may {v : EE} {w : WD} {z : Nat} {σ : SS} (hla : isW σ.2.2.1) (hw : CH σ.2.2.1 w σ) (hv : WV z w) (hz : z ≤ 1000000) (m k : Int32) : S1 v M_X4_may [.ref (v.1 0), .int m, .int k] σ (some (.int (q_may w m k))) (σ) := by
  refine Sp.of rfl (by decide) rfl (Nat.le_of_ble_eq_true rfl) ?_
  show V v M_X4_may _ 0 [(0, .ref (v.1 0)), (1, .int m), (2, .int k)] [] σ
  refine v_aload_n dX4_may_0 rfl ?_
  refine v_get (j := 5) iO0 rfl dX4_may_1 (by decide) in_X4_may_X4 fl_X4_may_42 rfl ?_
  refine v_iload_n dX4_may_4 rfl ?_
  refine v_callVi (M' := M_X3_hasName) (As := [_]) (iWO hla) (s_X3_hasName hla hw hv _) dX4_may_5 gX4_may_X3_hasName rfl rfl nn_X3_hasName ⟨rfl, rfl⟩ ⟨by decide, by decide⟩ rfl rfl (Nat.le_of_ble_eq_true rfl) ?_
  refine v_if_eq (tgt := 22) dX4_may_8 (by decide) (fun c8 => ?_) (fun c8 => ?_)
  · refine v_iconst (x := (-1)) dX4_may_22 rfl ?_
    exact v_iret rfl dX4_may_23 ⟨congrArg (fun z => some (Value.int z)) (by rw [q_may, if_neg (fun q => by rw [bI_0.mp c8] at q; cases q.1)]), rfl⟩
  · refine v_aload_n dX4_may_11 rfl ?_
    refine v_get (j := 5) iO0 rfl dX4_may_12 (by decide) in_X4_may_X4 fl_X4_may_42 rfl ?_
    refine v_iload_n dX4_may_15 rfl ?_
    refine v_callVi (M' := M_X3_hasSign) (As := [_]) (iWO hla) (s_X3_hasSign hla hw hv _) dX4_may_16 gX4_may_X3_hasSign rfl rfl nn_X3_hasSign ⟨rfl, rfl⟩ ⟨by decide, by decide⟩ rfl rfl (Nat.le_of_ble_eq_true rfl) ?_
    refine v_if_ne (tgt := 24) dX4_may_19 (by decide) (fun c19 => ?_) (fun c19 => ?_)
    · obtain ⟨j, hj, hj2, rfl⟩ := isN_nI (bI_n0.mp c8)
      obtain ⟨l, hl, hl2, rfl⟩ := isN_nI (bI_n0.mp c19)
      have hS := wv_S hv
      refine v_aload_n dX4_may_24 rfl ?_
      refine v_get (j := 5) iO0 rfl dX4_may_25 (by decide) in_X4_may_X4 fl_X4_may_42 rfl ?_
      refine v_iload_n dX4_may_28 rfl ?_
      refine v_iload_n dX4_may_29 rfl ?_
      refine v_callVi (M' := M_X3_mayHaveCut) (As := [_, _]) (iWO hla) (s_X3_mayHaveCut hla hw hv hz hj (by omega)) dX4_may_30 gX4_may_X3_mayHaveCut rfl rfl nn_X3_mayHaveCut ⟨rfl, rfl⟩ ⟨by decide, by decide⟩ rfl rfl (Nat.le_of_ble_eq_true rfl) ?_
      refine v_if_eq (tgt := 40) dX4_may_33 (by decide) (fun c33 => ?_) (fun c33 => ?_)
      · refine v_iconst (x := 0) dX4_may_40 rfl ?_
        exact v_iret rfl dX4_may_41 ⟨congrArg (fun z => some (Value.int z)) (by rw [q_may, if_pos ⟨bI_n0.mp c8, bI_n0.mp c19⟩, nI_clamp hj2, nI_clamp hl2, c33]), rfl⟩
      · refine v_iconst (x := 1) dX4_may_36 rfl ?_
        refine v_goto (tgt := 41) dX4_may_37 (by decide) ?_
        exact v_iret rfl dX4_may_41 ⟨congrArg (fun z => some (Value.int z)) (by rw [q_may, if_pos ⟨bI_n0.mp c8, bI_n0.mp c19⟩, nI_clamp hj2, nI_clamp hl2, bI_n0.mp c33]; rfl), rfl⟩
    · refine v_iconst (x := (-1)) dX4_may_22 rfl ?_
      exact v_iret rfl dX4_may_23 ⟨congrArg (fun z => some (Value.int z)) (by rw [q_may, if_neg (fun q => by rw [bI_0.mp c19] at q; cases q.2)]), rfl⟩
set_option maxRecDepth 100000 in
set_option maxHeartbeats 4000000 in
theorem s_X4_grown {v : EE} {w : WD} {z : Nat} {σ : SS} (hla : isW σ.2.2.1) (hw : CH σ.2.2.1 w σ) (hv : WV z w) (hz : z ≤ 1000000) (k : Int32) : S1 v M_X4_grown [.ref (v.1 0), .int k] σ (some (.int (q_grown w k))) (σ) := by
  refine Sp.of rfl (by decide) rfl (Nat.le_of_ble_eq_true rfl) ?_
  show V v M_X4_grown _ 0 [(0, .ref (v.1 0)), (1, .int k)] [] σ
  refine v_aload_n dX4_grown_0 rfl ?_
  refine v_get (j := 5) iO0 rfl dX4_grown_1 (by decide) in_X4_grown_X4 fl_X4_grown_42 rfl ?_
  refine v_iload_n dX4_grown_4 rfl ?_
  refine v_callVi (M' := M_X3_hasSign) (As := [_]) (iWO hla) (s_X3_hasSign hla hw hv _) dX4_grown_5 gX4_grown_X3_hasSign rfl rfl nn_X3_hasSign ⟨rfl, rfl⟩ ⟨by decide, by decide⟩ rfl rfl (Nat.le_of_ble_eq_true rfl) ?_
  refine v_if_ne (tgt := 13) dX4_grown_8 (by decide) (fun c8 => ?_) (fun c8 => ?_)
  · obtain ⟨j, hj, hj2, rfl⟩ := isN_nI (bI_n0.mp c8)
    have hS := wv_S hv
    refine v_aload_n dX4_grown_13 rfl ?_
    refine v_get (j := 5) iO0 rfl dX4_grown_14 (by decide) in_X4_grown_X4 fl_X4_grown_42 rfl ?_
    refine v_get (j := 1) (iWO hla) rfl dX4_grown_17 (by decide) in_X4_grown_X3 fl_X4_grown_74 rfl ?_
    refine v_iload_n dX4_grown_20 rfl ?_
    refine v_ialdN j (iW2 hla) dX4_grown_21 rfl (by omega) (by decide) ?_
    refine v_top (ch_G hw hj) ?_
    refine v_istore_n (L' := [(2, _), (0, _), (1, _)]) dX4_grown_22 rfl (by decide) rfl ?_
    rcases wG_cases hv hj with ⟨e0, eN⟩ | ⟨l, hl, e0, eN⟩
    · refine v_loc (L' := [(2, .int (-4)), (0, .ref (v.1 0)), (1, .int (nI j))]) (by rw [e0]) ?_
      refine v_aload_n dX4_grown_23 rfl ?_
      refine v_get (j := 5) iO0 rfl dX4_grown_24 (by decide) in_X4_grown_X4 fl_X4_grown_42 rfl ?_
      refine v_iload_n dX4_grown_27 rfl ?_
      refine v_callVi (M' := M_X3_hasSign) (As := [_]) (iWO hla) (s_X3_hasSign hla hw hv _) dX4_grown_28 gX4_grown_X3_hasSign rfl rfl nn_X3_hasSign ⟨rfl, rfl⟩ ⟨by decide, by decide⟩ rfl rfl (Nat.le_of_ble_eq_true rfl) ?_
      refine v_if_ne (tgt := 37) dX4_grown_31 (by decide) (fun c31 => absurd c31 (by rw [isN_lt0 (by decide)]; decide)) (fun c31 => ?_)
      refine v_bipush (x := (-2)) dX4_grown_34 (by decide +kernel) ?_
      exact v_iret rfl dX4_grown_36 ⟨congrArg (fun z => some (Value.int z)) (by rw [q_grown, if_pos (isN_of hj (by omega)), nI_clamp hj2, if_neg (by rw [eN]; decide)]), rfl⟩
    · refine v_loc (L' := [(2, .int (nI l)), (0, .ref (v.1 0)), (1, .int (nI j))]) (by rw [e0]) ?_
      refine v_aload_n dX4_grown_23 rfl ?_
      refine v_get (j := 5) iO0 rfl dX4_grown_24 (by decide) in_X4_grown_X4 fl_X4_grown_42 rfl ?_
      refine v_iload_n dX4_grown_27 rfl ?_
      refine v_callVi (M' := M_X3_hasSign) (As := [_]) (iWO hla) (s_X3_hasSign hla hw hv _) dX4_grown_28 gX4_grown_X3_hasSign rfl rfl nn_X3_hasSign ⟨rfl, rfl⟩ ⟨by decide, by decide⟩ rfl rfl (Nat.le_of_ble_eq_true rfl) ?_
      refine v_if_ne (tgt := 37) dX4_grown_31 (by decide) (fun c31 => ?_) (fun c31 => absurd c31 (by rw [isN_of hl (by omega)]; decide))
      refine v_aload_n dX4_grown_37 rfl ?_
      refine v_get (j := 5) iO0 rfl dX4_grown_38 (by decide) in_X4_grown_X4 fl_X4_grown_42 rfl ?_
      refine v_iload_n dX4_grown_41 rfl ?_
      refine v_callVi (M' := M_X3_firstWeekShowing) (As := [_]) (iWO hla) (s_X3_firstWeekShowing hla hw hv hz (by omega)) dX4_grown_42 gX4_grown_X3_firstWeekShowing rfl rfl nn_X3_firstWeekShowing ⟨rfl, rfl⟩ ⟨by decide, by decide⟩ rfl rfl (Nat.le_of_ble_eq_true rfl) ?_
      refine v_istore_n (L' := [(3, _), (2, _), (0, _), (1, _)]) dX4_grown_45 rfl (by decide) rfl ?_
      refine v_aload_n dX4_grown_46 rfl ?_
      refine v_get (j := 5) iO0 rfl dX4_grown_47 (by decide) in_X4_grown_X4 fl_X4_grown_42 rfl ?_
      refine v_iload_n dX4_grown_50 rfl ?_
      refine v_callVi (M' := M_X3_firstWeekShowing) (As := [_]) (iWO hla) (s_X3_firstWeekShowing hla hw hv hz (by omega)) dX4_grown_51 gX4_grown_X3_firstWeekShowing rfl rfl nn_X3_firstWeekShowing ⟨rfl, rfl⟩ ⟨by decide, by decide⟩ rfl rfl (Nat.le_of_ble_eq_true rfl) ?_
      refine v_istore (L' := [(4, _), (3, _), (2, _), (0, _), (1, _)]) dX4_grown_54 (by decide) rfl ?_
      refine v_iload_n dX4_grown_56 rfl ?_
      refine v_bipush (x := (-4)) dX4_grown_57 (by decide +kernel) ?_
      refine v_icmp_eq (tgt := 69) dX4_grown_59 (by decide) (fun c59 => ?_) (fun c59 => ?_)
      · refine v_bipush (x := (-2)) dX4_grown_69 (by decide +kernel) ?_
        exact v_iret rfl dX4_grown_71 ⟨congrArg (fun z => some (Value.int z)) (by rw [q_grown, if_pos (isN_of hj (by omega)), nI_clamp hj2, if_pos eN, e0, nI_clamp (by omega), gr_none1 ((oI_m4 (fwk_lt hv j _ (Nat.le_refl _))).mp c59)]), rfl⟩
      · refine v_iload dX4_grown_62 rfl ?_
        refine v_bipush (x := (-4)) dX4_grown_64 (by decide +kernel) ?_
        refine v_icmp_ne (tgt := 72) dX4_grown_66 (by decide) (fun c66 => ?_) (fun c66 => ?_)
        · obtain ⟨a1, ha1⟩ : ∃ a, fwk w j (wC w) = some a := by cases h : fwk w j (wC w) with | none => exact absurd (by rw [h]; rfl) c59 | some a => exact ⟨a, rfl⟩
          obtain ⟨a2, ha2⟩ : ∃ a, fwk w l (wC w) = some a := by cases h : fwk w l (wC w) with | none => exact absurd (by rw [h]; rfl) c66 | some a => exact ⟨a, rfl⟩
          have l1 := fwk_lt hv j _ (Nat.le_refl _) a1 ha1
          have l2 := fwk_lt hv l _ (Nat.le_refl _) a2 ha2
          refine v_aload_n dX4_grown_72 rfl ?_
          refine v_get (j := 5) iO0 rfl dX4_grown_73 (by decide) in_X4_grown_X4 fl_X4_grown_42 rfl ?_
          refine v_iload_n dX4_grown_76 rfl ?_
          refine v_iload_n dX4_grown_77 rfl ?_
          refine v_callVi (M' := M_X3_oneCourseShowsBoth) (As := [_, _]) (iWO hla) (s_X3_oneCourseShowsBoth hla hw hv hz (by omega) (by omega)) dX4_grown_78 gX4_grown_X3_oneCourseShowsBoth rfl rfl nn_X3_oneCourseShowsBoth ⟨rfl, rfl⟩ ⟨by decide, by decide⟩ rfl rfl (Nat.le_of_ble_eq_true rfl) ?_
          refine v_if_eq (tgt := 86) dX4_grown_81 (by decide) (fun c81 => ?_) (fun c81 => ?_)
          · refine v_loc (L' := [(4, .int (nI a2)), (3, .int (nI a1)), (2, .int (nI l)), (0, .ref (v.1 0)), (1, .int (nI j))]) (by rw [ha1, ha2]; rfl) ?_
            refine v_iload_n dX4_grown_86 rfl ?_
            refine v_iload dX4_grown_87 rfl ?_
            refine v_icmp_lt (tgt := 96) dX4_grown_89 (by decide) (fun c89 => ?_) (fun c89 => ?_)
            · refine v_iconst (x := 3) dX4_grown_96 rfl ?_
              exact v_iret rfl dX4_grown_97 ⟨congrArg (fun z => some (Value.int z)) (by rw [q_grown, if_pos (isN_of hj (by omega)), nI_clamp hj2, if_pos eN, e0, nI_clamp (by omega), gr_some ha1 ha2, if_neg (by rw [bI_0.mp c81]; decide), if_neg (Nat.not_le.mpr ((nI_ltI (by omega) (by omega)).mp c89))]), rfl⟩
            · refine v_iconst (x := 2) dX4_grown_92 rfl ?_
              refine v_goto (tgt := 97) dX4_grown_93 (by decide) ?_
              exact v_iret rfl dX4_grown_97 ⟨congrArg (fun z => some (Value.int z)) (by rw [q_grown, if_pos (isN_of hj (by omega)), nI_clamp hj2, if_pos eN, e0, nI_clamp (by omega), gr_some ha1 ha2, if_neg (by rw [bI_0.mp c81]; decide), if_pos (Nat.not_lt.mp (fun q => c89 (nI_lt q (by omega))))]), rfl⟩
          · refine v_iconst (x := 1) dX4_grown_84 rfl ?_
            exact v_iret rfl dX4_grown_85 ⟨congrArg (fun z => some (Value.int z)) (by rw [q_grown, if_pos (isN_of hj (by omega)), nI_clamp hj2, if_pos eN, e0, nI_clamp (by omega), gr_some ha1 ha2, if_pos (bI_n0.mp c81)]), rfl⟩
        · refine v_bipush (x := (-2)) dX4_grown_69 (by decide +kernel) ?_
          exact v_iret rfl dX4_grown_71 ⟨congrArg (fun z => some (Value.int z)) (by rw [q_grown, if_pos (isN_of hj (by omega)), nI_clamp hj2, if_pos eN, e0, nI_clamp (by omega), gr_none2 ((oI_m4 (fwk_lt hv l _ (Nat.le_refl _))).mp c66)]), rfl⟩
  · refine v_iconst (x := (-1)) dX4_grown_11 rfl ?_
    exact v_iret rfl dX4_grown_12 ⟨congrArg (fun z => some (Value.int z)) (by rw [q_grown, if_neg (by rw [bI_0.mp c8]; decide)]), rfl⟩
set_option maxRecDepth 100000 in
set_option maxHeartbeats 4000000 in
theorem s_X4_count {v : EE} {w : WD} {z : Nat} {σ : SS} (hla : isW σ.2.2.1) (hw : CH σ.2.2.1 w σ) (hv : WV z w) (hz : z ≤ 1000000) {len κ : Nat} (hlen : σ.1 1 2 = nI len) (hkep : σ.1 0 7 = nI κ) (what : Int32) : S1 v M_X4_count [.ref (v.1 0), .int what] σ (some (.int (q_count w len κ what))) (σ) := by
  refine Sp.of rfl (by decide) rfl (Nat.le_of_ble_eq_true rfl) ?_
  show V v M_X4_count _ 0 [(0, .ref (v.1 0)), (1, .int what)] [] σ
  refine v_iload_n dX4_count_0 rfl ?_
  rcases sw7 what with rfl | rfl | rfl | rfl | rfl | rfl | rfl | hsw
  · refine v_tableIn (off := 43) (tgt := 44) dX4_count_1 (by decide +kernel) (by decide +kernel) rfl (by decide) ?_
    refine v_aload_n dX4_count_44 rfl ?_
    refine v_get (j := 5) iO0 rfl dX4_count_45 (by decide) in_X4_count_X4 fl_X4_count_42 rfl ?_
    refine v_get (j := 8) (iWO hla) rfl dX4_count_48 (by decide) in_X4_count_X3 fl_X4_count_121 rfl ?_
    refine v_top (ch_S hw) ?_
    exact v_iret rfl dX4_count_51 ⟨congrArg (fun z => some (Value.int z)) (rfl), rfl⟩
  · refine v_tableIn (off := 51) (tgt := 52) dX4_count_1 (by decide +kernel) (by decide +kernel) rfl (by decide) ?_
    refine v_aload_n dX4_count_52 rfl ?_
    refine v_get (j := 5) iO0 rfl dX4_count_53 (by decide) in_X4_count_X4 fl_X4_count_42 rfl ?_
    refine v_get (j := 9) (iWO hla) rfl dX4_count_56 (by decide) in_X4_count_X3 fl_X4_count_64 rfl ?_
    refine v_top (ch_C hw) ?_
    exact v_iret rfl dX4_count_59 ⟨congrArg (fun z => some (Value.int z)) (rfl), rfl⟩
  · refine v_tableIn (off := 59) (tgt := 60) dX4_count_1 (by decide +kernel) (by decide +kernel) rfl (by decide) ?_
    refine v_aload_n dX4_count_60 rfl ?_
    refine v_get (j := 5) iO0 rfl dX4_count_61 (by decide) in_X4_count_X4 fl_X4_count_42 rfl ?_
    refine v_callVi (M' := M_X3_partBits) (As := []) (iWO hla) (s_X3_partBits hla hw hv) dX4_count_64 gX4_count_X3_partBits rfl rfl nn_X3_partBits ⟨rfl, rfl⟩ ⟨by decide, by decide⟩ rfl rfl (Nat.le_of_ble_eq_true rfl) ?_
    refine v_callSi (M' := M_J6_bitCount_0f7a4) (As := [_]) (s_J6_bitCount_0f7a4 (Nat.lt_trans (pbits_lt hv) (by decide))) dX4_count_67 gX4_count_J6_bitCount_0f7a4 rfl nn_J6_bitCount_0f7a4 ⟨rfl, rfl⟩ ⟨by decide, by decide⟩ rfl rfl (Nat.le_of_ble_eq_true rfl) ?_
    exact v_iret rfl dX4_count_70 ⟨congrArg (fun z => some (Value.int z)) (rfl), rfl⟩
  · refine v_tableIn (off := 70) (tgt := 71) dX4_count_1 (by decide +kernel) (by decide +kernel) rfl (by decide) ?_
    refine v_aload_n dX4_count_71 rfl ?_
    refine v_get (j := 5) iO0 rfl dX4_count_72 (by decide) in_X4_count_X4 fl_X4_count_42 rfl ?_
    refine v_get (j := 10) (iWO hla) rfl dX4_count_75 (by decide) in_X4_count_X3 fl_X4_count_265 rfl ?_
    refine v_top (ch_N hw) ?_
    exact v_iret rfl dX4_count_78 ⟨congrArg (fun z => some (Value.int z)) (rfl), rfl⟩
  · refine v_tableIn (off := 78) (tgt := 79) dX4_count_1 (by decide +kernel) (by decide +kernel) rfl (by decide) ?_
    refine v_aload_n dX4_count_79 rfl ?_
    refine v_get (j := 0) iO0 rfl dX4_count_80 (by decide) in_X4_count_X4 fl_X4_count_12 rfl ?_
    refine v_get (j := 2) iO1 rfl dX4_count_83 (by decide) in_X4_count_X2 fl_X4_count_53 rfl ?_
    refine v_top hlen ?_
    exact v_iret rfl dX4_count_86 ⟨congrArg (fun z => some (Value.int z)) (rfl), rfl⟩
  · refine v_tableIn (off := 86) (tgt := 87) dX4_count_1 (by decide +kernel) (by decide +kernel) rfl (by decide) ?_
    refine v_aload_n dX4_count_87 rfl ?_
    refine v_get (j := 7) iO0 rfl dX4_count_88 (by decide) in_X4_count_X4 fl_X4_count_49 rfl ?_
    refine v_top hkep ?_
    exact v_iret rfl dX4_count_91 ⟨congrArg (fun z => some (Value.int z)) (rfl), rfl⟩
  · refine v_tableIn (off := 91) (tgt := 92) dX4_count_1 (by decide +kernel) (by decide +kernel) rfl (by decide) ?_
    refine v_aload_n dX4_count_92 rfl ?_
    refine v_get (j := 5) iO0 rfl dX4_count_93 (by decide) in_X4_count_X4 fl_X4_count_42 rfl ?_
    refine v_callVi (M' := M_X3_allStones) (As := []) (iWO hla) (s_X3_allStones hla hw hv) dX4_count_96 gX4_count_X3_allStones rfl rfl nn_X3_allStones ⟨rfl, rfl⟩ ⟨by decide, by decide⟩ rfl rfl (Nat.le_of_ble_eq_true rfl) ?_
    exact v_iret rfl dX4_count_99 ⟨congrArg (fun z => some (Value.int z)) (rfl), rfl⟩
  · refine v_tableOut (tgt := 100) dX4_count_1 (swo (n := 7) hsw) (by decide) ?_
    refine v_iconst (x := (-1)) dX4_count_100 rfl ?_
    exact v_iret rfl dX4_count_101 ⟨congrArg (fun z => some (Value.int z)) (by obtain ⟨n0, n1, n2, n3, n4, n5, n6⟩ := sw7_ne hsw; rw [q_count, if_neg n0, if_neg n1, if_neg n2, if_neg n3, if_neg n4, if_neg n5, if_neg n6]), rfl⟩
set_option maxRecDepth 100000 in
set_option maxHeartbeats 4000000 in
theorem s_X4_alike {v : EE} {w : WD} {z : Nat} {σ : SS} (hla : isW σ.2.2.1) (hw : CH σ.2.2.1 w σ) (hv : WV z w) (hz : z ≤ 1000000) (P Q : Int32) : S1 v M_X4_alike [.ref (v.1 0), .int P, .int Q] σ (some (.int (q_alike w P Q))) (σ) := by
  refine Sp.of rfl (by decide) rfl (Nat.le_of_ble_eq_true rfl) ?_
  show V v M_X4_alike _ 0 [(0, .ref (v.1 0)), (1, .int P), (2, .int Q)] [] σ
  refine v_aload_n dX4_alike_0 rfl ?_
  refine v_iload_n dX4_alike_1 rfl ?_
  refine v_iload_n dX4_alike_2 rfl ?_
  refine v_callVi (M' := M_X4_areTwoParts) (As := [_, _]) iO0 (s_X4_areTwoParts hla hw hv _ _) dX4_alike_3 gX4_alike_X4_areTwoParts rfl rfl nn_X4_areTwoParts ⟨rfl, rfl⟩ ⟨by decide, by decide⟩ rfl rfl (Nat.le_of_ble_eq_true rfl) ?_
  refine v_if_ne (tgt := 11) dX4_alike_6 (by decide) (fun c6 => ?_) (fun c6 => ?_)
  · have hh := bI_n0.mp c6
    obtain ⟨p, q, hp, hq, rfl, rfl, hpq⟩ := two_nI hh
    refine v_aload_n dX4_alike_11 rfl ?_
    refine v_get (j := 5) iO0 rfl dX4_alike_12 (by decide) in_X4_alike_X4 fl_X4_alike_42 rfl ?_
    refine v_iload_n dX4_alike_15 rfl ?_
    refine v_callVi (M' := M_X3_signsIn) (As := [_]) (iWO hla) (s_X3_signsIn hla hw hv hz hp) dX4_alike_16 gX4_alike_X3_signsIn rfl rfl nn_X3_signsIn ⟨rfl, rfl⟩ ⟨by decide, by decide⟩ rfl rfl (Nat.le_of_ble_eq_true rfl) ?_
    refine v_istore_n (L' := [(3, _), (0, _), (1, _), (2, _)]) dX4_alike_19 rfl (by decide) rfl ?_
    refine v_aload_n dX4_alike_20 rfl ?_
    refine v_get (j := 5) iO0 rfl dX4_alike_21 (by decide) in_X4_alike_X4 fl_X4_alike_42 rfl ?_
    refine v_iload_n dX4_alike_24 rfl ?_
    refine v_callVi (M' := M_X3_signsIn) (As := [_]) (iWO hla) (s_X3_signsIn hla hw hv hz hq) dX4_alike_25 gX4_alike_X3_signsIn rfl rfl nn_X3_signsIn ⟨rfl, rfl⟩ ⟨by decide, by decide⟩ rfl rfl (Nat.le_of_ble_eq_true rfl) ?_
    refine v_istore (L' := [(4, _), (3, _), (0, _), (1, _), (2, _)]) dX4_alike_28 (by decide) rfl ?_
    refine v_aload_n dX4_alike_30 rfl ?_
    refine v_get (j := 5) iO0 rfl dX4_alike_31 (by decide) in_X4_alike_X4 fl_X4_alike_42 rfl ?_
    refine v_iload_n dX4_alike_34 rfl ?_
    refine v_iload dX4_alike_35 rfl ?_
    refine v_ior dX4_alike_37 ?_
    refine v_top (fa_or _ _) ?_
    refine v_callVi (M' := M_X3_strokesOf) (As := [_]) (iWO hla) (s_X3_strokesOf hla hw hv (Nat.lt_trans (Nat.or_lt_two_pow (sgi_lt hv p) (sgi_lt hv q)) (by decide))) dX4_alike_38 gX4_alike_X3_strokesOf rfl rfl nn_X3_strokesOf ⟨rfl, rfl⟩ ⟨by decide, by decide⟩ rfl rfl (Nat.le_of_ble_eq_true rfl) ?_
    refine v_top (y := nI (alAny w p q)) (by rw [stk_or]) ?_
    refine v_istore (L' := [(5, _), (4, _), (3, _), (0, _), (1, _), (2, _)]) dX4_alike_41 (by decide) rfl ?_
    refine v_iload dX4_alike_43 rfl ?_
    refine v_iconst (x := 1) dX4_alike_45 rfl ?_
    refine v_icmp_ge (tgt := 53) dX4_alike_46 (by decide) (fun c46 => ?_) (fun c46 => ?_)
    · refine v_sipush (x := 1000) dX4_alike_53 (by decide +kernel) ?_
      refine v_aload_n dX4_alike_56 rfl ?_
      refine v_get (j := 5) iO0 rfl dX4_alike_57 (by decide) in_X4_alike_X4 fl_X4_alike_42 rfl ?_
      refine v_iload_n dX4_alike_60 rfl ?_
      refine v_iload dX4_alike_61 rfl ?_
      refine v_iand dX4_alike_63 ?_
      refine v_top (fa_and _ _) ?_
      refine v_callVi (M' := M_X3_strokesOf) (As := [_]) (iWO hla) (s_X3_strokesOf hla hw hv (Nat.lt_of_le_of_lt Nat.and_le_left (Nat.lt_trans (sgi_lt hv p) (by decide)))) dX4_alike_64 gX4_alike_X3_strokesOf rfl rfl nn_X3_strokesOf ⟨rfl, rfl⟩ ⟨by decide, by decide⟩ rfl rfl (Nat.le_of_ble_eq_true rfl) ?_
      refine v_top (y := nI (alBoth w p q)) (by rw [stk_and]) ?_
      refine v_imul dX4_alike_67 ?_
      refine v_top (y := nI (1000 * alBoth w p q)) (pk_mul 1000 _) ?_
      have hn0 : alAny w p q ≠ 0 := by have h9 := c46; rw [show (1 : Int32) = nI 1 from rfl, nI_leI (by decide) (by have := alAny_le hv p q; omega)] at h9; omega
      refine v_iload dX4_alike_68 rfl ?_
      refine v_idiv dX4_alike_70 (nI_ne0 (by omega) (by have := alAny_le hv p q; omega)) ?_
      refine v_top (pk_div (by have := alBoth_le hv p q; omega) (by omega) (by have := alAny_le hv p q; omega)) ?_
      exact v_iret rfl dX4_alike_71 ⟨congrArg (fun z => some (Value.int z)) (by rw [q_alike, if_pos hh, nI_clamp (by omega), nI_clamp (by omega), if_neg hn0]), rfl⟩
    · refine v_iconst (x := 0) dX4_alike_49 rfl ?_
      refine v_goto (tgt := 71) dX4_alike_50 (by decide) ?_
      exact v_iret rfl dX4_alike_71 ⟨congrArg (fun z => some (Value.int z)) (by rw [q_alike, if_pos hh, nI_clamp (by omega), nI_clamp (by omega), if_pos (by have h9 := c46; rw [show (1 : Int32) = nI 1 from rfl, nI_leI (by decide) (by have := alAny_le hv p q; omega)] at h9; omega)]), rfl⟩
  · refine v_iconst (x := (-1)) dX4_alike_9 rfl ?_
    exact v_iret rfl dX4_alike_10 ⟨congrArg (fun z => some (Value.int z)) (by rw [q_alike, if_neg (by rw [bI_0.mp c6]; decide)]), rfl⟩
