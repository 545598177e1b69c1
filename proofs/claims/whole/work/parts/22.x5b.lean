theorem in_X5_alike_X5 : ∀ w ∈ u_ws RX5 TX5 29, w ∈ mWs M_X5_alike := by decide +kernel
theorem in_X5_count_X5 : ∀ w ∈ u_ws RX5 TX5 29, w ∈ mWs M_X5_count := by decide +kernel
theorem in_X5_firstWeek_X5 : ∀ w ∈ u_ws RX5 TX5 29, w ∈ mWs M_X5_firstWeek := by decide +kernel
theorem in_X5_grown_X5 : ∀ w ∈ u_ws RX5 TX5 29, w ∈ mWs M_X5_grown := by decide +kernel
theorem in_X5_mayCut_X5 : ∀ w ∈ u_ws RX5 TX5 29, w ∈ mWs M_X5_mayCut := by decide +kernel
theorem in_X5_men_X5 : ∀ w ∈ u_ws RX5 TX5 29, w ∈ mWs M_X5_men := by decide +kernel
theorem in_X5_sign_X5 : ∀ w ∈ u_ws RX5 TX5 29, w ∈ mWs M_X5_sign := by decide +kernel
theorem in_X5_stones_X5 : ∀ w ∈ u_ws RX5 TX5 29, w ∈ mWs M_X5_stones := by decide +kernel
theorem fl_X5_alike_13 : Cond.fieldLink (mOwn M_X5_alike) 13 (TX5 3).1 (TX5 3).2.1 (TX5 3).2.2.1 ∈ mWs M_X5_alike := by decide +kernel
theorem fl_X5_alike_17 : Cond.fieldLink (mOwn M_X5_alike) 17 (TX5 4).1 (TX5 4).2.1 (TX5 4).2.2.1 ∈ mWs M_X5_alike := by decide +kernel
theorem fl_X5_count_13 : Cond.fieldLink (mOwn M_X5_count) 13 (TX5 3).1 (TX5 3).2.1 (TX5 3).2.2.1 ∈ mWs M_X5_count := by decide +kernel
theorem fl_X5_count_20 : Cond.fieldLink (mOwn M_X5_count) 20 (TX5 5).1 (TX5 5).2.1 (TX5 5).2.2.1 ∈ mWs M_X5_count := by decide +kernel
theorem fl_X5_count_29 : Cond.fieldLink (mOwn M_X5_count) 29 (TX5 8).1 (TX5 8).2.1 (TX5 8).2.2.1 ∈ mWs M_X5_count := by decide +kernel
theorem fl_X5_count_78 : Cond.fieldLink (mOwn M_X5_count) 78 (TX5 0).1 (TX5 0).2.1 (TX5 0).2.2.1 ∈ mWs M_X5_count := by decide +kernel
theorem fl_X5_count_137 : Cond.fieldLink (mOwn M_X5_count) 137 (TX5 11).1 (TX5 11).2.1 (TX5 11).2.2.1 ∈ mWs M_X5_count := by decide +kernel
theorem fl_X5_firstWeek_20 : Cond.fieldLink (mOwn M_X5_firstWeek) 20 (TX5 5).1 (TX5 5).2.1 (TX5 5).2.2.1 ∈ mWs M_X5_firstWeek := by decide +kernel
theorem fl_X5_firstWeek_23 : Cond.fieldLink (mOwn M_X5_firstWeek) 23 (TX5 6).1 (TX5 6).2.1 (TX5 6).2.2.1 ∈ mWs M_X5_firstWeek := by decide +kernel
theorem fl_X5_firstWeek_38 : Cond.fieldLink (mOwn M_X5_firstWeek) 38 (TX5 12).1 (TX5 12).2.1 (TX5 12).2.2.1 ∈ mWs M_X5_firstWeek := by decide +kernel
theorem fl_X5_grown_17 : Cond.fieldLink (mOwn M_X5_grown) 17 (TX5 4).1 (TX5 4).2.1 (TX5 4).2.2.1 ∈ mWs M_X5_grown := by decide +kernel
theorem fl_X5_grown_20 : Cond.fieldLink (mOwn M_X5_grown) 20 (TX5 5).1 (TX5 5).2.1 (TX5 5).2.2.1 ∈ mWs M_X5_grown := by decide +kernel
theorem fl_X5_grown_38 : Cond.fieldLink (mOwn M_X5_grown) 38 (TX5 12).1 (TX5 12).2.1 (TX5 12).2.2.1 ∈ mWs M_X5_grown := by decide +kernel
theorem fl_X5_mayCut_20 : Cond.fieldLink (mOwn M_X5_mayCut) 20 (TX5 5).1 (TX5 5).2.1 (TX5 5).2.2.1 ∈ mWs M_X5_mayCut := by decide +kernel
theorem fl_X5_mayCut_23 : Cond.fieldLink (mOwn M_X5_mayCut) 23 (TX5 6).1 (TX5 6).2.1 (TX5 6).2.2.1 ∈ mWs M_X5_mayCut := by decide +kernel
theorem fl_X5_mayCut_32 : Cond.fieldLink (mOwn M_X5_mayCut) 32 (TX5 9).1 (TX5 9).2.1 (TX5 9).2.2.1 ∈ mWs M_X5_mayCut := by decide +kernel
theorem fl_X5_mayCut_38 : Cond.fieldLink (mOwn M_X5_mayCut) 38 (TX5 12).1 (TX5 12).2.1 (TX5 12).2.2.1 ∈ mWs M_X5_mayCut := by decide +kernel
theorem fl_X5_men_35 : Cond.fieldLink (mOwn M_X5_men) 35 (TX5 10).1 (TX5 10).2.1 (TX5 10).2.2.1 ∈ mWs M_X5_men := by decide +kernel
theorem fl_X5_men_38 : Cond.fieldLink (mOwn M_X5_men) 38 (TX5 12).1 (TX5 12).2.1 (TX5 12).2.2.1 ∈ mWs M_X5_men := by decide +kernel
theorem fl_X5_sign_17 : Cond.fieldLink (mOwn M_X5_sign) 17 (TX5 4).1 (TX5 4).2.1 (TX5 4).2.2.1 ∈ mWs M_X5_sign := by decide +kernel
theorem fl_X5_stones_38 : Cond.fieldLink (mOwn M_X5_stones) 38 (TX5 12).1 (TX5 12).2.1 (TX5 12).2.2.1 ∈ mWs M_X5_stones := by decide +kernel
theorem nn_X5_allOf : (mY M_X5_allOf).cls = mOwn M_X5_allOf ∧ (mY M_X5_allOf).cls ≠ "java/lang/invoke/MethodHandle" ∧ (mY M_X5_allOf).cls ≠ "java/lang/invoke/VarHandle" ∧ (parseMethodDescriptor (mY M_X5_allOf).desc).map (fun d => d.parameters.length) = some 1 := by decide +kernel
theorem nn_X5_areTwo : (mY M_X5_areTwo).cls = mOwn M_X5_areTwo ∧ (mY M_X5_areTwo).cls ≠ "java/lang/invoke/MethodHandle" ∧ (mY M_X5_areTwo).cls ≠ "java/lang/invoke/VarHandle" ∧ (parseMethodDescriptor (mY M_X5_areTwo).desc).map (fun d => d.parameters.length) = some 2 := by decide +kernel
theorem nn_X5_asksOf : (mY M_X5_asksOf).cls = mOwn M_X5_asksOf ∧ (mY M_X5_asksOf).cls ≠ "java/lang/invoke/MethodHandle" ∧ (mY M_X5_asksOf).cls ≠ "java/lang/invoke/VarHandle" ∧ (parseMethodDescriptor (mY M_X5_asksOf).desc).map (fun d => d.parameters.length) = some 2 := by decide +kernel
theorem nn_X5_bits : (mY M_X5_bits).cls ≠ "java/lang/invoke/MethodHandle" ∧ (mY M_X5_bits).cls ≠ "java/lang/invoke/VarHandle" ∧ (parseMethodDescriptor (mY M_X5_bits).desc).map (fun d => d.parameters.length) = some 1 := by decide +kernel
theorem nn_X5_firstWeek : (mY M_X5_firstWeek).cls = mOwn M_X5_firstWeek ∧ (mY M_X5_firstWeek).cls ≠ "java/lang/invoke/MethodHandle" ∧ (mY M_X5_firstWeek).cls ≠ "java/lang/invoke/VarHandle" ∧ (parseMethodDescriptor (mY M_X5_firstWeek).desc).map (fun d => d.parameters.length) = some 1 := by decide +kernel
theorem nn_X5_inPart : (mY M_X5_inPart).cls = mOwn M_X5_inPart ∧ (mY M_X5_inPart).cls ≠ "java/lang/invoke/MethodHandle" ∧ (mY M_X5_inPart).cls ≠ "java/lang/invoke/VarHandle" ∧ (parseMethodDescriptor (mY M_X5_inPart).desc).map (fun d => d.parameters.length) = some 2 := by decide +kernel
theorem nn_X5_isCourse : (mY M_X5_isCourse).cls = mOwn M_X5_isCourse ∧ (mY M_X5_isCourse).cls ≠ "java/lang/invoke/MethodHandle" ∧ (mY M_X5_isCourse).cls ≠ "java/lang/invoke/VarHandle" ∧ (parseMethodDescriptor (mY M_X5_isCourse).desc).map (fun d => d.parameters.length) = some 1 := by decide +kernel
theorem nn_X5_isKind : (mY M_X5_isKind).cls = mOwn M_X5_isKind ∧ (mY M_X5_isKind).cls ≠ "java/lang/invoke/MethodHandle" ∧ (mY M_X5_isKind).cls ≠ "java/lang/invoke/VarHandle" ∧ (parseMethodDescriptor (mY M_X5_isKind).desc).map (fun d => d.parameters.length) = some 1 := by decide +kernel
theorem nn_X5_isNameOf : (mY M_X5_isNameOf).cls = mOwn M_X5_isNameOf ∧ (mY M_X5_isNameOf).cls ≠ "java/lang/invoke/MethodHandle" ∧ (mY M_X5_isNameOf).cls ≠ "java/lang/invoke/VarHandle" ∧ (parseMethodDescriptor (mY M_X5_isNameOf).desc).map (fun d => d.parameters.length) = some 1 := by decide +kernel
theorem nn_X5_lasts : (mY M_X5_lasts).cls = mOwn M_X5_lasts ∧ (mY M_X5_lasts).cls ≠ "java/lang/invoke/MethodHandle" ∧ (mY M_X5_lasts).cls ≠ "java/lang/invoke/VarHandle" ∧ (parseMethodDescriptor (mY M_X5_lasts).desc).map (fun d => d.parameters.length) = some 1 := by decide +kernel
theorem nn_X5_mayCut : (mY M_X5_mayCut).cls = mOwn M_X5_mayCut ∧ (mY M_X5_mayCut).cls ≠ "java/lang/invoke/MethodHandle" ∧ (mY M_X5_mayCut).cls ≠ "java/lang/invoke/VarHandle" ∧ (parseMethodDescriptor (mY M_X5_mayCut).desc).map (fun d => d.parameters.length) = some 2 := by decide +kernel
theorem nn_X5_ofSign : (mY M_X5_ofSign).cls = mOwn M_X5_ofSign ∧ (mY M_X5_ofSign).cls ≠ "java/lang/invoke/MethodHandle" ∧ (mY M_X5_ofSign).cls ≠ "java/lang/invoke/VarHandle" ∧ (parseMethodDescriptor (mY M_X5_ofSign).desc).map (fun d => d.parameters.length) = some 1 := by decide +kernel
theorem nn_X5_partsOf : (mY M_X5_partsOf).cls = mOwn M_X5_partsOf ∧ (mY M_X5_partsOf).cls ≠ "java/lang/invoke/MethodHandle" ∧ (mY M_X5_partsOf).cls ≠ "java/lang/invoke/VarHandle" ∧ (parseMethodDescriptor (mY M_X5_partsOf).desc).map (fun d => d.parameters.length) = some 1 := by decide +kernel
theorem nn_X5_weeks : (mY M_X5_weeks).cls ≠ "java/lang/invoke/MethodHandle" ∧ (mY M_X5_weeks).cls ≠ "java/lang/invoke/VarHandle" ∧ (parseMethodDescriptor (mY M_X5_weeks).desc).map (fun d => d.parameters.length) = some 2 := by decide +kernel
theorem upd'_0 {d : Nat} (hd : 1 ≤ d) : upd' 0 d = 0 := by rw [upd', Nat.zero_add]; exact Nat.div_eq_of_lt (by omega)
set_option maxRecDepth 100000 in
set_option maxHeartbeats 4000000 in
theorem s_X5_mayCut {v : EE} {w : WD} {z : Nat} {σ : SS} (hw : MH 0 w σ) (hv : WV z w) (hz : z ≤ 1000000) {m k : Nat} (hm : m < wN w) (hk : k < 18) : S1 v M_X5_mayCut [.ref (v.1 40), .int (nI m), .int (nI k)] σ (some (.int (bI (mayc w m k)))) (σ) := by
  refine Sp.of rfl (by decide) rfl (Nat.le_of_ble_eq_true rfl) ?_
  show V v M_X5_mayCut _ 0 [(0, .ref (v.1 40)), (1, .int (nI m)), (2, .int (nI k))] [] σ
  refine v_iconst (x := 1) dX5_mayCut_0 rfl ?_
  refine v_istore_n (L' := [(3, _), (0, _), (1, _), (2, _)]) dX5_mayCut_1 rfl (by decide) rfl ?_
  refine v_iconst (x := 0) dX5_mayCut_2 rfl ?_
  refine v_istore (L' := [(4, _), (3, _), (0, _), (1, _), (2, _)]) dX5_mayCut_3 (by decide) rfl ?_
  refine v_sub [2, 3, 4, 1, 0] rfl ?_
  refine loopN (fun i => V v M_X5_mayCut (zR v M_X5_mayCut (fun r' σ' => r' = (some (.int (bI (mayc w m k)))) ∧ σ' = (σ))) 5 [(0, .ref (v.1 40)), (1, .int (nI m)), (2, .int (nI k)), (3, .int (bI (allB (fun c => decide (ask w k c ≤ pc (wK w m &&& wbt w c))) i))), (4, .int (nI i))] [] (σ)) (wC w) ?_ ?_
  · intro i hi ih
    refine v_iload dX5_mayCut_5 rfl ?_
    refine v_aload_n dX5_mayCut_7 rfl ?_
    refine v_get (j := 5) iO40 rfl dX5_mayCut_8 (by decide) in_X5_mayCut_X5 fl_X5_mayCut_20 rfl ?_
    refine v_iconst (x := 0) dX5_mayCut_11 rfl ?_
    refine v_ialdN 0 iI44 dX5_mayCut_12 rfl (by decide) (by decide) ?_
    refine v_top (mh_C hw) ?_
    refine v_icmp_ge (tgt := 96) dX5_mayCut_13 (by decide) (fun c13 => absurd c13 (nI_ge hi (by have := wv_C hv; omega))) (fun c13 => ?_)
    refine v_aload_n dX5_mayCut_16 rfl ?_
    refine v_get (j := 9) iO40 rfl dX5_mayCut_17 (by decide) in_X5_mayCut_X5 fl_X5_mayCut_32 rfl ?_
    refine v_iload_n dX5_mayCut_20 rfl ?_
    refine v_ialdN m iI48 dX5_mayCut_21 rfl (by have := wv_N hv; omega) (by decide) ?_
    refine v_top (mh_K hw hm) ?_
    refine v_aload_n dX5_mayCut_22 rfl ?_
    refine v_get (j := 6) iO40 rfl dX5_mayCut_23 (by decide) in_X5_mayCut_X5 fl_X5_mayCut_23 rfl ?_
    refine v_iconst (x := 3) dX5_mayCut_26 rfl ?_
    refine v_iload dX5_mayCut_27 rfl ?_
    refine v_imul dX5_mayCut_29 ?_
    refine v_iconst (x := 1) dX5_mayCut_30 rfl ?_
    refine v_iadd dX5_mayCut_31 ?_
    refine v_ialdN (3 * i + 1) iI45 dX5_mayCut_32 (by rw [show (3 : Int32) = nI 3 from rfl, pk_mul, show (1 : Int32) = nI 1 from rfl, nI_add]) (by have := wv_C hv; omega) (by decide) ?_
    refine v_top (mh_A hw hi) ?_
    refine v_aload_n dX5_mayCut_33 rfl ?_
    refine v_get (j := 6) iO40 rfl dX5_mayCut_34 (by decide) in_X5_mayCut_X5 fl_X5_mayCut_23 rfl ?_
    refine v_iconst (x := 3) dX5_mayCut_37 rfl ?_
    refine v_iload dX5_mayCut_38 rfl ?_
    refine v_imul dX5_mayCut_40 ?_
    refine v_iconst (x := 2) dX5_mayCut_41 rfl ?_
    refine v_iadd dX5_mayCut_42 ?_
    refine v_ialdN (3 * i + 2) iI45 dX5_mayCut_43 (by rw [show (3 : Int32) = nI 3 from rfl, pk_mul, show (2 : Int32) = nI 2 from rfl, nI_add]) (by have := wv_C hv; omega) (by decide) ?_
    refine v_top (mh_B hw hi) ?_
    refine v_callSi (M' := M_X5_weeks) (As := [_, _]) (s_X5_weeks (wv_A hv hi).1 (wv_A hv hi).2) dX5_mayCut_44 gX5_mayCut_X5_weeks rfl nn_X5_weeks ⟨rfl, rfl⟩ ⟨by decide, by decide⟩ rfl rfl (Nat.le_of_ble_eq_true rfl) ?_
    refine v_iand dX5_mayCut_47 ?_
    refine v_top (y := nI (wK w m &&& wbt w i)) (fa_and _ _) ?_
    refine v_callSi (M' := M_X5_bits) (As := [_]) (s_X5_bits (Nat.lt_trans (and_lt24 hv hm _) (by decide))) dX5_mayCut_48 gX5_mayCut_X5_bits rfl nn_X5_bits ⟨rfl, rfl⟩ ⟨by decide, by decide⟩ rfl rfl (Nat.le_of_ble_eq_true rfl) ?_
    refine v_istore (L' := [(5, _), (0, _), (1, _), (2, _), (3, _), (4, _)]) dX5_mayCut_51 (by decide) rfl ?_
    refine v_iload_n dX5_mayCut_53 rfl ?_
    refine v_if_eq (tgt := 88) dX5_mayCut_54 (by decide) (fun c54 => ?_) (fun c54 => ?_)
    · refine v_iconst (x := 0) dX5_mayCut_88 rfl ?_
      refine v_top (y := bI (allB (fun c => decide (ask w k c ≤ pc (wK w m &&& wbt w c))) (i + 1))) (bI_f (by rw [allB, bI_0.mp c54]; rfl)) ?_
      refine v_istore_n (L' := [(3, _), (5, _), (0, _), (1, _), (2, _), (4, _)]) dX5_mayCut_89 rfl (by decide) rfl ?_
      refine v_iinc (y := nI (i + 1)) (L' := [(4, .int (nI (i + 1))), (3, _), (5, _), (0, _), (1, _), (2, _)]) dX5_mayCut_90 rfl (nI_1 i) (by decide) rfl ?_
      refine v_goto (tgt := 5) dX5_mayCut_93 (by decide) ?_
      refine v_sub [3, 4, 5, 1, 0] rfl ?_
      exact ih
    · refine v_aload_n dX5_mayCut_57 rfl ?_
      refine v_get (j := 12) iO40 rfl dX5_mayCut_58 (by decide) in_X5_mayCut_X5 fl_X5_mayCut_38 rfl ?_
      refine v_bipush (x := 18) dX5_mayCut_61 (by decide +kernel) ?_
      refine v_iload dX5_mayCut_63 rfl ?_
      refine v_imul dX5_mayCut_65 ?_
      refine v_iload_n dX5_mayCut_66 rfl ?_
      refine v_iadd dX5_mayCut_67 ?_
      refine v_ialdN (i * 18 + k) iI50 dX5_mayCut_68 (by rw [show (18 : Int32) = nI 18 from rfl, pk_mul, nI_add, Nat.mul_comm 18]) (by have := wv_C hv; omega) (by decide) ?_
      refine v_top (mh_H hw (by have := wv_C hv; omega)) ?_
      refine v_if_eq (tgt := 84) dX5_mayCut_69 (by decide) (fun c69 => ?_) (fun c69 => ?_)
      · refine v_iconst (x := 1) dX5_mayCut_84 rfl ?_
        refine v_goto (tgt := 89) dX5_mayCut_85 (by decide) ?_
        refine v_top (y := bI (allB (fun c => decide (ask w k c ≤ pc (wK w m &&& wbt w c))) (i + 1))) (bI_t (by rw [allB, bI_n0.mp c54]; exact decide_eq_true (by have e := (nI_eq (b := 0) (by have := wv_H hv (j := i * 18 + k) (by have := wv_C hv; omega); omega) (by decide)).mp c69; rw [ask, e, upd'_0 (wv_P hv).1]; exact Nat.zero_le _))) ?_
        refine v_istore_n (L' := [(3, _), (5, _), (0, _), (1, _), (2, _), (4, _)]) dX5_mayCut_89 rfl (by decide) rfl ?_
        refine v_iinc (y := nI (i + 1)) (L' := [(4, .int (nI (i + 1))), (3, _), (5, _), (0, _), (1, _), (2, _)]) dX5_mayCut_90 rfl (nI_1 i) (by decide) rfl ?_
        refine v_goto (tgt := 5) dX5_mayCut_93 (by decide) ?_
        refine v_sub [3, 4, 5, 1, 0] rfl ?_
        exact ih
      · refine v_iload dX5_mayCut_72 rfl ?_
        refine v_aload_n dX5_mayCut_74 rfl ?_
        refine v_iload_n dX5_mayCut_75 rfl ?_
        refine v_iload dX5_mayCut_76 rfl ?_
        refine v_callVi (M' := M_X5_asksOf) (As := [_, _]) iO40 (s_X5_asksOf hw hv hz hi hk) dX5_mayCut_78 gX5_mayCut_X5_asksOf rfl rfl nn_X5_asksOf ⟨rfl, rfl⟩ ⟨by decide, by decide⟩ rfl rfl (Nat.le_of_ble_eq_true rfl) ?_
        refine v_icmp_lt (tgt := 88) dX5_mayCut_81 (by decide) (fun c81 => ?_) (fun c81 => ?_)
        · refine v_iconst (x := 0) dX5_mayCut_88 rfl ?_
          refine v_top (y := bI (allB (fun c => decide (ask w k c ≤ pc (wK w m &&& wbt w c))) (i + 1))) (bI_f (by rw [allB, decide_eq_false (Nat.not_le.mpr ((nI_ltI (Nat.lt_of_le_of_lt (pc_le _) (by decide)) (by have := ask_lt hv hz hi hk; omega)).mp c81)), Bool.and_false])) ?_
          refine v_istore_n (L' := [(3, _), (5, _), (0, _), (1, _), (2, _), (4, _)]) dX5_mayCut_89 rfl (by decide) rfl ?_
          refine v_iinc (y := nI (i + 1)) (L' := [(4, .int (nI (i + 1))), (3, _), (5, _), (0, _), (1, _), (2, _)]) dX5_mayCut_90 rfl (nI_1 i) (by decide) rfl ?_
          refine v_goto (tgt := 5) dX5_mayCut_93 (by decide) ?_
          refine v_sub [3, 4, 5, 1, 0] rfl ?_
          exact ih
        · refine v_iconst (x := 1) dX5_mayCut_84 rfl ?_
          refine v_goto (tgt := 89) dX5_mayCut_85 (by decide) ?_
          refine v_top (y := bI (allB (fun c => decide (ask w k c ≤ pc (wK w m &&& wbt w c))) (i + 1))) (bI_t (by rw [allB, bI_n0.mp c54]; exact decide_eq_true (Nat.not_lt.mp (fun q => c81 (nI_lt q (by have := ask_lt hv hz hi hk; omega)))))) ?_
          refine v_istore_n (L' := [(3, _), (5, _), (0, _), (1, _), (2, _), (4, _)]) dX5_mayCut_89 rfl (by decide) rfl ?_
          refine v_iinc (y := nI (i + 1)) (L' := [(4, .int (nI (i + 1))), (3, _), (5, _), (0, _), (1, _), (2, _)]) dX5_mayCut_90 rfl (nI_1 i) (by decide) rfl ?_
          refine v_goto (tgt := 5) dX5_mayCut_93 (by decide) ?_
          refine v_sub [3, 4, 5, 1, 0] rfl ?_
          exact ih
  · refine v_iload dX5_mayCut_5 rfl ?_
    refine v_aload_n dX5_mayCut_7 rfl ?_
    refine v_get (j := 5) iO40 rfl dX5_mayCut_8 (by decide) in_X5_mayCut_X5 fl_X5_mayCut_20 rfl ?_
    refine v_iconst (x := 0) dX5_mayCut_11 rfl ?_
    refine v_ialdN 0 iI44 dX5_mayCut_12 rfl (by decide) (by decide) ?_
    refine v_top (mh_C hw) ?_
    refine v_icmp_ge (tgt := 96) dX5_mayCut_13 (by decide) (fun c13 => ?_) (fun c13 => absurd (nI_le (Nat.le_refl _) (by have := wv_C hv; omega)) c13)
    refine v_iload_n dX5_mayCut_96 rfl ?_
    exact v_zret rfl (bI_01 _) dX5_mayCut_97 ⟨rfl, rfl⟩
def o24 (o : Option Nat) : Nat := match o with
  | none => 24
  | some m => m
theorem o24_le {z : Nat} {w : WD} (hv : WV z w) (k : Nat) {i : Nat} (hi : i ≤ wC w) : o24 (fwk w k i) ≤ 24 := by
  cases h : fwk w k i with
  | none => exact Nat.le_refl _
  | some m => exact Nat.le_of_lt (fwk_lt hv k i hi m h)
theorem o24_step {z : Nat} {w : WD} (hv : WV z w) {k i : Nat} (hi : i < wC w) : o24 (fwk w k (i + 1)) = if 0 < wH w (i * 18 + k) ∧ wA w i < o24 (fwk w k i) then wA w i else o24 (fwk w k i) := by
  have h3 := wv_A hv hi
  rw [fwk]
  by_cases q : 0 < wH w (i * 18 + k)
  · rw [if_pos q]
    cases h : fwk w k i with
    | none =>
      have : wA w i < 24 := by omega
      simp [o24, q, this]
    | some m =>
      by_cases q2 : wA w i < m
      · simp [o24, q, q2]
      · simp [o24, q, q2]
  · simp [q]
set_option maxRecDepth 100000 in
set_option maxHeartbeats 4000000 in
theorem s_X5_firstWeek {v : EE} {w : WD} {z : Nat} {σ : SS} (hw : MH 0 w σ) (hv : WV z w) (hz : z ≤ 1000000) {k : Nat} (hk : k < 18) : S1 v M_X5_firstWeek [.ref (v.1 40), .int (nI k)] σ (some (.int (nI (o24 (fwk w k (wC w)))))) (σ) := by
  refine Sp.of rfl (by decide) rfl (Nat.le_of_ble_eq_true rfl) ?_
  show V v M_X5_firstWeek _ 0 [(0, .ref (v.1 40)), (1, .int (nI k))] [] σ
  refine v_bipush (x := 24) dX5_firstWeek_0 (by decide +kernel) ?_
  refine v_istore_n (L' := [(2, _), (0, _), (1, _)]) dX5_firstWeek_2 rfl (by decide) rfl ?_
  refine v_iconst (x := 0) dX5_firstWeek_3 rfl ?_
  refine v_istore_n (L' := [(3, _), (2, _), (0, _), (1, _)]) dX5_firstWeek_4 rfl (by decide) rfl ?_
  refine v_sub [2, 3, 1, 0] rfl ?_
  refine loopN (fun i => V v M_X5_firstWeek (zR v M_X5_firstWeek (fun r' σ' => r' = (some (.int (nI (o24 (fwk w k (wC w)))))) ∧ σ' = (σ))) 5 [(0, .ref (v.1 40)), (1, .int (nI k)), (2, .int (nI (o24 (fwk w k i)))), (3, .int (nI i))] [] (σ)) (wC w) ?_ ?_
  · intro i hi ih
    refine v_iload_n dX5_firstWeek_5 rfl ?_
    refine v_aload_n dX5_firstWeek_6 rfl ?_
    refine v_get (j := 5) iO40 rfl dX5_firstWeek_7 (by decide) in_X5_firstWeek_X5 fl_X5_firstWeek_20 rfl ?_
    refine v_iconst (x := 0) dX5_firstWeek_10 rfl ?_
    refine v_ialdN 0 iI44 dX5_firstWeek_11 rfl (by decide) (by decide) ?_
    refine v_top (mh_C hw) ?_
    refine v_icmp_ge (tgt := 64) dX5_firstWeek_12 (by decide) (fun c12 => absurd c12 (nI_ge hi (by have := wv_C hv; omega))) (fun c12 => ?_)
    refine v_aload_n dX5_firstWeek_15 rfl ?_
    refine v_get (j := 12) iO40 rfl dX5_firstWeek_16 (by decide) in_X5_firstWeek_X5 fl_X5_firstWeek_38 rfl ?_
    refine v_bipush (x := 18) dX5_firstWeek_19 (by decide +kernel) ?_
    refine v_iload_n dX5_firstWeek_21 rfl ?_
    refine v_imul dX5_firstWeek_22 ?_
    refine v_iload_n dX5_firstWeek_23 rfl ?_
    refine v_iadd dX5_firstWeek_24 ?_
    refine v_ialdN (i * 18 + k) iI50 dX5_firstWeek_25 (by rw [show (18 : Int32) = nI 18 from rfl, pk_mul, nI_add, Nat.mul_comm 18]) (by have := wv_C hv; omega) (by decide) ?_
    refine v_top (mh_H hw (by have := wv_C hv; omega)) ?_
    refine v_if_le (tgt := 56) dX5_firstWeek_26 (by decide) (fun c26 => ?_) (fun c26 => ?_)
    · refine v_iload_n dX5_firstWeek_56 rfl ?_
      refine v_istore_n (L' := [(2, _), (0, _), (1, _), (3, _)]) dX5_firstWeek_57 rfl (by decide) rfl ?_
      have e : o24 (fwk w k (i + 1)) = o24 (fwk w k i) := by rw [o24_step hv hi, if_neg (fun q => by rw [nI_le0 (by have := wv_H hv (j := i * 18 + k) (by have := wv_C hv; omega); omega)] at c26; omega)]
      rw [e] at ih
      refine v_iinc (y := nI (i + 1)) (L' := [(3, .int (nI (i + 1))), (2, _), (0, _), (1, _)]) dX5_firstWeek_58 rfl (nI_1 i) (by decide) rfl ?_
      refine v_goto (tgt := 5) dX5_firstWeek_61 (by decide) ?_
      refine v_sub [2, 3, 1, 0] rfl ?_
      exact ih
    · refine v_aload_n dX5_firstWeek_29 rfl ?_
      refine v_get (j := 6) iO40 rfl dX5_firstWeek_30 (by decide) in_X5_firstWeek_X5 fl_X5_firstWeek_23 rfl ?_
      refine v_iconst (x := 3) dX5_firstWeek_33 rfl ?_
      refine v_iload_n dX5_firstWeek_34 rfl ?_
      refine v_imul dX5_firstWeek_35 ?_
      refine v_iconst (x := 1) dX5_firstWeek_36 rfl ?_
      refine v_iadd dX5_firstWeek_37 ?_
      refine v_ialdN (3 * i + 1) iI45 dX5_firstWeek_38 (by rw [show (3 : Int32) = nI 3 from rfl, pk_mul, show (1 : Int32) = nI 1 from rfl, nI_add]) (by have := wv_C hv; omega) (by decide) ?_
      refine v_top (mh_A hw hi) ?_
      refine v_iload_n dX5_firstWeek_39 rfl ?_
      refine v_icmp_ge (tgt := 56) dX5_firstWeek_40 (by decide) (fun c40 => ?_) (fun c40 => ?_)
      · refine v_iload_n dX5_firstWeek_56 rfl ?_
        refine v_istore_n (L' := [(2, _), (0, _), (1, _), (3, _)]) dX5_firstWeek_57 rfl (by decide) rfl ?_
        have e : o24 (fwk w k (i + 1)) = o24 (fwk w k i) := by rw [o24_step hv hi, if_neg (fun q => nI_ge q.2 (by have := o24_le hv k (i := i) (by omega); omega) c40)]
        rw [e] at ih
        refine v_iinc (y := nI (i + 1)) (L' := [(3, .int (nI (i + 1))), (2, _), (0, _), (1, _)]) dX5_firstWeek_58 rfl (nI_1 i) (by decide) rfl ?_
        refine v_goto (tgt := 5) dX5_firstWeek_61 (by decide) ?_
        refine v_sub [2, 3, 1, 0] rfl ?_
        exact ih
      · refine v_aload_n dX5_firstWeek_43 rfl ?_
        refine v_get (j := 6) iO40 rfl dX5_firstWeek_44 (by decide) in_X5_firstWeek_X5 fl_X5_firstWeek_23 rfl ?_
        refine v_iconst (x := 3) dX5_firstWeek_47 rfl ?_
        refine v_iload_n dX5_firstWeek_48 rfl ?_
        refine v_imul dX5_firstWeek_49 ?_
        refine v_iconst (x := 1) dX5_firstWeek_50 rfl ?_
        refine v_iadd dX5_firstWeek_51 ?_
        refine v_ialdN (3 * i + 1) iI45 dX5_firstWeek_52 (by rw [show (3 : Int32) = nI 3 from rfl, pk_mul, show (1 : Int32) = nI 1 from rfl, nI_add]) (by have := wv_C hv; omega) (by decide) ?_
        refine v_top (mh_A hw hi) ?_
        refine v_goto (tgt := 57) dX5_firstWeek_53 (by decide) ?_
        refine v_istore_n (L' := [(2, _), (0, _), (1, _), (3, _)]) dX5_firstWeek_57 rfl (by decide) rfl ?_
        have e : o24 (fwk w k (i + 1)) = wA w i := by rw [o24_step hv hi, if_pos ⟨by rw [nI_le0 (by have := wv_H hv (j := i * 18 + k) (by have := wv_C hv; omega); omega)] at c26; omega, Nat.not_le.mp (fun q => c40 (nI_le q (by have := wv_A hv hi; omega)))⟩]
        rw [e] at ih
        refine v_iinc (y := nI (i + 1)) (L' := [(3, .int (nI (i + 1))), (2, _), (0, _), (1, _)]) dX5_firstWeek_58 rfl (nI_1 i) (by decide) rfl ?_
        refine v_goto (tgt := 5) dX5_firstWeek_61 (by decide) ?_
        refine v_sub [2, 3, 1, 0] rfl ?_
        exact ih
  · refine v_iload_n dX5_firstWeek_5 rfl ?_
    refine v_aload_n dX5_firstWeek_6 rfl ?_
    refine v_get (j := 5) iO40 rfl dX5_firstWeek_7 (by decide) in_X5_firstWeek_X5 fl_X5_firstWeek_20 rfl ?_
    refine v_iconst (x := 0) dX5_firstWeek_10 rfl ?_
    refine v_ialdN 0 iI44 dX5_firstWeek_11 rfl (by decide) (by decide) ?_
    refine v_top (mh_C hw) ?_
    refine v_icmp_ge (tgt := 64) dX5_firstWeek_12 (by decide) (fun c12 => ?_) (fun c12 => absurd (nI_le (Nat.le_refl _) (by have := wv_C hv; omega)) c12)
    refine v_iload_n dX5_firstWeek_64 rfl ?_
    exact v_iret rfl dX5_firstWeek_65 ⟨rfl, rfl⟩
set_option maxRecDepth 100000 in
set_option maxHeartbeats 4000000 in
theorem s_X5_sign {v : EE} {w : WD} {z : Nat} {σ : SS} (hw : MH 0 w σ) (hv : WV z w) (hz : z ≤ 1000000) (k what : Int32) : S1 v M_X5_sign [.ref (v.1 40), .int k, .int what] σ (some (.int (q_sign w k what))) (σ) := by
  refine Sp.of rfl (by decide) rfl (Nat.le_of_ble_eq_true rfl) ?_
  show V v M_X5_sign _ 0 [(0, .ref (v.1 40)), (1, .int k), (2, .int what)] [] σ
  refine v_aload_n dX5_sign_0 rfl ?_
  refine v_iload_n dX5_sign_1 rfl ?_
  refine v_callVi (M' := M_X5_isSign) (As := [_]) iO40 (s_X5_isSign hw hv _) dX5_sign_2 gX5_sign_X5_isSign rfl rfl nn_X5_isSign ⟨rfl, rfl⟩ ⟨by decide, by decide⟩ rfl rfl (Nat.le_of_ble_eq_true rfl) ?_
  refine v_if_eq (tgt := 20) dX5_sign_5 (by decide) (fun c5 => ?_) (fun c5 => ?_)
  · refine v_iconst (x := (-1)) dX5_sign_20 rfl ?_
    exact v_iret rfl dX5_sign_21 ⟨congrArg (fun z => some (Value.int z)) (by rw [q_sign, if_neg (by rw [bI_0.mp c5]; decide)]), rfl⟩
  · obtain ⟨j, hj, hj2, rfl⟩ := isN_nI (bI_n0.mp c5)
    have hS := wv_S hv
    refine v_iload_n dX5_sign_8 rfl ?_
    refine v_i2l dX5_sign_9 ?_
    refine v_lconst (x := 0) dX5_sign_10 rfl ?_
    refine v_ldc2 (x := (3)) (by decide +kernel) dX5_sign_11 ?_
    refine v_callSi (M' := M_X5_between) (As := [_, _, _]) (s_X5_between) dX5_sign_14 gX5_sign_X5_between rfl nn_X5_between ⟨rfl, rfl⟩ ⟨by decide, by decide⟩ rfl rfl (Nat.le_of_ble_eq_true rfl) ?_
    refine v_top (by rw [btw_lit 4 (by decide)]) ?_
    refine v_if_ne (tgt := 22) dX5_sign_17 (by decide) (fun c17 => ?_) (fun c17 => ?_)
    · rcases sw4 what with rfl | rfl | rfl | rfl | hsw
      · refine v_iload_n dX5_sign_22 rfl ?_
        refine v_iconst (x := 2) dX5_sign_23 rfl ?_
        refine v_icmp_ge (tgt := 40) dX5_sign_24 (by decide) (fun c24 => absurd c24 (by decide)) (fun c24 => ?_)
        refine v_aload_n dX5_sign_27 rfl ?_
        refine v_get (j := 4) iO40 rfl dX5_sign_28 (by decide) in_X5_sign_X5 fl_X5_sign_17 rfl ?_
        refine v_iconst (x := 2) dX5_sign_31 rfl ?_
        refine v_iload_n dX5_sign_32 rfl ?_
        refine v_imul dX5_sign_33 ?_
        refine v_iload_n dX5_sign_34 rfl ?_
        refine v_iadd dX5_sign_35 ?_
        refine v_ialdN (2 * j) iI43 dX5_sign_36 (by rw [show (2 : Int32) = nI 2 from rfl, pk_mul, show (0 : Int32) = nI 0 from rfl, nI_add, Nat.add_zero]) (by omega) (by decide) ?_
        refine v_top (mh_T hw hj) ?_
        refine v_goto (tgt := 58) dX5_sign_37 (by decide) ?_
        exact v_iret rfl dX5_sign_58 ⟨congrArg (fun z => some (Value.int z)) (by rw [q_sign, if_pos (bI_n0.mp c5), nI_clamp hj2]; rfl), rfl⟩
      · refine v_iload_n dX5_sign_22 rfl ?_
        refine v_iconst (x := 2) dX5_sign_23 rfl ?_
        refine v_icmp_ge (tgt := 40) dX5_sign_24 (by decide) (fun c24 => absurd c24 (by decide)) (fun c24 => ?_)
        refine v_aload_n dX5_sign_27 rfl ?_
        refine v_get (j := 4) iO40 rfl dX5_sign_28 (by decide) in_X5_sign_X5 fl_X5_sign_17 rfl ?_
        refine v_iconst (x := 2) dX5_sign_31 rfl ?_
        refine v_iload_n dX5_sign_32 rfl ?_
        refine v_imul dX5_sign_33 ?_
        refine v_iload_n dX5_sign_34 rfl ?_
        refine v_iadd dX5_sign_35 ?_
        refine v_ialdN (2 * j + 1) iI43 dX5_sign_36 (by rw [show (2 : Int32) = nI 2 from rfl, pk_mul, show (1 : Int32) = nI 1 from rfl, nI_add]) (by omega) (by decide) ?_
        refine v_top (mh_G hw hj) ?_
        refine v_goto (tgt := 58) dX5_sign_37 (by decide) ?_
        exact v_iret rfl dX5_sign_58 ⟨congrArg (fun z => some (Value.int z)) (by rw [q_sign, if_pos (bI_n0.mp c5), nI_clamp hj2]; rfl), rfl⟩
      · refine v_iload_n dX5_sign_22 rfl ?_
        refine v_iconst (x := 2) dX5_sign_23 rfl ?_
        refine v_icmp_ge (tgt := 40) dX5_sign_24 (by decide) (fun c24 => ?_) (fun c24 => absurd (by decide) c24)
        refine v_iload_n dX5_sign_40 rfl ?_
        refine v_iconst (x := 2) dX5_sign_41 rfl ?_
        refine v_icmp_ne (tgt := 53) dX5_sign_42 (by decide) (fun c42 => absurd rfl c42) (fun c42 => ?_)
        refine v_aload_n dX5_sign_45 rfl ?_
        refine v_iload_n dX5_sign_46 rfl ?_
        refine v_callVi (M' := M_X5_ofSign) (As := [_]) iO40 (s_X5_ofSign hw hv (by omega)) dX5_sign_47 gX5_sign_X5_ofSign rfl rfl nn_X5_ofSign ⟨rfl, rfl⟩ ⟨by decide, by decide⟩ rfl rfl (Nat.le_of_ble_eq_true rfl) ?_
        refine v_goto (tgt := 58) dX5_sign_50 (by decide) ?_
        exact v_iret rfl dX5_sign_58 ⟨congrArg (fun z => some (Value.int z)) (by rw [q_sign, if_pos (bI_n0.mp c5), nI_clamp hj2]; rfl), rfl⟩
      · refine v_iload_n dX5_sign_22 rfl ?_
        refine v_iconst (x := 2) dX5_sign_23 rfl ?_
        refine v_icmp_ge (tgt := 40) dX5_sign_24 (by decide) (fun c24 => ?_) (fun c24 => absurd (by decide) c24)
        refine v_iload_n dX5_sign_40 rfl ?_
        refine v_iconst (x := 2) dX5_sign_41 rfl ?_
        refine v_icmp_ne (tgt := 53) dX5_sign_42 (by decide) (fun c42 => ?_) (fun c42 => absurd c42 (by decide))
        refine v_aload_n dX5_sign_53 rfl ?_
        refine v_iload_n dX5_sign_54 rfl ?_
        refine v_callVi (M' := M_X5_partsOf) (As := [_]) iO40 (s_X5_partsOf hw hv hz (by omega)) dX5_sign_55 gX5_sign_X5_partsOf rfl rfl nn_X5_partsOf ⟨rfl, rfl⟩ ⟨by decide, by decide⟩ rfl rfl (Nat.le_of_ble_eq_true rfl) ?_
        exact v_iret rfl dX5_sign_58 ⟨congrArg (fun z => some (Value.int z)) (by rw [q_sign, if_pos (bI_n0.mp c5), nI_clamp hj2]; rfl), rfl⟩
      · exact absurd (bI_n0.mp c17) (by rw [hsw]; decide)
    · refine v_iconst (x := (-1)) dX5_sign_20 rfl ?_
      exact v_iret rfl dX5_sign_21 ⟨congrArg (fun z => some (Value.int z)) (by obtain ⟨n0, n1, n2, n3⟩ := sw4_ne (bI_0.mp c17); rw [q_sign, if_pos (bI_n0.mp c5), if_neg n0, if_neg n1, if_neg n2, if_neg n3]), rfl⟩
set_option maxRecDepth 100000 in
set_option maxHeartbeats 4000000 in
theorem s_X5_stones {v : EE} {w : WD} {z : Nat} {σ : SS} (hw : MH 0 w σ) (hv : WV z w) (hz : z ≤ 1000000) (c k : Int32) : S1 v M_X5_stones [.ref (v.1 40), .int c, .int k] σ (some (.int (q_stones w c k))) (σ) := by
  refine Sp.of rfl (by decide) rfl (Nat.le_of_ble_eq_true rfl) ?_
  show V v M_X5_stones _ 0 [(0, .ref (v.1 40)), (1, .int c), (2, .int k)] [] σ
  refine v_aload_n dX5_stones_0 rfl ?_
  refine v_iload_n dX5_stones_1 rfl ?_
  refine v_callVi (M' := M_X5_isCourse) (As := [_]) iO40 (s_X5_isCourse hw hv _) dX5_stones_2 gX5_stones_X5_isCourse rfl rfl nn_X5_isCourse ⟨rfl, rfl⟩ ⟨by decide, by decide⟩ rfl rfl (Nat.le_of_ble_eq_true rfl) ?_
  refine v_if_eq (tgt := 33) dX5_stones_5 (by decide) (fun c5 => ?_) (fun c5 => ?_)
  · refine v_iconst (x := (-1)) dX5_stones_33 rfl ?_
    exact v_iret rfl dX5_stones_34 ⟨congrArg (fun z => some (Value.int z)) (by rw [q_stones, if_neg (fun q => by rw [bI_0.mp c5] at q; cases q.1)]), rfl⟩
  · refine v_aload_n dX5_stones_8 rfl ?_
    refine v_iload_n dX5_stones_9 rfl ?_
    refine v_callVi (M' := M_X5_isKind) (As := [_]) iO40 (s_X5_isKind hw hv _) dX5_stones_10 gX5_stones_X5_isKind rfl rfl nn_X5_isKind ⟨rfl, rfl⟩ ⟨by decide, by decide⟩ rfl rfl (Nat.le_of_ble_eq_true rfl) ?_
    refine v_if_eq (tgt := 33) dX5_stones_13 (by decide) (fun c13 => ?_) (fun c13 => ?_)
    · refine v_iconst (x := (-1)) dX5_stones_33 rfl ?_
      exact v_iret rfl dX5_stones_34 ⟨congrArg (fun z => some (Value.int z)) (by rw [q_stones, if_neg (fun q => by rw [bI_0.mp c13] at q; cases q.2)]), rfl⟩
    · obtain ⟨j, hj, hj2, rfl⟩ := isN_nI (bI_n0.mp c5)
      obtain ⟨l, hl, e1, e2⟩ := kd_col hv (bI_n0.mp c13)
      refine v_aload_n dX5_stones_16 rfl ?_
      refine v_get (j := 12) iO40 rfl dX5_stones_17 (by decide) in_X5_stones_X5 fl_X5_stones_38 rfl ?_
      refine v_bipush (x := 18) dX5_stones_20 (by decide +kernel) ?_
      refine v_iload_n dX5_stones_22 rfl ?_
      refine v_imul dX5_stones_23 ?_
      refine v_iload_n dX5_stones_24 rfl ?_
      refine v_callSi (M' := M_X5_kindOf) (As := [_]) (s_X5_kindOf) dX5_stones_25 gX5_stones_X5_kindOf rfl nn_X5_kindOf ⟨rfl, rfl⟩ ⟨by decide, by decide⟩ rfl rfl (Nat.le_of_ble_eq_true rfl) ?_
      refine v_top e1 ?_
      refine v_iadd dX5_stones_28 ?_
      refine v_ialdN (j * 18 + l) iI50 dX5_stones_29 (by rw [show (18 : Int32) = nI 18 from rfl, pk_mul, nI_add, Nat.mul_comm 18]) (by have := wv_C hv; omega) (by decide) ?_
      refine v_top (mh_H hw (by have := wv_C hv; omega)) ?_
      refine v_goto (tgt := 34) dX5_stones_30 (by decide) ?_
      exact v_iret rfl dX5_stones_34 ⟨congrArg (fun z => some (Value.int z)) (by rw [q_stones, if_pos ⟨bI_n0.mp c5, bI_n0.mp c13⟩, e1, nI_clamp hj2, nI_clamp (by omega)]), rfl⟩
set_option maxRecDepth 100000 in
set_option maxHeartbeats 4000000 in
theorem s_X5_in {v : EE} {w : WD} {z : Nat} {σ : SS} (hw : MH 0 w σ) (hv : WV z w) (hz : z ≤ 1000000) (p k : Int32) : S1 v M_X5_in [.ref (v.1 40), .int p, .int k] σ (some (.int (q_in w p k))) (σ) := by
  refine Sp.of rfl (by decide) rfl (Nat.le_of_ble_eq_true rfl) ?_
  show V v M_X5_in _ 0 [(0, .ref (v.1 40)), (1, .int p), (2, .int k)] [] σ
  refine v_aload_n dX5_in_0 rfl ?_
  refine v_iload_n dX5_in_1 rfl ?_
  refine v_callVi (M' := M_X5_isPart) (As := [_]) iO40 (s_X5_isPart hw hv _) dX5_in_2 gX5_in_X5_isPart rfl rfl nn_X5_isPart ⟨rfl, rfl⟩ ⟨by decide, by decide⟩ rfl rfl (Nat.le_of_ble_eq_true rfl) ?_
  refine v_if_eq (tgt := 25) dX5_in_5 (by decide) (fun c5 => ?_) (fun c5 => ?_)
  · refine v_iconst (x := (-1)) dX5_in_25 rfl ?_
    exact v_iret rfl dX5_in_26 ⟨congrArg (fun z => some (Value.int z)) (by rw [q_in, if_neg (fun q => by rw [bI_0.mp c5] at q; cases q.1)]), rfl⟩
  · refine v_aload_n dX5_in_8 rfl ?_
    refine v_iload_n dX5_in_9 rfl ?_
    refine v_callVi (M' := M_X5_isKind) (As := [_]) iO40 (s_X5_isKind hw hv _) dX5_in_10 gX5_in_X5_isKind rfl rfl nn_X5_isKind ⟨rfl, rfl⟩ ⟨by decide, by decide⟩ rfl rfl (Nat.le_of_ble_eq_true rfl) ?_
    refine v_if_eq (tgt := 25) dX5_in_13 (by decide) (fun c13 => ?_) (fun c13 => ?_)
    · refine v_iconst (x := (-1)) dX5_in_25 rfl ?_
      exact v_iret rfl dX5_in_26 ⟨congrArg (fun z => some (Value.int z)) (by rw [q_in, if_neg (fun q => by rw [bI_0.mp c13] at q; cases q.2)]), rfl⟩
    · obtain ⟨j, hj, rfl⟩ := isP_nI (bI_n0.mp c5)
      obtain ⟨l, hl, e1, e2⟩ := kd_col hv (bI_n0.mp c13)
      refine v_aload_n dX5_in_16 rfl ?_
      refine v_iload_n dX5_in_17 rfl ?_
      refine v_iload_n dX5_in_18 rfl ?_
      refine v_callVi (M' := M_X5_inPart) (As := [_, _]) iO40 (s_X5_inPart hw hv hj e1 hl) dX5_in_19 gX5_in_X5_inPart rfl rfl nn_X5_inPart ⟨rfl, rfl⟩ ⟨by decide, by decide⟩ rfl rfl (Nat.le_of_ble_eq_true rfl) ?_
      refine v_goto (tgt := 26) dX5_in_22 (by decide) ?_
      exact v_iret rfl dX5_in_26 ⟨congrArg (fun z => some (Value.int z)) (by rw [q_in, if_pos ⟨bI_n0.mp c5, bI_n0.mp c13⟩, e1, nI_clamp (by omega), nI_clamp (by omega)]), rfl⟩
set_option maxRecDepth 100000 in
set_option maxHeartbeats 4000000 in
theorem s_X5_asks {v : EE} {w : WD} {z : Nat} {σ : SS} (hw : MH 0 w σ) (hv : WV z w) (hz : z ≤ 1000000) (k c : Int32) : S1 v M_X5_asks [.ref (v.1 40), .int k, .int c] σ (some (.int (q_asks w k c))) (σ) := by
  refine Sp.of rfl (by decide) rfl (Nat.le_of_ble_eq_true rfl) ?_
  show V v M_X5_asks _ 0 [(0, .ref (v.1 40)), (1, .int k), (2, .int c)] [] σ
  refine v_aload_n dX5_asks_0 rfl ?_
  refine v_iload_n dX5_asks_1 rfl ?_
  refine v_callVi (M' := M_X5_isSign) (As := [_]) iO40 (s_X5_isSign hw hv _) dX5_asks_2 gX5_asks_X5_isSign rfl rfl nn_X5_isSign ⟨rfl, rfl⟩ ⟨by decide, by decide⟩ rfl rfl (Nat.le_of_ble_eq_true rfl) ?_
  refine v_if_eq (tgt := 25) dX5_asks_5 (by decide) (fun c5 => ?_) (fun c5 => ?_)
  · refine v_iconst (x := (-1)) dX5_asks_25 rfl ?_
    exact v_iret rfl dX5_asks_26 ⟨congrArg (fun z => some (Value.int z)) (by rw [q_asks, if_neg (fun q => by rw [bI_0.mp c5] at q; cases q.1)]), rfl⟩
  · refine v_aload_n dX5_asks_8 rfl ?_
    refine v_iload_n dX5_asks_9 rfl ?_
    refine v_callVi (M' := M_X5_isCourse) (As := [_]) iO40 (s_X5_isCourse hw hv _) dX5_asks_10 gX5_asks_X5_isCourse rfl rfl nn_X5_isCourse ⟨rfl, rfl⟩ ⟨by decide, by decide⟩ rfl rfl (Nat.le_of_ble_eq_true rfl) ?_
    refine v_if_eq (tgt := 25) dX5_asks_13 (by decide) (fun c13 => ?_) (fun c13 => ?_)
    · refine v_iconst (x := (-1)) dX5_asks_25 rfl ?_
      exact v_iret rfl dX5_asks_26 ⟨congrArg (fun z => some (Value.int z)) (by rw [q_asks, if_neg (fun q => by rw [bI_0.mp c13] at q; cases q.2)]), rfl⟩
    · obtain ⟨j, hj, hj2, rfl⟩ := isN_nI (bI_n0.mp c5)
      obtain ⟨l, hl, hl2, rfl⟩ := isN_nI (bI_n0.mp c13)
      have hS := wv_S hv
      refine v_aload_n dX5_asks_16 rfl ?_
      refine v_iload_n dX5_asks_17 rfl ?_
      refine v_iload_n dX5_asks_18 rfl ?_
      refine v_callVi (M' := M_X5_asksOf) (As := [_, _]) iO40 (s_X5_asksOf hw hv hz hl (by omega)) dX5_asks_19 gX5_asks_X5_asksOf rfl rfl nn_X5_asksOf ⟨rfl, rfl⟩ ⟨by decide, by decide⟩ rfl rfl (Nat.le_of_ble_eq_true rfl) ?_
      refine v_goto (tgt := 26) dX5_asks_22 (by decide) ?_
      exact v_iret rfl dX5_asks_26 ⟨congrArg (fun z => some (Value.int z)) (by rw [q_asks, if_pos ⟨bI_n0.mp c5, bI_n0.mp c13⟩, nI_clamp hj2, nI_clamp hl2]), rfl⟩
set_option maxRecDepth 100000 in
set_option maxHeartbeats 4000000 in
theorem s_X5_may {v : EE} {w : WD} {z : Nat} {σ : SS} (hw : MH 0 w σ) (hv : WV z w) (hz : z ≤ 1000000) (m k : Int32) : S1 v M_X5_may [.ref (v.1 40), .int m, .int k] σ (some (.int (q_may w m k))) (σ) := by
  refine Sp.of rfl (by decide) rfl (Nat.le_of_ble_eq_true rfl) ?_
  show V v M_X5_may _ 0 [(0, .ref (v.1 40)), (1, .int m), (2, .int k)] [] σ
  refine v_aload_n dX5_may_0 rfl ?_
  refine v_iload_n dX5_may_1 rfl ?_
  refine v_callVi (M' := M_X5_isNameOf) (As := [_]) iO40 (s_X5_isNameOf hw hv _) dX5_may_2 gX5_may_X5_isNameOf rfl rfl nn_X5_isNameOf ⟨rfl, rfl⟩ ⟨by decide, by decide⟩ rfl rfl (Nat.le_of_ble_eq_true rfl) ?_
  refine v_if_eq (tgt := 16) dX5_may_5 (by decide) (fun c5 => ?_) (fun c5 => ?_)
  · refine v_iconst (x := (-1)) dX5_may_16 rfl ?_
    refine v_goto (tgt := 34) dX5_may_17 (by decide) ?_
    exact v_iret rfl dX5_may_34 ⟨congrArg (fun z => some (Value.int z)) (by rw [q_may, if_neg (fun q => by rw [bI_0.mp c5] at q; cases q.1)]), rfl⟩
  · refine v_aload_n dX5_may_8 rfl ?_
    refine v_iload_n dX5_may_9 rfl ?_
    refine v_callVi (M' := M_X5_isSign) (As := [_]) iO40 (s_X5_isSign hw hv _) dX5_may_10 gX5_may_X5_isSign rfl rfl nn_X5_isSign ⟨rfl, rfl⟩ ⟨by decide, by decide⟩ rfl rfl (Nat.le_of_ble_eq_true rfl) ?_
    refine v_if_ne (tgt := 20) dX5_may_13 (by decide) (fun c13 => ?_) (fun c13 => ?_)
    · obtain ⟨j, hj, hj2, rfl⟩ := isN_nI (bI_n0.mp c5)
      obtain ⟨l, hl, hl2, rfl⟩ := isN_nI (bI_n0.mp c13)
      have hS := wv_S hv
      refine v_aload_n dX5_may_20 rfl ?_
      refine v_iload_n dX5_may_21 rfl ?_
      refine v_iload_n dX5_may_22 rfl ?_
      refine v_callVi (M' := M_X5_mayCut) (As := [_, _]) iO40 (s_X5_mayCut hw hv hz hj (by omega)) dX5_may_23 gX5_may_X5_mayCut rfl rfl nn_X5_mayCut ⟨rfl, rfl⟩ ⟨by decide, by decide⟩ rfl rfl (Nat.le_of_ble_eq_true rfl) ?_
      refine v_if_eq (tgt := 33) dX5_may_26 (by decide) (fun c26 => ?_) (fun c26 => ?_)
      · refine v_iconst (x := 0) dX5_may_33 rfl ?_
        exact v_iret rfl dX5_may_34 ⟨congrArg (fun z => some (Value.int z)) (by rw [q_may, if_pos ⟨bI_n0.mp c5, bI_n0.mp c13⟩, nI_clamp hj2, nI_clamp hl2, c26]), rfl⟩
      · refine v_iconst (x := 1) dX5_may_29 rfl ?_
        refine v_goto (tgt := 34) dX5_may_30 (by decide) ?_
        exact v_iret rfl dX5_may_34 ⟨congrArg (fun z => some (Value.int z)) (by rw [q_may, if_pos ⟨bI_n0.mp c5, bI_n0.mp c13⟩, nI_clamp hj2, nI_clamp hl2, bI_n0.mp c26]; rfl), rfl⟩
    · refine v_iconst (x := (-1)) dX5_may_16 rfl ?_
      refine v_goto (tgt := 34) dX5_may_17 (by decide) ?_
      exact v_iret rfl dX5_may_34 ⟨congrArg (fun z => some (Value.int z)) (by rw [q_may, if_neg (fun q => by rw [bI_0.mp c13] at q; cases q.2)]), rfl⟩
theorem sms_lt {z : Nat} {w : WD} (hv : WV z w) (hz : z ≤ 1000000) {k : Nat} (hk : k < 18) : sms w k < 2 ^ 31 := by
  have hC := wv_C hv
  have h := sm_le (f := fun c => wH w (c * 18 + k)) (c := z) (n := wC w) (fun c hc => wv_H hv (by omega))
  have h2 : wC w * z ≤ 16 * 1000000 := Nat.mul_le_mul hC hz
  rw [sms]
  omega
theorem gr_none1 {w : WD} {k j : Nat} (h : fwk w k (wC w) = none) : gr w k j = -2 := by rw [gr, h]
theorem gr_none2 {w : WD} {k j : Nat} (h : fwk w j (wC w) = none) : gr w k j = -2 := by
  rw [gr, h]
  cases fwk w k (wC w) <;> rfl
theorem gr_some {w : WD} {k j a d : Nat} (h1 : fwk w k (wC w) = some a) (h2 : fwk w j (wC w) = some d) : gr w k j = if both w k j = true then 1 else if d ≤ a then 2 else 3 := by rw [gr, h1, h2]
set_option maxRecDepth 100000 in
set_option maxHeartbeats 4000000 in
theorem s_X5_grown {v : EE} {w : WD} {z : Nat} {σ : SS} (hw : MH 0 w σ) (hv : WV z w) (hz : z ≤ 1000000) (k : Int32) : S1 v M_X5_grown [.ref (v.1 40), .int k] σ (some (.int (q_grown w k))) (σ) := by
  refine Sp.of rfl (by decide) rfl (Nat.le_of_ble_eq_true rfl) ?_
  show V v M_X5_grown _ 0 [(0, .ref (v.1 40)), (1, .int k)] [] σ
  refine v_aload_n dX5_grown_0 rfl ?_
  refine v_iload_n dX5_grown_1 rfl ?_
  refine v_callVi (M' := M_X5_isSign) (As := [_]) iO40 (s_X5_isSign hw hv _) dX5_grown_2 gX5_grown_X5_isSign rfl rfl nn_X5_isSign ⟨rfl, rfl⟩ ⟨by decide, by decide⟩ rfl rfl (Nat.le_of_ble_eq_true rfl) ?_
  refine v_if_ne (tgt := 10) dX5_grown_5 (by decide) (fun c5 => ?_) (fun c5 => ?_)
  · obtain ⟨j, hj, hj2, rfl⟩ := isN_nI (bI_n0.mp c5)
    have hS := wv_S hv
    refine v_aload_n dX5_grown_10 rfl ?_
    refine v_get (j := 4) iO40 rfl dX5_grown_11 (by decide) in_X5_grown_X5 fl_X5_grown_17 rfl ?_
    refine v_iconst (x := 2) dX5_grown_14 rfl ?_
    refine v_iload_n dX5_grown_15 rfl ?_
    refine v_imul dX5_grown_16 ?_
    refine v_iconst (x := 1) dX5_grown_17 rfl ?_
    refine v_iadd dX5_grown_18 ?_
    refine v_ialdN (2 * j + 1) iI43 dX5_grown_19 (by rw [show (2 : Int32) = nI 2 from rfl, pk_mul, show (1 : Int32) = nI 1 from rfl, nI_add]) (by omega) (by decide) ?_
    refine v_top (mh_G hw hj) ?_
    rcases wG_cases hv hj with ⟨e0, eN⟩ | ⟨l, hl, e0, eN⟩
    · refine v_top e0 ?_
      refine v_istore_n (L' := [(2, _), (0, _), (1, _)]) dX5_grown_20 rfl (by decide) rfl ?_
      refine v_iload_n dX5_grown_21 rfl ?_
      refine v_if_lt (tgt := 41) dX5_grown_22 (by decide) (fun c22 => ?_) (fun c22 => absurd (by decide) c22)
      refine v_bipush (x := (-2)) dX5_grown_41 (by decide +kernel) ?_
      exact v_iret rfl dX5_grown_43 ⟨congrArg (fun z => some (Value.int z)) (by rw [q_grown, if_pos (isN_of hj (by omega)), nI_clamp hj2, if_neg (by rw [eN]; decide)]), rfl⟩
    · refine v_top e0 ?_
      refine v_istore_n (L' := [(2, _), (0, _), (1, _)]) dX5_grown_20 rfl (by decide) rfl ?_
      refine v_iload_n dX5_grown_21 rfl ?_
      refine v_if_lt (tgt := 41) dX5_grown_22 (by decide) (fun c22 => absurd c22 (nI_pos (by omega))) (fun c22 => ?_)
      refine v_aload_n dX5_grown_25 rfl ?_
      refine v_iload_n dX5_grown_26 rfl ?_
      refine v_callVi (M' := M_X5_ofSign) (As := [_]) iO40 (s_X5_ofSign hw hv (by omega)) dX5_grown_27 gX5_grown_X5_ofSign rfl rfl nn_X5_ofSign ⟨rfl, rfl⟩ ⟨by decide, by decide⟩ rfl rfl (Nat.le_of_ble_eq_true rfl) ?_
      refine v_if_eq (tgt := 41) dX5_grown_30 (by decide) (fun c30 => ?_) (fun c30 => ?_)
      · refine v_bipush (x := (-2)) dX5_grown_41 (by decide +kernel) ?_
        exact v_iret rfl dX5_grown_43 ⟨congrArg (fun z => some (Value.int z)) (by rw [q_grown, if_pos (isN_of hj (by omega)), nI_clamp hj2, if_pos eN, e0, nI_clamp (by omega), gr_none1 (sms_zero.mp ((nI_eq (b := 0) (sms_lt hv hz (by omega)) (by decide)).mp c30))]), rfl⟩
      · refine v_aload_n dX5_grown_33 rfl ?_
        refine v_iload_n dX5_grown_34 rfl ?_
        refine v_callVi (M' := M_X5_ofSign) (As := [_]) iO40 (s_X5_ofSign hw hv (by omega)) dX5_grown_35 gX5_grown_X5_ofSign rfl rfl nn_X5_ofSign ⟨rfl, rfl⟩ ⟨by decide, by decide⟩ rfl rfl (Nat.le_of_ble_eq_true rfl) ?_
        refine v_if_ne (tgt := 44) dX5_grown_38 (by decide) (fun c38 => ?_) (fun c38 => ?_)
        · obtain ⟨a1, ha1⟩ : ∃ a, fwk w j (wC w) = some a := by cases h : fwk w j (wC w) with | none => exact absurd (by rw [sms_zero.mpr h]; rfl) c30 | some a => exact ⟨a, rfl⟩
          obtain ⟨a2, ha2⟩ : ∃ a, fwk w l (wC w) = some a := by cases h : fwk w l (wC w) with | none => exact absurd (by rw [sms_zero.mpr h]; rfl) c38 | some a => exact ⟨a, rfl⟩
          refine v_iconst (x := 0) dX5_grown_44 rfl ?_
          refine v_istore_n (L' := [(3, _), (2, _), (0, _), (1, _)]) dX5_grown_45 rfl (by decide) rfl ?_
          refine v_sub [2, 3, 1, 0] rfl ?_
          refine loopN (fun i => anyB (fun c => decide (0 < wH w (c * 18 + j)) && decide (0 < wH w (c * 18 + l))) i = false → V v M_X5_grown (zR v M_X5_grown (fun r' σ' => r' = (some (.int (q_grown w (nI j)))) ∧ σ' = (σ))) 46 [(0, .ref (v.1 40)), (1, .int (nI j)), (2, .int (nI l)), (3, .int (nI i))] [] (σ)) (wC w) ?_ ?_ rfl
          · intro i hi ih hal
            refine v_iload_n dX5_grown_46 rfl ?_
            refine v_aload_n dX5_grown_47 rfl ?_
            refine v_get (j := 5) iO40 rfl dX5_grown_48 (by decide) in_X5_grown_X5 fl_X5_grown_20 rfl ?_
            refine v_iconst (x := 0) dX5_grown_51 rfl ?_
            refine v_ialdN 0 iI44 dX5_grown_52 rfl (by decide) (by decide) ?_
            refine v_top (mh_C hw) ?_
            refine v_icmp_ge (tgt := 92) dX5_grown_53 (by decide) (fun c53 => absurd c53 (nI_ge hi (by have := wv_C hv; omega))) (fun c53 => ?_)
            refine v_aload_n dX5_grown_56 rfl ?_
            refine v_get (j := 12) iO40 rfl dX5_grown_57 (by decide) in_X5_grown_X5 fl_X5_grown_38 rfl ?_
            refine v_bipush (x := 18) dX5_grown_60 (by decide +kernel) ?_
            refine v_iload_n dX5_grown_62 rfl ?_
            refine v_imul dX5_grown_63 ?_
            refine v_iload_n dX5_grown_64 rfl ?_
            refine v_iadd dX5_grown_65 ?_
            refine v_ialdN (i * 18 + j) iI50 dX5_grown_66 (by rw [show (18 : Int32) = nI 18 from rfl, pk_mul, nI_add, Nat.mul_comm 18]) (by have := wv_C hv; omega) (by decide) ?_
            refine v_top (mh_H hw (by have := wv_C hv; omega)) ?_
            refine v_if_le (tgt := 86) dX5_grown_67 (by decide) (fun c67 => ?_) (fun c67 => ?_)
            · have ih := ih (by rw [anyB, hal, decide_eq_false (by rw [nI_le0 (by have := wv_H hv (j := i * 18 + j) (by have := wv_C hv; omega); omega)] at c67; omega)]; rfl)
              refine v_iinc (y := nI (i + 1)) (L' := [(3, .int (nI (i + 1))), (0, _), (1, _), (2, _)]) dX5_grown_86 rfl (nI_1 i) (by decide) rfl ?_
              refine v_goto (tgt := 46) dX5_grown_89 (by decide) ?_
              refine v_sub [1, 2, 3, 0] rfl ?_
              exact ih
            · refine v_aload_n dX5_grown_70 rfl ?_
              refine v_get (j := 12) iO40 rfl dX5_grown_71 (by decide) in_X5_grown_X5 fl_X5_grown_38 rfl ?_
              refine v_bipush (x := 18) dX5_grown_74 (by decide +kernel) ?_
              refine v_iload_n dX5_grown_76 rfl ?_
              refine v_imul dX5_grown_77 ?_
              refine v_iload_n dX5_grown_78 rfl ?_
              refine v_iadd dX5_grown_79 ?_
              refine v_ialdN (i * 18 + l) iI50 dX5_grown_80 (by rw [show (18 : Int32) = nI 18 from rfl, pk_mul, nI_add, Nat.mul_comm 18]) (by have := wv_C hv; omega) (by decide) ?_
              refine v_top (mh_H hw (by have := wv_C hv; omega)) ?_
              refine v_if_le (tgt := 86) dX5_grown_81 (by decide) (fun c81 => ?_) (fun c81 => ?_)
              · have ih := ih (by rw [anyB, hal, decide_eq_false (p := 0 < wH w (i * 18 + l)) (by rw [nI_le0 (by have := wv_H hv (j := i * 18 + l) (by have := wv_C hv; omega); omega)] at c81; omega), Bool.and_false]; rfl)
                refine v_iinc (y := nI (i + 1)) (L' := [(3, .int (nI (i + 1))), (0, _), (1, _), (2, _)]) dX5_grown_86 rfl (nI_1 i) (by decide) rfl ?_
                refine v_goto (tgt := 46) dX5_grown_89 (by decide) ?_
                refine v_sub [1, 2, 3, 0] rfl ?_
                exact ih
              · refine v_iconst (x := 1) dX5_grown_84 rfl ?_
                exact v_iret rfl dX5_grown_85 ⟨congrArg (fun z => some (Value.int z)) (by rw [q_grown, if_pos (isN_of hj (by omega)), nI_clamp hj2, if_pos eN, e0, nI_clamp (by omega), gr_some ha1 ha2, if_pos (show both w j l = true from anyB_t hi (by rw [decide_eq_true (by rw [nI_le0 (by have := wv_H hv (j := i * 18 + j) (by have := wv_C hv; omega); omega)] at c67; omega), decide_eq_true (by rw [nI_le0 (by have := wv_H hv (j := i * 18 + l) (by have := wv_C hv; omega); omega)] at c81; omega)]; rfl))]), rfl⟩
          · intro hal
            refine v_iload_n dX5_grown_46 rfl ?_
            refine v_aload_n dX5_grown_47 rfl ?_
            refine v_get (j := 5) iO40 rfl dX5_grown_48 (by decide) in_X5_grown_X5 fl_X5_grown_20 rfl ?_
            refine v_iconst (x := 0) dX5_grown_51 rfl ?_
            refine v_ialdN 0 iI44 dX5_grown_52 rfl (by decide) (by decide) ?_
            refine v_top (mh_C hw) ?_
            refine v_icmp_ge (tgt := 92) dX5_grown_53 (by decide) (fun c53 => ?_) (fun c53 => absurd (nI_le (Nat.le_refl _) (by have := wv_C hv; omega)) c53)
            refine v_aload_n dX5_grown_92 rfl ?_
            refine v_iload_n dX5_grown_93 rfl ?_
            refine v_callVi (M' := M_X5_firstWeek) (As := [_]) iO40 (s_X5_firstWeek hw hv hz (by omega)) dX5_grown_94 gX5_grown_X5_firstWeek rfl rfl nn_X5_firstWeek ⟨rfl, rfl⟩ ⟨by decide, by decide⟩ rfl rfl (Nat.le_of_ble_eq_true rfl) ?_
            refine v_top (y := nI a1) (by rw [ha1]; rfl) ?_
            refine v_aload_n dX5_grown_97 rfl ?_
            refine v_iload_n dX5_grown_98 rfl ?_
            refine v_callVi (M' := M_X5_firstWeek) (As := [_]) iO40 (s_X5_firstWeek hw hv hz (by omega)) dX5_grown_99 gX5_grown_X5_firstWeek rfl rfl nn_X5_firstWeek ⟨rfl, rfl⟩ ⟨by decide, by decide⟩ rfl rfl (Nat.le_of_ble_eq_true rfl) ?_
            refine v_top (y := nI a2) (by rw [ha2]; rfl) ?_
            have l1 := fwk_lt hv j _ (Nat.le_refl _) a1 ha1
            have l2 := fwk_lt hv l _ (Nat.le_refl _) a2 ha2
            refine v_icmp_lt (tgt := 109) dX5_grown_102 (by decide) (fun c102 => ?_) (fun c102 => ?_)
            · refine v_iconst (x := 3) dX5_grown_109 rfl ?_
              exact v_iret rfl dX5_grown_110 ⟨congrArg (fun z => some (Value.int z)) (by rw [q_grown, if_pos (isN_of hj (by omega)), nI_clamp hj2, if_pos eN, e0, nI_clamp (by omega), gr_some ha1 ha2, if_neg (by rw [both, hal]; decide), if_neg (Nat.not_le.mpr ((nI_ltI (by omega) (by omega)).mp c102))]), rfl⟩
            · refine v_iconst (x := 2) dX5_grown_105 rfl ?_
              refine v_goto (tgt := 110) dX5_grown_106 (by decide) ?_
              exact v_iret rfl dX5_grown_110 ⟨congrArg (fun z => some (Value.int z)) (by rw [q_grown, if_pos (isN_of hj (by omega)), nI_clamp hj2, if_pos eN, e0, nI_clamp (by omega), gr_some ha1 ha2, if_neg (by rw [both, hal]; decide), if_pos (Nat.not_lt.mp (fun q => c102 (nI_lt q (by omega))))]), rfl⟩
        · refine v_bipush (x := (-2)) dX5_grown_41 (by decide +kernel) ?_
          exact v_iret rfl dX5_grown_43 ⟨congrArg (fun z => some (Value.int z)) (by rw [q_grown, if_pos (isN_of hj (by omega)), nI_clamp hj2, if_pos eN, e0, nI_clamp (by omega), gr_none2 (sms_zero.mp ((nI_eq (b := 0) (sms_lt hv hz (by omega)) (by decide)).mp c38))]), rfl⟩
  · refine v_iconst (x := (-1)) dX5_grown_8 rfl ?_
    exact v_iret rfl dX5_grown_9 ⟨congrArg (fun z => some (Value.int z)) (by rw [q_grown, if_neg (by rw [bI_0.mp c5]; decide)]), rfl⟩
set_option maxRecDepth 100000 in
set_option maxHeartbeats 4000000 in
theorem s_X5_men {v : EE} {w : WD} {z : Nat} {σ : SS} (hw : MH 0 w σ) (hv : WV z w) (hz : z ≤ 1000000) (c what : Int32) : S1 v M_X5_men [.ref (v.1 40), .int c, .int what] σ (some (.int (q_men w c what))) (σ) := by
  refine Sp.of rfl (by decide) rfl (Nat.le_of_ble_eq_true rfl) ?_
  show V v M_X5_men _ 0 [(0, .ref (v.1 40)), (1, .int c), (2, .int what)] [] σ
  refine v_aload_n dX5_men_0 rfl ?_
  refine v_iload_n dX5_men_1 rfl ?_
  refine v_callVi (M' := M_X5_isCourse) (As := [_]) iO40 (s_X5_isCourse hw hv _) dX5_men_2 gX5_men_X5_isCourse rfl rfl nn_X5_isCourse ⟨rfl, rfl⟩ ⟨by decide, by decide⟩ rfl rfl (Nat.le_of_ble_eq_true rfl) ?_
  refine v_if_eq (tgt := 20) dX5_men_5 (by decide) (fun c5 => ?_) (fun c5 => ?_)
  · refine v_iconst (x := (-1)) dX5_men_20 rfl ?_
    exact v_iret rfl dX5_men_21 ⟨congrArg (fun z => some (Value.int z)) (by rw [q_men, if_neg (by rw [bI_0.mp c5]; decide)]), rfl⟩
  · obtain ⟨j, hj, hj2, rfl⟩ := isN_nI (bI_n0.mp c5)
    refine v_iload_n dX5_men_8 rfl ?_
    refine v_i2l dX5_men_9 ?_
    refine v_lconst (x := 0) dX5_men_10 rfl ?_
    refine v_ldc2 (x := (2)) (by decide +kernel) dX5_men_11 ?_
    refine v_callSi (M' := M_X5_between) (As := [_, _, _]) (s_X5_between) dX5_men_14 gX5_men_X5_between rfl nn_X5_between ⟨rfl, rfl⟩ ⟨by decide, by decide⟩ rfl rfl (Nat.le_of_ble_eq_true rfl) ?_
    refine v_top (by rw [btw_lit 3 (by decide)]) ?_
    refine v_if_ne (tgt := 22) dX5_men_17 (by decide) (fun c17 => ?_) (fun c17 => ?_)
    · rcases sw3 what with rfl | rfl | rfl | hsw
      · refine v_iload_n dX5_men_22 rfl ?_
        refine v_iconst (x := 2) dX5_men_23 rfl ?_
        refine v_icmp_ne (tgt := 41) dX5_men_24 (by decide) (fun c24 => ?_) (fun c24 => absurd c24 (by decide))
        refine v_iconst (x := 0) dX5_men_41 rfl ?_
        refine v_istore_n (L' := [(3, _), (0, _), (1, _), (2, _)]) dX5_men_42 rfl (by decide) rfl ?_
        refine v_iconst (x := 0) dX5_men_43 rfl ?_
        refine v_istore (L' := [(4, _), (3, _), (0, _), (1, _), (2, _)]) dX5_men_44 (by decide) rfl ?_
        refine v_sub [2, 3, 4, 1, 0] rfl ?_
        refine loopN (fun i => V v M_X5_men (zR v M_X5_men (fun r' σ' => r' = (some (.int (q_men w (nI j) 0))) ∧ σ' = (σ))) 46 [(0, .ref (v.1 40)), (1, .int (nI j)), (2, .int 0), (3, .int (nI (sm (fun k => if 0 < wH w (j * 18 + k) then 1 else 0) i))), (4, .int (nI i))] [] (σ)) 16 ?_ ?_
        · intro i hi ih
          refine v_iload dX5_men_46 rfl ?_
          refine v_bipush (x := 16) dX5_men_48 (by decide +kernel) ?_
          refine v_icmp_ge (tgt := 82) dX5_men_50 (by decide) (fun c50 => absurd c50 (nI_ge hi (by decide))) (fun c50 => ?_)
          refine v_iload_n dX5_men_53 rfl ?_
          refine v_aload_n dX5_men_54 rfl ?_
          refine v_get (j := 12) iO40 rfl dX5_men_55 (by decide) in_X5_men_X5 fl_X5_men_38 rfl ?_
          refine v_bipush (x := 18) dX5_men_58 (by decide +kernel) ?_
          refine v_iload_n dX5_men_60 rfl ?_
          refine v_imul dX5_men_61 ?_
          refine v_iload dX5_men_62 rfl ?_
          refine v_iadd dX5_men_64 ?_
          refine v_ialdN (j * 18 + i) iI50 dX5_men_65 (by rw [show (18 : Int32) = nI 18 from rfl, pk_mul, nI_add, Nat.mul_comm 18]) (by have := wv_C hv; omega) (by decide) ?_
          refine v_top (mh_H hw (by have := wv_C hv; omega)) ?_
          refine v_if_le (tgt := 73) dX5_men_66 (by decide) (fun c66 => ?_) (fun c66 => ?_)
          · refine v_iconst (x := 0) dX5_men_73 rfl ?_
            refine v_iadd dX5_men_74 ?_
            refine v_top (nI_add _ 0) ?_
            refine v_istore_n (L' := [(3, _), (0, _), (1, _), (2, _), (4, _)]) dX5_men_75 rfl (by decide) rfl ?_
            have e : sm (fun k => if 0 < wH w (j * 18 + k) then 1 else 0) (i + 1) = sm (fun k => if 0 < wH w (j * 18 + k) then 1 else 0) i + 0 := by rw [sm, if_neg (by rw [nI_le0 (by have := wv_H hv (j := j * 18 + i) (by have := wv_C hv; omega); omega)] at c66; omega)]
            rw [e] at ih
            refine v_iinc (y := nI (i + 1)) (L' := [(4, .int (nI (i + 1))), (3, _), (0, _), (1, _), (2, _)]) dX5_men_76 rfl (nI_1 i) (by decide) rfl ?_
            refine v_goto (tgt := 46) dX5_men_79 (by decide) ?_
            refine v_sub [2, 3, 4, 1, 0] rfl ?_
            exact ih
          · refine v_iconst (x := 1) dX5_men_69 rfl ?_
            refine v_goto (tgt := 74) dX5_men_70 (by decide) ?_
            refine v_iadd dX5_men_74 ?_
            refine v_top (nI_add _ 1) ?_
            refine v_istore_n (L' := [(3, _), (0, _), (1, _), (2, _), (4, _)]) dX5_men_75 rfl (by decide) rfl ?_
            have e : sm (fun k => if 0 < wH w (j * 18 + k) then 1 else 0) (i + 1) = sm (fun k => if 0 < wH w (j * 18 + k) then 1 else 0) i + 1 := by rw [sm, if_pos (by rw [nI_le0 (by have := wv_H hv (j := j * 18 + i) (by have := wv_C hv; omega); omega)] at c66; omega)]
            rw [e] at ih
            refine v_iinc (y := nI (i + 1)) (L' := [(4, .int (nI (i + 1))), (3, _), (0, _), (1, _), (2, _)]) dX5_men_76 rfl (nI_1 i) (by decide) rfl ?_
            refine v_goto (tgt := 46) dX5_men_79 (by decide) ?_
            refine v_sub [2, 3, 4, 1, 0] rfl ?_
            exact ih
        · refine v_iload dX5_men_46 rfl ?_
          refine v_bipush (x := 16) dX5_men_48 (by decide +kernel) ?_
          refine v_icmp_ge (tgt := 82) dX5_men_50 (by decide) (fun c50 => ?_) (fun c50 => absurd (nI_le (Nat.le_refl _) (by decide)) c50)
          refine v_loc (L' := [(0, .ref (v.1 40)), (1, .int (nI j)), (2, .int 0), (3, .int (nI (pc (ssb w j)))), (4, .int 16)]) (by rw [pc_ssb hv hj]; rfl) ?_
          refine v_aload_n dX5_men_82 rfl ?_
          refine v_iload_n dX5_men_83 rfl ?_
          refine v_callVi (M' := M_X5_allOf) (As := [_]) iO40 (s_X5_allOf hw hv hj) dX5_men_84 gX5_men_X5_allOf rfl rfl nn_X5_allOf ⟨rfl, rfl⟩ ⟨by decide, by decide⟩ rfl rfl (Nat.le_of_ble_eq_true rfl) ?_
          refine v_aload_n dX5_men_87 rfl ?_
          refine v_get (j := 10) iO40 rfl dX5_men_88 (by decide) in_X5_men_X5 fl_X5_men_35 rfl ?_
          refine v_iconst (x := 0) dX5_men_91 rfl ?_
          refine v_ialdN 0 iI49 dX5_men_92 rfl (by decide) (by decide) ?_
          refine v_top (mh_P hw) ?_
          refine v_aload_n dX5_men_93 rfl ?_
          refine v_iload_n dX5_men_94 rfl ?_
          refine v_callVi (M' := M_X5_lasts) (As := [_]) iO40 (s_X5_lasts hw hv hj) dX5_men_95 gX5_men_X5_lasts rfl rfl nn_X5_lasts ⟨rfl, rfl⟩ ⟨by decide, by decide⟩ rfl rfl (Nat.le_of_ble_eq_true rfl) ?_
          refine v_imul dX5_men_98 ?_
          refine v_top (pk_mul _ _) ?_
          refine v_callSi (M' := M_X5_up) (As := [_, _]) (s_X5_up (pw_le hv hj).1 (by have := smc_le hv hj; have := pw_le hv hj; omega)) dX5_men_99 gX5_men_X5_up rfl nn_X5_up ⟨rfl, rfl⟩ ⟨by decide, by decide⟩ rfl rfl (Nat.le_of_ble_eq_true rfl) ?_
          refine v_istore (L' := [(4, _), (0, _), (1, _), (2, _), (3, _)]) dX5_men_102 (by decide) rfl ?_
          refine v_iload dX5_men_104 rfl ?_
          refine v_iload_n dX5_men_106 rfl ?_
          refine v_icmp_le (tgt := 115) dX5_men_107 (by decide) (fun c107 => ?_) (fun c107 => ?_)
          · refine v_iload_n dX5_men_115 rfl ?_
            refine v_top (y := nI (mnL w j)) (by rw [mnL]; rw [Nat.max_eq_left ((nI_leI (by have := upd'_le (a := smc w j) (pw_le hv hj).1; have := smc_le hv hj; have := pw_le hv hj; omega) (Nat.lt_of_le_of_lt (pc_le _) (by decide))).mp c107)]) ?_
            refine v_istore (L' := [(5, _), (4, _), (0, _), (1, _), (2, _), (3, _)]) dX5_men_116 (by decide) rfl ?_
            refine v_iload_n dX5_men_118 rfl ?_
            refine v_aload_n dX5_men_119 rfl ?_
            refine v_get (j := 12) iO40 rfl dX5_men_120 (by decide) in_X5_men_X5 fl_X5_men_38 rfl ?_
            refine v_bipush (x := 18) dX5_men_123 (by decide +kernel) ?_
            refine v_iload_n dX5_men_125 rfl ?_
            refine v_imul dX5_men_126 ?_
            refine v_bipush (x := 16) dX5_men_127 (by decide +kernel) ?_
            refine v_iadd dX5_men_129 ?_
            refine v_ialdN (j * 18 + 16) iI50 dX5_men_130 (by rw [show (18 : Int32) = nI 18 from rfl, show (16 : Int32) = nI 16 from rfl, pk_mul, nI_add, Nat.mul_comm 18]) (by have := wv_C hv; omega) (by decide) ?_
            refine v_top (mh_H hw (by have := wv_C hv; omega)) ?_
            refine v_iadd dX5_men_131 ?_
            refine v_top (nI_add _ _) ?_
            refine v_aload_n dX5_men_132 rfl ?_
            refine v_get (j := 12) iO40 rfl dX5_men_133 (by decide) in_X5_men_X5 fl_X5_men_38 rfl ?_
            refine v_bipush (x := 18) dX5_men_136 (by decide +kernel) ?_
            refine v_iload_n dX5_men_138 rfl ?_
            refine v_imul dX5_men_139 ?_
            refine v_bipush (x := 17) dX5_men_140 (by decide +kernel) ?_
            refine v_iadd dX5_men_142 ?_
            refine v_ialdN (j * 18 + 17) iI50 dX5_men_143 (by rw [show (18 : Int32) = nI 18 from rfl, show (17 : Int32) = nI 17 from rfl, pk_mul, nI_add, Nat.mul_comm 18]) (by have := wv_C hv; omega) (by decide) ?_
            refine v_top (mh_H hw (by have := wv_C hv; omega)) ?_
            refine v_iadd dX5_men_144 ?_
            refine v_top (y := nI (pc (ssb w j) + (wH w (j * 18 + 16) + wH w (j * 18 + 17)))) (by rw [nI_add, Nat.add_assoc]) ?_
            refine v_istore (L' := [(6, _), (5, _), (4, _), (0, _), (1, _), (2, _), (3, _)]) dX5_men_145 (by decide) rfl ?_
            refine v_iload_n dX5_men_147 rfl ?_
            refine v_if_ne (tgt := 156) dX5_men_148 (by decide) (fun c148 => absurd rfl c148) (fun c148 => ?_)
            refine v_iload dX5_men_151 rfl ?_
            refine v_goto (tgt := 170) dX5_men_153 (by decide) ?_
            exact v_iret rfl dX5_men_170 ⟨congrArg (fun z => some (Value.int z)) (by rw [q_men, if_pos (isN_of hj (by have := wv_C hv; omega)), nI_clamp hj2]; rfl), rfl⟩
          · refine v_iload dX5_men_110 rfl ?_
            refine v_goto (tgt := 116) dX5_men_112 (by decide) ?_
            refine v_top (y := nI (mnL w j)) (by rw [mnL]; rw [Nat.max_eq_right (Nat.le_of_lt (Nat.not_le.mp (fun q => c107 (nI_le q (Nat.lt_of_le_of_lt (pc_le _) (by decide))))))]) ?_
            refine v_istore (L' := [(5, _), (4, _), (0, _), (1, _), (2, _), (3, _)]) dX5_men_116 (by decide) rfl ?_
            refine v_iload_n dX5_men_118 rfl ?_
            refine v_aload_n dX5_men_119 rfl ?_
            refine v_get (j := 12) iO40 rfl dX5_men_120 (by decide) in_X5_men_X5 fl_X5_men_38 rfl ?_
            refine v_bipush (x := 18) dX5_men_123 (by decide +kernel) ?_
            refine v_iload_n dX5_men_125 rfl ?_
            refine v_imul dX5_men_126 ?_
            refine v_bipush (x := 16) dX5_men_127 (by decide +kernel) ?_
            refine v_iadd dX5_men_129 ?_
            refine v_ialdN (j * 18 + 16) iI50 dX5_men_130 (by rw [show (18 : Int32) = nI 18 from rfl, show (16 : Int32) = nI 16 from rfl, pk_mul, nI_add, Nat.mul_comm 18]) (by have := wv_C hv; omega) (by decide) ?_
            refine v_top (mh_H hw (by have := wv_C hv; omega)) ?_
            refine v_iadd dX5_men_131 ?_
            refine v_top (nI_add _ _) ?_
            refine v_aload_n dX5_men_132 rfl ?_
            refine v_get (j := 12) iO40 rfl dX5_men_133 (by decide) in_X5_men_X5 fl_X5_men_38 rfl ?_
            refine v_bipush (x := 18) dX5_men_136 (by decide +kernel) ?_
            refine v_iload_n dX5_men_138 rfl ?_
            refine v_imul dX5_men_139 ?_
            refine v_bipush (x := 17) dX5_men_140 (by decide +kernel) ?_
            refine v_iadd dX5_men_142 ?_
            refine v_ialdN (j * 18 + 17) iI50 dX5_men_143 (by rw [show (18 : Int32) = nI 18 from rfl, show (17 : Int32) = nI 17 from rfl, pk_mul, nI_add, Nat.mul_comm 18]) (by have := wv_C hv; omega) (by decide) ?_
            refine v_top (mh_H hw (by have := wv_C hv; omega)) ?_
            refine v_iadd dX5_men_144 ?_
            refine v_top (y := nI (pc (ssb w j) + (wH w (j * 18 + 16) + wH w (j * 18 + 17)))) (by rw [nI_add, Nat.add_assoc]) ?_
            refine v_istore (L' := [(6, _), (5, _), (4, _), (0, _), (1, _), (2, _), (3, _)]) dX5_men_145 (by decide) rfl ?_
            refine v_iload_n dX5_men_147 rfl ?_
            refine v_if_ne (tgt := 156) dX5_men_148 (by decide) (fun c148 => absurd rfl c148) (fun c148 => ?_)
            refine v_iload dX5_men_151 rfl ?_
            refine v_goto (tgt := 170) dX5_men_153 (by decide) ?_
            exact v_iret rfl dX5_men_170 ⟨congrArg (fun z => some (Value.int z)) (by rw [q_men, if_pos (isN_of hj (by have := wv_C hv; omega)), nI_clamp hj2]; rfl), rfl⟩
      · refine v_iload_n dX5_men_22 rfl ?_
        refine v_iconst (x := 2) dX5_men_23 rfl ?_
        refine v_icmp_ne (tgt := 41) dX5_men_24 (by decide) (fun c24 => ?_) (fun c24 => absurd c24 (by decide))
        refine v_iconst (x := 0) dX5_men_41 rfl ?_
        refine v_istore_n (L' := [(3, _), (0, _), (1, _), (2, _)]) dX5_men_42 rfl (by decide) rfl ?_
        refine v_iconst (x := 0) dX5_men_43 rfl ?_
        refine v_istore (L' := [(4, _), (3, _), (0, _), (1, _), (2, _)]) dX5_men_44 (by decide) rfl ?_
        refine v_sub [2, 3, 4, 1, 0] rfl ?_
        refine loopN (fun i => V v M_X5_men (zR v M_X5_men (fun r' σ' => r' = (some (.int (q_men w (nI j) 1))) ∧ σ' = (σ))) 46 [(0, .ref (v.1 40)), (1, .int (nI j)), (2, .int 1), (3, .int (nI (sm (fun k => if 0 < wH w (j * 18 + k) then 1 else 0) i))), (4, .int (nI i))] [] (σ)) 16 ?_ ?_
        · intro i hi ih
          refine v_iload dX5_men_46 rfl ?_
          refine v_bipush (x := 16) dX5_men_48 (by decide +kernel) ?_
          refine v_icmp_ge (tgt := 82) dX5_men_50 (by decide) (fun c50 => absurd c50 (nI_ge hi (by decide))) (fun c50 => ?_)
          refine v_iload_n dX5_men_53 rfl ?_
          refine v_aload_n dX5_men_54 rfl ?_
          refine v_get (j := 12) iO40 rfl dX5_men_55 (by decide) in_X5_men_X5 fl_X5_men_38 rfl ?_
          refine v_bipush (x := 18) dX5_men_58 (by decide +kernel) ?_
          refine v_iload_n dX5_men_60 rfl ?_
          refine v_imul dX5_men_61 ?_
          refine v_iload dX5_men_62 rfl ?_
          refine v_iadd dX5_men_64 ?_
          refine v_ialdN (j * 18 + i) iI50 dX5_men_65 (by rw [show (18 : Int32) = nI 18 from rfl, pk_mul, nI_add, Nat.mul_comm 18]) (by have := wv_C hv; omega) (by decide) ?_
          refine v_top (mh_H hw (by have := wv_C hv; omega)) ?_
          refine v_if_le (tgt := 73) dX5_men_66 (by decide) (fun c66 => ?_) (fun c66 => ?_)
          · refine v_iconst (x := 0) dX5_men_73 rfl ?_
            refine v_iadd dX5_men_74 ?_
            refine v_top (nI_add _ 0) ?_
            refine v_istore_n (L' := [(3, _), (0, _), (1, _), (2, _), (4, _)]) dX5_men_75 rfl (by decide) rfl ?_
            have e : sm (fun k => if 0 < wH w (j * 18 + k) then 1 else 0) (i + 1) = sm (fun k => if 0 < wH w (j * 18 + k) then 1 else 0) i + 0 := by rw [sm, if_neg (by rw [nI_le0 (by have := wv_H hv (j := j * 18 + i) (by have := wv_C hv; omega); omega)] at c66; omega)]
            rw [e] at ih
            refine v_iinc (y := nI (i + 1)) (L' := [(4, .int (nI (i + 1))), (3, _), (0, _), (1, _), (2, _)]) dX5_men_76 rfl (nI_1 i) (by decide) rfl ?_
            refine v_goto (tgt := 46) dX5_men_79 (by decide) ?_
            refine v_sub [2, 3, 4, 1, 0] rfl ?_
            exact ih
          · refine v_iconst (x := 1) dX5_men_69 rfl ?_
            refine v_goto (tgt := 74) dX5_men_70 (by decide) ?_
            refine v_iadd dX5_men_74 ?_
            refine v_top (nI_add _ 1) ?_
            refine v_istore_n (L' := [(3, _), (0, _), (1, _), (2, _), (4, _)]) dX5_men_75 rfl (by decide) rfl ?_
            have e : sm (fun k => if 0 < wH w (j * 18 + k) then 1 else 0) (i + 1) = sm (fun k => if 0 < wH w (j * 18 + k) then 1 else 0) i + 1 := by rw [sm, if_pos (by rw [nI_le0 (by have := wv_H hv (j := j * 18 + i) (by have := wv_C hv; omega); omega)] at c66; omega)]
            rw [e] at ih
            refine v_iinc (y := nI (i + 1)) (L' := [(4, .int (nI (i + 1))), (3, _), (0, _), (1, _), (2, _)]) dX5_men_76 rfl (nI_1 i) (by decide) rfl ?_
            refine v_goto (tgt := 46) dX5_men_79 (by decide) ?_
            refine v_sub [2, 3, 4, 1, 0] rfl ?_
            exact ih
        · refine v_iload dX5_men_46 rfl ?_
          refine v_bipush (x := 16) dX5_men_48 (by decide +kernel) ?_
          refine v_icmp_ge (tgt := 82) dX5_men_50 (by decide) (fun c50 => ?_) (fun c50 => absurd (nI_le (Nat.le_refl _) (by decide)) c50)
          refine v_loc (L' := [(0, .ref (v.1 40)), (1, .int (nI j)), (2, .int 1), (3, .int (nI (pc (ssb w j)))), (4, .int 16)]) (by rw [pc_ssb hv hj]; rfl) ?_
          refine v_aload_n dX5_men_82 rfl ?_
          refine v_iload_n dX5_men_83 rfl ?_
          refine v_callVi (M' := M_X5_allOf) (As := [_]) iO40 (s_X5_allOf hw hv hj) dX5_men_84 gX5_men_X5_allOf rfl rfl nn_X5_allOf ⟨rfl, rfl⟩ ⟨by decide, by decide⟩ rfl rfl (Nat.le_of_ble_eq_true rfl) ?_
          refine v_aload_n dX5_men_87 rfl ?_
          refine v_get (j := 10) iO40 rfl dX5_men_88 (by decide) in_X5_men_X5 fl_X5_men_35 rfl ?_
          refine v_iconst (x := 0) dX5_men_91 rfl ?_
          refine v_ialdN 0 iI49 dX5_men_92 rfl (by decide) (by decide) ?_
          refine v_top (mh_P hw) ?_
          refine v_aload_n dX5_men_93 rfl ?_
          refine v_iload_n dX5_men_94 rfl ?_
          refine v_callVi (M' := M_X5_lasts) (As := [_]) iO40 (s_X5_lasts hw hv hj) dX5_men_95 gX5_men_X5_lasts rfl rfl nn_X5_lasts ⟨rfl, rfl⟩ ⟨by decide, by decide⟩ rfl rfl (Nat.le_of_ble_eq_true rfl) ?_
          refine v_imul dX5_men_98 ?_
          refine v_top (pk_mul _ _) ?_
          refine v_callSi (M' := M_X5_up) (As := [_, _]) (s_X5_up (pw_le hv hj).1 (by have := smc_le hv hj; have := pw_le hv hj; omega)) dX5_men_99 gX5_men_X5_up rfl nn_X5_up ⟨rfl, rfl⟩ ⟨by decide, by decide⟩ rfl rfl (Nat.le_of_ble_eq_true rfl) ?_
          refine v_istore (L' := [(4, _), (0, _), (1, _), (2, _), (3, _)]) dX5_men_102 (by decide) rfl ?_
          refine v_iload dX5_men_104 rfl ?_
          refine v_iload_n dX5_men_106 rfl ?_
          refine v_icmp_le (tgt := 115) dX5_men_107 (by decide) (fun c107 => ?_) (fun c107 => ?_)
          · refine v_iload_n dX5_men_115 rfl ?_
            refine v_top (y := nI (mnL w j)) (by rw [mnL]; rw [Nat.max_eq_left ((nI_leI (by have := upd'_le (a := smc w j) (pw_le hv hj).1; have := smc_le hv hj; have := pw_le hv hj; omega) (Nat.lt_of_le_of_lt (pc_le _) (by decide))).mp c107)]) ?_
            refine v_istore (L' := [(5, _), (4, _), (0, _), (1, _), (2, _), (3, _)]) dX5_men_116 (by decide) rfl ?_
            refine v_iload_n dX5_men_118 rfl ?_
            refine v_aload_n dX5_men_119 rfl ?_
            refine v_get (j := 12) iO40 rfl dX5_men_120 (by decide) in_X5_men_X5 fl_X5_men_38 rfl ?_
            refine v_bipush (x := 18) dX5_men_123 (by decide +kernel) ?_
            refine v_iload_n dX5_men_125 rfl ?_
            refine v_imul dX5_men_126 ?_
            refine v_bipush (x := 16) dX5_men_127 (by decide +kernel) ?_
            refine v_iadd dX5_men_129 ?_
            refine v_ialdN (j * 18 + 16) iI50 dX5_men_130 (by rw [show (18 : Int32) = nI 18 from rfl, show (16 : Int32) = nI 16 from rfl, pk_mul, nI_add, Nat.mul_comm 18]) (by have := wv_C hv; omega) (by decide) ?_
            refine v_top (mh_H hw (by have := wv_C hv; omega)) ?_
            refine v_iadd dX5_men_131 ?_
            refine v_top (nI_add _ _) ?_
            refine v_aload_n dX5_men_132 rfl ?_
            refine v_get (j := 12) iO40 rfl dX5_men_133 (by decide) in_X5_men_X5 fl_X5_men_38 rfl ?_
            refine v_bipush (x := 18) dX5_men_136 (by decide +kernel) ?_
            refine v_iload_n dX5_men_138 rfl ?_
            refine v_imul dX5_men_139 ?_
            refine v_bipush (x := 17) dX5_men_140 (by decide +kernel) ?_
            refine v_iadd dX5_men_142 ?_
            refine v_ialdN (j * 18 + 17) iI50 dX5_men_143 (by rw [show (18 : Int32) = nI 18 from rfl, show (17 : Int32) = nI 17 from rfl, pk_mul, nI_add, Nat.mul_comm 18]) (by have := wv_C hv; omega) (by decide) ?_
            refine v_top (mh_H hw (by have := wv_C hv; omega)) ?_
            refine v_iadd dX5_men_144 ?_
            refine v_top (y := nI (pc (ssb w j) + (wH w (j * 18 + 16) + wH w (j * 18 + 17)))) (by rw [nI_add, Nat.add_assoc]) ?_
            refine v_istore (L' := [(6, _), (5, _), (4, _), (0, _), (1, _), (2, _), (3, _)]) dX5_men_145 (by decide) rfl ?_
            refine v_iload_n dX5_men_147 rfl ?_
            refine v_if_ne (tgt := 156) dX5_men_148 (by decide) (fun c148 => ?_) (fun c148 => absurd c148 (by decide))
            refine v_iload dX5_men_156 rfl ?_
            refine v_iload dX5_men_158 rfl ?_
            refine v_icmp_ge (tgt := 168) dX5_men_160 (by decide) (fun c160 => ?_) (fun c160 => ?_)
            · refine v_iload dX5_men_168 rfl ?_
              exact v_iret rfl dX5_men_170 ⟨congrArg (fun z => some (Value.int z)) (by rw [q_men, if_pos (isN_of hj (by have := wv_C hv; omega)), nI_clamp hj2]; show _ = nI (mnM w j); rw [mnM, Nat.max_eq_left ((nI_leI (by have := mnL_le hv hz hj; omega) (by have := pc_le (ssb w j); have := wv_H hv (j := j * 18 + 16) (by have := wv_C hv; omega); have := wv_H hv (j := j * 18 + 17) (by have := wv_C hv; omega); omega)).mp c160)]), rfl⟩
            · refine v_iload dX5_men_163 rfl ?_
              refine v_goto (tgt := 170) dX5_men_165 (by decide) ?_
              exact v_iret rfl dX5_men_170 ⟨congrArg (fun z => some (Value.int z)) (by rw [q_men, if_pos (isN_of hj (by have := wv_C hv; omega)), nI_clamp hj2]; show _ = nI (mnM w j); rw [mnM, Nat.max_eq_right (Nat.le_of_lt (Nat.not_le.mp (fun q => c160 (nI_le q (by have := pc_le (ssb w j); have := wv_H hv (j := j * 18 + 16) (by have := wv_C hv; omega); have := wv_H hv (j := j * 18 + 17) (by have := wv_C hv; omega); omega)))))]), rfl⟩
          · refine v_iload dX5_men_110 rfl ?_
            refine v_goto (tgt := 116) dX5_men_112 (by decide) ?_
            refine v_top (y := nI (mnL w j)) (by rw [mnL]; rw [Nat.max_eq_right (Nat.le_of_lt (Nat.not_le.mp (fun q => c107 (nI_le q (Nat.lt_of_le_of_lt (pc_le _) (by decide))))))]) ?_
            refine v_istore (L' := [(5, _), (4, _), (0, _), (1, _), (2, _), (3, _)]) dX5_men_116 (by decide) rfl ?_
            refine v_iload_n dX5_men_118 rfl ?_
            refine v_aload_n dX5_men_119 rfl ?_
            refine v_get (j := 12) iO40 rfl dX5_men_120 (by decide) in_X5_men_X5 fl_X5_men_38 rfl ?_
            refine v_bipush (x := 18) dX5_men_123 (by decide +kernel) ?_
            refine v_iload_n dX5_men_125 rfl ?_
            refine v_imul dX5_men_126 ?_
            refine v_bipush (x := 16) dX5_men_127 (by decide +kernel) ?_
            refine v_iadd dX5_men_129 ?_
            refine v_ialdN (j * 18 + 16) iI50 dX5_men_130 (by rw [show (18 : Int32) = nI 18 from rfl, show (16 : Int32) = nI 16 from rfl, pk_mul, nI_add, Nat.mul_comm 18]) (by have := wv_C hv; omega) (by decide) ?_
            refine v_top (mh_H hw (by have := wv_C hv; omega)) ?_
            refine v_iadd dX5_men_131 ?_
            refine v_top (nI_add _ _) ?_
            refine v_aload_n dX5_men_132 rfl ?_
            refine v_get (j := 12) iO40 rfl dX5_men_133 (by decide) in_X5_men_X5 fl_X5_men_38 rfl ?_
            refine v_bipush (x := 18) dX5_men_136 (by decide +kernel) ?_
            refine v_iload_n dX5_men_138 rfl ?_
            refine v_imul dX5_men_139 ?_
            refine v_bipush (x := 17) dX5_men_140 (by decide +kernel) ?_
            refine v_iadd dX5_men_142 ?_
            refine v_ialdN (j * 18 + 17) iI50 dX5_men_143 (by rw [show (18 : Int32) = nI 18 from rfl, show (17 : Int32) = nI 17 from rfl, pk_mul, nI_add, Nat.mul_comm 18]) (by have := wv_C hv; omega) (by decide) ?_
            refine v_top (mh_H hw (by have := wv_C hv; omega)) ?_
            refine v_iadd dX5_men_144 ?_
            refine v_top (y := nI (pc (ssb w j) + (wH w (j * 18 + 16) + wH w (j * 18 + 17)))) (by rw [nI_add, Nat.add_assoc]) ?_
            refine v_istore (L' := [(6, _), (5, _), (4, _), (0, _), (1, _), (2, _), (3, _)]) dX5_men_145 (by decide) rfl ?_
            refine v_iload_n dX5_men_147 rfl ?_
            refine v_if_ne (tgt := 156) dX5_men_148 (by decide) (fun c148 => ?_) (fun c148 => absurd c148 (by decide))
            refine v_iload dX5_men_156 rfl ?_
            refine v_iload dX5_men_158 rfl ?_
            refine v_icmp_ge (tgt := 168) dX5_men_160 (by decide) (fun c160 => ?_) (fun c160 => ?_)
            · refine v_iload dX5_men_168 rfl ?_
              exact v_iret rfl dX5_men_170 ⟨congrArg (fun z => some (Value.int z)) (by rw [q_men, if_pos (isN_of hj (by have := wv_C hv; omega)), nI_clamp hj2]; show _ = nI (mnM w j); rw [mnM, Nat.max_eq_left ((nI_leI (by have := mnL_le hv hz hj; omega) (by have := pc_le (ssb w j); have := wv_H hv (j := j * 18 + 16) (by have := wv_C hv; omega); have := wv_H hv (j := j * 18 + 17) (by have := wv_C hv; omega); omega)).mp c160)]), rfl⟩
            · refine v_iload dX5_men_163 rfl ?_
              refine v_goto (tgt := 170) dX5_men_165 (by decide) ?_
              exact v_iret rfl dX5_men_170 ⟨congrArg (fun z => some (Value.int z)) (by rw [q_men, if_pos (isN_of hj (by have := wv_C hv; omega)), nI_clamp hj2]; show _ = nI (mnM w j); rw [mnM, Nat.max_eq_right (Nat.le_of_lt (Nat.not_le.mp (fun q => c160 (nI_le q (by have := pc_le (ssb w j); have := wv_H hv (j := j * 18 + 16) (by have := wv_C hv; omega); have := wv_H hv (j := j * 18 + 17) (by have := wv_C hv; omega); omega)))))]), rfl⟩
      · refine v_iload_n dX5_men_22 rfl ?_
        refine v_iconst (x := 2) dX5_men_23 rfl ?_
        refine v_icmp_ne (tgt := 41) dX5_men_24 (by decide) (fun c24 => absurd rfl c24) (fun c24 => ?_)
        refine v_aload_n dX5_men_27 rfl ?_
        refine v_iload_n dX5_men_28 rfl ?_
        refine v_callVi (M' := M_X5_allOf) (As := [_]) iO40 (s_X5_allOf hw hv hj) dX5_men_29 gX5_men_X5_allOf rfl rfl nn_X5_allOf ⟨rfl, rfl⟩ ⟨by decide, by decide⟩ rfl rfl (Nat.le_of_ble_eq_true rfl) ?_
        refine v_aload_n dX5_men_32 rfl ?_
        refine v_iload_n dX5_men_33 rfl ?_
        refine v_callVi (M' := M_X5_lasts) (As := [_]) iO40 (s_X5_lasts hw hv hj) dX5_men_34 gX5_men_X5_lasts rfl rfl nn_X5_lasts ⟨rfl, rfl⟩ ⟨by decide, by decide⟩ rfl rfl (Nat.le_of_ble_eq_true rfl) ?_
        refine v_callSi (M' := M_X5_up) (As := [_, _]) (s_X5_up (wks_le hv hj).1 (by have := smc_le hv hj; have := wks_le hv hj; omega)) dX5_men_37 gX5_men_X5_up rfl nn_X5_up ⟨rfl, rfl⟩ ⟨by decide, by decide⟩ rfl rfl (Nat.le_of_ble_eq_true rfl) ?_
        exact v_iret rfl dX5_men_40 ⟨congrArg (fun z => some (Value.int z)) (by rw [q_men, if_pos (isN_of hj (by have := wv_C hv; omega)), nI_clamp hj2]; rfl), rfl⟩
      · exact absurd (bI_n0.mp c17) (by rw [hsw]; decide)
    · refine v_iconst (x := (-1)) dX5_men_20 rfl ?_
      exact v_iret rfl dX5_men_21 ⟨congrArg (fun z => some (Value.int z)) (by obtain ⟨n0, n1, n2⟩ := sw3_ne (bI_0.mp c17); rw [q_men, if_pos (bI_n0.mp c5), if_neg n0, if_neg n1, if_neg n2]), rfl⟩
set_option maxRecDepth 100000 in
set_option maxHeartbeats 4000000 in
theorem s_X5_count {v : EE} {w : WD} {z : Nat} {σ : SS} (hw : MH 0 w σ) (hv : WV z w) (hz : z ≤ 1000000) {len κ : Nat} (hlen : σ.1 40 0 = nI len) (hkep : σ.1 40 11 = nI κ) (what : Int32) : S1 v M_X5_count [.ref (v.1 40), .int what] σ (some (.int (q_count w len κ what))) (σ) := by
  refine Sp.of rfl (by decide) rfl (Nat.le_of_ble_eq_true rfl) ?_
  show V v M_X5_count _ 0 [(0, .ref (v.1 40)), (1, .int what)] [] σ
  refine v_iconst (x := 0) dX5_count_0 rfl ?_
  refine v_istore_n (L' := [(2, _), (0, _), (1, _)]) dX5_count_1 rfl (by decide) rfl ?_
  refine v_iconst (x := 0) dX5_count_2 rfl ?_
  refine v_istore_n (L' := [(3, _), (2, _), (0, _), (1, _)]) dX5_count_3 rfl (by decide) rfl ?_
  refine v_sub [2, 3, 1, 0] rfl ?_
  refine loopN (fun i => V v M_X5_count (zR v M_X5_count (fun r' σ' => r' = (some (.int (q_count w len κ what))) ∧ σ' = (σ))) 4 [(0, .ref (v.1 40)), (1, .int what), (2, .int (nI (sm (fun c => smc w c) i))), (3, .int (nI i))] [] (σ)) (wC w) ?_ ?_
  · intro i hi ih
    refine v_iload_n dX5_count_4 rfl ?_
    refine v_aload_n dX5_count_5 rfl ?_
    refine v_get (j := 5) iO40 rfl dX5_count_6 (by decide) in_X5_count_X5 fl_X5_count_20 rfl ?_
    refine v_iconst (x := 0) dX5_count_9 rfl ?_
    refine v_ialdN 0 iI44 dX5_count_10 rfl (by decide) (by decide) ?_
    refine v_top (mh_C hw) ?_
    refine v_icmp_ge (tgt := 28) dX5_count_11 (by decide) (fun c11 => absurd c11 (nI_ge hi (by have := wv_C hv; omega))) (fun c11 => ?_)
    refine v_iload_n dX5_count_14 rfl ?_
    refine v_aload_n dX5_count_15 rfl ?_
    refine v_iload_n dX5_count_16 rfl ?_
    refine v_callVi (M' := M_X5_allOf) (As := [_]) iO40 (s_X5_allOf hw hv hi) dX5_count_17 gX5_count_X5_allOf rfl rfl nn_X5_allOf ⟨rfl, rfl⟩ ⟨by decide, by decide⟩ rfl rfl (Nat.le_of_ble_eq_true rfl) ?_
    refine v_iadd dX5_count_20 ?_
    refine v_top (nI_add _ _) ?_
    refine v_istore_n (L' := [(2, _), (0, _), (1, _), (3, _)]) dX5_count_21 rfl (by decide) rfl ?_
    refine v_iinc (y := nI (i + 1)) (L' := [(3, .int (nI (i + 1))), (2, _), (0, _), (1, _)]) dX5_count_22 rfl (nI_1 i) (by decide) rfl ?_
    refine v_goto (tgt := 4) dX5_count_25 (by decide) ?_
    refine v_sub [2, 3, 1, 0] rfl ?_
    exact ih
  · rcases sw7 what with rfl | rfl | rfl | rfl | rfl | rfl | rfl | hsw
    · refine v_iload_n dX5_count_4 rfl ?_
      refine v_aload_n dX5_count_5 rfl ?_
      refine v_get (j := 5) iO40 rfl dX5_count_6 (by decide) in_X5_count_X5 fl_X5_count_20 rfl ?_
      refine v_iconst (x := 0) dX5_count_9 rfl ?_
      refine v_ialdN 0 iI44 dX5_count_10 rfl (by decide) (by decide) ?_
      refine v_top (mh_C hw) ?_
      refine v_icmp_ge (tgt := 28) dX5_count_11 (by decide) (fun c11 => ?_) (fun c11 => absurd (nI_le (Nat.le_refl _) (by have := wv_C hv; omega)) c11)
      refine v_iload_n dX5_count_28 rfl ?_
      refine v_if_ne (tgt := 41) dX5_count_29 (by decide) (fun c29 => absurd rfl c29) (fun c29 => ?_)
      refine v_aload_n dX5_count_32 rfl ?_
      refine v_get (j := 3) iO40 rfl dX5_count_33 (by decide) in_X5_count_X5 fl_X5_count_13 rfl ?_
      refine v_iconst (x := 0) dX5_count_36 rfl ?_
      refine v_ialdN 0 iI42 dX5_count_37 rfl (by decide) (by decide) ?_
      refine v_top (mh_S hw) ?_
      refine v_goto (tgt := 119) dX5_count_38 (by decide) ?_
      exact v_iret rfl dX5_count_119 ⟨congrArg (fun z => some (Value.int z)) (rfl), rfl⟩
    · refine v_iload_n dX5_count_4 rfl ?_
      refine v_aload_n dX5_count_5 rfl ?_
      refine v_get (j := 5) iO40 rfl dX5_count_6 (by decide) in_X5_count_X5 fl_X5_count_20 rfl ?_
      refine v_iconst (x := 0) dX5_count_9 rfl ?_
      refine v_ialdN 0 iI44 dX5_count_10 rfl (by decide) (by decide) ?_
      refine v_top (mh_C hw) ?_
      refine v_icmp_ge (tgt := 28) dX5_count_11 (by decide) (fun c11 => ?_) (fun c11 => absurd (nI_le (Nat.le_refl _) (by have := wv_C hv; omega)) c11)
      refine v_iload_n dX5_count_28 rfl ?_
      refine v_if_ne (tgt := 41) dX5_count_29 (by decide) (fun c29 => ?_) (fun c29 => absurd c29 (by decide))
      refine v_iload_n dX5_count_41 rfl ?_
      refine v_iconst (x := 1) dX5_count_42 rfl ?_
      refine v_icmp_ne (tgt := 55) dX5_count_43 (by decide) (fun c43 => absurd rfl c43) (fun c43 => ?_)
      refine v_aload_n dX5_count_46 rfl ?_
      refine v_get (j := 5) iO40 rfl dX5_count_47 (by decide) in_X5_count_X5 fl_X5_count_20 rfl ?_
      refine v_iconst (x := 0) dX5_count_50 rfl ?_
      refine v_ialdN 0 iI44 dX5_count_51 rfl (by decide) (by decide) ?_
      refine v_top (mh_C hw) ?_
      refine v_goto (tgt := 119) dX5_count_52 (by decide) ?_
      exact v_iret rfl dX5_count_119 ⟨congrArg (fun z => some (Value.int z)) (rfl), rfl⟩
    · refine v_iload_n dX5_count_4 rfl ?_
      refine v_aload_n dX5_count_5 rfl ?_
      refine v_get (j := 5) iO40 rfl dX5_count_6 (by decide) in_X5_count_X5 fl_X5_count_20 rfl ?_
      refine v_iconst (x := 0) dX5_count_9 rfl ?_
      refine v_ialdN 0 iI44 dX5_count_10 rfl (by decide) (by decide) ?_
      refine v_top (mh_C hw) ?_
      refine v_icmp_ge (tgt := 28) dX5_count_11 (by decide) (fun c11 => ?_) (fun c11 => absurd (nI_le (Nat.le_refl _) (by have := wv_C hv; omega)) c11)
      refine v_iload_n dX5_count_28 rfl ?_
      refine v_if_ne (tgt := 41) dX5_count_29 (by decide) (fun c29 => ?_) (fun c29 => absurd c29 (by decide))
      refine v_iload_n dX5_count_41 rfl ?_
      refine v_iconst (x := 1) dX5_count_42 rfl ?_
      refine v_icmp_ne (tgt := 55) dX5_count_43 (by decide) (fun c43 => ?_) (fun c43 => absurd c43 (by decide))
      refine v_iload_n dX5_count_55 rfl ?_
      refine v_iconst (x := 2) dX5_count_56 rfl ?_
      refine v_icmp_ne (tgt := 70) dX5_count_57 (by decide) (fun c57 => absurd rfl c57) (fun c57 => ?_)
      refine v_aload_n dX5_count_60 rfl ?_
      refine v_callVi (M' := M_X5_thereAre) (As := []) iO40 (s_X5_thereAre hw hv) dX5_count_61 gX5_count_X5_thereAre rfl rfl nn_X5_thereAre ⟨rfl, rfl⟩ ⟨by decide, by decide⟩ rfl rfl (Nat.le_of_ble_eq_true rfl) ?_
      refine v_callSi (M' := M_X5_bits) (As := [_]) (s_X5_bits (Nat.lt_trans (pbits_lt hv) (by decide))) dX5_count_64 gX5_count_X5_bits rfl nn_X5_bits ⟨rfl, rfl⟩ ⟨by decide, by decide⟩ rfl rfl (Nat.le_of_ble_eq_true rfl) ?_
      refine v_goto (tgt := 119) dX5_count_67 (by decide) ?_
      exact v_iret rfl dX5_count_119 ⟨congrArg (fun z => some (Value.int z)) (rfl), rfl⟩
    · refine v_iload_n dX5_count_4 rfl ?_
      refine v_aload_n dX5_count_5 rfl ?_
      refine v_get (j := 5) iO40 rfl dX5_count_6 (by decide) in_X5_count_X5 fl_X5_count_20 rfl ?_
      refine v_iconst (x := 0) dX5_count_9 rfl ?_
      refine v_ialdN 0 iI44 dX5_count_10 rfl (by decide) (by decide) ?_
      refine v_top (mh_C hw) ?_
      refine v_icmp_ge (tgt := 28) dX5_count_11 (by decide) (fun c11 => ?_) (fun c11 => absurd (nI_le (Nat.le_refl _) (by have := wv_C hv; omega)) c11)
      refine v_iload_n dX5_count_28 rfl ?_
      refine v_if_ne (tgt := 41) dX5_count_29 (by decide) (fun c29 => ?_) (fun c29 => absurd c29 (by decide))
      refine v_iload_n dX5_count_41 rfl ?_
      refine v_iconst (x := 1) dX5_count_42 rfl ?_
      refine v_icmp_ne (tgt := 55) dX5_count_43 (by decide) (fun c43 => ?_) (fun c43 => absurd c43 (by decide))
      refine v_iload_n dX5_count_55 rfl ?_
      refine v_iconst (x := 2) dX5_count_56 rfl ?_
      refine v_icmp_ne (tgt := 70) dX5_count_57 (by decide) (fun c57 => ?_) (fun c57 => absurd c57 (by decide))
      refine v_iload_n dX5_count_70 rfl ?_
      refine v_iconst (x := 3) dX5_count_71 rfl ?_
      refine v_icmp_ne (tgt := 84) dX5_count_72 (by decide) (fun c72 => absurd rfl c72) (fun c72 => ?_)
      refine v_aload_n dX5_count_75 rfl ?_
      refine v_get (j := 8) iO40 rfl dX5_count_76 (by decide) in_X5_count_X5 fl_X5_count_29 rfl ?_
      refine v_iconst (x := 0) dX5_count_79 rfl ?_
      refine v_ialdN 0 iI47 dX5_count_80 rfl (by decide) (by decide) ?_
      refine v_top (mh_N hw) ?_
      refine v_goto (tgt := 119) dX5_count_81 (by decide) ?_
      exact v_iret rfl dX5_count_119 ⟨congrArg (fun z => some (Value.int z)) (rfl), rfl⟩
    · refine v_iload_n dX5_count_4 rfl ?_
      refine v_aload_n dX5_count_5 rfl ?_
      refine v_get (j := 5) iO40 rfl dX5_count_6 (by decide) in_X5_count_X5 fl_X5_count_20 rfl ?_
      refine v_iconst (x := 0) dX5_count_9 rfl ?_
      refine v_ialdN 0 iI44 dX5_count_10 rfl (by decide) (by decide) ?_
      refine v_top (mh_C hw) ?_
      refine v_icmp_ge (tgt := 28) dX5_count_11 (by decide) (fun c11 => ?_) (fun c11 => absurd (nI_le (Nat.le_refl _) (by have := wv_C hv; omega)) c11)
      refine v_iload_n dX5_count_28 rfl ?_
      refine v_if_ne (tgt := 41) dX5_count_29 (by decide) (fun c29 => ?_) (fun c29 => absurd c29 (by decide))
      refine v_iload_n dX5_count_41 rfl ?_
      refine v_iconst (x := 1) dX5_count_42 rfl ?_
      refine v_icmp_ne (tgt := 55) dX5_count_43 (by decide) (fun c43 => ?_) (fun c43 => absurd c43 (by decide))
      refine v_iload_n dX5_count_55 rfl ?_
      refine v_iconst (x := 2) dX5_count_56 rfl ?_
      refine v_icmp_ne (tgt := 70) dX5_count_57 (by decide) (fun c57 => ?_) (fun c57 => absurd c57 (by decide))
      refine v_iload_n dX5_count_70 rfl ?_
      refine v_iconst (x := 3) dX5_count_71 rfl ?_
      refine v_icmp_ne (tgt := 84) dX5_count_72 (by decide) (fun c72 => ?_) (fun c72 => absurd c72 (by decide))
      refine v_iload_n dX5_count_84 rfl ?_
      refine v_iconst (x := 4) dX5_count_85 rfl ?_
      refine v_icmp_ne (tgt := 96) dX5_count_86 (by decide) (fun c86 => absurd rfl c86) (fun c86 => ?_)
      refine v_aload_n dX5_count_89 rfl ?_
      refine v_get (j := 0) iO40 rfl dX5_count_90 (by decide) in_X5_count_X5 fl_X5_count_78 rfl ?_
      refine v_top hlen ?_
      refine v_goto (tgt := 119) dX5_count_93 (by decide) ?_
      exact v_iret rfl dX5_count_119 ⟨congrArg (fun z => some (Value.int z)) (rfl), rfl⟩
    · refine v_iload_n dX5_count_4 rfl ?_
      refine v_aload_n dX5_count_5 rfl ?_
      refine v_get (j := 5) iO40 rfl dX5_count_6 (by decide) in_X5_count_X5 fl_X5_count_20 rfl ?_
      refine v_iconst (x := 0) dX5_count_9 rfl ?_
      refine v_ialdN 0 iI44 dX5_count_10 rfl (by decide) (by decide) ?_
      refine v_top (mh_C hw) ?_
      refine v_icmp_ge (tgt := 28) dX5_count_11 (by decide) (fun c11 => ?_) (fun c11 => absurd (nI_le (Nat.le_refl _) (by have := wv_C hv; omega)) c11)
      refine v_iload_n dX5_count_28 rfl ?_
      refine v_if_ne (tgt := 41) dX5_count_29 (by decide) (fun c29 => ?_) (fun c29 => absurd c29 (by decide))
      refine v_iload_n dX5_count_41 rfl ?_
      refine v_iconst (x := 1) dX5_count_42 rfl ?_
      refine v_icmp_ne (tgt := 55) dX5_count_43 (by decide) (fun c43 => ?_) (fun c43 => absurd c43 (by decide))
      refine v_iload_n dX5_count_55 rfl ?_
      refine v_iconst (x := 2) dX5_count_56 rfl ?_
      refine v_icmp_ne (tgt := 70) dX5_count_57 (by decide) (fun c57 => ?_) (fun c57 => absurd c57 (by decide))
      refine v_iload_n dX5_count_70 rfl ?_
      refine v_iconst (x := 3) dX5_count_71 rfl ?_
      refine v_icmp_ne (tgt := 84) dX5_count_72 (by decide) (fun c72 => ?_) (fun c72 => absurd c72 (by decide))
      refine v_iload_n dX5_count_84 rfl ?_
      refine v_iconst (x := 4) dX5_count_85 rfl ?_
      refine v_icmp_ne (tgt := 96) dX5_count_86 (by decide) (fun c86 => ?_) (fun c86 => absurd c86 (by decide))
      refine v_iload_n dX5_count_96 rfl ?_
      refine v_iconst (x := 5) dX5_count_97 rfl ?_
      refine v_icmp_ne (tgt := 108) dX5_count_98 (by decide) (fun c98 => absurd rfl c98) (fun c98 => ?_)
      refine v_aload_n dX5_count_101 rfl ?_
      refine v_get (j := 11) iO40 rfl dX5_count_102 (by decide) in_X5_count_X5 fl_X5_count_137 rfl ?_
      refine v_top hkep ?_
      refine v_goto (tgt := 119) dX5_count_105 (by decide) ?_
      exact v_iret rfl dX5_count_119 ⟨congrArg (fun z => some (Value.int z)) (rfl), rfl⟩
    · refine v_iload_n dX5_count_4 rfl ?_
      refine v_aload_n dX5_count_5 rfl ?_
      refine v_get (j := 5) iO40 rfl dX5_count_6 (by decide) in_X5_count_X5 fl_X5_count_20 rfl ?_
      refine v_iconst (x := 0) dX5_count_9 rfl ?_
      refine v_ialdN 0 iI44 dX5_count_10 rfl (by decide) (by decide) ?_
      refine v_top (mh_C hw) ?_
      refine v_icmp_ge (tgt := 28) dX5_count_11 (by decide) (fun c11 => ?_) (fun c11 => absurd (nI_le (Nat.le_refl _) (by have := wv_C hv; omega)) c11)
      refine v_iload_n dX5_count_28 rfl ?_
      refine v_if_ne (tgt := 41) dX5_count_29 (by decide) (fun c29 => ?_) (fun c29 => absurd c29 (by decide))
      refine v_iload_n dX5_count_41 rfl ?_
      refine v_iconst (x := 1) dX5_count_42 rfl ?_
      refine v_icmp_ne (tgt := 55) dX5_count_43 (by decide) (fun c43 => ?_) (fun c43 => absurd c43 (by decide))
      refine v_iload_n dX5_count_55 rfl ?_
      refine v_iconst (x := 2) dX5_count_56 rfl ?_
      refine v_icmp_ne (tgt := 70) dX5_count_57 (by decide) (fun c57 => ?_) (fun c57 => absurd c57 (by decide))
      refine v_iload_n dX5_count_70 rfl ?_
      refine v_iconst (x := 3) dX5_count_71 rfl ?_
      refine v_icmp_ne (tgt := 84) dX5_count_72 (by decide) (fun c72 => ?_) (fun c72 => absurd c72 (by decide))
      refine v_iload_n dX5_count_84 rfl ?_
      refine v_iconst (x := 4) dX5_count_85 rfl ?_
      refine v_icmp_ne (tgt := 96) dX5_count_86 (by decide) (fun c86 => ?_) (fun c86 => absurd c86 (by decide))
      refine v_iload_n dX5_count_96 rfl ?_
      refine v_iconst (x := 5) dX5_count_97 rfl ?_
      refine v_icmp_ne (tgt := 108) dX5_count_98 (by decide) (fun c98 => ?_) (fun c98 => absurd c98 (by decide))
      refine v_iload_n dX5_count_108 rfl ?_
      refine v_bipush (x := 6) dX5_count_109 (by decide +kernel) ?_
      refine v_icmp_ne (tgt := 118) dX5_count_111 (by decide) (fun c111 => absurd rfl c111) (fun c111 => ?_)
      refine v_iload_n dX5_count_114 rfl ?_
      refine v_goto (tgt := 119) dX5_count_115 (by decide) ?_
      exact v_iret rfl dX5_count_119 ⟨congrArg (fun z => some (Value.int z)) (rfl), rfl⟩
    · refine v_iload_n dX5_count_4 rfl ?_
      refine v_aload_n dX5_count_5 rfl ?_
      refine v_get (j := 5) iO40 rfl dX5_count_6 (by decide) in_X5_count_X5 fl_X5_count_20 rfl ?_
      refine v_iconst (x := 0) dX5_count_9 rfl ?_
      refine v_ialdN 0 iI44 dX5_count_10 rfl (by decide) (by decide) ?_
      refine v_top (mh_C hw) ?_
      refine v_icmp_ge (tgt := 28) dX5_count_11 (by decide) (fun c11 => ?_) (fun c11 => absurd (nI_le (Nat.le_refl _) (by have := wv_C hv; omega)) c11)
      obtain ⟨n0, n1, n2, n3, n4, n5, n6⟩ := sw7_ne hsw
      refine v_iload_n dX5_count_28 rfl ?_
      refine v_if_ne (tgt := 41) dX5_count_29 (by decide) (fun c29 => ?_) (fun c29 => absurd c29 n0)
      refine v_iload_n dX5_count_41 rfl ?_
      refine v_iconst (x := 1) dX5_count_42 rfl ?_
      refine v_icmp_ne (tgt := 55) dX5_count_43 (by decide) (fun c43 => ?_) (fun c43 => absurd c43 n1)
      refine v_iload_n dX5_count_55 rfl ?_
      refine v_iconst (x := 2) dX5_count_56 rfl ?_
      refine v_icmp_ne (tgt := 70) dX5_count_57 (by decide) (fun c57 => ?_) (fun c57 => absurd c57 n2)
      refine v_iload_n dX5_count_70 rfl ?_
      refine v_iconst (x := 3) dX5_count_71 rfl ?_
      refine v_icmp_ne (tgt := 84) dX5_count_72 (by decide) (fun c72 => ?_) (fun c72 => absurd c72 n3)
      refine v_iload_n dX5_count_84 rfl ?_
      refine v_iconst (x := 4) dX5_count_85 rfl ?_
      refine v_icmp_ne (tgt := 96) dX5_count_86 (by decide) (fun c86 => ?_) (fun c86 => absurd c86 n4)
      refine v_iload_n dX5_count_96 rfl ?_
      refine v_iconst (x := 5) dX5_count_97 rfl ?_
      refine v_icmp_ne (tgt := 108) dX5_count_98 (by decide) (fun c98 => ?_) (fun c98 => absurd c98 n5)
      refine v_iload_n dX5_count_108 rfl ?_
      refine v_bipush (x := 6) dX5_count_109 (by decide +kernel) ?_
      refine v_icmp_ne (tgt := 118) dX5_count_111 (by decide) (fun c111 => ?_) (fun c111 => absurd c111 n6)
      refine v_iconst (x := (-1)) dX5_count_118 rfl ?_
      exact v_iret rfl dX5_count_119 ⟨congrArg (fun z => some (Value.int z)) (by rw [q_count, if_neg n0, if_neg n1, if_neg n2, if_neg n3, if_neg n4, if_neg n5, if_neg n6]), rfl⟩
theorem beqb (x : Bool) : (if bI x = 1 then (1 : Int32) else 0) = bI x := by cases x <;> decide
set_option maxRecDepth 100000 in
set_option maxHeartbeats 4000000 in
theorem s_X5_alike {v : EE} {w : WD} {z : Nat} {σ : SS} (hw : MH 0 w σ) (hv : WV z w) (hz : z ≤ 1000000) (P Q : Int32) : S1 v M_X5_alike [.ref (v.1 40), .int P, .int Q] σ (some (.int (q_alike w P Q))) (σ) := by
  refine Sp.of rfl (by decide) rfl (Nat.le_of_ble_eq_true rfl) ?_
  show V v M_X5_alike _ 0 [(0, .ref (v.1 40)), (1, .int P), (2, .int Q)] [] σ
  refine v_aload_n dX5_alike_0 rfl ?_
  refine v_iload_n dX5_alike_1 rfl ?_
  refine v_iload_n dX5_alike_2 rfl ?_
  refine v_callVi (M' := M_X5_areTwo) (As := [_, _]) iO40 (s_X5_areTwo hw hv _ _) dX5_alike_3 gX5_alike_X5_areTwo rfl rfl nn_X5_areTwo ⟨rfl, rfl⟩ ⟨by decide, by decide⟩ rfl rfl (Nat.le_of_ble_eq_true rfl) ?_
  refine v_if_ne (tgt := 11) dX5_alike_6 (by decide) (fun c6 => ?_) (fun c6 => ?_)
  · have hh := bI_n0.mp c6
    obtain ⟨p, q, hp, hq, rfl, rfl, hpq⟩ := two_nI hh
    refine v_iconst (x := 0) dX5_alike_11 rfl ?_
    refine v_istore_n (L' := [(3, _), (0, _), (1, _), (2, _)]) dX5_alike_12 rfl (by decide) rfl ?_
    refine v_iconst (x := 0) dX5_alike_13 rfl ?_
    refine v_istore (L' := [(4, _), (3, _), (0, _), (1, _), (2, _)]) dX5_alike_14 (by decide) rfl ?_
    refine v_iconst (x := 0) dX5_alike_16 rfl ?_
    refine v_istore (L' := [(5, _), (4, _), (3, _), (0, _), (1, _), (2, _)]) dX5_alike_17 (by decide) rfl ?_
    refine v_sub [3, 4, 5, 2, 1, 0] rfl ?_
    refine loopN (fun i => V v M_X5_alike (zR v M_X5_alike (fun r' σ' => r' = (some (.int (q_alike w (nI p) (nI q)))) ∧ σ' = (σ))) 19 [(0, .ref (v.1 40)), (1, .int (nI p)), (2, .int (nI q)), (3, .int (nI (sm (fun k => if ((psh w k).testBit p && (psh w k).testBit q) = true then wT w k else 0) i))), (4, .int (nI (sm (fun k => if ((psh w k).testBit p || (psh w k).testBit q) = true then wT w k else 0) i))), (5, .int (nI i))] [] (σ)) (wS w) ?_ ?_
    · intro i hi ih
      refine v_iload dX5_alike_19 rfl ?_
      refine v_aload_n dX5_alike_21 rfl ?_
      refine v_get (j := 3) iO40 rfl dX5_alike_22 (by decide) in_X5_alike_X5 fl_X5_alike_13 rfl ?_
      refine v_iconst (x := 0) dX5_alike_25 rfl ?_
      refine v_ialdN 0 iI42 dX5_alike_26 rfl (by decide) (by decide) ?_
      refine v_top (mh_S hw) ?_
      refine v_icmp_ge (tgt := 132) dX5_alike_27 (by decide) (fun c27 => absurd c27 (nI_ge hi (by have := wv_S hv; omega))) (fun c27 => ?_)
      refine v_aload_n dX5_alike_30 rfl ?_
      refine v_iload dX5_alike_31 rfl ?_
      refine v_callVi (M' := M_X5_partsOf) (As := [_]) iO40 (s_X5_partsOf hw hv hz (by have := wv_S hv; omega)) dX5_alike_33 gX5_alike_X5_partsOf rfl rfl nn_X5_partsOf ⟨rfl, rfl⟩ ⟨by decide, by decide⟩ rfl rfl (Nat.le_of_ble_eq_true rfl) ?_
      refine v_iload_n dX5_alike_36 rfl ?_
      refine v_ishr dX5_alike_37 ?_
      refine v_iconst (x := 1) dX5_alike_38 rfl ?_
      refine v_iand dX5_alike_39 ?_
      refine v_top (nI_tb (Nat.lt_trans (psh_lt hv i) (by decide)) (by omega)) ?_
      refine v_iconst (x := 1) dX5_alike_40 rfl ?_
      refine v_icmp_ne (tgt := 48) dX5_alike_41 (by decide) (fun c41 => ?_) (fun c41 => ?_)
      · have hp9 : (psh w i).testBit p = false := by cases h : (psh w i).testBit p with | false => rfl | true => exact absurd (by rw [h]; rfl) c41
        refine v_iconst (x := 0) dX5_alike_48 rfl ?_
        refine v_istore (L' := [(6, _), (0, _), (1, _), (2, _), (3, _), (4, _), (5, _)]) dX5_alike_49 (by decide) rfl ?_
        refine v_aload_n dX5_alike_51 rfl ?_
        refine v_iload dX5_alike_52 rfl ?_
        refine v_callVi (M' := M_X5_partsOf) (As := [_]) iO40 (s_X5_partsOf hw hv hz (by have := wv_S hv; omega)) dX5_alike_54 gX5_alike_X5_partsOf rfl rfl nn_X5_partsOf ⟨rfl, rfl⟩ ⟨by decide, by decide⟩ rfl rfl (Nat.le_of_ble_eq_true rfl) ?_
        refine v_iload_n dX5_alike_57 rfl ?_
        refine v_ishr dX5_alike_58 ?_
        refine v_iconst (x := 1) dX5_alike_59 rfl ?_
        refine v_iand dX5_alike_60 ?_
        refine v_top (nI_tb (Nat.lt_trans (psh_lt hv i) (by decide)) (by omega)) ?_
        refine v_iconst (x := 1) dX5_alike_61 rfl ?_
        refine v_icmp_ne (tgt := 69) dX5_alike_62 (by decide) (fun c62 => ?_) (fun c62 => ?_)
        · have hq9 : (psh w i).testBit q = false := by cases h : (psh w i).testBit q with | false => rfl | true => exact absurd (by rw [h]; rfl) c62
          refine v_iconst (x := 0) dX5_alike_69 rfl ?_
          refine v_istore (L' := [(7, _), (6, _), (0, _), (1, _), (2, _), (3, _), (4, _), (5, _)]) dX5_alike_70 (by decide) rfl ?_
          refine v_iload_n dX5_alike_72 rfl ?_
          refine v_iload dX5_alike_73 rfl ?_
          refine v_if_eq (tgt := 95) dX5_alike_75 (by decide) (fun c75 => ?_) (fun c75 => absurd rfl c75)
          refine v_iconst (x := 0) dX5_alike_95 rfl ?_
          refine v_iadd dX5_alike_96 ?_
          refine v_top (nI_add _ 0) ?_
          refine v_istore_n (L' := [(3, _), (7, _), (6, _), (0, _), (1, _), (2, _), (4, _), (5, _)]) dX5_alike_97 rfl (by decide) rfl ?_
          refine v_iload dX5_alike_98 rfl ?_
          refine v_iload dX5_alike_100 rfl ?_
          refine v_if_ne (tgt := 110) dX5_alike_102 (by decide) (fun c102 => absurd rfl c102) (fun c102 => ?_)
          refine v_iload dX5_alike_105 rfl ?_
          refine v_if_eq (tgt := 122) dX5_alike_107 (by decide) (fun c107 => ?_) (fun c107 => absurd rfl c107)
          refine v_iconst (x := 0) dX5_alike_122 rfl ?_
          refine v_iadd dX5_alike_123 ?_
          refine v_top (nI_add _ 0) ?_
          refine v_istore (L' := [(4, _), (3, _), (7, _), (6, _), (0, _), (1, _), (2, _), (5, _)]) dX5_alike_124 (by decide) rfl ?_
          have e1 : sm (fun k => if ((psh w k).testBit p && (psh w k).testBit q) = true then wT w k else 0) (i + 1) = sm (fun k => if ((psh w k).testBit p && (psh w k).testBit q) = true then wT w k else 0) i + 0 := by rw [sm]; simp only [hp9, hq9]; rfl
          have e2 : sm (fun k => if ((psh w k).testBit p || (psh w k).testBit q) = true then wT w k else 0) (i + 1) = sm (fun k => if ((psh w k).testBit p || (psh w k).testBit q) = true then wT w k else 0) i + 0 := by rw [sm]; simp only [hp9, hq9]; rfl
          rw [e1, e2] at ih
          refine v_iinc (y := nI (i + 1)) (L' := [(5, .int (nI (i + 1))), (4, _), (3, _), (7, _), (6, _), (0, _), (1, _), (2, _)]) dX5_alike_126 rfl (nI_1 i) (by decide) rfl ?_
          refine v_goto (tgt := 19) dX5_alike_129 (by decide) ?_
          refine v_sub [5, 6, 7, 2, 1, 0] rfl ?_
          exact ih
        · have hq9 : (psh w i).testBit q = true := by cases h : (psh w i).testBit q with | true => rfl | false => exact absurd c62 (by rw [h]; decide)
          refine v_iconst (x := 1) dX5_alike_65 rfl ?_
          refine v_goto (tgt := 70) dX5_alike_66 (by decide) ?_
          refine v_istore (L' := [(7, _), (6, _), (0, _), (1, _), (2, _), (3, _), (4, _), (5, _)]) dX5_alike_70 (by decide) rfl ?_
          refine v_iload_n dX5_alike_72 rfl ?_
          refine v_iload dX5_alike_73 rfl ?_
          refine v_if_eq (tgt := 95) dX5_alike_75 (by decide) (fun c75 => ?_) (fun c75 => absurd rfl c75)
          refine v_iconst (x := 0) dX5_alike_95 rfl ?_
          refine v_iadd dX5_alike_96 ?_
          refine v_top (nI_add _ 0) ?_
          refine v_istore_n (L' := [(3, _), (7, _), (6, _), (0, _), (1, _), (2, _), (4, _), (5, _)]) dX5_alike_97 rfl (by decide) rfl ?_
          refine v_iload dX5_alike_98 rfl ?_
          refine v_iload dX5_alike_100 rfl ?_
          refine v_if_ne (tgt := 110) dX5_alike_102 (by decide) (fun c102 => absurd rfl c102) (fun c102 => ?_)
          refine v_iload dX5_alike_105 rfl ?_
          refine v_if_eq (tgt := 122) dX5_alike_107 (by decide) (fun c107 => absurd c107 (by decide)) (fun c107 => ?_)
          refine v_aload_n dX5_alike_110 rfl ?_
          refine v_get (j := 4) iO40 rfl dX5_alike_111 (by decide) in_X5_alike_X5 fl_X5_alike_17 rfl ?_
          refine v_iconst (x := 2) dX5_alike_114 rfl ?_
          refine v_iload dX5_alike_115 rfl ?_
          refine v_imul dX5_alike_117 ?_
          refine v_ialdN (2 * i) iI43 dX5_alike_118 (by rw [show (2 : Int32) = nI 2 from rfl, pk_mul]) (by have := wv_S hv; omega) (by decide) ?_
          refine v_top (mh_T hw hi) ?_
          refine v_goto (tgt := 123) dX5_alike_119 (by decide) ?_
          refine v_iadd dX5_alike_123 ?_
          refine v_top (nI_add _ _) ?_
          refine v_istore (L' := [(4, _), (3, _), (7, _), (6, _), (0, _), (1, _), (2, _), (5, _)]) dX5_alike_124 (by decide) rfl ?_
          have e1 : sm (fun k => if ((psh w k).testBit p && (psh w k).testBit q) = true then wT w k else 0) (i + 1) = sm (fun k => if ((psh w k).testBit p && (psh w k).testBit q) = true then wT w k else 0) i + 0 := by rw [sm]; simp only [hp9, hq9]; rfl
          have e2 : sm (fun k => if ((psh w k).testBit p || (psh w k).testBit q) = true then wT w k else 0) (i + 1) = sm (fun k => if ((psh w k).testBit p || (psh w k).testBit q) = true then wT w k else 0) i + wT w i := by rw [sm]; simp only [hp9, hq9]; rfl
          rw [e1, e2] at ih
          refine v_iinc (y := nI (i + 1)) (L' := [(5, .int (nI (i + 1))), (4, _), (3, _), (7, _), (6, _), (0, _), (1, _), (2, _)]) dX5_alike_126 rfl (nI_1 i) (by decide) rfl ?_
          refine v_goto (tgt := 19) dX5_alike_129 (by decide) ?_
          refine v_sub [5, 6, 7, 2, 1, 0] rfl ?_
          exact ih
      · have hp9 : (psh w i).testBit p = true := by cases h : (psh w i).testBit p with | true => rfl | false => exact absurd c41 (by rw [h]; decide)
        refine v_iconst (x := 1) dX5_alike_44 rfl ?_
        refine v_goto (tgt := 49) dX5_alike_45 (by decide) ?_
        refine v_istore (L' := [(6, _), (0, _), (1, _), (2, _), (3, _), (4, _), (5, _)]) dX5_alike_49 (by decide) rfl ?_
        refine v_aload_n dX5_alike_51 rfl ?_
        refine v_iload dX5_alike_52 rfl ?_
        refine v_callVi (M' := M_X5_partsOf) (As := [_]) iO40 (s_X5_partsOf hw hv hz (by have := wv_S hv; omega)) dX5_alike_54 gX5_alike_X5_partsOf rfl rfl nn_X5_partsOf ⟨rfl, rfl⟩ ⟨by decide, by decide⟩ rfl rfl (Nat.le_of_ble_eq_true rfl) ?_
        refine v_iload_n dX5_alike_57 rfl ?_
        refine v_ishr dX5_alike_58 ?_
        refine v_iconst (x := 1) dX5_alike_59 rfl ?_
        refine v_iand dX5_alike_60 ?_
        refine v_top (nI_tb (Nat.lt_trans (psh_lt hv i) (by decide)) (by omega)) ?_
        refine v_iconst (x := 1) dX5_alike_61 rfl ?_
        refine v_icmp_ne (tgt := 69) dX5_alike_62 (by decide) (fun c62 => ?_) (fun c62 => ?_)
        · have hq9 : (psh w i).testBit q = false := by cases h : (psh w i).testBit q with | false => rfl | true => exact absurd (by rw [h]; rfl) c62
          refine v_iconst (x := 0) dX5_alike_69 rfl ?_
          refine v_istore (L' := [(7, _), (6, _), (0, _), (1, _), (2, _), (3, _), (4, _), (5, _)]) dX5_alike_70 (by decide) rfl ?_
          refine v_iload_n dX5_alike_72 rfl ?_
          refine v_iload dX5_alike_73 rfl ?_
          refine v_if_eq (tgt := 95) dX5_alike_75 (by decide) (fun c75 => absurd c75 (by decide)) (fun c75 => ?_)
          refine v_iload dX5_alike_78 rfl ?_
          refine v_if_eq (tgt := 95) dX5_alike_80 (by decide) (fun c80 => ?_) (fun c80 => absurd rfl c80)
          refine v_iconst (x := 0) dX5_alike_95 rfl ?_
          refine v_iadd dX5_alike_96 ?_
          refine v_top (nI_add _ 0) ?_
          refine v_istore_n (L' := [(3, _), (7, _), (6, _), (0, _), (1, _), (2, _), (4, _), (5, _)]) dX5_alike_97 rfl (by decide) rfl ?_
          refine v_iload dX5_alike_98 rfl ?_
          refine v_iload dX5_alike_100 rfl ?_
          refine v_if_ne (tgt := 110) dX5_alike_102 (by decide) (fun c102 => ?_) (fun c102 => absurd c102 (by decide))
          refine v_aload_n dX5_alike_110 rfl ?_
          refine v_get (j := 4) iO40 rfl dX5_alike_111 (by decide) in_X5_alike_X5 fl_X5_alike_17 rfl ?_
          refine v_iconst (x := 2) dX5_alike_114 rfl ?_
          refine v_iload dX5_alike_115 rfl ?_
          refine v_imul dX5_alike_117 ?_
          refine v_ialdN (2 * i) iI43 dX5_alike_118 (by rw [show (2 : Int32) = nI 2 from rfl, pk_mul]) (by have := wv_S hv; omega) (by decide) ?_
          refine v_top (mh_T hw hi) ?_
          refine v_goto (tgt := 123) dX5_alike_119 (by decide) ?_
          refine v_iadd dX5_alike_123 ?_
          refine v_top (nI_add _ _) ?_
          refine v_istore (L' := [(4, _), (3, _), (7, _), (6, _), (0, _), (1, _), (2, _), (5, _)]) dX5_alike_124 (by decide) rfl ?_
          have e1 : sm (fun k => if ((psh w k).testBit p && (psh w k).testBit q) = true then wT w k else 0) (i + 1) = sm (fun k => if ((psh w k).testBit p && (psh w k).testBit q) = true then wT w k else 0) i + 0 := by rw [sm]; simp only [hp9, hq9]; rfl
          have e2 : sm (fun k => if ((psh w k).testBit p || (psh w k).testBit q) = true then wT w k else 0) (i + 1) = sm (fun k => if ((psh w k).testBit p || (psh w k).testBit q) = true then wT w k else 0) i + wT w i := by rw [sm]; simp only [hp9, hq9]; rfl
          rw [e1, e2] at ih
          refine v_iinc (y := nI (i + 1)) (L' := [(5, .int (nI (i + 1))), (4, _), (3, _), (7, _), (6, _), (0, _), (1, _), (2, _)]) dX5_alike_126 rfl (nI_1 i) (by decide) rfl ?_
          refine v_goto (tgt := 19) dX5_alike_129 (by decide) ?_
          refine v_sub [5, 6, 7, 2, 1, 0] rfl ?_
          exact ih
        · have hq9 : (psh w i).testBit q = true := by cases h : (psh w i).testBit q with | true => rfl | false => exact absurd c62 (by rw [h]; decide)
          refine v_iconst (x := 1) dX5_alike_65 rfl ?_
          refine v_goto (tgt := 70) dX5_alike_66 (by decide) ?_
          refine v_istore (L' := [(7, _), (6, _), (0, _), (1, _), (2, _), (3, _), (4, _), (5, _)]) dX5_alike_70 (by decide) rfl ?_
          refine v_iload_n dX5_alike_72 rfl ?_
          refine v_iload dX5_alike_73 rfl ?_
          refine v_if_eq (tgt := 95) dX5_alike_75 (by decide) (fun c75 => absurd c75 (by decide)) (fun c75 => ?_)
          refine v_iload dX5_alike_78 rfl ?_
          refine v_if_eq (tgt := 95) dX5_alike_80 (by decide) (fun c80 => absurd c80 (by decide)) (fun c80 => ?_)
          refine v_aload_n dX5_alike_83 rfl ?_
          refine v_get (j := 4) iO40 rfl dX5_alike_84 (by decide) in_X5_alike_X5 fl_X5_alike_17 rfl ?_
          refine v_iconst (x := 2) dX5_alike_87 rfl ?_
          refine v_iload dX5_alike_88 rfl ?_
          refine v_imul dX5_alike_90 ?_
          refine v_ialdN (2 * i) iI43 dX5_alike_91 (by rw [show (2 : Int32) = nI 2 from rfl, pk_mul]) (by have := wv_S hv; omega) (by decide) ?_
          refine v_top (mh_T hw hi) ?_
          refine v_goto (tgt := 96) dX5_alike_92 (by decide) ?_
          refine v_iadd dX5_alike_96 ?_
          refine v_top (nI_add _ _) ?_
          refine v_istore_n (L' := [(3, _), (7, _), (6, _), (0, _), (1, _), (2, _), (4, _), (5, _)]) dX5_alike_97 rfl (by decide) rfl ?_
          refine v_iload dX5_alike_98 rfl ?_
          refine v_iload dX5_alike_100 rfl ?_
          refine v_if_ne (tgt := 110) dX5_alike_102 (by decide) (fun c102 => ?_) (fun c102 => absurd c102 (by decide))
          refine v_aload_n dX5_alike_110 rfl ?_
          refine v_get (j := 4) iO40 rfl dX5_alike_111 (by decide) in_X5_alike_X5 fl_X5_alike_17 rfl ?_
          refine v_iconst (x := 2) dX5_alike_114 rfl ?_
          refine v_iload dX5_alike_115 rfl ?_
          refine v_imul dX5_alike_117 ?_
          refine v_ialdN (2 * i) iI43 dX5_alike_118 (by rw [show (2 : Int32) = nI 2 from rfl, pk_mul]) (by have := wv_S hv; omega) (by decide) ?_
          refine v_top (mh_T hw hi) ?_
          refine v_goto (tgt := 123) dX5_alike_119 (by decide) ?_
          refine v_iadd dX5_alike_123 ?_
          refine v_top (nI_add _ _) ?_
          refine v_istore (L' := [(4, _), (3, _), (7, _), (6, _), (0, _), (1, _), (2, _), (5, _)]) dX5_alike_124 (by decide) rfl ?_
          have e1 : sm (fun k => if ((psh w k).testBit p && (psh w k).testBit q) = true then wT w k else 0) (i + 1) = sm (fun k => if ((psh w k).testBit p && (psh w k).testBit q) = true then wT w k else 0) i + wT w i := by rw [sm]; simp only [hp9, hq9]; rfl
          have e2 : sm (fun k => if ((psh w k).testBit p || (psh w k).testBit q) = true then wT w k else 0) (i + 1) = sm (fun k => if ((psh w k).testBit p || (psh w k).testBit q) = true then wT w k else 0) i + wT w i := by rw [sm]; simp only [hp9, hq9]; rfl
          rw [e1, e2] at ih
          refine v_iinc (y := nI (i + 1)) (L' := [(5, .int (nI (i + 1))), (4, _), (3, _), (7, _), (6, _), (0, _), (1, _), (2, _)]) dX5_alike_126 rfl (nI_1 i) (by decide) rfl ?_
          refine v_goto (tgt := 19) dX5_alike_129 (by decide) ?_
          refine v_sub [5, 6, 7, 2, 1, 0] rfl ?_
          exact ih
    · refine v_iload dX5_alike_19 rfl ?_
      refine v_aload_n dX5_alike_21 rfl ?_
      refine v_get (j := 3) iO40 rfl dX5_alike_22 (by decide) in_X5_alike_X5 fl_X5_alike_13 rfl ?_
      refine v_iconst (x := 0) dX5_alike_25 rfl ?_
      refine v_ialdN 0 iI42 dX5_alike_26 rfl (by decide) (by decide) ?_
      refine v_top (mh_S hw) ?_
      refine v_icmp_ge (tgt := 132) dX5_alike_27 (by decide) (fun c27 => ?_) (fun c27 => absurd (nI_le (Nat.le_refl _) (by have := wv_S hv; omega)) c27)
      refine v_loc (L' := [(0, .ref (v.1 40)), (1, .int (nI p)), (2, .int (nI q)), (3, .int (nI (alBoth w p q))), (4, .int (nI (alAny w p q))), (5, .int (nI (wS w)))]) rfl ?_
      refine v_iload dX5_alike_132 rfl ?_
      refine v_if_ne (tgt := 141) dX5_alike_134 (by decide) (fun c134 => ?_) (fun c134 => ?_)
      · refine v_sipush (x := 1000) dX5_alike_141 (by decide +kernel) ?_
        refine v_iload_n dX5_alike_144 rfl ?_
        refine v_imul dX5_alike_145 ?_
        refine v_top (y := nI (1000 * alBoth w p q)) (pk_mul 1000 _) ?_
        have hn0 : alAny w p q ≠ 0 := fun h => c134 (by show nI (alAny w p q) = 0; rw [h]; rfl)
        refine v_iload dX5_alike_146 rfl ?_
        refine v_idiv dX5_alike_148 (nI_ne0 (by omega) (by have := alAny_le hv p q; omega)) ?_
        refine v_top (pk_div (by have := alBoth_le hv p q; omega) (by omega) (by have := alAny_le hv p q; omega)) ?_
        exact v_iret rfl dX5_alike_149 ⟨congrArg (fun z => some (Value.int z)) (by rw [q_alike, if_pos hh, nI_clamp (by omega), nI_clamp (by omega), if_neg hn0]), rfl⟩
      · refine v_iconst (x := 0) dX5_alike_137 rfl ?_
        refine v_goto (tgt := 149) dX5_alike_138 (by decide) ?_
        exact v_iret rfl dX5_alike_149 ⟨congrArg (fun z => some (Value.int z)) (by rw [q_alike, if_pos hh, nI_clamp (by omega), nI_clamp (by omega), if_pos ((nI_eq (b := 0) (by have := alAny_le hv p q; omega) (by decide)).mp c134)]), rfl⟩
  · refine v_iconst (x := (-1)) dX5_alike_9 rfl ?_
    exact v_iret rfl dX5_alike_10 ⟨congrArg (fun z => some (Value.int z)) (by rw [q_alike, if_neg (by rw [bI_0.mp c6]; decide)]), rfl⟩
