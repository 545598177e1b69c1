theorem in_X2_byteAt_X2 : ∀ w ∈ u_ws RX2 TX2 3, w ∈ mWs M_X2_byteAt := by decide +kernel
theorem in_X2_split_X2 : ∀ w ∈ u_ws RX2 TX2 3, w ∈ mWs M_X2_split := by decide +kernel
theorem fl_X2_byteAt_9 : Cond.fieldLink (mOwn M_X2_byteAt) 9 (TX2 0).1 (TX2 0).2.1 (TX2 0).2.2.1 ∈ mWs M_X2_byteAt := by decide +kernel
theorem fl_X2_byteAt_19 : Cond.fieldLink (mOwn M_X2_byteAt) 19 (TX2 2).1 (TX2 2).2.1 (TX2 2).2.2.1 ∈ mWs M_X2_byteAt := by decide +kernel
theorem fl_X2_split_15 : Cond.fieldLink (mOwn M_X2_split) 15 (TX2 1).1 (TX2 1).2.1 (TX2 1).2.2.1 ∈ mWs M_X2_split := by decide +kernel
theorem nn_X2_byteAt : (mY M_X2_byteAt).cls = mOwn M_X2_byteAt ∧ (mY M_X2_byteAt).cls ≠ "java/lang/invoke/MethodHandle" ∧ (mY M_X2_byteAt).cls ≠ "java/lang/invoke/VarHandle" ∧ (parseMethodDescriptor (mY M_X2_byteAt).desc).map (fun d => d.parameters.length) = some 1 := by decide +kernel
theorem nn_X2_figuresAt : (mY M_X2_figuresAt).cls = mOwn M_X2_figuresAt ∧ (mY M_X2_figuresAt).cls ≠ "java/lang/invoke/MethodHandle" ∧ (mY M_X2_figuresAt).cls ≠ "java/lang/invoke/VarHandle" ∧ (parseMethodDescriptor (mY M_X2_figuresAt).desc).map (fun d => d.parameters.length) = some 1 := by decide +kernel
theorem nn_X2_isFigure : (mY M_X2_isFigure).cls ≠ "java/lang/invoke/MethodHandle" ∧ (mY M_X2_isFigure).cls ≠ "java/lang/invoke/VarHandle" ∧ (parseMethodDescriptor (mY M_X2_isFigure).desc).map (fun d => d.parameters.length) = some 1 := by decide +kernel
theorem nn_X2_numberAt : (mY M_X2_numberAt).cls = mOwn M_X2_numberAt ∧ (mY M_X2_numberAt).cls ≠ "java/lang/invoke/MethodHandle" ∧ (mY M_X2_numberAt).cls ≠ "java/lang/invoke/VarHandle" ∧ (parseMethodDescriptor (mY M_X2_numberAt).desc).map (fun d => d.parameters.length) = some 2 := by decide +kernel
theorem nn_X2_numbersOf : (mY M_X2_numbersOf).cls ≠ "java/lang/invoke/MethodHandle" ∧ (mY M_X2_numbersOf).cls ≠ "java/lang/invoke/VarHandle" ∧ (parseMethodDescriptor (mY M_X2_numbersOf).desc).map (fun d => d.parameters.length) = some 1 := by decide +kernel
set_option maxRecDepth 100000 in
set_option maxHeartbeats 4000000 in
theorem s_X2_byteAt {v : EE} {u : Nat → Nat} {len : Nat} {σ : SS} (hT : CT u len σ) {p : Nat} (hp : p < 2 ^ 30) : S1 v M_X2_byteAt [.ref (v.1 1), .int (nI p)] σ (some (.int (bt u len p))) (σ) := by
  refine Sp.of rfl (by decide) rfl (Nat.le_of_ble_eq_true rfl) ?_
  show V v M_X2_byteAt _ 0 [(0, .ref (v.1 1)), (1, .int (nI p))] [] σ
  have hl := hT.2.1
  refine v_iload_n dX2_byteAt_0 rfl ?_
  refine n_if_lt (tgt := 32) dX2_byteAt_1 (by decide) (by omega) ?_
  refine v_iload_n dX2_byteAt_4 rfl ?_
  refine v_aload_n dX2_byteAt_5 rfl ?_
  refine v_get (j := 2) iO1 rfl dX2_byteAt_6 (by decide) in_X2_byteAt_X2 fl_X2_byteAt_19 rfl ?_
  refine v_top hT.1 ?_
  refine n_icmp_ge (tgt := 32) dX2_byteAt_9 (by decide) (by omega) (by omega) (fun c9 => ?_) (fun c9 => ?_)
  · refine v_bipush (x := (-4)) dX2_byteAt_32 (by decide +kernel) ?_
    exact v_iret rfl dX2_byteAt_34 ⟨congrArg (fun z => some (Value.int z)) (by rw [bt, if_neg (by omega)]), rfl⟩
  · refine v_iload_n dX2_byteAt_12 rfl ?_
    refine v_sipush (x := nI 500) dX2_byteAt_13 (by decide +kernel) ?_
    refine n_icmp_ge (tgt := 32) dX2_byteAt_16 (by decide) (by omega) (by omega) (fun c16 => absurd c16 (by omega)) (fun c16 => ?_)
    refine v_aload_n dX2_byteAt_19 rfl ?_
    refine v_get (j := 0) iO1 rfl dX2_byteAt_20 (by decide) in_X2_byteAt_X2 fl_X2_byteAt_9 rfl ?_
    refine v_iload_n dX2_byteAt_23 rfl ?_
    refine v_baldN p iB2 dX2_byteAt_24 rfl (by omega) (by decide) ?_
    refine v_top ((hT.2.2 p c9).2) ?_
    refine v_sipush (x := nI 255) dX2_byteAt_25 (by decide +kernel) ?_
    refine v_iand dX2_byteAt_28 ?_
    refine v_top (y := nI (u p)) (sb_and (hT.2.2 p c9).1) ?_
    refine v_goto (tgt := 34) dX2_byteAt_29 (by decide) ?_
    exact v_iret rfl dX2_byteAt_34 ⟨congrArg (fun z => some (Value.int z)) (by rw [bt, if_pos c9]), rfl⟩
set_option maxRecDepth 100000 in
set_option maxHeartbeats 4000000 in
theorem s_X2_isFigure_n {v : EE} {σ : SS} {c : Nat} (hc : c < 256) : S1 v M_X2_isFigure [.int (nI c)] σ (some (.int (bI (isD c)))) (σ) := by
  refine Sp.of rfl (by decide) rfl (Nat.le_of_ble_eq_true rfl) ?_
  show V v M_X2_isFigure _ 0 [(0, .int (nI c))] [] σ
  refine v_iload_n dX2_isFigure_0 rfl ?_
  refine v_bipush (x := nI 48) dX2_isFigure_1 (by decide +kernel) ?_
  refine n_icmp_lt (tgt := 16) dX2_isFigure_3 (by decide) (by omega) (by omega) (fun c3 => ?_) (fun c3 => ?_)
  · refine v_iconst (x := nI 0) dX2_isFigure_16 (by decide +kernel) ?_
    exact v_zret rfl (by decide) dX2_isFigure_17 ⟨congrArg (fun z => some (Value.int z)) (bI_f (by rw [isD, decide_eq_false (by omega)]; rfl)), rfl⟩
  · refine v_iload_n dX2_isFigure_6 rfl ?_
    refine v_bipush (x := nI 57) dX2_isFigure_7 (by decide +kernel) ?_
    refine n_icmp_gt (tgt := 16) dX2_isFigure_9 (by decide) (by omega) (by omega) (fun c9 => ?_) (fun c9 => ?_)
    · refine v_iconst (x := nI 0) dX2_isFigure_16 (by decide +kernel) ?_
      exact v_zret rfl (by decide) dX2_isFigure_17 ⟨congrArg (fun z => some (Value.int z)) (bI_f (by rw [isD, decide_eq_false (p := c ≤ 57) (by omega), Bool.and_false])), rfl⟩
    · refine v_iconst (x := nI 1) dX2_isFigure_12 (by decide +kernel) ?_
      refine v_goto (tgt := 17) dX2_isFigure_13 (by decide) ?_
      exact v_zret rfl (by decide) dX2_isFigure_17 ⟨congrArg (fun z => some (Value.int z)) (bI_t (by rw [isD, decide_eq_true (by omega), decide_eq_true (by omega)]; rfl)), rfl⟩
set_option maxRecDepth 100000 in
set_option maxHeartbeats 4000000 in
theorem s_X2_isFigure_m {v : EE} {σ : SS} : S1 v M_X2_isFigure [.int (-4)] σ (some (.int (bI false))) (σ) := by
  refine Sp.of rfl (by decide) rfl (Nat.le_of_ble_eq_true rfl) ?_
  show V v M_X2_isFigure _ 0 [(0, .int (-4))] [] σ
  refine v_iload_n dX2_isFigure_0 rfl ?_
  refine v_bipush (x := 48) dX2_isFigure_1 (by decide +kernel) ?_
  refine v_icmp_lt (tgt := 16) dX2_isFigure_3 (by decide) (fun c3 => ?_) (fun c3 => absurd (by decide) c3)
  refine v_iconst (x := 0) dX2_isFigure_16 rfl ?_
  exact v_zret rfl (by decide) dX2_isFigure_17 ⟨rfl, rfl⟩
theorem s_X2_isFigure {v : EE} {u : Nat → Nat} {len : Nat} {σ : SS} (hT : CT u len σ) (p : Nat) : S1 v M_X2_isFigure [.int (bt u len p)] σ (some (.int (bI (dg u len p)))) (σ) := by
  by_cases h : p < len
  · rw [bt_in h, dg, decide_eq_true h, Bool.true_and]
    exact s_X2_isFigure_n (hT.2.2 p h).1
  · rw [bt, if_neg h, dg, decide_eq_false h, Bool.false_and]
    exact s_X2_isFigure_m
set_option maxRecDepth 100000 in
set_option maxHeartbeats 4000000 in
theorem s_X2_figuresAt {v : EE} {u : Nat → Nat} {len : Nat} {σ : SS} (hT : CT u len σ) {p : Nat} (hp : p < 2 ^ 29) : S1 v M_X2_figuresAt [.ref (v.1 1), .int (nI p)] σ (some (.int (nI (figs u len p)))) (σ) := by
  refine Sp.of rfl (by decide) rfl (Nat.le_of_ble_eq_true rfl) ?_
  show V v M_X2_figuresAt _ 0 [(0, .ref (v.1 1)), (1, .int (nI p))] [] σ
  refine v_iconst (x := nI 0) dX2_figuresAt_0 (by decide +kernel) ?_
  refine v_istore_n (L' := [(2, _), (0, _), (1, _)]) dX2_figuresAt_1 rfl (by decide) rfl ?_
  refine v_iconst (x := nI 0) dX2_figuresAt_2 (by decide +kernel) ?_
  refine v_istore_n (L' := [(3, _), (2, _), (0, _), (1, _)]) dX2_figuresAt_3 rfl (by decide) rfl ?_
  refine v_iload_n dX2_figuresAt_4 rfl ?_
  refine v_iconst (x := nI 3) dX2_figuresAt_5 (by decide +kernel) ?_
  refine n_icmp_ge (tgt := 31) dX2_figuresAt_6 (by decide) (by omega) (by omega) (fun c6 => absurd c6 (by omega)) (fun c6 => ?_)
  refine v_aload_n dX2_figuresAt_9 rfl ?_
  refine v_iload_n dX2_figuresAt_10 rfl ?_
  refine v_iload_n dX2_figuresAt_11 rfl ?_
  refine n_iadd dX2_figuresAt_12 ?_
  refine v_callVi (M' := M_X2_byteAt) (As := [_]) iO1 (s_X2_byteAt hT (p := p + 0) (by omega)) dX2_figuresAt_13 gX2_figuresAt_X2_byteAt rfl rfl nn_X2_byteAt ⟨rfl, rfl⟩ ⟨by decide, by decide⟩ rfl rfl (Nat.le_of_ble_eq_true rfl) ?_
  refine v_callSi (M' := M_X2_isFigure) (As := [_]) (s_X2_isFigure hT _) dX2_figuresAt_16 gX2_figuresAt_X2_isFigure rfl nn_X2_isFigure ⟨rfl, rfl⟩ ⟨by decide, by decide⟩ rfl rfl (Nat.le_of_ble_eq_true rfl) ?_
  refine b_if_eq (tgt := 31) dX2_figuresAt_19 (by decide) (fun d0 => ?_) (fun d0 => ?_)
  · rw [Nat.add_zero] at d0
    refine v_iload_n dX2_figuresAt_31 rfl ?_
    exact v_iret rfl dX2_figuresAt_32 ⟨congrArg (fun z => some (Value.int z)) (by rw [figs, if_neg (by rw [d0]; decide)]), rfl⟩
  · rw [Nat.add_zero] at d0
    refine n_iinc (n := 1) (L' := [(2, _), (3, _), (0, _), (1, _)]) dX2_figuresAt_22 rfl (by decide) rfl ?_
    refine n_iinc (n := 1) (L' := [(3, _), (2, _), (0, _), (1, _)]) dX2_figuresAt_25 rfl (by decide) rfl ?_
    refine v_goto (tgt := 4) dX2_figuresAt_28 (by decide) ?_
    refine v_iload_n dX2_figuresAt_4 rfl ?_
    refine v_iconst (x := nI 3) dX2_figuresAt_5 (by decide +kernel) ?_
    refine n_icmp_ge (tgt := 31) dX2_figuresAt_6 (by decide) (by omega) (by omega) (fun c6 => absurd c6 (by omega)) (fun c6 => ?_)
    refine v_aload_n dX2_figuresAt_9 rfl ?_
    refine v_iload_n dX2_figuresAt_10 rfl ?_
    refine v_iload_n dX2_figuresAt_11 rfl ?_
    refine n_iadd dX2_figuresAt_12 ?_
    refine v_callVi (M' := M_X2_byteAt) (As := [_]) iO1 (s_X2_byteAt hT (p := p + 1) (by omega)) dX2_figuresAt_13 gX2_figuresAt_X2_byteAt rfl rfl nn_X2_byteAt ⟨rfl, rfl⟩ ⟨by decide, by decide⟩ rfl rfl (Nat.le_of_ble_eq_true rfl) ?_
    refine v_callSi (M' := M_X2_isFigure) (As := [_]) (s_X2_isFigure hT _) dX2_figuresAt_16 gX2_figuresAt_X2_isFigure rfl nn_X2_isFigure ⟨rfl, rfl⟩ ⟨by decide, by decide⟩ rfl rfl (Nat.le_of_ble_eq_true rfl) ?_
    refine b_if_eq (tgt := 31) dX2_figuresAt_19 (by decide) (fun d1 => ?_) (fun d1 => ?_)
    · refine v_iload_n dX2_figuresAt_31 rfl ?_
      exact v_iret rfl dX2_figuresAt_32 ⟨congrArg (fun z => some (Value.int z)) (by rw [figs, if_pos d0, if_neg (by rw [d1]; decide)]), rfl⟩
    · refine n_iinc (n := 1) (L' := [(2, _), (3, _), (0, _), (1, _)]) dX2_figuresAt_22 rfl (by decide) rfl ?_
      refine n_iinc (n := 1) (L' := [(3, _), (2, _), (0, _), (1, _)]) dX2_figuresAt_25 rfl (by decide) rfl ?_
      refine v_goto (tgt := 4) dX2_figuresAt_28 (by decide) ?_
      refine v_iload_n dX2_figuresAt_4 rfl ?_
      refine v_iconst (x := nI 3) dX2_figuresAt_5 (by decide +kernel) ?_
      refine n_icmp_ge (tgt := 31) dX2_figuresAt_6 (by decide) (by omega) (by omega) (fun c6 => absurd c6 (by omega)) (fun c6 => ?_)
      refine v_aload_n dX2_figuresAt_9 rfl ?_
      refine v_iload_n dX2_figuresAt_10 rfl ?_
      refine v_iload_n dX2_figuresAt_11 rfl ?_
      refine n_iadd dX2_figuresAt_12 ?_
      refine v_callVi (M' := M_X2_byteAt) (As := [_]) iO1 (s_X2_byteAt hT (p := p + 2) (by omega)) dX2_figuresAt_13 gX2_figuresAt_X2_byteAt rfl rfl nn_X2_byteAt ⟨rfl, rfl⟩ ⟨by decide, by decide⟩ rfl rfl (Nat.le_of_ble_eq_true rfl) ?_
      refine v_callSi (M' := M_X2_isFigure) (As := [_]) (s_X2_isFigure hT _) dX2_figuresAt_16 gX2_figuresAt_X2_isFigure rfl nn_X2_isFigure ⟨rfl, rfl⟩ ⟨by decide, by decide⟩ rfl rfl (Nat.le_of_ble_eq_true rfl) ?_
      refine b_if_eq (tgt := 31) dX2_figuresAt_19 (by decide) (fun d2 => ?_) (fun d2 => ?_)
      · refine v_iload_n dX2_figuresAt_31 rfl ?_
        exact v_iret rfl dX2_figuresAt_32 ⟨congrArg (fun z => some (Value.int z)) (by rw [figs, if_pos d0, if_pos d1, if_neg (by rw [d2]; decide)]), rfl⟩
      · refine n_iinc (n := 1) (L' := [(2, _), (3, _), (0, _), (1, _)]) dX2_figuresAt_22 rfl (by decide) rfl ?_
        refine n_iinc (n := 1) (L' := [(3, _), (2, _), (0, _), (1, _)]) dX2_figuresAt_25 rfl (by decide) rfl ?_
        refine v_goto (tgt := 4) dX2_figuresAt_28 (by decide) ?_
        refine v_iload_n dX2_figuresAt_4 rfl ?_
        refine v_iconst (x := nI 3) dX2_figuresAt_5 (by decide +kernel) ?_
        refine n_icmp_ge (tgt := 31) dX2_figuresAt_6 (by decide) (by omega) (by omega) (fun c6 => ?_) (fun c6 => absurd c6 (by omega))
        refine v_iload_n dX2_figuresAt_31 rfl ?_
        exact v_iret rfl dX2_figuresAt_32 ⟨congrArg (fun z => some (Value.int z)) (by rw [figs, if_pos d0, if_pos d1, if_pos d2]), rfl⟩
set_option maxRecDepth 100000 in
set_option maxHeartbeats 4000000 in
theorem s_X2_numberAt {v : EE} {u : Nat → Nat} {len : Nat} {σ : SS} (hT : CT u len σ) {p f : Nat} (hp : p < 2 ^ 29) (h3 : f ≤ 3) (hf : ∀ i, i < f → p + i < len ∧ 48 ≤ u (p + i) ∧ u (p + i) ≤ 57) : S1 v M_X2_numberAt [.ref (v.1 1), .int (nI p), .int (nI f)] σ (some (.int (nI (valF u p f)))) (σ) := by
  refine Sp.of rfl (by decide) rfl (Nat.le_of_ble_eq_true rfl) ?_
  show V v M_X2_numberAt _ 0 [(0, .ref (v.1 1)), (1, .int (nI p)), (2, .int (nI f))] [] σ
  refine v_iconst (x := nI 0) dX2_numberAt_0 (by decide +kernel) ?_
  refine v_istore_n (L' := [(3, _), (0, _), (1, _), (2, _)]) dX2_numberAt_1 rfl (by decide) rfl ?_
  refine v_iconst (x := nI 0) dX2_numberAt_2 (by decide +kernel) ?_
  refine v_istore (L' := [(4, _), (3, _), (0, _), (1, _), (2, _)]) dX2_numberAt_3 (by decide) rfl ?_
  refine v_sub [2, 3, 4, 1, 0] rfl ?_
  refine loopN (fun i => V v M_X2_numberAt (zR v M_X2_numberAt (fun r' σ' => r' = (some (.int (nI (valF u p f)))) ∧ σ' = (σ))) 5 [(0, .ref (v.1 1)), (1, .int (nI p)), (2, .int (nI f)), (3, .int (nI (valF u p i))), (4, .int (nI i))] [] (σ)) f ?_ ?_
  · intro i hi ih
    have hd9 := hf i hi
    have hv9 := valF_lt (u := u) (p := p) i (fun j hj => (hf j (by omega)).2.2)
    have hp9 : 10 ^ i ≤ 10 ^ 3 := Nat.pow_le_pow_right (by decide) (by omega)
    refine v_iload dX2_numberAt_5 rfl ?_
    refine v_iload_n dX2_numberAt_7 rfl ?_
    refine n_icmp_ge (tgt := 34) dX2_numberAt_8 (by decide) (by omega) (by omega) (fun c8 => absurd c8 (by omega)) (fun c8 => ?_)
    refine v_bipush (x := nI 10) dX2_numberAt_11 (by decide +kernel) ?_
    refine v_iload_n dX2_numberAt_13 rfl ?_
    refine n_imul dX2_numberAt_14 ?_
    refine v_aload_n dX2_numberAt_15 rfl ?_
    refine v_iload_n dX2_numberAt_16 rfl ?_
    refine v_iload dX2_numberAt_17 rfl ?_
    refine n_iadd dX2_numberAt_19 ?_
    refine v_callVi (M' := M_X2_byteAt) (As := [_]) iO1 (s_X2_byteAt hT (p := p + i) (by omega)) dX2_numberAt_20 gX2_numberAt_X2_byteAt rfl rfl nn_X2_byteAt ⟨rfl, rfl⟩ ⟨by decide, by decide⟩ rfl rfl (Nat.le_of_ble_eq_true rfl) ?_
    refine v_top (bt_in hd9.1) ?_
    refine n_iadd dX2_numberAt_23 ?_
    refine v_bipush (x := nI 48) dX2_numberAt_24 (by decide +kernel) ?_
    refine n_isub dX2_numberAt_26 (by omega) ?_
    refine v_top (y := nI (valF u p (i + 1))) (by rw [valF]; congr 1; omega) ?_
    refine v_istore_n (L' := [(3, _), (0, _), (1, _), (2, _), (4, _)]) dX2_numberAt_27 rfl (by decide) rfl ?_
    refine n_iinc (n := 1) (L' := [(4, _), (3, _), (0, _), (1, _), (2, _)]) dX2_numberAt_28 rfl (by decide) rfl ?_
    refine v_goto (tgt := 5) dX2_numberAt_31 (by decide) ?_
    refine v_sub [2, 3, 4, 1, 0] rfl ?_
    exact ih
  · refine v_iload dX2_numberAt_5 rfl ?_
    refine v_iload_n dX2_numberAt_7 rfl ?_
    refine n_icmp_ge (tgt := 34) dX2_numberAt_8 (by decide) (by omega) (by omega) (fun c8 => ?_) (fun c8 => absurd c8 (by omega))
    refine v_iload_n dX2_numberAt_34 rfl ?_
    exact v_iret rfl dX2_numberAt_35 ⟨rfl, rfl⟩
set_option maxRecDepth 100000 in
set_option maxHeartbeats 4000000 in
theorem s_X2_numbersOf {v : EE} {σ : SS} {c : Nat} (hc : c < 256) : S1 v M_X2_numbersOf [.int (nI c)] σ (some (.int (nI (nums c)))) (σ) := by
  refine Sp.of rfl (by decide) rfl (Nat.le_of_ble_eq_true rfl) ?_
  show V v M_X2_numbersOf _ 0 [(0, .int (nI c))] [] σ
  refine v_iload_n dX2_numbersOf_0 rfl ?_
  have hti : (nI c).toInt = (c : Int) := nI_toInt (by omega)
  rcases nums_tab c hc with ⟨h1, h2⟩ | ⟨h1, h2, h3⟩
  · refine v_tableOut (tgt := 114) dX2_numbersOf_1 (by rw [hti]; omega) (by decide) ?_
    refine v_iconst (x := 0) dX2_numbersOf_114 rfl ?_
    exact v_iret rfl dX2_numbersOf_115 ⟨by rw [h2]; rfl, rfl⟩
  · have key : ∀ (off : Int) (tgt : Nat), numsO c = off → (1 : Int) + off = (tgt : Int) → V v M_X2_numbersOf (zR v M_X2_numbersOf (fun r' σ' => r' = (some (.int (nI (nums c)))) ∧ σ' = (σ))) tgt [(0, .int (nI c))] [] σ → V v M_X2_numbersOf (zR v M_X2_numbersOf (fun r' σ' => r' = (some (.int (nI (nums c)))) ∧ σ' = (σ))) 1 [(0, .int (nI c))] [.int (nI c)] σ := by
      intro off tgt h4 h5 k
      exact v_tableIn (off := off) (tgt := tgt) dX2_numbersOf_1 (by rw [hti]; omega) (by rw [hti]; omega) (by rw [hti, show ((c : Int) - 97).toNat = c - 97 by omega, ← h4]; exact h3) h5 k
    have hn : nums c = 0 ∨ nums c = 1 ∨ nums c = 2 ∨ nums c = 3 := by
      rw [nums]
      split
      · simp
      · split
        · simp
        · split <;> simp
    rcases hn with h | h | h | h
    · refine key 113 114 (by rw [numsO, h]; rfl) (by decide) ?_
      refine v_iconst (x := 0) dX2_numbersOf_114 rfl ?_
      exact v_iret rfl dX2_numbersOf_115 ⟨by rw [h]; rfl, rfl⟩
    · refine key 107 108 (by rw [numsO, h]; rfl) (by decide) ?_
      refine v_iconst (x := 1) dX2_numbersOf_108 rfl ?_
      exact v_iret rfl dX2_numbersOf_109 ⟨by rw [h]; rfl, rfl⟩
    · refine key 109 110 (by rw [numsO, h]; rfl) (by decide) ?_
      refine v_iconst (x := 2) dX2_numbersOf_110 rfl ?_
      exact v_iret rfl dX2_numbersOf_111 ⟨by rw [h]; rfl, rfl⟩
    · refine key 111 112 (by rw [numsO, h]; rfl) (by decide) ?_
      refine v_iconst (x := 3) dX2_numbersOf_112 rfl ?_
      exact v_iret rfl dX2_numbersOf_113 ⟨by rw [h]; rfl, rfl⟩
/-- nothing but the row of numbers has changed -/
def FN (σ σ' : SS) : Prop := (∀ a, a ≠ 3 → σ'.1 a = σ.1 a) ∧ σ'.2 = σ.2
theorem FN.rf (σ : SS) : FN σ σ := ⟨fun _ _ => rfl, rfl⟩
theorem FN.si {σ τ : SS} (h : FN σ τ) (j : Nat) (x : Int32) : FN σ (sI τ 3 j x) := ⟨fun a ha => by rw [← h.1 a ha]; exact sI_row τ x ha, h.2⟩
theorem FN.ct {u : Nat → Nat} {len : Nat} {σ τ : SS} (h : FN σ τ) (hT : CT u len σ) : CT u len τ := ⟨by rw [h.1 1 (by decide)]; exact hT.1, hT.2.1, fun j hj => by rw [h.1 2 (by decide)]; exact hT.2.2 j hj⟩
theorem n1_no0 {u : Nat → Nat} {len p e : Nat} (h : figs u len p < 1) : n1 u len p e = none := by rw [n1, if_neg (by omega)]
theorem n1_nos {u : Nat → Nat} {len p e : Nat} (h : sepAt u len (p + figs u len p) e = false) : n1 u len p e = none := by rw [n1, if_neg (by rw [h]; simp)]
theorem n1_yes {u : Nat → Nat} {len p e : Nat} (h : 1 ≤ figs u len p) (h2 : sepAt u len (p + figs u len p) e = true) : n1 u len p e = some (valF u p (figs u len p), p + figs u len p + 1) := by rw [n1, if_pos ⟨h, h2⟩]
set_option maxRecDepth 100000 in
set_option maxHeartbeats 4000000 in
theorem s_X2_split_1 {v : EE} {u : Nat → Nat} {len : Nat} {σ : SS} (hT : CT u len σ) {p : Nat} (hp : p < len) (hn : nums (u p) = 1) : SR v M_X2_split [.ref (v.1 1), .int (nI p)] σ (some (.int (match i1 u len p with | none => -4 | some (_, q) => nI q))) (fun σ' => FN σ σ' ∧ ∀ a q, i1 u len p = some (a, q) → σ'.1 3 0 = nI a) := by
  refine Sp.of rfl (by decide) rfl (Nat.le_of_ble_eq_true rfl) ?_
  show V v M_X2_split _ 0 [(0, .ref (v.1 1)), (1, .int (nI p))] [] σ
  have hl := hT.2.1
  refine v_aload_n dX2_split_0 rfl ?_
  refine v_iload_n dX2_split_1 rfl ?_
  refine v_callVi (M' := M_X2_byteAt) (As := [_]) iO1 (s_X2_byteAt hT (by omega)) dX2_split_2 gX2_split_X2_byteAt rfl rfl nn_X2_byteAt ⟨rfl, rfl⟩ ⟨by decide, by decide⟩ rfl rfl (Nat.le_of_ble_eq_true rfl) ?_
  refine v_top (bt_in hp) ?_
  refine v_callSi (M' := M_X2_numbersOf) (As := [_]) (s_X2_numbersOf (hT.2.2 p hp).1) dX2_split_5 gX2_split_X2_numbersOf rfl nn_X2_numbersOf ⟨rfl, rfl⟩ ⟨by decide, by decide⟩ rfl rfl (Nat.le_of_ble_eq_true rfl) ?_
  refine v_top (y := nI 1) (by rw [hn]) ?_
  refine v_istore_n (L' := [(2, _), (0, _), (1, _)]) dX2_split_8 rfl (by decide) rfl ?_
  refine v_iload_n dX2_split_9 rfl ?_
  refine v_iconst (x := nI 1) dX2_split_10 (by decide +kernel) ?_
  refine n_iadd dX2_split_11 ?_
  refine v_istore_n (L' := [(3, _), (2, _), (0, _), (1, _)]) dX2_split_12 rfl (by decide) rfl ?_
  refine v_iconst (x := nI 0) dX2_split_13 (by decide +kernel) ?_
  refine v_istore (L' := [(4, _), (3, _), (2, _), (0, _), (1, _)]) dX2_split_14 (by decide) rfl ?_
  have hF0 := figs_le u len (p + 1)
  refine v_iload dX2_split_16 rfl ?_
  refine v_iload_n dX2_split_18 rfl ?_
  refine n_icmp_ge (tgt := 98) dX2_split_19 (by decide) (by omega) (by omega) (fun c19 => absurd c19 (by omega)) (fun c19 => ?_)
  refine v_iload dX2_split_22 rfl ?_
  refine v_iconst (x := nI 3) dX2_split_24 (by decide +kernel) ?_
  refine n_icmp_ge (tgt := 98) dX2_split_25 (by decide) (by omega) (by omega) (fun c25 => absurd c25 (by omega)) (fun c25 => ?_)
  refine v_aload_n dX2_split_28 rfl ?_
  refine v_iload_n dX2_split_29 rfl ?_
  refine v_callVi (M' := M_X2_figuresAt) (As := [_]) iO1 (s_X2_figuresAt hT (p := (p + 1)) (by omega)) dX2_split_30 gX2_split_X2_figuresAt rfl rfl nn_X2_figuresAt ⟨rfl, rfl⟩ ⟨by decide, by decide⟩ rfl rfl (Nat.le_of_ble_eq_true rfl) ?_
  refine v_istore (L' := [(5, _), (4, _), (3, _), (2, _), (0, _), (1, _)]) dX2_split_33 (by decide) rfl ?_
  refine v_iload dX2_split_35 rfl ?_
  refine v_iconst (x := nI 1) dX2_split_37 (by decide +kernel) ?_
  refine n_icmp_ge (tgt := 44) dX2_split_38 (by decide) (by omega) (by omega) (fun f0 => ?_) (fun f0 => ?_)
  · have hl0 := (figs_lt (u := u) (len := len) (p := (p + 1)) (i := 0) (by omega)).1
    refine v_aload_n dX2_split_44 rfl ?_
    refine v_get (j := 1) iO1 rfl dX2_split_45 (by decide) in_X2_split_X2 fl_X2_split_15 rfl ?_
    refine v_iload dX2_split_48 rfl ?_
    refine v_aload_n dX2_split_50 rfl ?_
    refine v_iload_n dX2_split_51 rfl ?_
    refine v_iload dX2_split_52 rfl ?_
    refine v_callVi (M' := M_X2_numberAt) (As := [_, _]) iO1 (s_X2_numberAt hT (p := (p + 1)) (by omega) hF0 (fun j hj => figs_lt hj)) dX2_split_54 gX2_split_X2_numberAt rfl rfl nn_X2_numberAt ⟨rfl, rfl⟩ ⟨by decide, by decide⟩ rfl rfl (Nat.le_of_ble_eq_true rfl) ?_
    refine v_iastN 0 iI3 dX2_split_57 rfl (by decide) (by decide) ?_
    refine v_iload_n dX2_split_58 rfl ?_
    refine v_iload dX2_split_59 rfl ?_
    refine n_iadd dX2_split_61 ?_
    refine v_istore_n (L' := [(3, _), (5, _), (4, _), (2, _), (0, _), (1, _)]) dX2_split_62 rfl (by decide) rfl ?_
    refine v_aload_n dX2_split_63 rfl ?_
    refine v_iload_n dX2_split_64 rfl ?_
    refine v_callVi (M' := M_X2_byteAt) (As := [_]) iO1 (s_X2_byteAt (((FN.rf σ).si 0 _).ct hT) (p := (p + 1) + figs u len (p + 1)) (by omega)) dX2_split_65 gX2_split_X2_byteAt rfl rfl nn_X2_byteAt ⟨rfl, rfl⟩ ⟨by decide, by decide⟩ rfl rfl (Nat.le_of_ble_eq_true rfl) ?_
    refine v_iload dX2_split_68 rfl ?_
    refine v_iload_n dX2_split_70 rfl ?_
    refine v_iconst (x := nI 1) dX2_split_71 (by decide +kernel) ?_
    refine n_isub dX2_split_72 (by omega) ?_
    refine n_icmp_ge (tgt := 81) dX2_split_73 (by decide) (by omega) (by omega) (fun c73 => ?_) (fun c73 => absurd c73 (by omega))
    refine v_bipush (x := nI 59) dX2_split_81 (by decide +kernel) ?_
    refine v_icmp_eq (tgt := 89) dX2_split_83 (by decide) (fun e0 => ?_) (fun e0 => ?_)
    · have s0 := (bt_eq (e := 59) (fun h => (hT.2.2 _ h).1) (by decide)).mp e0
      refine n_iinc (n := 1) (L' := [(3, _), (5, _), (4, _), (2, _), (0, _), (1, _)]) dX2_split_89 rfl (by decide) rfl ?_
      refine n_iinc (n := 1) (L' := [(4, _), (3, _), (5, _), (2, _), (0, _), (1, _)]) dX2_split_92 rfl (by decide) rfl ?_
      refine v_goto (tgt := 16) dX2_split_95 (by decide) ?_
      refine v_iload dX2_split_16 rfl ?_
      refine v_iload_n dX2_split_18 rfl ?_
      refine n_icmp_ge (tgt := 98) dX2_split_19 (by decide) (by omega) (by omega) (fun c19 => ?_) (fun c19 => absurd c19 (by omega))
      refine v_iload_n dX2_split_98 rfl ?_
      refine n_if_le (tgt := 106) dX2_split_99 (by decide) (by omega) (fun c99 => absurd c99 (by omega)) (fun c99 => ?_)
      refine v_iload_n dX2_split_102 rfl ?_
      refine v_goto (tgt := 108) dX2_split_103 (by decide) ?_
      exact v_iret rfl dX2_split_108 ⟨congrArg (fun z => some (Value.int z)) (by rw [show i1 u len p = some (valF u (p + 1) (figs u len (p + 1)), ((p + 1) + figs u len (p + 1) + 1)) from by rw [i1]; simp only [n1_yes f0 s0]]), ((FN.rf σ).si 0 _), by intro a q h9; rw [show i1 u len p = some (valF u (p + 1) (figs u len (p + 1)), ((p + 1) + figs u len (p + 1) + 1)) from by rw [i1]; simp only [n1_yes f0 s0]] at h9; simp only [Option.some.injEq, Prod.mk.injEq] at h9; obtain ⟨rfl, rfl⟩ := h9; exact sI_at _ _ _ _⟩
    · have s0 : sepAt u len ((p + 1) + figs u len (p + 1)) 59 = false := by cases h : sepAt u len ((p + 1) + figs u len (p + 1)) 59 with | false => rfl | true => exact absurd ((bt_eq (e := 59) (fun h => (hT.2.2 _ h).1) (by decide)).mpr h) e0
      refine v_bipush (x := (-4)) dX2_split_86 (by decide +kernel) ?_
      exact v_iret rfl dX2_split_88 ⟨congrArg (fun z => some (Value.int z)) (by rw [show i1 u len p = none from by rw [i1]; simp only [n1_nos s0]]), ((FN.rf σ).si 0 _), by intro a q h9; rw [show i1 u len p = none from by rw [i1]; simp only [n1_nos s0]] at h9; cases h9⟩
  · refine v_bipush (x := (-4)) dX2_split_41 (by decide +kernel) ?_
    exact v_iret rfl dX2_split_43 ⟨congrArg (fun z => some (Value.int z)) (by rw [show i1 u len p = none from by rw [i1]; simp only [n1_no0 f0]]), (FN.rf σ), by intro a q h9; rw [show i1 u len p = none from by rw [i1]; simp only [n1_no0 f0]] at h9; cases h9⟩
set_option maxRecDepth 100000 in
set_option maxHeartbeats 4000000 in
theorem s_X2_split_2 {v : EE} {u : Nat → Nat} {len : Nat} {σ : SS} (hT : CT u len σ) {p : Nat} (hp : p < len) (hn : nums (u p) = 2) : SR v M_X2_split [.ref (v.1 1), .int (nI p)] σ (some (.int (match i2 u len p with | none => -4 | some (_, _, q) => nI q))) (fun σ' => FN σ σ' ∧ ∀ a c q, i2 u len p = some (a, c, q) → σ'.1 3 0 = nI a ∧ σ'.1 3 1 = nI c) := by
  refine Sp.of rfl (by decide) rfl (Nat.le_of_ble_eq_true rfl) ?_
  show V v M_X2_split _ 0 [(0, .ref (v.1 1)), (1, .int (nI p))] [] σ
  have hl := hT.2.1
  refine v_aload_n dX2_split_0 rfl ?_
  refine v_iload_n dX2_split_1 rfl ?_
  refine v_callVi (M' := M_X2_byteAt) (As := [_]) iO1 (s_X2_byteAt hT (by omega)) dX2_split_2 gX2_split_X2_byteAt rfl rfl nn_X2_byteAt ⟨rfl, rfl⟩ ⟨by decide, by decide⟩ rfl rfl (Nat.le_of_ble_eq_true rfl) ?_
  refine v_top (bt_in hp) ?_
  refine v_callSi (M' := M_X2_numbersOf) (As := [_]) (s_X2_numbersOf (hT.2.2 p hp).1) dX2_split_5 gX2_split_X2_numbersOf rfl nn_X2_numbersOf ⟨rfl, rfl⟩ ⟨by decide, by decide⟩ rfl rfl (Nat.le_of_ble_eq_true rfl) ?_
  refine v_top (y := nI 2) (by rw [hn]) ?_
  refine v_istore_n (L' := [(2, _), (0, _), (1, _)]) dX2_split_8 rfl (by decide) rfl ?_
  refine v_iload_n dX2_split_9 rfl ?_
  refine v_iconst (x := nI 1) dX2_split_10 (by decide +kernel) ?_
  refine n_iadd dX2_split_11 ?_
  refine v_istore_n (L' := [(3, _), (2, _), (0, _), (1, _)]) dX2_split_12 rfl (by decide) rfl ?_
  refine v_iconst (x := nI 0) dX2_split_13 (by decide +kernel) ?_
  refine v_istore (L' := [(4, _), (3, _), (2, _), (0, _), (1, _)]) dX2_split_14 (by decide) rfl ?_
  have hF0 := figs_le u len (p + 1)
  refine v_iload dX2_split_16 rfl ?_
  refine v_iload_n dX2_split_18 rfl ?_
  refine n_icmp_ge (tgt := 98) dX2_split_19 (by decide) (by omega) (by omega) (fun c19 => absurd c19 (by omega)) (fun c19 => ?_)
  refine v_iload dX2_split_22 rfl ?_
  refine v_iconst (x := nI 3) dX2_split_24 (by decide +kernel) ?_
  refine n_icmp_ge (tgt := 98) dX2_split_25 (by decide) (by omega) (by omega) (fun c25 => absurd c25 (by omega)) (fun c25 => ?_)
  refine v_aload_n dX2_split_28 rfl ?_
  refine v_iload_n dX2_split_29 rfl ?_
  refine v_callVi (M' := M_X2_figuresAt) (As := [_]) iO1 (s_X2_figuresAt hT (p := (p + 1)) (by omega)) dX2_split_30 gX2_split_X2_figuresAt rfl rfl nn_X2_figuresAt ⟨rfl, rfl⟩ ⟨by decide, by decide⟩ rfl rfl (Nat.le_of_ble_eq_true rfl) ?_
  refine v_istore (L' := [(5, _), (4, _), (3, _), (2, _), (0, _), (1, _)]) dX2_split_33 (by decide) rfl ?_
  refine v_iload dX2_split_35 rfl ?_
  refine v_iconst (x := nI 1) dX2_split_37 (by decide +kernel) ?_
  refine n_icmp_ge (tgt := 44) dX2_split_38 (by decide) (by omega) (by omega) (fun f0 => ?_) (fun f0 => ?_)
  · have hl0 := (figs_lt (u := u) (len := len) (p := (p + 1)) (i := 0) (by omega)).1
    refine v_aload_n dX2_split_44 rfl ?_
    refine v_get (j := 1) iO1 rfl dX2_split_45 (by decide) in_X2_split_X2 fl_X2_split_15 rfl ?_
    refine v_iload dX2_split_48 rfl ?_
    refine v_aload_n dX2_split_50 rfl ?_
    refine v_iload_n dX2_split_51 rfl ?_
    refine v_iload dX2_split_52 rfl ?_
    refine v_callVi (M' := M_X2_numberAt) (As := [_, _]) iO1 (s_X2_numberAt hT (p := (p + 1)) (by omega) hF0 (fun j hj => figs_lt hj)) dX2_split_54 gX2_split_X2_numberAt rfl rfl nn_X2_numberAt ⟨rfl, rfl⟩ ⟨by decide, by decide⟩ rfl rfl (Nat.le_of_ble_eq_true rfl) ?_
    refine v_iastN 0 iI3 dX2_split_57 rfl (by decide) (by decide) ?_
    refine v_iload_n dX2_split_58 rfl ?_
    refine v_iload dX2_split_59 rfl ?_
    refine n_iadd dX2_split_61 ?_
    refine v_istore_n (L' := [(3, _), (5, _), (4, _), (2, _), (0, _), (1, _)]) dX2_split_62 rfl (by decide) rfl ?_
    refine v_aload_n dX2_split_63 rfl ?_
    refine v_iload_n dX2_split_64 rfl ?_
    refine v_callVi (M' := M_X2_byteAt) (As := [_]) iO1 (s_X2_byteAt (((FN.rf σ).si 0 _).ct hT) (p := (p + 1) + figs u len (p + 1)) (by omega)) dX2_split_65 gX2_split_X2_byteAt rfl rfl nn_X2_byteAt ⟨rfl, rfl⟩ ⟨by decide, by decide⟩ rfl rfl (Nat.le_of_ble_eq_true rfl) ?_
    refine v_iload dX2_split_68 rfl ?_
    refine v_iload_n dX2_split_70 rfl ?_
    refine v_iconst (x := nI 1) dX2_split_71 (by decide +kernel) ?_
    refine n_isub dX2_split_72 (by omega) ?_
    refine n_icmp_ge (tgt := 81) dX2_split_73 (by decide) (by omega) (by omega) (fun c73 => absurd c73 (by omega)) (fun c73 => ?_)
    refine v_bipush (x := nI 44) dX2_split_76 (by decide +kernel) ?_
    refine v_goto (tgt := 83) dX2_split_78 (by decide) ?_
    refine v_icmp_eq (tgt := 89) dX2_split_83 (by decide) (fun e0 => ?_) (fun e0 => ?_)
    · have s0 := (bt_eq (e := 44) (fun h => (hT.2.2 _ h).1) (by decide)).mp e0
      refine n_iinc (n := 1) (L' := [(3, _), (5, _), (4, _), (2, _), (0, _), (1, _)]) dX2_split_89 rfl (by decide) rfl ?_
      refine n_iinc (n := 1) (L' := [(4, _), (3, _), (5, _), (2, _), (0, _), (1, _)]) dX2_split_92 rfl (by decide) rfl ?_
      refine v_goto (tgt := 16) dX2_split_95 (by decide) ?_
      have hF1 := figs_le u len ((p + 1) + figs u len (p + 1) + 1)
      refine v_iload dX2_split_16 rfl ?_
      refine v_iload_n dX2_split_18 rfl ?_
      refine n_icmp_ge (tgt := 98) dX2_split_19 (by decide) (by omega) (by omega) (fun c19 => absurd c19 (by omega)) (fun c19 => ?_)
      refine v_iload dX2_split_22 rfl ?_
      refine v_iconst (x := nI 3) dX2_split_24 (by decide +kernel) ?_
      refine n_icmp_ge (tgt := 98) dX2_split_25 (by decide) (by omega) (by omega) (fun c25 => absurd c25 (by omega)) (fun c25 => ?_)
      refine v_aload_n dX2_split_28 rfl ?_
      refine v_iload_n dX2_split_29 rfl ?_
      refine v_callVi (M' := M_X2_figuresAt) (As := [_]) iO1 (s_X2_figuresAt (((FN.rf σ).si 0 _).ct hT) (p := ((p + 1) + figs u len (p + 1) + 1)) (by omega)) dX2_split_30 gX2_split_X2_figuresAt rfl rfl nn_X2_figuresAt ⟨rfl, rfl⟩ ⟨by decide, by decide⟩ rfl rfl (Nat.le_of_ble_eq_true rfl) ?_
      refine v_istore (L' := [(5, _), (4, _), (3, _), (2, _), (0, _), (1, _)]) dX2_split_33 (by decide) rfl ?_
      refine v_iload dX2_split_35 rfl ?_
      refine v_iconst (x := nI 1) dX2_split_37 (by decide +kernel) ?_
      refine n_icmp_ge (tgt := 44) dX2_split_38 (by decide) (by omega) (by omega) (fun f1 => ?_) (fun f1 => ?_)
      · have hl1 := (figs_lt (u := u) (len := len) (p := ((p + 1) + figs u len (p + 1) + 1)) (i := 0) (by omega)).1
        refine v_aload_n dX2_split_44 rfl ?_
        refine v_get (j := 1) iO1 rfl dX2_split_45 (by decide) in_X2_split_X2 fl_X2_split_15 rfl ?_
        refine v_iload dX2_split_48 rfl ?_
        refine v_aload_n dX2_split_50 rfl ?_
        refine v_iload_n dX2_split_51 rfl ?_
        refine v_iload dX2_split_52 rfl ?_
        refine v_callVi (M' := M_X2_numberAt) (As := [_, _]) iO1 (s_X2_numberAt (((FN.rf σ).si 0 _).ct hT) (p := ((p + 1) + figs u len (p + 1) + 1)) (by omega) hF1 (fun j hj => figs_lt hj)) dX2_split_54 gX2_split_X2_numberAt rfl rfl nn_X2_numberAt ⟨rfl, rfl⟩ ⟨by decide, by decide⟩ rfl rfl (Nat.le_of_ble_eq_true rfl) ?_
        refine v_iastN 1 iI3 dX2_split_57 rfl (by decide) (by decide) ?_
        refine v_iload_n dX2_split_58 rfl ?_
        refine v_iload dX2_split_59 rfl ?_
        refine n_iadd dX2_split_61 ?_
        refine v_istore_n (L' := [(3, _), (5, _), (4, _), (2, _), (0, _), (1, _)]) dX2_split_62 rfl (by decide) rfl ?_
        refine v_aload_n dX2_split_63 rfl ?_
        refine v_iload_n dX2_split_64 rfl ?_
        refine v_callVi (M' := M_X2_byteAt) (As := [_]) iO1 (s_X2_byteAt ((((FN.rf σ).si 0 _).si 1 _).ct hT) (p := ((p + 1) + figs u len (p + 1) + 1) + figs u len ((p + 1) + figs u len (p + 1) + 1)) (by omega)) dX2_split_65 gX2_split_X2_byteAt rfl rfl nn_X2_byteAt ⟨rfl, rfl⟩ ⟨by decide, by decide⟩ rfl rfl (Nat.le_of_ble_eq_true rfl) ?_
        refine v_iload dX2_split_68 rfl ?_
        refine v_iload_n dX2_split_70 rfl ?_
        refine v_iconst (x := nI 1) dX2_split_71 (by decide +kernel) ?_
        refine n_isub dX2_split_72 (by omega) ?_
        refine n_icmp_ge (tgt := 81) dX2_split_73 (by decide) (by omega) (by omega) (fun c73 => ?_) (fun c73 => absurd c73 (by omega))
        refine v_bipush (x := nI 59) dX2_split_81 (by decide +kernel) ?_
        refine v_icmp_eq (tgt := 89) dX2_split_83 (by decide) (fun e1 => ?_) (fun e1 => ?_)
        · have s1 := (bt_eq (e := 59) (fun h => (hT.2.2 _ h).1) (by decide)).mp e1
          refine n_iinc (n := 1) (L' := [(3, _), (5, _), (4, _), (2, _), (0, _), (1, _)]) dX2_split_89 rfl (by decide) rfl ?_
          refine n_iinc (n := 1) (L' := [(4, _), (3, _), (5, _), (2, _), (0, _), (1, _)]) dX2_split_92 rfl (by decide) rfl ?_
          refine v_goto (tgt := 16) dX2_split_95 (by decide) ?_
          refine v_iload dX2_split_16 rfl ?_
          refine v_iload_n dX2_split_18 rfl ?_
          refine n_icmp_ge (tgt := 98) dX2_split_19 (by decide) (by omega) (by omega) (fun c19 => ?_) (fun c19 => absurd c19 (by omega))
          refine v_iload_n dX2_split_98 rfl ?_
          refine n_if_le (tgt := 106) dX2_split_99 (by decide) (by omega) (fun c99 => absurd c99 (by omega)) (fun c99 => ?_)
          refine v_iload_n dX2_split_102 rfl ?_
          refine v_goto (tgt := 108) dX2_split_103 (by decide) ?_
          exact v_iret rfl dX2_split_108 ⟨congrArg (fun z => some (Value.int z)) (by rw [show i2 u len p = some (valF u (p + 1) (figs u len (p + 1)), valF u ((p + 1) + figs u len (p + 1) + 1) (figs u len ((p + 1) + figs u len (p + 1) + 1)), (((p + 1) + figs u len (p + 1) + 1) + figs u len ((p + 1) + figs u len (p + 1) + 1) + 1)) from by rw [i2]; simp only [n1_yes f0 s0, n1_yes f1 s1]]), (((FN.rf σ).si 0 _).si 1 _), by intro a c q h9; rw [show i2 u len p = some (valF u (p + 1) (figs u len (p + 1)), valF u ((p + 1) + figs u len (p + 1) + 1) (figs u len ((p + 1) + figs u len (p + 1) + 1)), (((p + 1) + figs u len (p + 1) + 1) + figs u len ((p + 1) + figs u len (p + 1) + 1) + 1)) from by rw [i2]; simp only [n1_yes f0 s0, n1_yes f1 s1]] at h9; simp only [Option.some.injEq, Prod.mk.injEq] at h9; obtain ⟨rfl, rfl, rfl⟩ := h9; exact ⟨(sI_ne _ _ (by omega)).trans (sI_at _ _ _ _), sI_at _ _ _ _⟩⟩
        · have s1 : sepAt u len (((p + 1) + figs u len (p + 1) + 1) + figs u len ((p + 1) + figs u len (p + 1) + 1)) 59 = false := by cases h : sepAt u len (((p + 1) + figs u len (p + 1) + 1) + figs u len ((p + 1) + figs u len (p + 1) + 1)) 59 with | false => rfl | true => exact absurd ((bt_eq (e := 59) (fun h => (hT.2.2 _ h).1) (by decide)).mpr h) e1
          refine v_bipush (x := (-4)) dX2_split_86 (by decide +kernel) ?_
          exact v_iret rfl dX2_split_88 ⟨congrArg (fun z => some (Value.int z)) (by rw [show i2 u len p = none from by rw [i2]; simp only [n1_yes f0 s0, n1_nos s1]]), (((FN.rf σ).si 0 _).si 1 _), by intro a c q h9; rw [show i2 u len p = none from by rw [i2]; simp only [n1_yes f0 s0, n1_nos s1]] at h9; cases h9⟩
      · refine v_bipush (x := (-4)) dX2_split_41 (by decide +kernel) ?_
        exact v_iret rfl dX2_split_43 ⟨congrArg (fun z => some (Value.int z)) (by rw [show i2 u len p = none from by rw [i2]; simp only [n1_yes f0 s0, n1_no0 f1]]), ((FN.rf σ).si 0 _), by intro a c q h9; rw [show i2 u len p = none from by rw [i2]; simp only [n1_yes f0 s0, n1_no0 f1]] at h9; cases h9⟩
    · have s0 : sepAt u len ((p + 1) + figs u len (p + 1)) 44 = false := by cases h : sepAt u len ((p + 1) + figs u len (p + 1)) 44 with | false => rfl | true => exact absurd ((bt_eq (e := 44) (fun h => (hT.2.2 _ h).1) (by decide)).mpr h) e0
      refine v_bipush (x := (-4)) dX2_split_86 (by decide +kernel) ?_
      exact v_iret rfl dX2_split_88 ⟨congrArg (fun z => some (Value.int z)) (by rw [show i2 u len p = none from by rw [i2]; simp only [n1_nos s0]]), ((FN.rf σ).si 0 _), by intro a c q h9; rw [show i2 u len p = none from by rw [i2]; simp only [n1_nos s0]] at h9; cases h9⟩
  · refine v_bipush (x := (-4)) dX2_split_41 (by decide +kernel) ?_
    exact v_iret rfl dX2_split_43 ⟨congrArg (fun z => some (Value.int z)) (by rw [show i2 u len p = none from by rw [i2]; simp only [n1_no0 f0]]), (FN.rf σ), by intro a c q h9; rw [show i2 u len p = none from by rw [i2]; simp only [n1_no0 f0]] at h9; cases h9⟩
set_option maxRecDepth 100000 in
set_option maxHeartbeats 4000000 in
theorem s_X2_split_3 {v : EE} {u : Nat → Nat} {len : Nat} {σ : SS} (hT : CT u len σ) {p : Nat} (hp : p < len) (hn : nums (u p) = 3) : SR v M_X2_split [.ref (v.1 1), .int (nI p)] σ (some (.int (match i3 u len p with | none => -4 | some (_, _, _, q) => nI q))) (fun σ' => FN σ σ' ∧ ∀ a c d q, i3 u len p = some (a, c, d, q) → σ'.1 3 0 = nI a ∧ σ'.1 3 1 = nI c ∧ σ'.1 3 2 = nI d) := by
  refine Sp.of rfl (by decide) rfl (Nat.le_of_ble_eq_true rfl) ?_
  show V v M_X2_split _ 0 [(0, .ref (v.1 1)), (1, .int (nI p))] [] σ
  have hl := hT.2.1
  refine v_aload_n dX2_split_0 rfl ?_
  refine v_iload_n dX2_split_1 rfl ?_
  refine v_callVi (M' := M_X2_byteAt) (As := [_]) iO1 (s_X2_byteAt hT (by omega)) dX2_split_2 gX2_split_X2_byteAt rfl rfl nn_X2_byteAt ⟨rfl, rfl⟩ ⟨by decide, by decide⟩ rfl rfl (Nat.le_of_ble_eq_true rfl) ?_
  refine v_top (bt_in hp) ?_
  refine v_callSi (M' := M_X2_numbersOf) (As := [_]) (s_X2_numbersOf (hT.2.2 p hp).1) dX2_split_5 gX2_split_X2_numbersOf rfl nn_X2_numbersOf ⟨rfl, rfl⟩ ⟨by decide, by decide⟩ rfl rfl (Nat.le_of_ble_eq_true rfl) ?_
  refine v_top (y := nI 3) (by rw [hn]) ?_
  refine v_istore_n (L' := [(2, _), (0, _), (1, _)]) dX2_split_8 rfl (by decide) rfl ?_
  refine v_iload_n dX2_split_9 rfl ?_
  refine v_iconst (x := nI 1) dX2_split_10 (by decide +kernel) ?_
  refine n_iadd dX2_split_11 ?_
  refine v_istore_n (L' := [(3, _), (2, _), (0, _), (1, _)]) dX2_split_12 rfl (by decide) rfl ?_
  refine v_iconst (x := nI 0) dX2_split_13 (by decide +kernel) ?_
  refine v_istore (L' := [(4, _), (3, _), (2, _), (0, _), (1, _)]) dX2_split_14 (by decide) rfl ?_
  have hF0 := figs_le u len (p + 1)
  refine v_iload dX2_split_16 rfl ?_
  refine v_iload_n dX2_split_18 rfl ?_
  refine n_icmp_ge (tgt := 98) dX2_split_19 (by decide) (by omega) (by omega) (fun c19 => absurd c19 (by omega)) (fun c19 => ?_)
  refine v_iload dX2_split_22 rfl ?_
  refine v_iconst (x := nI 3) dX2_split_24 (by decide +kernel) ?_
  refine n_icmp_ge (tgt := 98) dX2_split_25 (by decide) (by omega) (by omega) (fun c25 => absurd c25 (by omega)) (fun c25 => ?_)
  refine v_aload_n dX2_split_28 rfl ?_
  refine v_iload_n dX2_split_29 rfl ?_
  refine v_callVi (M' := M_X2_figuresAt) (As := [_]) iO1 (s_X2_figuresAt hT (p := (p + 1)) (by omega)) dX2_split_30 gX2_split_X2_figuresAt rfl rfl nn_X2_figuresAt ⟨rfl, rfl⟩ ⟨by decide, by decide⟩ rfl rfl (Nat.le_of_ble_eq_true rfl) ?_
  refine v_istore (L' := [(5, _), (4, _), (3, _), (2, _), (0, _), (1, _)]) dX2_split_33 (by decide) rfl ?_
  refine v_iload dX2_split_35 rfl ?_
  refine v_iconst (x := nI 1) dX2_split_37 (by decide +kernel) ?_
  refine n_icmp_ge (tgt := 44) dX2_split_38 (by decide) (by omega) (by omega) (fun f0 => ?_) (fun f0 => ?_)
  · have hl0 := (figs_lt (u := u) (len := len) (p := (p + 1)) (i := 0) (by omega)).1
    refine v_aload_n dX2_split_44 rfl ?_
    refine v_get (j := 1) iO1 rfl dX2_split_45 (by decide) in_X2_split_X2 fl_X2_split_15 rfl ?_
    refine v_iload dX2_split_48 rfl ?_
    refine v_aload_n dX2_split_50 rfl ?_
    refine v_iload_n dX2_split_51 rfl ?_
    refine v_iload dX2_split_52 rfl ?_
    refine v_callVi (M' := M_X2_numberAt) (As := [_, _]) iO1 (s_X2_numberAt hT (p := (p + 1)) (by omega) hF0 (fun j hj => figs_lt hj)) dX2_split_54 gX2_split_X2_numberAt rfl rfl nn_X2_numberAt ⟨rfl, rfl⟩ ⟨by decide, by decide⟩ rfl rfl (Nat.le_of_ble_eq_true rfl) ?_
    refine v_iastN 0 iI3 dX2_split_57 rfl (by decide) (by decide) ?_
    refine v_iload_n dX2_split_58 rfl ?_
    refine v_iload dX2_split_59 rfl ?_
    refine n_iadd dX2_split_61 ?_
    refine v_istore_n (L' := [(3, _), (5, _), (4, _), (2, _), (0, _), (1, _)]) dX2_split_62 rfl (by decide) rfl ?_
    refine v_aload_n dX2_split_63 rfl ?_
    refine v_iload_n dX2_split_64 rfl ?_
    refine v_callVi (M' := M_X2_byteAt) (As := [_]) iO1 (s_X2_byteAt (((FN.rf σ).si 0 _).ct hT) (p := (p + 1) + figs u len (p + 1)) (by omega)) dX2_split_65 gX2_split_X2_byteAt rfl rfl nn_X2_byteAt ⟨rfl, rfl⟩ ⟨by decide, by decide⟩ rfl rfl (Nat.le_of_ble_eq_true rfl) ?_
    refine v_iload dX2_split_68 rfl ?_
    refine v_iload_n dX2_split_70 rfl ?_
    refine v_iconst (x := nI 1) dX2_split_71 (by decide +kernel) ?_
    refine n_isub dX2_split_72 (by omega) ?_
    refine n_icmp_ge (tgt := 81) dX2_split_73 (by decide) (by omega) (by omega) (fun c73 => absurd c73 (by omega)) (fun c73 => ?_)
    refine v_bipush (x := nI 44) dX2_split_76 (by decide +kernel) ?_
    refine v_goto (tgt := 83) dX2_split_78 (by decide) ?_
    refine v_icmp_eq (tgt := 89) dX2_split_83 (by decide) (fun e0 => ?_) (fun e0 => ?_)
    · have s0 := (bt_eq (e := 44) (fun h => (hT.2.2 _ h).1) (by decide)).mp e0
      refine n_iinc (n := 1) (L' := [(3, _), (5, _), (4, _), (2, _), (0, _), (1, _)]) dX2_split_89 rfl (by decide) rfl ?_
      refine n_iinc (n := 1) (L' := [(4, _), (3, _), (5, _), (2, _), (0, _), (1, _)]) dX2_split_92 rfl (by decide) rfl ?_
      refine v_goto (tgt := 16) dX2_split_95 (by decide) ?_
      have hF1 := figs_le u len ((p + 1) + figs u len (p + 1) + 1)
      refine v_iload dX2_split_16 rfl ?_
      refine v_iload_n dX2_split_18 rfl ?_
      refine n_icmp_ge (tgt := 98) dX2_split_19 (by decide) (by omega) (by omega) (fun c19 => absurd c19 (by omega)) (fun c19 => ?_)
      refine v_iload dX2_split_22 rfl ?_
      refine v_iconst (x := nI 3) dX2_split_24 (by decide +kernel) ?_
      refine n_icmp_ge (tgt := 98) dX2_split_25 (by decide) (by omega) (by omega) (fun c25 => absurd c25 (by omega)) (fun c25 => ?_)
      refine v_aload_n dX2_split_28 rfl ?_
      refine v_iload_n dX2_split_29 rfl ?_
      refine v_callVi (M' := M_X2_figuresAt) (As := [_]) iO1 (s_X2_figuresAt (((FN.rf σ).si 0 _).ct hT) (p := ((p + 1) + figs u len (p + 1) + 1)) (by omega)) dX2_split_30 gX2_split_X2_figuresAt rfl rfl nn_X2_figuresAt ⟨rfl, rfl⟩ ⟨by decide, by decide⟩ rfl rfl (Nat.le_of_ble_eq_true rfl) ?_
      refine v_istore (L' := [(5, _), (4, _), (3, _), (2, _), (0, _), (1, _)]) dX2_split_33 (by decide) rfl ?_
      refine v_iload dX2_split_35 rfl ?_
      refine v_iconst (x := nI 1) dX2_split_37 (by decide +kernel) ?_
      refine n_icmp_ge (tgt := 44) dX2_split_38 (by decide) (by omega) (by omega) (fun f1 => ?_) (fun f1 => ?_)
      · have hl1 := (figs_lt (u := u) (len := len) (p := ((p + 1) + figs u len (p + 1) + 1)) (i := 0) (by omega)).1
        refine v_aload_n dX2_split_44 rfl ?_
        refine v_get (j := 1) iO1 rfl dX2_split_45 (by decide) in_X2_split_X2 fl_X2_split_15 rfl ?_
        refine v_iload dX2_split_48 rfl ?_
        refine v_aload_n dX2_split_50 rfl ?_
        refine v_iload_n dX2_split_51 rfl ?_
        refine v_iload dX2_split_52 rfl ?_
        refine v_callVi (M' := M_X2_numberAt) (As := [_, _]) iO1 (s_X2_numberAt (((FN.rf σ).si 0 _).ct hT) (p := ((p + 1) + figs u len (p + 1) + 1)) (by omega) hF1 (fun j hj => figs_lt hj)) dX2_split_54 gX2_split_X2_numberAt rfl rfl nn_X2_numberAt ⟨rfl, rfl⟩ ⟨by decide, by decide⟩ rfl rfl (Nat.le_of_ble_eq_true rfl) ?_
        refine v_iastN 1 iI3 dX2_split_57 rfl (by decide) (by decide) ?_
        refine v_iload_n dX2_split_58 rfl ?_
        refine v_iload dX2_split_59 rfl ?_
        refine n_iadd dX2_split_61 ?_
        refine v_istore_n (L' := [(3, _), (5, _), (4, _), (2, _), (0, _), (1, _)]) dX2_split_62 rfl (by decide) rfl ?_
        refine v_aload_n dX2_split_63 rfl ?_
        refine v_iload_n dX2_split_64 rfl ?_
        refine v_callVi (M' := M_X2_byteAt) (As := [_]) iO1 (s_X2_byteAt ((((FN.rf σ).si 0 _).si 1 _).ct hT) (p := ((p + 1) + figs u len (p + 1) + 1) + figs u len ((p + 1) + figs u len (p + 1) + 1)) (by omega)) dX2_split_65 gX2_split_X2_byteAt rfl rfl nn_X2_byteAt ⟨rfl, rfl⟩ ⟨by decide, by decide⟩ rfl rfl (Nat.le_of_ble_eq_true rfl) ?_
        refine v_iload dX2_split_68 rfl ?_
        refine v_iload_n dX2_split_70 rfl ?_
        refine v_iconst (x := nI 1) dX2_split_71 (by decide +kernel) ?_
        refine n_isub dX2_split_72 (by omega) ?_
        refine n_icmp_ge (tgt := 81) dX2_split_73 (by decide) (by omega) (by omega) (fun c73 => absurd c73 (by omega)) (fun c73 => ?_)
        refine v_bipush (x := nI 44) dX2_split_76 (by decide +kernel) ?_
        refine v_goto (tgt := 83) dX2_split_78 (by decide) ?_
        refine v_icmp_eq (tgt := 89) dX2_split_83 (by decide) (fun e1 => ?_) (fun e1 => ?_)
        · have s1 := (bt_eq (e := 44) (fun h => (hT.2.2 _ h).1) (by decide)).mp e1
          refine n_iinc (n := 1) (L' := [(3, _), (5, _), (4, _), (2, _), (0, _), (1, _)]) dX2_split_89 rfl (by decide) rfl ?_
          refine n_iinc (n := 1) (L' := [(4, _), (3, _), (5, _), (2, _), (0, _), (1, _)]) dX2_split_92 rfl (by decide) rfl ?_
          refine v_goto (tgt := 16) dX2_split_95 (by decide) ?_
          have hF2 := figs_le u len (((p + 1) + figs u len (p + 1) + 1) + figs u len ((p + 1) + figs u len (p + 1) + 1) + 1)
          refine v_iload dX2_split_16 rfl ?_
          refine v_iload_n dX2_split_18 rfl ?_
          refine n_icmp_ge (tgt := 98) dX2_split_19 (by decide) (by omega) (by omega) (fun c19 => absurd c19 (by omega)) (fun c19 => ?_)
          refine v_iload dX2_split_22 rfl ?_
          refine v_iconst (x := nI 3) dX2_split_24 (by decide +kernel) ?_
          refine n_icmp_ge (tgt := 98) dX2_split_25 (by decide) (by omega) (by omega) (fun c25 => absurd c25 (by omega)) (fun c25 => ?_)
          refine v_aload_n dX2_split_28 rfl ?_
          refine v_iload_n dX2_split_29 rfl ?_
          refine v_callVi (M' := M_X2_figuresAt) (As := [_]) iO1 (s_X2_figuresAt ((((FN.rf σ).si 0 _).si 1 _).ct hT) (p := (((p + 1) + figs u len (p + 1) + 1) + figs u len ((p + 1) + figs u len (p + 1) + 1) + 1)) (by omega)) dX2_split_30 gX2_split_X2_figuresAt rfl rfl nn_X2_figuresAt ⟨rfl, rfl⟩ ⟨by decide, by decide⟩ rfl rfl (Nat.le_of_ble_eq_true rfl) ?_
          refine v_istore (L' := [(5, _), (4, _), (3, _), (2, _), (0, _), (1, _)]) dX2_split_33 (by decide) rfl ?_
          refine v_iload dX2_split_35 rfl ?_
          refine v_iconst (x := nI 1) dX2_split_37 (by decide +kernel) ?_
          refine n_icmp_ge (tgt := 44) dX2_split_38 (by decide) (by omega) (by omega) (fun f2 => ?_) (fun f2 => ?_)
          · have hl2 := (figs_lt (u := u) (len := len) (p := (((p + 1) + figs u len (p + 1) + 1) + figs u len ((p + 1) + figs u len (p + 1) + 1) + 1)) (i := 0) (by omega)).1
            refine v_aload_n dX2_split_44 rfl ?_
            refine v_get (j := 1) iO1 rfl dX2_split_45 (by decide) in_X2_split_X2 fl_X2_split_15 rfl ?_
            refine v_iload dX2_split_48 rfl ?_
            refine v_aload_n dX2_split_50 rfl ?_
            refine v_iload_n dX2_split_51 rfl ?_
            refine v_iload dX2_split_52 rfl ?_
            refine v_callVi (M' := M_X2_numberAt) (As := [_, _]) iO1 (s_X2_numberAt ((((FN.rf σ).si 0 _).si 1 _).ct hT) (p := (((p + 1) + figs u len (p + 1) + 1) + figs u len ((p + 1) + figs u len (p + 1) + 1) + 1)) (by omega) hF2 (fun j hj => figs_lt hj)) dX2_split_54 gX2_split_X2_numberAt rfl rfl nn_X2_numberAt ⟨rfl, rfl⟩ ⟨by decide, by decide⟩ rfl rfl (Nat.le_of_ble_eq_true rfl) ?_
            refine v_iastN 2 iI3 dX2_split_57 rfl (by decide) (by decide) ?_
            refine v_iload_n dX2_split_58 rfl ?_
            refine v_iload dX2_split_59 rfl ?_
            refine n_iadd dX2_split_61 ?_
            refine v_istore_n (L' := [(3, _), (5, _), (4, _), (2, _), (0, _), (1, _)]) dX2_split_62 rfl (by decide) rfl ?_
            refine v_aload_n dX2_split_63 rfl ?_
            refine v_iload_n dX2_split_64 rfl ?_
            refine v_callVi (M' := M_X2_byteAt) (As := [_]) iO1 (s_X2_byteAt (((((FN.rf σ).si 0 _).si 1 _).si 2 _).ct hT) (p := (((p + 1) + figs u len (p + 1) + 1) + figs u len ((p + 1) + figs u len (p + 1) + 1) + 1) + figs u len (((p + 1) + figs u len (p + 1) + 1) + figs u len ((p + 1) + figs u len (p + 1) + 1) + 1)) (by omega)) dX2_split_65 gX2_split_X2_byteAt rfl rfl nn_X2_byteAt ⟨rfl, rfl⟩ ⟨by decide, by decide⟩ rfl rfl (Nat.le_of_ble_eq_true rfl) ?_
            refine v_iload dX2_split_68 rfl ?_
            refine v_iload_n dX2_split_70 rfl ?_
            refine v_iconst (x := nI 1) dX2_split_71 (by decide +kernel) ?_
            refine n_isub dX2_split_72 (by omega) ?_
            refine n_icmp_ge (tgt := 81) dX2_split_73 (by decide) (by omega) (by omega) (fun c73 => ?_) (fun c73 => absurd c73 (by omega))
            refine v_bipush (x := nI 59) dX2_split_81 (by decide +kernel) ?_
            refine v_icmp_eq (tgt := 89) dX2_split_83 (by decide) (fun e2 => ?_) (fun e2 => ?_)
            · have s2 := (bt_eq (e := 59) (fun h => (hT.2.2 _ h).1) (by decide)).mp e2
              refine n_iinc (n := 1) (L' := [(3, _), (5, _), (4, _), (2, _), (0, _), (1, _)]) dX2_split_89 rfl (by decide) rfl ?_
              refine n_iinc (n := 1) (L' := [(4, _), (3, _), (5, _), (2, _), (0, _), (1, _)]) dX2_split_92 rfl (by decide) rfl ?_
              refine v_goto (tgt := 16) dX2_split_95 (by decide) ?_
              refine v_iload dX2_split_16 rfl ?_
              refine v_iload_n dX2_split_18 rfl ?_
              refine n_icmp_ge (tgt := 98) dX2_split_19 (by decide) (by omega) (by omega) (fun c19 => ?_) (fun c19 => absurd c19 (by omega))
              refine v_iload_n dX2_split_98 rfl ?_
              refine n_if_le (tgt := 106) dX2_split_99 (by decide) (by omega) (fun c99 => absurd c99 (by omega)) (fun c99 => ?_)
              refine v_iload_n dX2_split_102 rfl ?_
              refine v_goto (tgt := 108) dX2_split_103 (by decide) ?_
              exact v_iret rfl dX2_split_108 ⟨congrArg (fun z => some (Value.int z)) (by rw [show i3 u len p = some (valF u (p + 1) (figs u len (p + 1)), valF u ((p + 1) + figs u len (p + 1) + 1) (figs u len ((p + 1) + figs u len (p + 1) + 1)), valF u (((p + 1) + figs u len (p + 1) + 1) + figs u len ((p + 1) + figs u len (p + 1) + 1) + 1) (figs u len (((p + 1) + figs u len (p + 1) + 1) + figs u len ((p + 1) + figs u len (p + 1) + 1) + 1)), ((((p + 1) + figs u len (p + 1) + 1) + figs u len ((p + 1) + figs u len (p + 1) + 1) + 1) + figs u len (((p + 1) + figs u len (p + 1) + 1) + figs u len ((p + 1) + figs u len (p + 1) + 1) + 1) + 1)) from by rw [i3]; simp only [n1_yes f0 s0, n1_yes f1 s1, n1_yes f2 s2]]), ((((FN.rf σ).si 0 _).si 1 _).si 2 _), by intro a c d q h9; rw [show i3 u len p = some (valF u (p + 1) (figs u len (p + 1)), valF u ((p + 1) + figs u len (p + 1) + 1) (figs u len ((p + 1) + figs u len (p + 1) + 1)), valF u (((p + 1) + figs u len (p + 1) + 1) + figs u len ((p + 1) + figs u len (p + 1) + 1) + 1) (figs u len (((p + 1) + figs u len (p + 1) + 1) + figs u len ((p + 1) + figs u len (p + 1) + 1) + 1)), ((((p + 1) + figs u len (p + 1) + 1) + figs u len ((p + 1) + figs u len (p + 1) + 1) + 1) + figs u len (((p + 1) + figs u len (p + 1) + 1) + figs u len ((p + 1) + figs u len (p + 1) + 1) + 1) + 1)) from by rw [i3]; simp only [n1_yes f0 s0, n1_yes f1 s1, n1_yes f2 s2]] at h9; simp only [Option.some.injEq, Prod.mk.injEq] at h9; obtain ⟨rfl, rfl, rfl, rfl⟩ := h9; exact ⟨(sI_ne _ _ (by omega)).trans ((sI_ne _ _ (by omega)).trans (sI_at _ _ _ _)), (sI_ne _ _ (by omega)).trans (sI_at _ _ _ _), sI_at _ _ _ _⟩⟩
            · have s2 : sepAt u len ((((p + 1) + figs u len (p + 1) + 1) + figs u len ((p + 1) + figs u len (p + 1) + 1) + 1) + figs u len (((p + 1) + figs u len (p + 1) + 1) + figs u len ((p + 1) + figs u len (p + 1) + 1) + 1)) 59 = false := by cases h : sepAt u len ((((p + 1) + figs u len (p + 1) + 1) + figs u len ((p + 1) + figs u len (p + 1) + 1) + 1) + figs u len (((p + 1) + figs u len (p + 1) + 1) + figs u len ((p + 1) + figs u len (p + 1) + 1) + 1)) 59 with | false => rfl | true => exact absurd ((bt_eq (e := 59) (fun h => (hT.2.2 _ h).1) (by decide)).mpr h) e2
              refine v_bipush (x := (-4)) dX2_split_86 (by decide +kernel) ?_
              exact v_iret rfl dX2_split_88 ⟨congrArg (fun z => some (Value.int z)) (by rw [show i3 u len p = none from by rw [i3]; simp only [n1_yes f0 s0, n1_yes f1 s1, n1_nos s2]]), ((((FN.rf σ).si 0 _).si 1 _).si 2 _), by intro a c d q h9; rw [show i3 u len p = none from by rw [i3]; simp only [n1_yes f0 s0, n1_yes f1 s1, n1_nos s2]] at h9; cases h9⟩
          · refine v_bipush (x := (-4)) dX2_split_41 (by decide +kernel) ?_
            exact v_iret rfl dX2_split_43 ⟨congrArg (fun z => some (Value.int z)) (by rw [show i3 u len p = none from by rw [i3]; simp only [n1_yes f0 s0, n1_yes f1 s1, n1_no0 f2]]), (((FN.rf σ).si 0 _).si 1 _), by intro a c d q h9; rw [show i3 u len p = none from by rw [i3]; simp only [n1_yes f0 s0, n1_yes f1 s1, n1_no0 f2]] at h9; cases h9⟩
        · have s1 : sepAt u len (((p + 1) + figs u len (p + 1) + 1) + figs u len ((p + 1) + figs u len (p + 1) + 1)) 44 = false := by cases h : sepAt u len (((p + 1) + figs u len (p + 1) + 1) + figs u len ((p + 1) + figs u len (p + 1) + 1)) 44 with | false => rfl | true => exact absurd ((bt_eq (e := 44) (fun h => (hT.2.2 _ h).1) (by decide)).mpr h) e1
          refine v_bipush (x := (-4)) dX2_split_86 (by decide +kernel) ?_
          exact v_iret rfl dX2_split_88 ⟨congrArg (fun z => some (Value.int z)) (by rw [show i3 u len p = none from by rw [i3]; simp only [n1_yes f0 s0, n1_nos s1]]), (((FN.rf σ).si 0 _).si 1 _), by intro a c d q h9; rw [show i3 u len p = none from by rw [i3]; simp only [n1_yes f0 s0, n1_nos s1]] at h9; cases h9⟩
      · refine v_bipush (x := (-4)) dX2_split_41 (by decide +kernel) ?_
        exact v_iret rfl dX2_split_43 ⟨congrArg (fun z => some (Value.int z)) (by rw [show i3 u len p = none from by rw [i3]; simp only [n1_yes f0 s0, n1_no0 f1]]), ((FN.rf σ).si 0 _), by intro a c d q h9; rw [show i3 u len p = none from by rw [i3]; simp only [n1_yes f0 s0, n1_no0 f1]] at h9; cases h9⟩
    · have s0 : sepAt u len ((p + 1) + figs u len (p + 1)) 44 = false := by cases h : sepAt u len ((p + 1) + figs u len (p + 1)) 44 with | false => rfl | true => exact absurd ((bt_eq (e := 44) (fun h => (hT.2.2 _ h).1) (by decide)).mpr h) e0
      refine v_bipush (x := (-4)) dX2_split_86 (by decide +kernel) ?_
      exact v_iret rfl dX2_split_88 ⟨congrArg (fun z => some (Value.int z)) (by rw [show i3 u len p = none from by rw [i3]; simp only [n1_nos s0]]), ((FN.rf σ).si 0 _), by intro a c d q h9; rw [show i3 u len p = none from by rw [i3]; simp only [n1_nos s0]] at h9; cases h9⟩
  · refine v_bipush (x := (-4)) dX2_split_41 (by decide +kernel) ?_
    exact v_iret rfl dX2_split_43 ⟨congrArg (fun z => some (Value.int z)) (by rw [show i3 u len p = none from by rw [i3]; simp only [n1_no0 f0]]), (FN.rf σ), by intro a c d q h9; rw [show i3 u len p = none from by rw [i3]; simp only [n1_no0 f0]] at h9; cases h9⟩
set_option maxRecDepth 100000 in
set_option maxHeartbeats 4000000 in
theorem s_X2_split_0 {v : EE} {u : Nat → Nat} {len : Nat} {σ : SS} (hT : CT u len σ) {p : Nat} (hp : p < len) (hn : nums (u p) = 0) : S1 v M_X2_split [.ref (v.1 1), .int (nI p)] σ (some (.int (-4))) (σ) := by
  refine Sp.of rfl (by decide) rfl (Nat.le_of_ble_eq_true rfl) ?_
  show V v M_X2_split _ 0 [(0, .ref (v.1 1)), (1, .int (nI p))] [] σ
  have hl := hT.2.1
  refine v_aload_n dX2_split_0 rfl ?_
  refine v_iload_n dX2_split_1 rfl ?_
  refine v_callVi (M' := M_X2_byteAt) (As := [_]) iO1 (s_X2_byteAt hT (by omega)) dX2_split_2 gX2_split_X2_byteAt rfl rfl nn_X2_byteAt ⟨rfl, rfl⟩ ⟨by decide, by decide⟩ rfl rfl (Nat.le_of_ble_eq_true rfl) ?_
  refine v_top (bt_in hp) ?_
  refine v_callSi (M' := M_X2_numbersOf) (As := [_]) (s_X2_numbersOf (hT.2.2 p hp).1) dX2_split_5 gX2_split_X2_numbersOf rfl nn_X2_numbersOf ⟨rfl, rfl⟩ ⟨by decide, by decide⟩ rfl rfl (Nat.le_of_ble_eq_true rfl) ?_
  refine v_top (y := nI 0) (by rw [hn]) ?_
  refine v_istore_n (L' := [(2, _), (0, _), (1, _)]) dX2_split_8 rfl (by decide) rfl ?_
  refine v_iload_n dX2_split_9 rfl ?_
  refine v_iconst (x := nI 1) dX2_split_10 (by decide +kernel) ?_
  refine n_iadd dX2_split_11 ?_
  refine v_istore_n (L' := [(3, _), (2, _), (0, _), (1, _)]) dX2_split_12 rfl (by decide) rfl ?_
  refine v_iconst (x := nI 0) dX2_split_13 (by decide +kernel) ?_
  refine v_istore (L' := [(4, _), (3, _), (2, _), (0, _), (1, _)]) dX2_split_14 (by decide) rfl ?_
  refine v_iload dX2_split_16 rfl ?_
  refine v_iload_n dX2_split_18 rfl ?_
  refine n_icmp_ge (tgt := 98) dX2_split_19 (by decide) (by omega) (by omega) (fun c19 => ?_) (fun c19 => absurd c19 (by omega))
  refine v_iload_n dX2_split_98 rfl ?_
  refine n_if_le (tgt := 106) dX2_split_99 (by decide) (by omega) (fun c99 => ?_) (fun c99 => absurd c99 (by omega))
  refine v_bipush (x := (-4)) dX2_split_106 (by decide +kernel) ?_
  exact v_iret rfl dX2_split_108 ⟨rfl, rfl⟩
