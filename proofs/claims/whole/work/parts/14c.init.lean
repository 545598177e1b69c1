abbrev M_X2_init : MT := (RX2, cX2_init, 1, none, wsX2_init, { frames := 1, cells := 2, slots := 503, locals := 12 }, yX2_init)
theorem nn_X2_init : (mY M_X2_init).cls ≠ "java/lang/invoke/MethodHandle" ∧ (mY M_X2_init).cls ≠ "java/lang/invoke/VarHandle" ∧ (parseMethodDescriptor (mY M_X2_init).desc).map (fun d => d.parameters.length) = some 0 := by decide +kernel
abbrev M_X1_init : MT := (RX1, cX1_init, 1, none, wsX1_init, { frames := 1, cells := 5, slots := 2096, locals := 12 }, yX1_init)
theorem nn_X1_init : (mY M_X1_init).cls ≠ "java/lang/invoke/MethodHandle" ∧ (mY M_X1_init).cls ≠ "java/lang/invoke/VarHandle" ∧ (parseMethodDescriptor (mY M_X1_init).desc).map (fun d => d.parameters.length) = some 0 := by decide +kernel
abbrev M_X0_init : MT := (RX0, cX0_init, 1, none, wsX0_init, { frames := 1, cells := 8, slots := 290, locals := 12 }, yX0_init)
theorem nn_X0_init : (mY M_X0_init).cls ≠ "java/lang/invoke/MethodHandle" ∧ (mY M_X0_init).cls ≠ "java/lang/invoke/VarHandle" ∧ (parseMethodDescriptor (mY M_X0_init).desc).map (fun d => d.parameters.length) = some 0 := by decide +kernel
abbrev M_X3_init : MT := (RX3, cX3_init, 1, none, wsX3_init, { frames := 1, cells := 8, slots := 384, locals := 12 }, yX3_init)
theorem nn_X3_init : (mY M_X3_init).cls ≠ "java/lang/invoke/MethodHandle" ∧ (mY M_X3_init).cls ≠ "java/lang/invoke/VarHandle" ∧ (parseMethodDescriptor (mY M_X3_init).desc).map (fun d => d.parameters.length) = some 0 := by decide +kernel
abbrev M_X4_init : MT := (RX4, cX4_init, 1, none, wsX4_init, { frames := 2, cells := 40, slots := 4285, locals := 32 }, yX4_init)
theorem nn_X4_init : (mY M_X4_init).cls ≠ "java/lang/invoke/MethodHandle" ∧ (mY M_X4_init).cls ≠ "java/lang/invoke/VarHandle" ∧ (parseMethodDescriptor (mY M_X4_init).desc).map (fun d => d.parameters.length) = some 0 := by decide +kernel
abbrev M_X5_init : MT := (RX5, cX5_init, 1, none, wsX5_init, { frames := 1, cells := 20, slots := 3965, locals := 12 }, yX5_init)
theorem nn_X5_init : (mY M_X5_init).cls ≠ "java/lang/invoke/MethodHandle" ∧ (mY M_X5_init).cls ≠ "java/lang/invoke/VarHandle" ∧ (parseMethodDescriptor (mY M_X5_init).desc).map (fun d => d.parameters.length) = some 0 := by decide +kernel
theorem in_X2_init_X2 : ∀ w ∈ u_ws RX2 TX2 3, w ∈ mWs M_X2_init := by decide +kernel
theorem fl_X2_init_9 : Cond.fieldLink (mOwn M_X2_init) 9 (TX2 0).1 (TX2 0).2.1 (TX2 0).2.2.1 ∈ mWs M_X2_init := by decide +kernel
theorem fl_X2_init_15 : Cond.fieldLink (mOwn M_X2_init) 15 (TX2 1).1 (TX2 1).2.1 (TX2 1).2.2.1 ∈ mWs M_X2_init := by decide +kernel
theorem in_X1_init_X1 : ∀ w ∈ u_ws RX1 TX1 7, w ∈ mWs M_X1_init := by decide +kernel
theorem fl_X1_init_9 : Cond.fieldLink (mOwn M_X1_init) 9 (TX1 0).1 (TX1 0).2.1 (TX1 0).2.2.1 ∈ mWs M_X1_init := by decide +kernel
theorem fl_X1_init_15 : Cond.fieldLink (mOwn M_X1_init) 15 (TX1 1).1 (TX1 1).2.1 (TX1 1).2.2.1 ∈ mWs M_X1_init := by decide +kernel
theorem fl_X1_init_18 : Cond.fieldLink (mOwn M_X1_init) 18 (TX1 2).1 (TX1 2).2.1 (TX1 2).2.2.1 ∈ mWs M_X1_init := by decide +kernel
theorem fl_X1_init_21 : Cond.fieldLink (mOwn M_X1_init) 21 (TX1 3).1 (TX1 3).2.1 (TX1 3).2.2.1 ∈ mWs M_X1_init := by decide +kernel
theorem fl_X1_init_24 : Cond.fieldLink (mOwn M_X1_init) 24 (TX1 4).1 (TX1 4).2.1 (TX1 4).2.2.1 ∈ mWs M_X1_init := by decide +kernel
theorem in_X0_init_X0 : ∀ w ∈ u_ws RX0 TX0 10, w ∈ mWs M_X0_init := by decide +kernel
theorem fl_X0_init_9 : Cond.fieldLink (mOwn M_X0_init) 9 (TX0 0).1 (TX0 0).2.1 (TX0 0).2.2.1 ∈ mWs M_X0_init := by decide +kernel
theorem fl_X0_init_15 : Cond.fieldLink (mOwn M_X0_init) 15 (TX0 1).1 (TX0 1).2.1 (TX0 1).2.2.1 ∈ mWs M_X0_init := by decide +kernel
theorem fl_X0_init_18 : Cond.fieldLink (mOwn M_X0_init) 18 (TX0 2).1 (TX0 2).2.1 (TX0 2).2.2.1 ∈ mWs M_X0_init := by decide +kernel
theorem fl_X0_init_21 : Cond.fieldLink (mOwn M_X0_init) 21 (TX0 3).1 (TX0 3).2.1 (TX0 3).2.2.1 ∈ mWs M_X0_init := by decide +kernel
theorem fl_X0_init_24 : Cond.fieldLink (mOwn M_X0_init) 24 (TX0 4).1 (TX0 4).2.1 (TX0 4).2.2.1 ∈ mWs M_X0_init := by decide +kernel
theorem fl_X0_init_27 : Cond.fieldLink (mOwn M_X0_init) 27 (TX0 5).1 (TX0 5).2.1 (TX0 5).2.2.1 ∈ mWs M_X0_init := by decide +kernel
theorem fl_X0_init_30 : Cond.fieldLink (mOwn M_X0_init) 30 (TX0 6).1 (TX0 6).2.1 (TX0 6).2.2.1 ∈ mWs M_X0_init := by decide +kernel
theorem fl_X0_init_33 : Cond.fieldLink (mOwn M_X0_init) 33 (TX0 7).1 (TX0 7).2.1 (TX0 7).2.2.1 ∈ mWs M_X0_init := by decide +kernel
theorem in_X3_init_X3 : ∀ w ∈ u_ws RX3 TX3 12, w ∈ mWs M_X3_init := by decide +kernel
theorem fl_X3_init_9 : Cond.fieldLink (mOwn M_X3_init) 9 (TX3 0).1 (TX3 0).2.1 (TX3 0).2.2.1 ∈ mWs M_X3_init := by decide +kernel
theorem fl_X3_init_15 : Cond.fieldLink (mOwn M_X3_init) 15 (TX3 1).1 (TX3 1).2.1 (TX3 1).2.2.1 ∈ mWs M_X3_init := by decide +kernel
theorem fl_X3_init_18 : Cond.fieldLink (mOwn M_X3_init) 18 (TX3 2).1 (TX3 2).2.1 (TX3 2).2.2.1 ∈ mWs M_X3_init := by decide +kernel
theorem fl_X3_init_21 : Cond.fieldLink (mOwn M_X3_init) 21 (TX3 3).1 (TX3 3).2.1 (TX3 3).2.2.1 ∈ mWs M_X3_init := by decide +kernel
theorem fl_X3_init_24 : Cond.fieldLink (mOwn M_X3_init) 24 (TX3 4).1 (TX3 4).2.1 (TX3 4).2.2.1 ∈ mWs M_X3_init := by decide +kernel
theorem fl_X3_init_27 : Cond.fieldLink (mOwn M_X3_init) 27 (TX3 5).1 (TX3 5).2.1 (TX3 5).2.2.1 ∈ mWs M_X3_init := by decide +kernel
theorem fl_X3_init_30 : Cond.fieldLink (mOwn M_X3_init) 30 (TX3 6).1 (TX3 6).2.1 (TX3 6).2.2.1 ∈ mWs M_X3_init := by decide +kernel
theorem fl_X3_init_33 : Cond.fieldLink (mOwn M_X3_init) 33 (TX3 7).1 (TX3 7).2.1 (TX3 7).2.2.1 ∈ mWs M_X3_init := by decide +kernel
theorem fl_X3_init_36 : Cond.fieldLink (mOwn M_X3_init) 36 (TX3 11).1 (TX3 11).2.1 (TX3 11).2.2.1 ∈ mWs M_X3_init := by decide +kernel
theorem in_X5_init_X5 : ∀ w ∈ u_ws RX5 TX5 29, w ∈ mWs M_X5_init := by decide +kernel
theorem fl_X5_init_7 : Cond.fieldLink (mOwn M_X5_init) 7 (TX5 1).1 (TX5 1).2.1 (TX5 1).2.2.1 ∈ mWs M_X5_init := by decide +kernel
theorem fl_X5_init_13 : Cond.fieldLink (mOwn M_X5_init) 13 (TX5 3).1 (TX5 3).2.1 (TX5 3).2.2.1 ∈ mWs M_X5_init := by decide +kernel
theorem fl_X5_init_17 : Cond.fieldLink (mOwn M_X5_init) 17 (TX5 4).1 (TX5 4).2.1 (TX5 4).2.2.1 ∈ mWs M_X5_init := by decide +kernel
theorem fl_X5_init_20 : Cond.fieldLink (mOwn M_X5_init) 20 (TX5 5).1 (TX5 5).2.1 (TX5 5).2.2.1 ∈ mWs M_X5_init := by decide +kernel
theorem fl_X5_init_23 : Cond.fieldLink (mOwn M_X5_init) 23 (TX5 6).1 (TX5 6).2.1 (TX5 6).2.2.1 ∈ mWs M_X5_init := by decide +kernel
theorem fl_X5_init_26 : Cond.fieldLink (mOwn M_X5_init) 26 (TX5 7).1 (TX5 7).2.1 (TX5 7).2.2.1 ∈ mWs M_X5_init := by decide +kernel
theorem fl_X5_init_29 : Cond.fieldLink (mOwn M_X5_init) 29 (TX5 8).1 (TX5 8).2.1 (TX5 8).2.2.1 ∈ mWs M_X5_init := by decide +kernel
theorem fl_X5_init_32 : Cond.fieldLink (mOwn M_X5_init) 32 (TX5 9).1 (TX5 9).2.1 (TX5 9).2.2.1 ∈ mWs M_X5_init := by decide +kernel
theorem fl_X5_init_35 : Cond.fieldLink (mOwn M_X5_init) 35 (TX5 10).1 (TX5 10).2.1 (TX5 10).2.2.1 ∈ mWs M_X5_init := by decide +kernel
theorem fl_X5_init_38 : Cond.fieldLink (mOwn M_X5_init) 38 (TX5 12).1 (TX5 12).2.1 (TX5 12).2.2.1 ∈ mWs M_X5_init := by decide +kernel
theorem fl_X5_init_41 : Cond.fieldLink (mOwn M_X5_init) 41 (TX5 14).1 (TX5 14).2.1 (TX5 14).2.2.1 ∈ mWs M_X5_init := by decide +kernel
theorem fl_X5_init_44 : Cond.fieldLink (mOwn M_X5_init) 44 (TX5 16).1 (TX5 16).2.1 (TX5 16).2.2.1 ∈ mWs M_X5_init := by decide +kernel
theorem fl_X5_init_47 : Cond.fieldLink (mOwn M_X5_init) 47 (TX5 17).1 (TX5 17).2.1 (TX5 17).2.2.1 ∈ mWs M_X5_init := by decide +kernel
theorem fl_X5_init_50 : Cond.fieldLink (mOwn M_X5_init) 50 (TX5 18).1 (TX5 18).2.1 (TX5 18).2.2.1 ∈ mWs M_X5_init := by decide +kernel
theorem fl_X5_init_53 : Cond.fieldLink (mOwn M_X5_init) 53 (TX5 19).1 (TX5 19).2.1 (TX5 19).2.2.1 ∈ mWs M_X5_init := by decide +kernel
theorem fl_X5_init_56 : Cond.fieldLink (mOwn M_X5_init) 56 (TX5 20).1 (TX5 20).2.1 (TX5 20).2.2.1 ∈ mWs M_X5_init := by decide +kernel
theorem fl_X5_init_59 : Cond.fieldLink (mOwn M_X5_init) 59 (TX5 23).1 (TX5 23).2.1 (TX5 23).2.2.1 ∈ mWs M_X5_init := by decide +kernel
theorem fl_X5_init_62 : Cond.fieldLink (mOwn M_X5_init) 62 (TX5 24).1 (TX5 24).2.1 (TX5 24).2.2.1 ∈ mWs M_X5_init := by decide +kernel
theorem fl_X5_init_66 : Cond.fieldLink (mOwn M_X5_init) 66 (TX5 25).1 (TX5 25).2.1 (TX5 25).2.2.1 ∈ mWs M_X5_init := by decide +kernel
theorem fl_X5_init_69 : Cond.fieldLink (mOwn M_X5_init) 69 (TX5 28).1 (TX5 28).2.1 (TX5 28).2.2.1 ∈ mWs M_X5_init := by decide +kernel
theorem in_X4_init_X2 : ∀ w ∈ u_ws RX2 TX2 3, w ∈ mWs M_X4_init := by decide +kernel
theorem in_X4_init_X4 : ∀ w ∈ u_ws RX4 TX4 8, w ∈ mWs M_X4_init := by decide +kernel
theorem fl_X4_init_12 : Cond.fieldLink (mOwn M_X4_init) 12 (TX4 0).1 (TX4 0).2.1 (TX4 0).2.2.1 ∈ mWs M_X4_init := by decide +kernel
theorem in_X4_init_X1 : ∀ w ∈ u_ws RX1 TX1 7, w ∈ mWs M_X4_init := by decide +kernel
theorem fl_X4_init_19 : Cond.fieldLink (mOwn M_X4_init) 19 (TX4 1).1 (TX4 1).2.1 (TX4 1).2.2.1 ∈ mWs M_X4_init := by decide +kernel
theorem in_X4_init_X0 : ∀ w ∈ u_ws RX0 TX0 10, w ∈ mWs M_X4_init := by decide +kernel
theorem fl_X4_init_26 : Cond.fieldLink (mOwn M_X4_init) 26 (TX4 2).1 (TX4 2).2.1 (TX4 2).2.2.1 ∈ mWs M_X4_init := by decide +kernel
theorem fl_X4_init_30 : Cond.fieldLink (mOwn M_X4_init) 30 (TX4 3).1 (TX4 3).2.1 (TX4 3).2.2.1 ∈ mWs M_X4_init := by decide +kernel
theorem fl_X4_init_36 : Cond.fieldLink (mOwn M_X4_init) 36 (TX4 4).1 (TX4 4).2.1 (TX4 4).2.2.1 ∈ mWs M_X4_init := by decide +kernel
theorem in_X4_init_X3 : ∀ w ∈ u_ws RX3 TX3 12, w ∈ mWs M_X4_init := by decide +kernel
theorem fl_X4_init_42 : Cond.fieldLink (mOwn M_X4_init) 42 (TX4 5).1 (TX4 5).2.1 (TX4 5).2.2.1 ∈ mWs M_X4_init := by decide +kernel
theorem fl_X4_init_46 : Cond.fieldLink (mOwn M_X4_init) 46 (TX4 6).1 (TX4 6).2.1 (TX4 6).2.2.1 ∈ mWs M_X4_init := by decide +kernel
theorem fl_X4_init_49 : Cond.fieldLink (mOwn M_X4_init) 49 (TX4 7).1 (TX4 7).2.1 (TX4 7).2.2.1 ∈ mWs M_X4_init := by decide +kernel
set_option maxRecDepth 100000 in
set_option maxHeartbeats 4000000 in
theorem s_X2_init (G : GG) : SpI G M_X2_init (.inr (2, [.null, .null, .int 0])) 1 [1, 2, 3] 2 503 := by
  refine SpI.of rfl (by decide) rfl (by decide) rfl ?_
  intro h0 sz
  refine i_aload_n dX2_init_0 rfl ?_
  refine i_obj dX2_init_1 ⟨by decide +kernel, by decide +kernel, by decide +kernel⟩ ⟨by decide, by decide⟩ ?_
  refine i_aload_n dX2_init_4 rfl ?_
  refine i_sipush (x := 500) dX2_init_5 (by decide +kernel) ?_
  refine i_newa (ty := .byte) (cy := G.2 0) (t := 0) (N' := 500) (a0 := (500, .inl (fun _ => 0))) dX2_init_8 rfl (by decide +kernel) rfl (fun _ => rfl) (by decide) (by decide) (by decide) (by decide) (by decide) (fun q1 => ?_)
  refine i_putF (q0 := 0) (j := 0) (ty := .array .byte) rfl rfl dX2_init_10 (by decide) tyX2 tyX2_ok nmX2 in_X2_init_X2 fl_X2_init_9 rfl rfl rfl (by decide +kernel) rfl rfl (Nat.le_of_ble_eq_true rfl) ?_
  refine i_ws (ws' := [(h0, .inr (2, [.ref (q1), .null, .int 0])), (q1, .inl (G.2 0, 500, .inl (fun _ => 0)))]) rfl ?_
  refine i_aload_n dX2_init_13 rfl ?_
  refine i_iconst (x := 3) dX2_init_14 rfl ?_
  refine i_newa (ty := .int) (cy := G.2 1) (t := 1) (N' := 3) (a0 := (3, .inl (fun _ => 0))) dX2_init_15 rfl (by decide +kernel) rfl (fun _ => rfl) (by decide) (by decide) (by decide) (by decide) (by decide) (fun q2 => ?_)
  refine i_putF (q0 := 0) (j := 1) (ty := .array .int) rfl rfl dX2_init_17 (by decide) tyX2 tyX2_ok nmX2 in_X2_init_X2 fl_X2_init_15 rfl rfl rfl (by decide +kernel) rfl rfl (Nat.le_of_ble_eq_true rfl) ?_
  refine i_ws (ws' := [(h0, .inr (2, [.ref (q1), .ref (q2), .int 0])), (q1, .inl (G.2 0, 500, .inl (fun _ => 0))), (q2, .inl (G.2 1, 3, .inl (fun _ => 0)))]) rfl ?_
  exact i_ret (fun k => match k with | 1 => h0 | 2 => q1 | 3 => q2 | _ => h0) rfl rfl dX2_init_20 (by decide) (by decide)
set_option maxRecDepth 100000 in
set_option maxHeartbeats 4000000 in
theorem s_X1_init (G : GG) : SpI G M_X1_init (.inr (1, [.null, .null, .null, .null, .null, .int 0, .int 0])) 4 [4, 5, 6, 7, 8, 9] 5 2096 := by
  refine SpI.of rfl (by decide) rfl (by decide) rfl ?_
  intro h0 sz
  refine i_aload_n dX1_init_0 rfl ?_
  refine i_obj dX1_init_1 ⟨by decide +kernel, by decide +kernel, by decide +kernel⟩ ⟨by decide, by decide⟩ ?_
  refine i_aload_n dX1_init_4 rfl ?_
  refine i_bipush (x := 16) dX1_init_5 (by decide +kernel) ?_
  refine i_newa (ty := .int) (cy := G.2 1) (t := 1) (N' := 16) (a0 := (16, .inl (fun _ => 0))) dX1_init_7 rfl (by decide +kernel) rfl (fun _ => rfl) (by decide) (by decide) (by decide) (by decide) (by decide) (fun q1 => ?_)
  refine i_putF (q0 := 0) (j := 0) (ty := .array .int) rfl rfl dX1_init_9 (by decide) tyX1 tyX1_ok nmX1 in_X1_init_X1 fl_X1_init_9 rfl rfl rfl (by decide +kernel) rfl rfl (Nat.le_of_ble_eq_true rfl) ?_
  refine i_ws (ws' := [(h0, .inr (1, [.ref (q1), .null, .null, .null, .null, .int 0, .int 0])), (q1, .inl (G.2 1, 16, .inl (fun _ => 0)))]) rfl ?_
  refine i_aload_n dX1_init_12 rfl ?_
  refine i_bipush (x := 16) dX1_init_13 (by decide +kernel) ?_
  refine i_newa (ty := .int) (cy := G.2 1) (t := 1) (N' := 16) (a0 := (16, .inl (fun _ => 0))) dX1_init_15 rfl (by decide +kernel) rfl (fun _ => rfl) (by decide) (by decide) (by decide) (by decide) (by decide) (fun q2 => ?_)
  refine i_putF (q0 := 0) (j := 1) (ty := .array .int) rfl rfl dX1_init_17 (by decide) tyX1 tyX1_ok nmX1 in_X1_init_X1 fl_X1_init_15 rfl rfl rfl (by decide +kernel) rfl rfl (Nat.le_of_ble_eq_true rfl) ?_
  refine i_ws (ws' := [(h0, .inr (1, [.ref (q1), .ref (q2), .null, .null, .null, .int 0, .int 0])), (q1, .inl (G.2 1, 16, .inl (fun _ => 0))), (q2, .inl (G.2 1, 16, .inl (fun _ => 0)))]) rfl ?_
  refine i_aload_n dX1_init_20 rfl ?_
  refine i_bipush (x := 16) dX1_init_21 (by decide +kernel) ?_
  refine i_newa (ty := .int) (cy := G.2 1) (t := 1) (N' := 16) (a0 := (16, .inl (fun _ => 0))) dX1_init_23 rfl (by decide +kernel) rfl (fun _ => rfl) (by decide) (by decide) (by decide) (by decide) (by decide) (fun q3 => ?_)
  refine i_putF (q0 := 0) (j := 2) (ty := .array .int) rfl rfl dX1_init_25 (by decide) tyX1 tyX1_ok nmX1 in_X1_init_X1 fl_X1_init_18 rfl rfl rfl (by decide +kernel) rfl rfl (Nat.le_of_ble_eq_true rfl) ?_
  refine i_ws (ws' := [(h0, .inr (1, [.ref (q1), .ref (q2), .ref (q3), .null, .null, .int 0, .int 0])), (q1, .inl (G.2 1, 16, .inl (fun _ => 0))), (q2, .inl (G.2 1, 16, .inl (fun _ => 0))), (q3, .inl (G.2 1, 16, .inl (fun _ => 0)))]) rfl ?_
  refine i_aload_n dX1_init_28 rfl ?_
  refine i_sipush (x := 1024) dX1_init_29 (by decide +kernel) ?_
  refine i_newa (ty := .int) (cy := G.2 1) (t := 1) (N' := 1024) (a0 := (1024, .inl (fun _ => 0))) dX1_init_32 rfl (by decide +kernel) rfl (fun _ => rfl) (by decide) (by decide) (by decide) (by decide) (by decide) (fun q4 => ?_)
  refine i_putF (q0 := 0) (j := 3) (ty := .array .int) rfl rfl dX1_init_34 (by decide) tyX1 tyX1_ok nmX1 in_X1_init_X1 fl_X1_init_21 rfl rfl rfl (by decide +kernel) rfl rfl (Nat.le_of_ble_eq_true rfl) ?_
  refine i_ws (ws' := [(h0, .inr (1, [.ref (q1), .ref (q2), .ref (q3), .ref (q4), .null, .int 0, .int 0])), (q1, .inl (G.2 1, 16, .inl (fun _ => 0))), (q2, .inl (G.2 1, 16, .inl (fun _ => 0))), (q3, .inl (G.2 1, 16, .inl (fun _ => 0))), (q4, .inl (G.2 1, 1024, .inl (fun _ => 0)))]) rfl ?_
  refine i_aload_n dX1_init_37 rfl ?_
  refine i_sipush (x := 1024) dX1_init_38 (by decide +kernel) ?_
  refine i_newa (ty := .int) (cy := G.2 1) (t := 1) (N' := 1024) (a0 := (1024, .inl (fun _ => 0))) dX1_init_41 rfl (by decide +kernel) rfl (fun _ => rfl) (by decide) (by decide) (by decide) (by decide) (by decide) (fun q5 => ?_)
  refine i_putF (q0 := 0) (j := 4) (ty := .array .int) rfl rfl dX1_init_43 (by decide) tyX1 tyX1_ok nmX1 in_X1_init_X1 fl_X1_init_24 rfl rfl rfl (by decide +kernel) rfl rfl (Nat.le_of_ble_eq_true rfl) ?_
  refine i_ws (ws' := [(h0, .inr (1, [.ref (q1), .ref (q2), .ref (q3), .ref (q4), .ref (q5), .int 0, .int 0])), (q1, .inl (G.2 1, 16, .inl (fun _ => 0))), (q2, .inl (G.2 1, 16, .inl (fun _ => 0))), (q3, .inl (G.2 1, 16, .inl (fun _ => 0))), (q4, .inl (G.2 1, 1024, .inl (fun _ => 0))), (q5, .inl (G.2 1, 1024, .inl (fun _ => 0)))]) rfl ?_
  exact i_ret (fun k => match k with | 4 => h0 | 5 => q1 | 6 => q2 | 7 => q3 | 8 => q4 | 9 => q5 | _ => h0) rfl rfl dX1_init_46 (by decide) (by decide)
set_option maxRecDepth 100000 in
set_option maxHeartbeats 4000000 in
theorem s_X0_init (G : GG) : SpI G M_X0_init (.inr (0, [.null, .null, .null, .null, .null, .null, .null, .null, .int 0, .int 0])) 10 [10, 11, 12, 13, 14, 15, 16, 17, 18] 8 290 := by
  refine SpI.of rfl (by decide) rfl (by decide) rfl ?_
  intro h0 sz
  refine i_aload_n dX0_init_0 rfl ?_
  refine i_obj dX0_init_1 ⟨by decide +kernel, by decide +kernel, by decide +kernel⟩ ⟨by decide, by decide⟩ ?_
  refine i_aload_n dX0_init_4 rfl ?_
  refine i_bipush (x := 6) dX0_init_5 (by decide +kernel) ?_
  refine i_newa (ty := .int) (cy := G.2 1) (t := 1) (N' := 6) (a0 := (6, .inl (fun _ => 0))) dX0_init_7 rfl (by decide +kernel) rfl (fun _ => rfl) (by decide) (by decide) (by decide) (by decide) (by decide) (fun q1 => ?_)
  refine i_putF (q0 := 0) (j := 0) (ty := .array .int) rfl rfl dX0_init_9 (by decide) tyX0 tyX0_ok nmX0 in_X0_init_X0 fl_X0_init_9 rfl rfl rfl (by decide +kernel) rfl rfl (Nat.le_of_ble_eq_true rfl) ?_
  refine i_ws (ws' := [(h0, .inr (0, [.ref (q1), .null, .null, .null, .null, .null, .null, .null, .int 0, .int 0])), (q1, .inl (G.2 1, 6, .inl (fun _ => 0)))]) rfl ?_
  refine i_aload_n dX0_init_12 rfl ?_
  refine i_bipush (x := 16) dX0_init_13 (by decide +kernel) ?_
  refine i_newa (ty := .int) (cy := G.2 1) (t := 1) (N' := 16) (a0 := (16, .inl (fun _ => 0))) dX0_init_15 rfl (by decide +kernel) rfl (fun _ => rfl) (by decide) (by decide) (by decide) (by decide) (by decide) (fun q2 => ?_)
  refine i_putF (q0 := 0) (j := 1) (ty := .array .int) rfl rfl dX0_init_17 (by decide) tyX0 tyX0_ok nmX0 in_X0_init_X0 fl_X0_init_15 rfl rfl rfl (by decide +kernel) rfl rfl (Nat.le_of_ble_eq_true rfl) ?_
  refine i_ws (ws' := [(h0, .inr (0, [.ref (q1), .ref (q2), .null, .null, .null, .null, .null, .null, .int 0, .int 0])), (q1, .inl (G.2 1, 6, .inl (fun _ => 0))), (q2, .inl (G.2 1, 16, .inl (fun _ => 0)))]) rfl ?_
  refine i_aload_n dX0_init_20 rfl ?_
  refine i_bipush (x := 6) dX0_init_21 (by decide +kernel) ?_
  refine i_newa (ty := .int) (cy := G.2 1) (t := 1) (N' := 6) (a0 := (6, .inl (fun _ => 0))) dX0_init_23 rfl (by decide +kernel) rfl (fun _ => rfl) (by decide) (by decide) (by decide) (by decide) (by decide) (fun q3 => ?_)
  refine i_putF (q0 := 0) (j := 2) (ty := .array .int) rfl rfl dX0_init_25 (by decide) tyX0 tyX0_ok nmX0 in_X0_init_X0 fl_X0_init_18 rfl rfl rfl (by decide +kernel) rfl rfl (Nat.le_of_ble_eq_true rfl) ?_
  refine i_ws (ws' := [(h0, .inr (0, [.ref (q1), .ref (q2), .ref (q3), .null, .null, .null, .null, .null, .int 0, .int 0])), (q1, .inl (G.2 1, 6, .inl (fun _ => 0))), (q2, .inl (G.2 1, 16, .inl (fun _ => 0))), (q3, .inl (G.2 1, 6, .inl (fun _ => 0)))]) rfl ?_
  refine i_aload_n dX0_init_28 rfl ?_
  refine i_bipush (x := 64) dX0_init_29 (by decide +kernel) ?_
  refine i_newa (ty := .int) (cy := G.2 1) (t := 1) (N' := 64) (a0 := (64, .inl (fun _ => 0))) dX0_init_31 rfl (by decide +kernel) rfl (fun _ => rfl) (by decide) (by decide) (by decide) (by decide) (by decide) (fun q4 => ?_)
  refine i_putF (q0 := 0) (j := 3) (ty := .array .int) rfl rfl dX0_init_33 (by decide) tyX0 tyX0_ok nmX0 in_X0_init_X0 fl_X0_init_21 rfl rfl rfl (by decide +kernel) rfl rfl (Nat.le_of_ble_eq_true rfl) ?_
  refine i_ws (ws' := [(h0, .inr (0, [.ref (q1), .ref (q2), .ref (q3), .ref (q4), .null, .null, .null, .null, .int 0, .int 0])), (q1, .inl (G.2 1, 6, .inl (fun _ => 0))), (q2, .inl (G.2 1, 16, .inl (fun _ => 0))), (q3, .inl (G.2 1, 6, .inl (fun _ => 0))), (q4, .inl (G.2 1, 64, .inl (fun _ => 0)))]) rfl ?_
  refine i_aload_n dX0_init_36 rfl ?_
  refine i_bipush (x := 64) dX0_init_37 (by decide +kernel) ?_
  refine i_newa (ty := .int) (cy := G.2 1) (t := 1) (N' := 64) (a0 := (64, .inl (fun _ => 0))) dX0_init_39 rfl (by decide +kernel) rfl (fun _ => rfl) (by decide) (by decide) (by decide) (by decide) (by decide) (fun q5 => ?_)
  refine i_putF (q0 := 0) (j := 4) (ty := .array .int) rfl rfl dX0_init_41 (by decide) tyX0 tyX0_ok nmX0 in_X0_init_X0 fl_X0_init_24 rfl rfl rfl (by decide +kernel) rfl rfl (Nat.le_of_ble_eq_true rfl) ?_
  refine i_ws (ws' := [(h0, .inr (0, [.ref (q1), .ref (q2), .ref (q3), .ref (q4), .ref (q5), .null, .null, .null, .int 0, .int 0])), (q1, .inl (G.2 1, 6, .inl (fun _ => 0))), (q2, .inl (G.2 1, 16, .inl (fun _ => 0))), (q3, .inl (G.2 1, 6, .inl (fun _ => 0))), (q4, .inl (G.2 1, 64, .inl (fun _ => 0))), (q5, .inl (G.2 1, 64, .inl (fun _ => 0)))]) rfl ?_
  refine i_aload_n dX0_init_44 rfl ?_
  refine i_bipush (x := 64) dX0_init_45 (by decide +kernel) ?_
  refine i_newa (ty := .int) (cy := G.2 1) (t := 1) (N' := 64) (a0 := (64, .inl (fun _ => 0))) dX0_init_47 rfl (by decide +kernel) rfl (fun _ => rfl) (by decide) (by decide) (by decide) (by decide) (by decide) (fun q6 => ?_)
  refine i_putF (q0 := 0) (j := 5) (ty := .array .int) rfl rfl dX0_init_49 (by decide) tyX0 tyX0_ok nmX0 in_X0_init_X0 fl_X0_init_27 rfl rfl rfl (by decide +kernel) rfl rfl (Nat.le_of_ble_eq_true rfl) ?_
  refine i_ws (ws' := [(h0, .inr (0, [.ref (q1), .ref (q2), .ref (q3), .ref (q4), .ref (q5), .ref (q6), .null, .null, .int 0, .int 0])), (q1, .inl (G.2 1, 6, .inl (fun _ => 0))), (q2, .inl (G.2 1, 16, .inl (fun _ => 0))), (q3, .inl (G.2 1, 6, .inl (fun _ => 0))), (q4, .inl (G.2 1, 64, .inl (fun _ => 0))), (q5, .inl (G.2 1, 64, .inl (fun _ => 0))), (q6, .inl (G.2 1, 64, .inl (fun _ => 0)))]) rfl ?_
  refine i_aload_n dX0_init_52 rfl ?_
  refine i_bipush (x := 64) dX0_init_53 (by decide +kernel) ?_
  refine i_newa (ty := .int) (cy := G.2 1) (t := 1) (N' := 64) (a0 := (64, .inl (fun _ => 0))) dX0_init_55 rfl (by decide +kernel) rfl (fun _ => rfl) (by decide) (by decide) (by decide) (by decide) (by decide) (fun q7 => ?_)
  refine i_putF (q0 := 0) (j := 6) (ty := .array .int) rfl rfl dX0_init_57 (by decide) tyX0 tyX0_ok nmX0 in_X0_init_X0 fl_X0_init_30 rfl rfl rfl (by decide +kernel) rfl rfl (Nat.le_of_ble_eq_true rfl) ?_
  refine i_ws (ws' := [(h0, .inr (0, [.ref (q1), .ref (q2), .ref (q3), .ref (q4), .ref (q5), .ref (q6), .ref (q7), .null, .int 0, .int 0])), (q1, .inl (G.2 1, 6, .inl (fun _ => 0))), (q2, .inl (G.2 1, 16, .inl (fun _ => 0))), (q3, .inl (G.2 1, 6, .inl (fun _ => 0))), (q4, .inl (G.2 1, 64, .inl (fun _ => 0))), (q5, .inl (G.2 1, 64, .inl (fun _ => 0))), (q6, .inl (G.2 1, 64, .inl (fun _ => 0))), (q7, .inl (G.2 1, 64, .inl (fun _ => 0)))]) rfl ?_
  refine i_aload_n dX0_init_60 rfl ?_
  refine i_bipush (x := 6) dX0_init_61 (by decide +kernel) ?_
  refine i_newa (ty := .int) (cy := G.2 1) (t := 1) (N' := 6) (a0 := (6, .inl (fun _ => 0))) dX0_init_63 rfl (by decide +kernel) rfl (fun _ => rfl) (by decide) (by decide) (by decide) (by decide) (by decide) (fun q8 => ?_)
  refine i_putF (q0 := 0) (j := 7) (ty := .array .int) rfl rfl dX0_init_65 (by decide) tyX0 tyX0_ok nmX0 in_X0_init_X0 fl_X0_init_33 rfl rfl rfl (by decide +kernel) rfl rfl (Nat.le_of_ble_eq_true rfl) ?_
  refine i_ws (ws' := [(h0, .inr (0, [.ref (q1), .ref (q2), .ref (q3), .ref (q4), .ref (q5), .ref (q6), .ref (q7), .ref (q8), .int 0, .int 0])), (q1, .inl (G.2 1, 6, .inl (fun _ => 0))), (q2, .inl (G.2 1, 16, .inl (fun _ => 0))), (q3, .inl (G.2 1, 6, .inl (fun _ => 0))), (q4, .inl (G.2 1, 64, .inl (fun _ => 0))), (q5, .inl (G.2 1, 64, .inl (fun _ => 0))), (q6, .inl (G.2 1, 64, .inl (fun _ => 0))), (q7, .inl (G.2 1, 64, .inl (fun _ => 0))), (q8, .inl (G.2 1, 6, .inl (fun _ => 0)))]) rfl ?_
  exact i_ret (fun k => match k with | 10 => h0 | 11 => q1 | 12 => q2 | 13 => q3 | 14 => q4 | 15 => q5 | 16 => q6 | 17 => q7 | 18 => q8 | _ => h0) rfl rfl dX0_init_68 (by decide) (by decide)
set_option maxRecDepth 100000 in
set_option maxHeartbeats 4000000 in
theorem s_X3_init_22 (G : GG) : SpI G M_X3_init (.inr (3, [.null, .null, .null, .null, .null, .null, .null, .null, .int 0, .int 0, .int 0, .int 0])) 22 [22, 23, 24, 25, 26, 27, 28, 29, 30] 8 384 := by
  refine SpI.of rfl (by decide) rfl (by decide) rfl ?_
  intro h0 sz
  refine i_aload_n dX3_init_0 rfl ?_
  refine i_obj dX3_init_1 ⟨by decide +kernel, by decide +kernel, by decide +kernel⟩ ⟨by decide, by decide⟩ ?_
  refine i_aload_n dX3_init_4 rfl ?_
  refine i_bipush (x := 16) dX3_init_5 (by decide +kernel) ?_
  refine i_newa (ty := .int) (cy := G.2 1) (t := 1) (N' := 16) (a0 := (16, .inl (fun _ => 0))) dX3_init_7 rfl (by decide +kernel) rfl (fun _ => rfl) (by decide) (by decide) (by decide) (by decide) (by decide) (fun q1 => ?_)
  refine i_putF (q0 := 0) (j := 0) (ty := .array .int) rfl rfl dX3_init_9 (by decide) tyX3 tyX3_ok nmX3 in_X3_init_X3 fl_X3_init_9 rfl rfl rfl (by decide +kernel) rfl rfl (Nat.le_of_ble_eq_true rfl) ?_
  refine i_ws (ws' := [(h0, .inr (3, [.ref (q1), .null, .null, .null, .null, .null, .null, .null, .int 0, .int 0, .int 0, .int 0])), (q1, .inl (G.2 1, 16, .inl (fun _ => 0)))]) rfl ?_
  refine i_aload_n dX3_init_12 rfl ?_
  refine i_bipush (x := 16) dX3_init_13 (by decide +kernel) ?_
  refine i_newa (ty := .int) (cy := G.2 1) (t := 1) (N' := 16) (a0 := (16, .inl (fun _ => 0))) dX3_init_15 rfl (by decide +kernel) rfl (fun _ => rfl) (by decide) (by decide) (by decide) (by decide) (by decide) (fun q2 => ?_)
  refine i_putF (q0 := 0) (j := 1) (ty := .array .int) rfl rfl dX3_init_17 (by decide) tyX3 tyX3_ok nmX3 in_X3_init_X3 fl_X3_init_15 rfl rfl rfl (by decide +kernel) rfl rfl (Nat.le_of_ble_eq_true rfl) ?_
  refine i_ws (ws' := [(h0, .inr (3, [.ref (q1), .ref (q2), .null, .null, .null, .null, .null, .null, .int 0, .int 0, .int 0, .int 0])), (q1, .inl (G.2 1, 16, .inl (fun _ => 0))), (q2, .inl (G.2 1, 16, .inl (fun _ => 0)))]) rfl ?_
  refine i_aload_n dX3_init_20 rfl ?_
  refine i_bipush (x := 16) dX3_init_21 (by decide +kernel) ?_
  refine i_newa (ty := .int) (cy := G.2 1) (t := 1) (N' := 16) (a0 := (16, .inl (fun _ => 0))) dX3_init_23 rfl (by decide +kernel) rfl (fun _ => rfl) (by decide) (by decide) (by decide) (by decide) (by decide) (fun q3 => ?_)
  refine i_putF (q0 := 0) (j := 2) (ty := .array .int) rfl rfl dX3_init_25 (by decide) tyX3 tyX3_ok nmX3 in_X3_init_X3 fl_X3_init_18 rfl rfl rfl (by decide +kernel) rfl rfl (Nat.le_of_ble_eq_true rfl) ?_
  refine i_ws (ws' := [(h0, .inr (3, [.ref (q1), .ref (q2), .ref (q3), .null, .null, .null, .null, .null, .int 0, .int 0, .int 0, .int 0])), (q1, .inl (G.2 1, 16, .inl (fun _ => 0))), (q2, .inl (G.2 1, 16, .inl (fun _ => 0))), (q3, .inl (G.2 1, 16, .inl (fun _ => 0)))]) rfl ?_
  refine i_aload_n dX3_init_28 rfl ?_
  refine i_bipush (x := 16) dX3_init_29 (by decide +kernel) ?_
  refine i_newa (ty := .int) (cy := G.2 1) (t := 1) (N' := 16) (a0 := (16, .inl (fun _ => 0))) dX3_init_31 rfl (by decide +kernel) rfl (fun _ => rfl) (by decide) (by decide) (by decide) (by decide) (by decide) (fun q4 => ?_)
  refine i_putF (q0 := 0) (j := 3) (ty := .array .int) rfl rfl dX3_init_33 (by decide) tyX3 tyX3_ok nmX3 in_X3_init_X3 fl_X3_init_21 rfl rfl rfl (by decide +kernel) rfl rfl (Nat.le_of_ble_eq_true rfl) ?_
  refine i_ws (ws' := [(h0, .inr (3, [.ref (q1), .ref (q2), .ref (q3), .ref (q4), .null, .null, .null, .null, .int 0, .int 0, .int 0, .int 0])), (q1, .inl (G.2 1, 16, .inl (fun _ => 0))), (q2, .inl (G.2 1, 16, .inl (fun _ => 0))), (q3, .inl (G.2 1, 16, .inl (fun _ => 0))), (q4, .inl (G.2 1, 16, .inl (fun _ => 0)))]) rfl ?_
  refine i_aload_n dX3_init_36 rfl ?_
  refine i_bipush (x := 16) dX3_init_37 (by decide +kernel) ?_
  refine i_newa (ty := .int) (cy := G.2 1) (t := 1) (N' := 16) (a0 := (16, .inl (fun _ => 0))) dX3_init_39 rfl (by decide +kernel) rfl (fun _ => rfl) (by decide) (by decide) (by decide) (by decide) (by decide) (fun q5 => ?_)
  refine i_putF (q0 := 0) (j := 4) (ty := .array .int) rfl rfl dX3_init_41 (by decide) tyX3 tyX3_ok nmX3 in_X3_init_X3 fl_X3_init_24 rfl rfl rfl (by decide +kernel) rfl rfl (Nat.le_of_ble_eq_true rfl) ?_
  refine i_ws (ws' := [(h0, .inr (3, [.ref (q1), .ref (q2), .ref (q3), .ref (q4), .ref (q5), .null, .null, .null, .int 0, .int 0, .int 0, .int 0])), (q1, .inl (G.2 1, 16, .inl (fun _ => 0))), (q2, .inl (G.2 1, 16, .inl (fun _ => 0))), (q3, .inl (G.2 1, 16, .inl (fun _ => 0))), (q4, .inl (G.2 1, 16, .inl (fun _ => 0))), (q5, .inl (G.2 1, 16, .inl (fun _ => 0)))]) rfl ?_
  refine i_aload_n dX3_init_44 rfl ?_
  refine i_sipush (x := 288) dX3_init_45 (by decide +kernel) ?_
  refine i_newa (ty := .int) (cy := G.2 1) (t := 1) (N' := 288) (a0 := (288, .inl (fun _ => 0))) dX3_init_48 rfl (by decide +kernel) rfl (fun _ => rfl) (by decide) (by decide) (by decide) (by decide) (by decide) (fun q6 => ?_)
  refine i_putF (q0 := 0) (j := 5) (ty := .array .int) rfl rfl dX3_init_50 (by decide) tyX3 tyX3_ok nmX3 in_X3_init_X3 fl_X3_init_27 rfl rfl rfl (by decide +kernel) rfl rfl (Nat.le_of_ble_eq_true rfl) ?_
  refine i_ws (ws' := [(h0, .inr (3, [.ref (q1), .ref (q2), .ref (q3), .ref (q4), .ref (q5), .ref (q6), .null, .null, .int 0, .int 0, .int 0, .int 0])), (q1, .inl (G.2 1, 16, .inl (fun _ => 0))), (q2, .inl (G.2 1, 16, .inl (fun _ => 0))), (q3, .inl (G.2 1, 16, .inl (fun _ => 0))), (q4, .inl (G.2 1, 16, .inl (fun _ => 0))), (q5, .inl (G.2 1, 16, .inl (fun _ => 0))), (q6, .inl (G.2 1, 288, .inl (fun _ => 0)))]) rfl ?_
  refine i_aload_n dX3_init_53 rfl ?_
  refine i_bipush (x := 6) dX3_init_54 (by decide +kernel) ?_
  refine i_newa (ty := .int) (cy := G.2 1) (t := 1) (N' := 6) (a0 := (6, .inl (fun _ => 0))) dX3_init_56 rfl (by decide +kernel) rfl (fun _ => rfl) (by decide) (by decide) (by decide) (by decide) (by decide) (fun q7 => ?_)
  refine i_putF (q0 := 0) (j := 6) (ty := .array .int) rfl rfl dX3_init_58 (by decide) tyX3 tyX3_ok nmX3 in_X3_init_X3 fl_X3_init_30 rfl rfl rfl (by decide +kernel) rfl rfl (Nat.le_of_ble_eq_true rfl) ?_
  refine i_ws (ws' := [(h0, .inr (3, [.ref (q1), .ref (q2), .ref (q3), .ref (q4), .ref (q5), .ref (q6), .ref (q7), .null, .int 0, .int 0, .int 0, .int 0])), (q1, .inl (G.2 1, 16, .inl (fun _ => 0))), (q2, .inl (G.2 1, 16, .inl (fun _ => 0))), (q3, .inl (G.2 1, 16, .inl (fun _ => 0))), (q4, .inl (G.2 1, 16, .inl (fun _ => 0))), (q5, .inl (G.2 1, 16, .inl (fun _ => 0))), (q6, .inl (G.2 1, 288, .inl (fun _ => 0))), (q7, .inl (G.2 1, 6, .inl (fun _ => 0)))]) rfl ?_
  refine i_aload_n dX3_init_61 rfl ?_
  refine i_bipush (x := 10) dX3_init_62 (by decide +kernel) ?_
  refine i_newa (ty := .int) (cy := G.2 1) (t := 1) (N' := 10) (a0 := (10, .inl (fun _ => 0))) dX3_init_64 rfl (by decide +kernel) rfl (fun _ => rfl) (by decide) (by decide) (by decide) (by decide) (by decide) (fun q8 => ?_)
  refine i_putF (q0 := 0) (j := 7) (ty := .array .int) rfl rfl dX3_init_66 (by decide) tyX3 tyX3_ok nmX3 in_X3_init_X3 fl_X3_init_33 rfl rfl rfl (by decide +kernel) rfl rfl (Nat.le_of_ble_eq_true rfl) ?_
  refine i_ws (ws' := [(h0, .inr (3, [.ref (q1), .ref (q2), .ref (q3), .ref (q4), .ref (q5), .ref (q6), .ref (q7), .ref (q8), .int 0, .int 0, .int 0, .int 0])), (q1, .inl (G.2 1, 16, .inl (fun _ => 0))), (q2, .inl (G.2 1, 16, .inl (fun _ => 0))), (q3, .inl (G.2 1, 16, .inl (fun _ => 0))), (q4, .inl (G.2 1, 16, .inl (fun _ => 0))), (q5, .inl (G.2 1, 16, .inl (fun _ => 0))), (q6, .inl (G.2 1, 288, .inl (fun _ => 0))), (q7, .inl (G.2 1, 6, .inl (fun _ => 0))), (q8, .inl (G.2 1, 10, .inl (fun _ => 0)))]) rfl ?_
  refine i_aload_n dX3_init_69 rfl ?_
  refine i_bipush (x := 12) dX3_init_70 (by decide +kernel) ?_
  refine i_put (q0 := 0) (j := 11) (ty := .int) rfl rfl dX3_init_72 (by decide) tyX3 tyX3_ok nmX3 in_X3_init_X3 fl_X3_init_36 rfl (by decide +kernel) rfl rfl (Nat.le_of_ble_eq_true rfl) ?_
  refine i_ws (ws' := [(h0, .inr (3, [.ref (q1), .ref (q2), .ref (q3), .ref (q4), .ref (q5), .ref (q6), .ref (q7), .ref (q8), .int 0, .int 0, .int 0, .int 12])), (q1, .inl (G.2 1, 16, .inl (fun _ => 0))), (q2, .inl (G.2 1, 16, .inl (fun _ => 0))), (q3, .inl (G.2 1, 16, .inl (fun _ => 0))), (q4, .inl (G.2 1, 16, .inl (fun _ => 0))), (q5, .inl (G.2 1, 16, .inl (fun _ => 0))), (q6, .inl (G.2 1, 288, .inl (fun _ => 0))), (q7, .inl (G.2 1, 6, .inl (fun _ => 0))), (q8, .inl (G.2 1, 10, .inl (fun _ => 0)))]) rfl ?_
  exact i_ret (fun k => match k with | 22 => h0 | 23 => q1 | 24 => q2 | 25 => q3 | 26 => q4 | 27 => q5 | 28 => q6 | 29 => q7 | 30 => q8 | _ => h0) rfl rfl dX3_init_75 (by decide) (by decide)
set_option maxRecDepth 100000 in
set_option maxHeartbeats 4000000 in
theorem s_X3_init_31 (G : GG) : SpI G M_X3_init (.inr (3, [.null, .null, .null, .null, .null, .null, .null, .null, .int 0, .int 0, .int 0, .int 0])) 31 [31, 32, 33, 34, 35, 36, 37, 38, 39] 8 384 := by
  refine SpI.of rfl (by decide) rfl (by decide) rfl ?_
  intro h0 sz
  refine i_aload_n dX3_init_0 rfl ?_
  refine i_obj dX3_init_1 ⟨by decide +kernel, by decide +kernel, by decide +kernel⟩ ⟨by decide, by decide⟩ ?_
  refine i_aload_n dX3_init_4 rfl ?_
  refine i_bipush (x := 16) dX3_init_5 (by decide +kernel) ?_
  refine i_newa (ty := .int) (cy := G.2 1) (t := 1) (N' := 16) (a0 := (16, .inl (fun _ => 0))) dX3_init_7 rfl (by decide +kernel) rfl (fun _ => rfl) (by decide) (by decide) (by decide) (by decide) (by decide) (fun q1 => ?_)
  refine i_putF (q0 := 0) (j := 0) (ty := .array .int) rfl rfl dX3_init_9 (by decide) tyX3 tyX3_ok nmX3 in_X3_init_X3 fl_X3_init_9 rfl rfl rfl (by decide +kernel) rfl rfl (Nat.le_of_ble_eq_true rfl) ?_
  refine i_ws (ws' := [(h0, .inr (3, [.ref (q1), .null, .null, .null, .null, .null, .null, .null, .int 0, .int 0, .int 0, .int 0])), (q1, .inl (G.2 1, 16, .inl (fun _ => 0)))]) rfl ?_
  refine i_aload_n dX3_init_12 rfl ?_
  refine i_bipush (x := 16) dX3_init_13 (by decide +kernel) ?_
  refine i_newa (ty := .int) (cy := G.2 1) (t := 1) (N' := 16) (a0 := (16, .inl (fun _ => 0))) dX3_init_15 rfl (by decide +kernel) rfl (fun _ => rfl) (by decide) (by decide) (by decide) (by decide) (by decide) (fun q2 => ?_)
  refine i_putF (q0 := 0) (j := 1) (ty := .array .int) rfl rfl dX3_init_17 (by decide) tyX3 tyX3_ok nmX3 in_X3_init_X3 fl_X3_init_15 rfl rfl rfl (by decide +kernel) rfl rfl (Nat.le_of_ble_eq_true rfl) ?_
  refine i_ws (ws' := [(h0, .inr (3, [.ref (q1), .ref (q2), .null, .null, .null, .null, .null, .null, .int 0, .int 0, .int 0, .int 0])), (q1, .inl (G.2 1, 16, .inl (fun _ => 0))), (q2, .inl (G.2 1, 16, .inl (fun _ => 0)))]) rfl ?_
  refine i_aload_n dX3_init_20 rfl ?_
  refine i_bipush (x := 16) dX3_init_21 (by decide +kernel) ?_
  refine i_newa (ty := .int) (cy := G.2 1) (t := 1) (N' := 16) (a0 := (16, .inl (fun _ => 0))) dX3_init_23 rfl (by decide +kernel) rfl (fun _ => rfl) (by decide) (by decide) (by decide) (by decide) (by decide) (fun q3 => ?_)
  refine i_putF (q0 := 0) (j := 2) (ty := .array .int) rfl rfl dX3_init_25 (by decide) tyX3 tyX3_ok nmX3 in_X3_init_X3 fl_X3_init_18 rfl rfl rfl (by decide +kernel) rfl rfl (Nat.le_of_ble_eq_true rfl) ?_
  refine i_ws (ws' := [(h0, .inr (3, [.ref (q1), .ref (q2), .ref (q3), .null, .null, .null, .null, .null, .int 0, .int 0, .int 0, .int 0])), (q1, .inl (G.2 1, 16, .inl (fun _ => 0))), (q2, .inl (G.2 1, 16, .inl (fun _ => 0))), (q3, .inl (G.2 1, 16, .inl (fun _ => 0)))]) rfl ?_
  refine i_aload_n dX3_init_28 rfl ?_
  refine i_bipush (x := 16) dX3_init_29 (by decide +kernel) ?_
  refine i_newa (ty := .int) (cy := G.2 1) (t := 1) (N' := 16) (a0 := (16, .inl (fun _ => 0))) dX3_init_31 rfl (by decide +kernel) rfl (fun _ => rfl) (by decide) (by decide) (by decide) (by decide) (by decide) (fun q4 => ?_)
  refine i_putF (q0 := 0) (j := 3) (ty := .array .int) rfl rfl dX3_init_33 (by decide) tyX3 tyX3_ok nmX3 in_X3_init_X3 fl_X3_init_21 rfl rfl rfl (by decide +kernel) rfl rfl (Nat.le_of_ble_eq_true rfl) ?_
  refine i_ws (ws' := [(h0, .inr (3, [.ref (q1), .ref (q2), .ref (q3), .ref (q4), .null, .null, .null, .null, .int 0, .int 0, .int 0, .int 0])), (q1, .inl (G.2 1, 16, .inl (fun _ => 0))), (q2, .inl (G.2 1, 16, .inl (fun _ => 0))), (q3, .inl (G.2 1, 16, .inl (fun _ => 0))), (q4, .inl (G.2 1, 16, .inl (fun _ => 0)))]) rfl ?_
  refine i_aload_n dX3_init_36 rfl ?_
  refine i_bipush (x := 16) dX3_init_37 (by decide +kernel) ?_
  refine i_newa (ty := .int) (cy := G.2 1) (t := 1) (N' := 16) (a0 := (16, .inl (fun _ => 0))) dX3_init_39 rfl (by decide +kernel) rfl (fun _ => rfl) (by decide) (by decide) (by decide) (by decide) (by decide) (fun q5 => ?_)
  refine i_putF (q0 := 0) (j := 4) (ty := .array .int) rfl rfl dX3_init_41 (by decide) tyX3 tyX3_ok nmX3 in_X3_init_X3 fl_X3_init_24 rfl rfl rfl (by decide +kernel) rfl rfl (Nat.le_of_ble_eq_true rfl) ?_
  refine i_ws (ws' := [(h0, .inr (3, [.ref (q1), .ref (q2), .ref (q3), .ref (q4), .ref (q5), .null, .null, .null, .int 0, .int 0, .int 0, .int 0])), (q1, .inl (G.2 1, 16, .inl (fun _ => 0))), (q2, .inl (G.2 1, 16, .inl (fun _ => 0))), (q3, .inl (G.2 1, 16, .inl (fun _ => 0))), (q4, .inl (G.2 1, 16, .inl (fun _ => 0))), (q5, .inl (G.2 1, 16, .inl (fun _ => 0)))]) rfl ?_
  refine i_aload_n dX3_init_44 rfl ?_
  refine i_sipush (x := 288) dX3_init_45 (by decide +kernel) ?_
  refine i_newa (ty := .int) (cy := G.2 1) (t := 1) (N' := 288) (a0 := (288, .inl (fun _ => 0))) dX3_init_48 rfl (by decide +kernel) rfl (fun _ => rfl) (by decide) (by decide) (by decide) (by decide) (by decide) (fun q6 => ?_)
  refine i_putF (q0 := 0) (j := 5) (ty := .array .int) rfl rfl dX3_init_50 (by decide) tyX3 tyX3_ok nmX3 in_X3_init_X3 fl_X3_init_27 rfl rfl rfl (by decide +kernel) rfl rfl (Nat.le_of_ble_eq_true rfl) ?_
  refine i_ws (ws' := [(h0, .inr (3, [.ref (q1), .ref (q2), .ref (q3), .ref (q4), .ref (q5), .ref (q6), .null, .null, .int 0, .int 0, .int 0, .int 0])), (q1, .inl (G.2 1, 16, .inl (fun _ => 0))), (q2, .inl (G.2 1, 16, .inl (fun _ => 0))), (q3, .inl (G.2 1, 16, .inl (fun _ => 0))), (q4, .inl (G.2 1, 16, .inl (fun _ => 0))), (q5, .inl (G.2 1, 16, .inl (fun _ => 0))), (q6, .inl (G.2 1, 288, .inl (fun _ => 0)))]) rfl ?_
  refine i_aload_n dX3_init_53 rfl ?_
  refine i_bipush (x := 6) dX3_init_54 (by decide +kernel) ?_
  refine i_newa (ty := .int) (cy := G.2 1) (t := 1) (N' := 6) (a0 := (6, .inl (fun _ => 0))) dX3_init_56 rfl (by decide +kernel) rfl (fun _ => rfl) (by decide) (by decide) (by decide) (by decide) (by decide) (fun q7 => ?_)
  refine i_putF (q0 := 0) (j := 6) (ty := .array .int) rfl rfl dX3_init_58 (by decide) tyX3 tyX3_ok nmX3 in_X3_init_X3 fl_X3_init_30 rfl rfl rfl (by decide +kernel) rfl rfl (Nat.le_of_ble_eq_true rfl) ?_
  refine i_ws (ws' := [(h0, .inr (3, [.ref (q1), .ref (q2), .ref (q3), .ref (q4), .ref (q5), .ref (q6), .ref (q7), .null, .int 0, .int 0, .int 0, .int 0])), (q1, .inl (G.2 1, 16, .inl (fun _ => 0))), (q2, .inl (G.2 1, 16, .inl (fun _ => 0))), (q3, .inl (G.2 1, 16, .inl (fun _ => 0))), (q4, .inl (G.2 1, 16, .inl (fun _ => 0))), (q5, .inl (G.2 1, 16, .inl (fun _ => 0))), (q6, .inl (G.2 1, 288, .inl (fun _ => 0))), (q7, .inl (G.2 1, 6, .inl (fun _ => 0)))]) rfl ?_
  refine i_aload_n dX3_init_61 rfl ?_
  refine i_bipush (x := 10) dX3_init_62 (by decide +kernel) ?_
  refine i_newa (ty := .int) (cy := G.2 1) (t := 1) (N' := 10) (a0 := (10, .inl (fun _ => 0))) dX3_init_64 rfl (by decide +kernel) rfl (fun _ => rfl) (by decide) (by decide) (by decide) (by decide) (by decide) (fun q8 => ?_)
  refine i_putF (q0 := 0) (j := 7) (ty := .array .int) rfl rfl dX3_init_66 (by decide) tyX3 tyX3_ok nmX3 in_X3_init_X3 fl_X3_init_33 rfl rfl rfl (by decide +kernel) rfl rfl (Nat.le_of_ble_eq_true rfl) ?_
  refine i_ws (ws' := [(h0, .inr (3, [.ref (q1), .ref (q2), .ref (q3), .ref (q4), .ref (q5), .ref (q6), .ref (q7), .ref (q8), .int 0, .int 0, .int 0, .int 0])), (q1, .inl (G.2 1, 16, .inl (fun _ => 0))), (q2, .inl (G.2 1, 16, .inl (fun _ => 0))), (q3, .inl (G.2 1, 16, .inl (fun _ => 0))), (q4, .inl (G.2 1, 16, .inl (fun _ => 0))), (q5, .inl (G.2 1, 16, .inl (fun _ => 0))), (q6, .inl (G.2 1, 288, .inl (fun _ => 0))), (q7, .inl (G.2 1, 6, .inl (fun _ => 0))), (q8, .inl (G.2 1, 10, .inl (fun _ => 0)))]) rfl ?_
  refine i_aload_n dX3_init_69 rfl ?_
  refine i_bipush (x := 12) dX3_init_70 (by decide +kernel) ?_
  refine i_put (q0 := 0) (j := 11) (ty := .int) rfl rfl dX3_init_72 (by decide) tyX3 tyX3_ok nmX3 in_X3_init_X3 fl_X3_init_36 rfl (by decide +kernel) rfl rfl (Nat.le_of_ble_eq_true rfl) ?_
  refine i_ws (ws' := [(h0, .inr (3, [.ref (q1), .ref (q2), .ref (q3), .ref (q4), .ref (q5), .ref (q6), .ref (q7), .ref (q8), .int 0, .int 0, .int 0, .int 12])), (q1, .inl (G.2 1, 16, .inl (fun _ => 0))), (q2, .inl (G.2 1, 16, .inl (fun _ => 0))), (q3, .inl (G.2 1, 16, .inl (fun _ => 0))), (q4, .inl (G.2 1, 16, .inl (fun _ => 0))), (q5, .inl (G.2 1, 16, .inl (fun _ => 0))), (q6, .inl (G.2 1, 288, .inl (fun _ => 0))), (q7, .inl (G.2 1, 6, .inl (fun _ => 0))), (q8, .inl (G.2 1, 10, .inl (fun _ => 0)))]) rfl ?_
  exact i_ret (fun k => match k with | 31 => h0 | 32 => q1 | 33 => q2 | 34 => q3 | 35 => q4 | 36 => q5 | 37 => q6 | 38 => q7 | 39 => q8 | _ => h0) rfl rfl dX3_init_75 (by decide) (by decide)
