theorem nn_X4_again : (mY M_X4_again).cls = mOwn M_X4_again ∧ (mY M_X4_again).cls ≠ "java/lang/invoke/MethodHandle" ∧ (mY M_X4_again).cls ≠ "java/lang/invoke/VarHandle" ∧ (parseMethodDescriptor (mY M_X4_again).desc).map (fun d => d.parameters.length) = some 0 := by decide +kernel
theorem nn_X4_alike : (mY M_X4_alike).cls = mOwn M_X4_alike ∧ (mY M_X4_alike).cls ≠ "java/lang/invoke/MethodHandle" ∧ (mY M_X4_alike).cls ≠ "java/lang/invoke/VarHandle" ∧ (parseMethodDescriptor (mY M_X4_alike).desc).map (fun d => d.parameters.length) = some 2 := by decide +kernel
theorem nn_X4_asks : (mY M_X4_asks).cls = mOwn M_X4_asks ∧ (mY M_X4_asks).cls ≠ "java/lang/invoke/MethodHandle" ∧ (mY M_X4_asks).cls ≠ "java/lang/invoke/VarHandle" ∧ (parseMethodDescriptor (mY M_X4_asks).desc).map (fun d => d.parameters.length) = some 2 := by decide +kernel
theorem nn_X4_back : (mY M_X4_back).cls = mOwn M_X4_back ∧ (mY M_X4_back).cls ≠ "java/lang/invoke/MethodHandle" ∧ (mY M_X4_back).cls ≠ "java/lang/invoke/VarHandle" ∧ (parseMethodDescriptor (mY M_X4_back).desc).map (fun d => d.parameters.length) = some 0 := by decide +kernel
theorem nn_X4_best : (mY M_X4_best).cls = mOwn M_X4_best ∧ (mY M_X4_best).cls ≠ "java/lang/invoke/MethodHandle" ∧ (mY M_X4_best).cls ≠ "java/lang/invoke/VarHandle" ∧ (parseMethodDescriptor (mY M_X4_best).desc).map (fun d => d.parameters.length) = some 1 := by decide +kernel
theorem nn_X4_chance : (mY M_X4_chance).cls = mOwn M_X4_chance ∧ (mY M_X4_chance).cls ≠ "java/lang/invoke/MethodHandle" ∧ (mY M_X4_chance).cls ≠ "java/lang/invoke/VarHandle" ∧ (parseMethodDescriptor (mY M_X4_chance).desc).map (fun d => d.parameters.length) = some 3 := by decide +kernel
theorem nn_X4_count : (mY M_X4_count).cls = mOwn M_X4_count ∧ (mY M_X4_count).cls ≠ "java/lang/invoke/MethodHandle" ∧ (mY M_X4_count).cls ≠ "java/lang/invoke/VarHandle" ∧ (parseMethodDescriptor (mY M_X4_count).desc).map (fun d => d.parameters.length) = some 1 := by decide +kernel
theorem nn_X4_fault : (mY M_X4_fault).cls = mOwn M_X4_fault ∧ (mY M_X4_fault).cls ≠ "java/lang/invoke/MethodHandle" ∧ (mY M_X4_fault).cls ≠ "java/lang/invoke/VarHandle" ∧ (parseMethodDescriptor (mY M_X4_fault).desc).map (fun d => d.parameters.length) = some 0 := by decide +kernel
theorem nn_X4_found : (mY M_X4_found).cls = mOwn M_X4_found ∧ (mY M_X4_found).cls ≠ "java/lang/invoke/MethodHandle" ∧ (mY M_X4_found).cls ≠ "java/lang/invoke/VarHandle" ∧ (parseMethodDescriptor (mY M_X4_found).desc).map (fun d => d.parameters.length) = some 6 := by decide +kernel
theorem nn_X4_grown : (mY M_X4_grown).cls = mOwn M_X4_grown ∧ (mY M_X4_grown).cls ≠ "java/lang/invoke/MethodHandle" ∧ (mY M_X4_grown).cls ≠ "java/lang/invoke/VarHandle" ∧ (parseMethodDescriptor (mY M_X4_grown).desc).map (fun d => d.parameters.length) = some 1 := by decide +kernel
theorem nn_X4_in : (mY M_X4_in).cls = mOwn M_X4_in ∧ (mY M_X4_in).cls ≠ "java/lang/invoke/MethodHandle" ∧ (mY M_X4_in).cls ≠ "java/lang/invoke/VarHandle" ∧ (parseMethodDescriptor (mY M_X4_in).desc).map (fun d => d.parameters.length) = some 2 := by decide +kernel
theorem nn_X4_keep : (mY M_X4_keep).cls = mOwn M_X4_keep ∧ (mY M_X4_keep).cls ≠ "java/lang/invoke/MethodHandle" ∧ (mY M_X4_keep).cls ≠ "java/lang/invoke/VarHandle" ∧ (parseMethodDescriptor (mY M_X4_keep).desc).map (fun d => d.parameters.length) = some 0 := by decide +kernel
theorem nn_X4_lay : (mY M_X4_lay).cls = mOwn M_X4_lay ∧ (mY M_X4_lay).cls ≠ "java/lang/invoke/MethodHandle" ∧ (mY M_X4_lay).cls ≠ "java/lang/invoke/VarHandle" ∧ (parseMethodDescriptor (mY M_X4_lay).desc).map (fun d => d.parameters.length) = some 0 := by decide +kernel
theorem nn_X4_may : (mY M_X4_may).cls = mOwn M_X4_may ∧ (mY M_X4_may).cls ≠ "java/lang/invoke/MethodHandle" ∧ (mY M_X4_may).cls ≠ "java/lang/invoke/VarHandle" ∧ (parseMethodDescriptor (mY M_X4_may).desc).map (fun d => d.parameters.length) = some 2 := by decide +kernel
theorem nn_X4_men : (mY M_X4_men).cls = mOwn M_X4_men ∧ (mY M_X4_men).cls ≠ "java/lang/invoke/MethodHandle" ∧ (mY M_X4_men).cls ≠ "java/lang/invoke/VarHandle" ∧ (parseMethodDescriptor (mY M_X4_men).desc).map (fun d => d.parameters.length) = some 2 := by decide +kernel
theorem nn_X4_named : (mY M_X4_named).cls = mOwn M_X4_named ∧ (mY M_X4_named).cls ≠ "java/lang/invoke/MethodHandle" ∧ (mY M_X4_named).cls ≠ "java/lang/invoke/VarHandle" ∧ (parseMethodDescriptor (mY M_X4_named).desc).map (fun d => d.parameters.length) = some 1 := by decide +kernel
theorem nn_X4_next : (mY M_X4_next).cls = mOwn M_X4_next ∧ (mY M_X4_next).cls ≠ "java/lang/invoke/MethodHandle" ∧ (mY M_X4_next).cls ≠ "java/lang/invoke/VarHandle" ∧ (parseMethodDescriptor (mY M_X4_next).desc).map (fun d => d.parameters.length) = some 0 := by decide +kernel
theorem nn_X4_odds : (mY M_X4_odds).cls = mOwn M_X4_odds ∧ (mY M_X4_odds).cls ≠ "java/lang/invoke/MethodHandle" ∧ (mY M_X4_odds).cls ≠ "java/lang/invoke/VarHandle" ∧ (parseMethodDescriptor (mY M_X4_odds).desc).map (fun d => d.parameters.length) = some 3 := by decide +kernel
theorem nn_X4_partings : (mY M_X4_partings).cls = mOwn M_X4_partings ∧ (mY M_X4_partings).cls ≠ "java/lang/invoke/MethodHandle" ∧ (mY M_X4_partings).cls ≠ "java/lang/invoke/VarHandle" ∧ (parseMethodDescriptor (mY M_X4_partings).desc).map (fun d => d.parameters.length) = some 0 := by decide +kernel
theorem nn_X4_pause : (mY M_X4_pause).cls = mOwn M_X4_pause ∧ (mY M_X4_pause).cls ≠ "java/lang/invoke/MethodHandle" ∧ (mY M_X4_pause).cls ≠ "java/lang/invoke/VarHandle" ∧ (parseMethodDescriptor (mY M_X4_pause).desc).map (fun d => d.parameters.length) = some 0 := by decide +kernel
theorem nn_X4_read : (mY M_X4_read).cls = mOwn M_X4_read ∧ (mY M_X4_read).cls ≠ "java/lang/invoke/MethodHandle" ∧ (mY M_X4_read).cls ≠ "java/lang/invoke/VarHandle" ∧ (parseMethodDescriptor (mY M_X4_read).desc).map (fun d => d.parameters.length) = some 2 := by decide +kernel
theorem nn_X4_seam : (mY M_X4_seam).cls = mOwn M_X4_seam ∧ (mY M_X4_seam).cls ≠ "java/lang/invoke/MethodHandle" ∧ (mY M_X4_seam).cls ≠ "java/lang/invoke/VarHandle" ∧ (parseMethodDescriptor (mY M_X4_seam).desc).map (fun d => d.parameters.length) = some 2 := by decide +kernel
theorem nn_X4_sign : (mY M_X4_sign).cls = mOwn M_X4_sign ∧ (mY M_X4_sign).cls ≠ "java/lang/invoke/MethodHandle" ∧ (mY M_X4_sign).cls ≠ "java/lang/invoke/VarHandle" ∧ (parseMethodDescriptor (mY M_X4_sign).desc).map (fun d => d.parameters.length) = some 2 := by decide +kernel
theorem nn_X4_stones : (mY M_X4_stones).cls = mOwn M_X4_stones ∧ (mY M_X4_stones).cls ≠ "java/lang/invoke/MethodHandle" ∧ (mY M_X4_stones).cls ≠ "java/lang/invoke/VarHandle" ∧ (parseMethodDescriptor (mY M_X4_stones).desc).map (fun d => d.parameters.length) = some 2 := by decide +kernel
theorem nn_X4_sure : (mY M_X4_sure).cls = mOwn M_X4_sure ∧ (mY M_X4_sure).cls ≠ "java/lang/invoke/MethodHandle" ∧ (mY M_X4_sure).cls ≠ "java/lang/invoke/VarHandle" ∧ (parseMethodDescriptor (mY M_X4_sure).desc).map (fun d => d.parameters.length) = some 2 := by decide +kernel
theorem nn_X4_wipe : (mY M_X4_wipe).cls = mOwn M_X4_wipe ∧ (mY M_X4_wipe).cls ≠ "java/lang/invoke/MethodHandle" ∧ (mY M_X4_wipe).cls ≠ "java/lang/invoke/VarHandle" ∧ (parseMethodDescriptor (mY M_X4_wipe).desc).map (fun d => d.parameters.length) = some 0 := by decide +kernel
theorem nn_X4_write : (mY M_X4_write).cls = mOwn M_X4_write ∧ (mY M_X4_write).cls ≠ "java/lang/invoke/MethodHandle" ∧ (mY M_X4_write).cls ≠ "java/lang/invoke/VarHandle" ∧ (parseMethodDescriptor (mY M_X4_write).desc).map (fun d => d.parameters.length) = some 2 := by decide +kernel
theorem nn_X5_again : (mY M_X5_again).cls = mOwn M_X5_again ∧ (mY M_X5_again).cls ≠ "java/lang/invoke/MethodHandle" ∧ (mY M_X5_again).cls ≠ "java/lang/invoke/VarHandle" ∧ (parseMethodDescriptor (mY M_X5_again).desc).map (fun d => d.parameters.length) = some 0 := by decide +kernel
theorem nn_X5_alike : (mY M_X5_alike).cls = mOwn M_X5_alike ∧ (mY M_X5_alike).cls ≠ "java/lang/invoke/MethodHandle" ∧ (mY M_X5_alike).cls ≠ "java/lang/invoke/VarHandle" ∧ (parseMethodDescriptor (mY M_X5_alike).desc).map (fun d => d.parameters.length) = some 2 := by decide +kernel
theorem nn_X5_asks : (mY M_X5_asks).cls = mOwn M_X5_asks ∧ (mY M_X5_asks).cls ≠ "java/lang/invoke/MethodHandle" ∧ (mY M_X5_asks).cls ≠ "java/lang/invoke/VarHandle" ∧ (parseMethodDescriptor (mY M_X5_asks).desc).map (fun d => d.parameters.length) = some 2 := by decide +kernel
theorem nn_X5_back : (mY M_X5_back).cls = mOwn M_X5_back ∧ (mY M_X5_back).cls ≠ "java/lang/invoke/MethodHandle" ∧ (mY M_X5_back).cls ≠ "java/lang/invoke/VarHandle" ∧ (parseMethodDescriptor (mY M_X5_back).desc).map (fun d => d.parameters.length) = some 0 := by decide +kernel
theorem nn_X5_best : (mY M_X5_best).cls = mOwn M_X5_best ∧ (mY M_X5_best).cls ≠ "java/lang/invoke/MethodHandle" ∧ (mY M_X5_best).cls ≠ "java/lang/invoke/VarHandle" ∧ (parseMethodDescriptor (mY M_X5_best).desc).map (fun d => d.parameters.length) = some 1 := by decide +kernel
theorem nn_X5_chance : (mY M_X5_chance).cls = mOwn M_X5_chance ∧ (mY M_X5_chance).cls ≠ "java/lang/invoke/MethodHandle" ∧ (mY M_X5_chance).cls ≠ "java/lang/invoke/VarHandle" ∧ (parseMethodDescriptor (mY M_X5_chance).desc).map (fun d => d.parameters.length) = some 3 := by decide +kernel
theorem nn_X5_count : (mY M_X5_count).cls = mOwn M_X5_count ∧ (mY M_X5_count).cls ≠ "java/lang/invoke/MethodHandle" ∧ (mY M_X5_count).cls ≠ "java/lang/invoke/VarHandle" ∧ (parseMethodDescriptor (mY M_X5_count).desc).map (fun d => d.parameters.length) = some 1 := by decide +kernel
theorem nn_X5_found : (mY M_X5_found).cls = mOwn M_X5_found ∧ (mY M_X5_found).cls ≠ "java/lang/invoke/MethodHandle" ∧ (mY M_X5_found).cls ≠ "java/lang/invoke/VarHandle" ∧ (parseMethodDescriptor (mY M_X5_found).desc).map (fun d => d.parameters.length) = some 6 := by decide +kernel
theorem nn_X5_grown : (mY M_X5_grown).cls = mOwn M_X5_grown ∧ (mY M_X5_grown).cls ≠ "java/lang/invoke/MethodHandle" ∧ (mY M_X5_grown).cls ≠ "java/lang/invoke/VarHandle" ∧ (parseMethodDescriptor (mY M_X5_grown).desc).map (fun d => d.parameters.length) = some 1 := by decide +kernel
theorem nn_X5_in : (mY M_X5_in).cls = mOwn M_X5_in ∧ (mY M_X5_in).cls ≠ "java/lang/invoke/MethodHandle" ∧ (mY M_X5_in).cls ≠ "java/lang/invoke/VarHandle" ∧ (parseMethodDescriptor (mY M_X5_in).desc).map (fun d => d.parameters.length) = some 2 := by decide +kernel
theorem nn_X5_keep : (mY M_X5_keep).cls = mOwn M_X5_keep ∧ (mY M_X5_keep).cls ≠ "java/lang/invoke/MethodHandle" ∧ (mY M_X5_keep).cls ≠ "java/lang/invoke/VarHandle" ∧ (parseMethodDescriptor (mY M_X5_keep).desc).map (fun d => d.parameters.length) = some 0 := by decide +kernel
theorem nn_X5_lay : (mY M_X5_lay).cls = mOwn M_X5_lay ∧ (mY M_X5_lay).cls ≠ "java/lang/invoke/MethodHandle" ∧ (mY M_X5_lay).cls ≠ "java/lang/invoke/VarHandle" ∧ (parseMethodDescriptor (mY M_X5_lay).desc).map (fun d => d.parameters.length) = some 0 := by decide +kernel
theorem nn_X5_may : (mY M_X5_may).cls = mOwn M_X5_may ∧ (mY M_X5_may).cls ≠ "java/lang/invoke/MethodHandle" ∧ (mY M_X5_may).cls ≠ "java/lang/invoke/VarHandle" ∧ (parseMethodDescriptor (mY M_X5_may).desc).map (fun d => d.parameters.length) = some 2 := by decide +kernel
theorem nn_X5_men : (mY M_X5_men).cls = mOwn M_X5_men ∧ (mY M_X5_men).cls ≠ "java/lang/invoke/MethodHandle" ∧ (mY M_X5_men).cls ≠ "java/lang/invoke/VarHandle" ∧ (parseMethodDescriptor (mY M_X5_men).desc).map (fun d => d.parameters.length) = some 2 := by decide +kernel
theorem nn_X5_named : (mY M_X5_named).cls = mOwn M_X5_named ∧ (mY M_X5_named).cls ≠ "java/lang/invoke/MethodHandle" ∧ (mY M_X5_named).cls ≠ "java/lang/invoke/VarHandle" ∧ (parseMethodDescriptor (mY M_X5_named).desc).map (fun d => d.parameters.length) = some 1 := by decide +kernel
theorem nn_X5_next : (mY M_X5_next).cls = mOwn M_X5_next ∧ (mY M_X5_next).cls ≠ "java/lang/invoke/MethodHandle" ∧ (mY M_X5_next).cls ≠ "java/lang/invoke/VarHandle" ∧ (parseMethodDescriptor (mY M_X5_next).desc).map (fun d => d.parameters.length) = some 0 := by decide +kernel
theorem nn_X5_odds : (mY M_X5_odds).cls = mOwn M_X5_odds ∧ (mY M_X5_odds).cls ≠ "java/lang/invoke/MethodHandle" ∧ (mY M_X5_odds).cls ≠ "java/lang/invoke/VarHandle" ∧ (parseMethodDescriptor (mY M_X5_odds).desc).map (fun d => d.parameters.length) = some 3 := by decide +kernel
theorem nn_X5_partings : (mY M_X5_partings).cls = mOwn M_X5_partings ∧ (mY M_X5_partings).cls ≠ "java/lang/invoke/MethodHandle" ∧ (mY M_X5_partings).cls ≠ "java/lang/invoke/VarHandle" ∧ (parseMethodDescriptor (mY M_X5_partings).desc).map (fun d => d.parameters.length) = some 0 := by decide +kernel
theorem nn_X5_pause : (mY M_X5_pause).cls = mOwn M_X5_pause ∧ (mY M_X5_pause).cls ≠ "java/lang/invoke/MethodHandle" ∧ (mY M_X5_pause).cls ≠ "java/lang/invoke/VarHandle" ∧ (parseMethodDescriptor (mY M_X5_pause).desc).map (fun d => d.parameters.length) = some 0 := by decide +kernel
theorem nn_X5_read : (mY M_X5_read).cls = mOwn M_X5_read ∧ (mY M_X5_read).cls ≠ "java/lang/invoke/MethodHandle" ∧ (mY M_X5_read).cls ≠ "java/lang/invoke/VarHandle" ∧ (parseMethodDescriptor (mY M_X5_read).desc).map (fun d => d.parameters.length) = some 2 := by decide +kernel
theorem nn_X5_seam : (mY M_X5_seam).cls = mOwn M_X5_seam ∧ (mY M_X5_seam).cls ≠ "java/lang/invoke/MethodHandle" ∧ (mY M_X5_seam).cls ≠ "java/lang/invoke/VarHandle" ∧ (parseMethodDescriptor (mY M_X5_seam).desc).map (fun d => d.parameters.length) = some 2 := by decide +kernel
theorem nn_X5_sign : (mY M_X5_sign).cls = mOwn M_X5_sign ∧ (mY M_X5_sign).cls ≠ "java/lang/invoke/MethodHandle" ∧ (mY M_X5_sign).cls ≠ "java/lang/invoke/VarHandle" ∧ (parseMethodDescriptor (mY M_X5_sign).desc).map (fun d => d.parameters.length) = some 2 := by decide +kernel
theorem nn_X5_stones : (mY M_X5_stones).cls = mOwn M_X5_stones ∧ (mY M_X5_stones).cls ≠ "java/lang/invoke/MethodHandle" ∧ (mY M_X5_stones).cls ≠ "java/lang/invoke/VarHandle" ∧ (parseMethodDescriptor (mY M_X5_stones).desc).map (fun d => d.parameters.length) = some 2 := by decide +kernel
theorem nn_X5_sure : (mY M_X5_sure).cls = mOwn M_X5_sure ∧ (mY M_X5_sure).cls ≠ "java/lang/invoke/MethodHandle" ∧ (mY M_X5_sure).cls ≠ "java/lang/invoke/VarHandle" ∧ (parseMethodDescriptor (mY M_X5_sure).desc).map (fun d => d.parameters.length) = some 2 := by decide +kernel
theorem nn_X5_wipe : (mY M_X5_wipe).cls = mOwn M_X5_wipe ∧ (mY M_X5_wipe).cls ≠ "java/lang/invoke/MethodHandle" ∧ (mY M_X5_wipe).cls ≠ "java/lang/invoke/VarHandle" ∧ (parseMethodDescriptor (mY M_X5_wipe).desc).map (fun d => d.parameters.length) = some 0 := by decide +kernel
theorem nn_X5_write : (mY M_X5_write).cls = mOwn M_X5_write ∧ (mY M_X5_write).cls ≠ "java/lang/invoke/MethodHandle" ∧ (mY M_X5_write).cls ≠ "java/lang/invoke/VarHandle" ∧ (parseMethodDescriptor (mY M_X5_write).desc).map (fun d => d.parameters.length) = some 2 := by decide +kernel
set_option maxRecDepth 100000 in
set_option maxHeartbeats 4000000 in
theorem law_0 {v : EE} {b N t : Nat} {xs : Nat → Int32} {τ : SS} (hL : N ≤ 448) (ht : 7 * t + 7 ≤ N) (hI : LI t τ) (hn : ∀ τ' : SS, LI (t + 1) τ' → V v M_L_law (zL b N xs) 922 [(0, .ref b), (1, .ref (v.1 0)), (2, .ref (v.1 40)), (3, .int (nI (7 * t)))] [] τ') : V v M_L_law (zL b N xs) 156 [(0, .ref b), (1, .ref (v.1 0)), (2, .ref (v.1 40)), (3, .int (nI (7 * t)))] [] τ := by
  obtain ⟨s, hr, hm, hp⟩ := hI
  have hv := hp.2.1
  have hz : 50000 + t ≤ 1000000 := by omega
  have hb9 : wS (aW s) ≤ 16 ∧ wC (aW s) ≤ 16 ∧ wN (aW s) ≤ 10 := ⟨hv.1.1, hv.1.2.1, hv.1.2.2.1⟩
  refine v_aload_n dL_law_156 rfl ?_
  refine v_aload_n dL_law_157 rfl ?_
  refine v_iload_n dL_law_158 rfl ?_
  refine v_iconst (x := nI 1) dL_law_159 (by decide +kernel) ?_
  refine n_iadd dL_law_160 ?_
  refine v_scr dL_law_161 hL (by omega) ?_
  refine v_aload_n dL_law_162 rfl ?_
  refine v_iload_n dL_law_163 rfl ?_
  refine v_iconst (x := nI 2) dL_law_164 (by decide +kernel) ?_
  refine n_iadd dL_law_165 ?_
  refine v_scr dL_law_166 hL (by omega) ?_
  refine v_i2l dL_law_167 ?_
  refine v_bipush (x := nI 32) dL_law_168 (by decide +kernel) ?_
  refine v_lshl dL_law_170 rfl ?_
  refine v_aload_n dL_law_171 rfl ?_
  refine v_iload_n dL_law_172 rfl ?_
  refine v_iconst (x := nI 3) dL_law_173 (by decide +kernel) ?_
  refine n_iadd dL_law_174 ?_
  refine v_scr dL_law_175 hL (by omega) ?_
  refine v_i2l dL_law_176 ?_
  refine v_ldc2 (x := (4294967295)) (by decide +kernel) dL_law_177 ?_
  refine v_land dL_law_180 ?_
  refine v_lor dL_law_181 ?_
  refine v_callVRi (M' := M_X4_write) (As := [_, _]) iO0 (s_X4_write hr _ _) dL_law_182 gL_law_X4_write rfl rfl nn_X4_write ⟨rfl, rfl⟩ ⟨by decide, by decide⟩ rfl rfl (Nat.le_of_ble_eq_true rfl) (fun σ1 h1 => ?_)
  have hm1 := h1.2.rm hm
  refine v_aload_n dL_law_185 rfl ?_
  refine v_aload_n dL_law_186 rfl ?_
  refine v_iload_n dL_law_187 rfl ?_
  refine v_iconst (x := nI 1) dL_law_188 (by decide +kernel) ?_
  refine n_iadd dL_law_189 ?_
  refine v_scr dL_law_190 hL (by omega) ?_
  refine v_aload_n dL_law_191 rfl ?_
  refine v_iload_n dL_law_192 rfl ?_
  refine v_iconst (x := nI 2) dL_law_193 (by decide +kernel) ?_
  refine n_iadd dL_law_194 ?_
  refine v_scr dL_law_195 hL (by omega) ?_
  refine v_i2l dL_law_196 ?_
  refine v_bipush (x := nI 32) dL_law_197 (by decide +kernel) ?_
  refine v_lshl dL_law_199 rfl ?_
  refine v_aload_n dL_law_200 rfl ?_
  refine v_iload_n dL_law_201 rfl ?_
  refine v_iconst (x := nI 3) dL_law_202 (by decide +kernel) ?_
  refine n_iadd dL_law_203 ?_
  refine v_scr dL_law_204 hL (by omega) ?_
  refine v_i2l dL_law_205 ?_
  refine v_ldc2 (x := (4294967295)) (by decide +kernel) dL_law_206 ?_
  refine v_land dL_law_209 ?_
  refine v_lor dL_law_210 ?_
  refine v_callVRi (M' := M_X5_write) (As := [_, _]) iO40 (s_X5_write hm1 _ _) dL_law_211 gL_law_X5_write rfl rfl nn_X5_write ⟨rfl, rfl⟩ ⟨by decide, by decide⟩ rfl rfl (Nat.le_of_ble_eq_true rfl) (fun σ2 h2 => ?_)
  refine v_icmp_eq (tgt := 922) dL_law_214 (by decide) (fun c214 => ?_) (fun c214 => absurd rfl c214)
  exact hn _ ⟨_, h2.2.rc h1.1, h2.1, (pv_write hp _ _).mono (Nat.le_succ _)⟩
set_option maxRecDepth 100000 in
set_option maxHeartbeats 4000000 in
theorem law_1 {v : EE} {b N t : Nat} {xs : Nat → Int32} {τ : SS} (hL : N ≤ 448) (ht : 7 * t + 7 ≤ N) (hI : LI t τ) (hn : ∀ τ' : SS, LI (t + 1) τ' → V v M_L_law (zL b N xs) 922 [(0, .ref b), (1, .ref (v.1 0)), (2, .ref (v.1 40)), (3, .int (nI (7 * t)))] [] τ') : V v M_L_law (zL b N xs) 219 [(0, .ref b), (1, .ref (v.1 0)), (2, .ref (v.1 40)), (3, .int (nI (7 * t)))] [] τ := by
  obtain ⟨s, hr, hm, hp⟩ := hI
  have hv := hp.2.1
  have hz : 50000 + t ≤ 1000000 := by omega
  have hb9 : wS (aW s) ≤ 16 ∧ wC (aW s) ≤ 16 ∧ wN (aW s) ≤ 10 := ⟨hv.1.1, hv.1.2.1, hv.1.2.2.1⟩
  refine v_aload_n dL_law_219 rfl ?_
  refine v_callVRi (M' := M_X4_wipe) (As := []) iO0 (s_X4_wipe hr ) dL_law_220 gL_law_X4_wipe rfl rfl nn_X4_wipe ⟨rfl, rfl⟩ ⟨by decide, by decide⟩ rfl rfl (Nat.le_of_ble_eq_true rfl) (fun σ1 h1 => ?_)
  have hm1 := h1.2.rm hm
  refine v_aload_n dL_law_223 rfl ?_
  refine v_callVRi (M' := M_X5_wipe) (As := []) iO40 (s_X5_wipe hm1 ) dL_law_224 gL_law_X5_wipe rfl rfl nn_X5_wipe ⟨rfl, rfl⟩ ⟨by decide, by decide⟩ rfl rfl (Nat.le_of_ble_eq_true rfl) (fun σ2 h2 => ?_)
  refine v_icmp_eq (tgt := 922) dL_law_227 (by decide) (fun c227 => ?_) (fun c227 => absurd rfl c227)
  exact hn _ ⟨_, h2.2.rc h1.1, h2.1, (pv_wipe hp).mono (Nat.le_succ _)⟩
set_option maxRecDepth 100000 in
set_option maxHeartbeats 4000000 in
theorem law_2 {v : EE} {b N t : Nat} {xs : Nat → Int32} {τ : SS} (hL : N ≤ 448) (ht : 7 * t + 7 ≤ N) (hI : LI t τ) (hn : ∀ τ' : SS, LI (t + 1) τ' → V v M_L_law (zL b N xs) 922 [(0, .ref b), (1, .ref (v.1 0)), (2, .ref (v.1 40)), (3, .int (nI (7 * t)))] [] τ') : V v M_L_law (zL b N xs) 232 [(0, .ref b), (1, .ref (v.1 0)), (2, .ref (v.1 40)), (3, .int (nI (7 * t)))] [] τ := by
  obtain ⟨s, hr, hm, hp⟩ := hI
  have hv := hp.2.1
  have hz : 50000 + t ≤ 1000000 := by omega
  have hb9 : wS (aW s) ≤ 16 ∧ wC (aW s) ≤ 16 ∧ wN (aW s) ≤ 10 := ⟨hv.1.1, hv.1.2.1, hv.1.2.2.1⟩
  refine v_aload_n dL_law_232 rfl ?_
  refine v_callVRi (M' := M_X4_fault) (As := []) iO0 (s_X4_fault hr) dL_law_233 gL_law_X4_fault rfl rfl nn_X4_fault ⟨rfl, rfl⟩ ⟨by decide, by decide⟩ rfl rfl (Nat.le_of_ble_eq_true rfl) (fun σ1 h1 => ?_)
  have hm1 := h1.2.rm hm
  refine v_aload_n dL_law_236 rfl ?_
  refine v_callVRi (M' := M_X5_fault) (As := []) iO40 (s_X5_fault hm1.1) dL_law_237 gL_law_X5_fault rfl rfl nn_X5_fault ⟨rfl, rfl⟩ ⟨by decide, by decide⟩ rfl rfl (Nat.le_of_ble_eq_true rfl) (fun σ2 h2 => ?_)
  refine v_icmp_eq (tgt := 922) dL_law_240 (by decide) (fun c240 => ?_) (fun c240 => absurd rfl c240)
  exact hn _ ⟨s, h2.1.fm.rc h1.1, h2.1.rm hm1 hb9, hp.mono (Nat.le_succ _)⟩
set_option maxRecDepth 100000 in
set_option maxHeartbeats 4000000 in
theorem law_3 {v : EE} {b N t : Nat} {xs : Nat → Int32} {τ : SS} (hL : N ≤ 448) (ht : 7 * t + 7 ≤ N) (hI : LI t τ) (hn : ∀ τ' : SS, LI (t + 1) τ' → V v M_L_law (zL b N xs) 922 [(0, .ref b), (1, .ref (v.1 0)), (2, .ref (v.1 40)), (3, .int (nI (7 * t)))] [] τ') : V v M_L_law (zL b N xs) 245 [(0, .ref b), (1, .ref (v.1 0)), (2, .ref (v.1 40)), (3, .int (nI (7 * t)))] [] τ := by
  obtain ⟨s, hr, hm, hp⟩ := hI
  have hv := hp.2.1
  have hz : 50000 + t ≤ 1000000 := by omega
  have hb9 : wS (aW s) ≤ 16 ∧ wC (aW s) ≤ 16 ∧ wN (aW s) ≤ 10 := ⟨hv.1.1, hv.1.2.1, hv.1.2.2.1⟩
  refine v_aload_n dL_law_245 rfl ?_
  refine v_callVRi (M' := M_X4_lay) (As := []) iO0 (s_X4_lay hr ) dL_law_246 gL_law_X4_lay rfl rfl nn_X4_lay ⟨rfl, rfl⟩ ⟨by decide, by decide⟩ rfl rfl (Nat.le_of_ble_eq_true rfl) (fun σ1 h1 => ?_)
  have hm1 := h1.2.rm hm
  refine v_aload_n dL_law_249 rfl ?_
  refine v_callVRi (M' := M_X5_lay) (As := []) iO40 (s_X5_lay hm1 hb9 ) dL_law_250 gL_law_X5_lay rfl rfl nn_X5_lay ⟨rfl, rfl⟩ ⟨by decide, by decide⟩ rfl rfl (Nat.le_of_ble_eq_true rfl) (fun σ2 h2 => ?_)
  refine v_icmp_eq (tgt := 922) dL_law_253 (by decide) (fun c253 => ?_) (fun c253 => absurd rfl c253)
  exact hn _ ⟨_, h2.2.rc h1.1, h2.1, (pv_lay hp (by omega)).mono (Nat.le_succ _)⟩
set_option maxRecDepth 100000 in
set_option maxHeartbeats 4000000 in
theorem law_4 {v : EE} {b N t : Nat} {xs : Nat → Int32} {τ : SS} (hL : N ≤ 448) (ht : 7 * t + 7 ≤ N) (hI : LI t τ) (hn : ∀ τ' : SS, LI (t + 1) τ' → V v M_L_law (zL b N xs) 922 [(0, .ref b), (1, .ref (v.1 0)), (2, .ref (v.1 40)), (3, .int (nI (7 * t)))] [] τ') : V v M_L_law (zL b N xs) 258 [(0, .ref b), (1, .ref (v.1 0)), (2, .ref (v.1 40)), (3, .int (nI (7 * t)))] [] τ := by
  obtain ⟨s, hr, hm, hp⟩ := hI
  have hv := hp.2.1
  have hz : 50000 + t ≤ 1000000 := by omega
  have hb9 : wS (aW s) ≤ 16 ∧ wC (aW s) ≤ 16 ∧ wN (aW s) ≤ 10 := ⟨hv.1.1, hv.1.2.1, hv.1.2.2.1⟩
  refine v_aload_n dL_law_258 rfl ?_
  refine v_aload_n dL_law_259 rfl ?_
  refine v_iload_n dL_law_260 rfl ?_
  refine v_iconst (x := nI 1) dL_law_261 (by decide +kernel) ?_
  refine n_iadd dL_law_262 ?_
  refine v_scr dL_law_263 hL (by omega) ?_
  refine v_aload_n dL_law_264 rfl ?_
  refine v_iload_n dL_law_265 rfl ?_
  refine v_iconst (x := nI 2) dL_law_266 (by decide +kernel) ?_
  refine n_iadd dL_law_267 ?_
  refine v_scr dL_law_268 hL (by omega) ?_
  refine v_callVi (M' := M_X4_sign) (As := [_, _]) iO0 (s_X4_sign hr.la hr.ch hv hz _ _) dL_law_269 gL_law_X4_sign rfl rfl nn_X4_sign ⟨rfl, rfl⟩ ⟨by decide, by decide⟩ rfl rfl (Nat.le_of_ble_eq_true rfl) ?_
  refine v_aload_n dL_law_272 rfl ?_
  refine v_aload_n dL_law_273 rfl ?_
  refine v_iload_n dL_law_274 rfl ?_
  refine v_iconst (x := nI 1) dL_law_275 (by decide +kernel) ?_
  refine n_iadd dL_law_276 ?_
  refine v_scr dL_law_277 hL (by omega) ?_
  refine v_aload_n dL_law_278 rfl ?_
  refine v_iload_n dL_law_279 rfl ?_
  refine v_iconst (x := nI 2) dL_law_280 (by decide +kernel) ?_
  refine n_iadd dL_law_281 ?_
  refine v_scr dL_law_282 hL (by omega) ?_
  refine v_callVi (M' := M_X5_sign) (As := [_, _]) iO40 (s_X5_sign hm.2.1 hv hz _ _) dL_law_283 gL_law_X5_sign rfl rfl nn_X5_sign ⟨rfl, rfl⟩ ⟨by decide, by decide⟩ rfl rfl (Nat.le_of_ble_eq_true rfl) ?_
  refine v_icmp_eq (tgt := 922) dL_law_286 (by decide) (fun c286 => ?_) (fun c286 => absurd rfl c286)
  exact hn _ ⟨s, hr, hm, hp.mono (Nat.le_succ _)⟩
set_option maxRecDepth 100000 in
set_option maxHeartbeats 4000000 in
theorem law_5 {v : EE} {b N t : Nat} {xs : Nat → Int32} {τ : SS} (hL : N ≤ 448) (ht : 7 * t + 7 ≤ N) (hI : LI t τ) (hn : ∀ τ' : SS, LI (t + 1) τ' → V v M_L_law (zL b N xs) 922 [(0, .ref b), (1, .ref (v.1 0)), (2, .ref (v.1 40)), (3, .int (nI (7 * t)))] [] τ') : V v M_L_law (zL b N xs) 291 [(0, .ref b), (1, .ref (v.1 0)), (2, .ref (v.1 40)), (3, .int (nI (7 * t)))] [] τ := by
  obtain ⟨s, hr, hm, hp⟩ := hI
  have hv := hp.2.1
  have hz : 50000 + t ≤ 1000000 := by omega
  have hb9 : wS (aW s) ≤ 16 ∧ wC (aW s) ≤ 16 ∧ wN (aW s) ≤ 10 := ⟨hv.1.1, hv.1.2.1, hv.1.2.2.1⟩
  refine v_aload_n dL_law_291 rfl ?_
  refine v_aload_n dL_law_292 rfl ?_
  refine v_iload_n dL_law_293 rfl ?_
  refine v_iconst (x := nI 1) dL_law_294 (by decide +kernel) ?_
  refine n_iadd dL_law_295 ?_
  refine v_scr dL_law_296 hL (by omega) ?_
  refine v_aload_n dL_law_297 rfl ?_
  refine v_iload_n dL_law_298 rfl ?_
  refine v_iconst (x := nI 2) dL_law_299 (by decide +kernel) ?_
  refine n_iadd dL_law_300 ?_
  refine v_scr dL_law_301 hL (by omega) ?_
  refine v_callVi (M' := M_X4_stones) (As := [_, _]) iO0 (s_X4_stones hr.la hr.ch hv hz _ _) dL_law_302 gL_law_X4_stones rfl rfl nn_X4_stones ⟨rfl, rfl⟩ ⟨by decide, by decide⟩ rfl rfl (Nat.le_of_ble_eq_true rfl) ?_
  refine v_aload_n dL_law_305 rfl ?_
  refine v_aload_n dL_law_306 rfl ?_
  refine v_iload_n dL_law_307 rfl ?_
  refine v_iconst (x := nI 1) dL_law_308 (by decide +kernel) ?_
  refine n_iadd dL_law_309 ?_
  refine v_scr dL_law_310 hL (by omega) ?_
  refine v_aload_n dL_law_311 rfl ?_
  refine v_iload_n dL_law_312 rfl ?_
  refine v_iconst (x := nI 2) dL_law_313 (by decide +kernel) ?_
  refine n_iadd dL_law_314 ?_
  refine v_scr dL_law_315 hL (by omega) ?_
  refine v_callVi (M' := M_X5_stones) (As := [_, _]) iO40 (s_X5_stones hm.2.1 hv hz _ _) dL_law_316 gL_law_X5_stones rfl rfl nn_X5_stones ⟨rfl, rfl⟩ ⟨by decide, by decide⟩ rfl rfl (Nat.le_of_ble_eq_true rfl) ?_
  refine v_icmp_eq (tgt := 922) dL_law_319 (by decide) (fun c319 => ?_) (fun c319 => absurd rfl c319)
  exact hn _ ⟨s, hr, hm, hp.mono (Nat.le_succ _)⟩
set_option maxRecDepth 100000 in
set_option maxHeartbeats 4000000 in
theorem law_6 {v : EE} {b N t : Nat} {xs : Nat → Int32} {τ : SS} (hL : N ≤ 448) (ht : 7 * t + 7 ≤ N) (hI : LI t τ) (hn : ∀ τ' : SS, LI (t + 1) τ' → V v M_L_law (zL b N xs) 922 [(0, .ref b), (1, .ref (v.1 0)), (2, .ref (v.1 40)), (3, .int (nI (7 * t)))] [] τ') : V v M_L_law (zL b N xs) 324 [(0, .ref b), (1, .ref (v.1 0)), (2, .ref (v.1 40)), (3, .int (nI (7 * t)))] [] τ := by
  obtain ⟨s, hr, hm, hp⟩ := hI
  have hv := hp.2.1
  have hz : 50000 + t ≤ 1000000 := by omega
  have hb9 : wS (aW s) ≤ 16 ∧ wC (aW s) ≤ 16 ∧ wN (aW s) ≤ 10 := ⟨hv.1.1, hv.1.2.1, hv.1.2.2.1⟩
  refine v_aload_n dL_law_324 rfl ?_
  refine v_aload_n dL_law_325 rfl ?_
  refine v_iload_n dL_law_326 rfl ?_
  refine v_iconst (x := nI 1) dL_law_327 (by decide +kernel) ?_
  refine n_iadd dL_law_328 ?_
  refine v_scr dL_law_329 hL (by omega) ?_
  refine v_aload_n dL_law_330 rfl ?_
  refine v_iload_n dL_law_331 rfl ?_
  refine v_iconst (x := nI 2) dL_law_332 (by decide +kernel) ?_
  refine n_iadd dL_law_333 ?_
  refine v_scr dL_law_334 hL (by omega) ?_
  refine v_callVi (M' := M_X4_in) (As := [_, _]) iO0 (s_X4_in hr.la hr.ch hv hz _ _) dL_law_335 gL_law_X4_in rfl rfl nn_X4_in ⟨rfl, rfl⟩ ⟨by decide, by decide⟩ rfl rfl (Nat.le_of_ble_eq_true rfl) ?_
  refine v_aload_n dL_law_338 rfl ?_
  refine v_aload_n dL_law_339 rfl ?_
  refine v_iload_n dL_law_340 rfl ?_
  refine v_iconst (x := nI 1) dL_law_341 (by decide +kernel) ?_
  refine n_iadd dL_law_342 ?_
  refine v_scr dL_law_343 hL (by omega) ?_
  refine v_aload_n dL_law_344 rfl ?_
  refine v_iload_n dL_law_345 rfl ?_
  refine v_iconst (x := nI 2) dL_law_346 (by decide +kernel) ?_
  refine n_iadd dL_law_347 ?_
  refine v_scr dL_law_348 hL (by omega) ?_
  refine v_callVi (M' := M_X5_in) (As := [_, _]) iO40 (s_X5_in hm.2.1 hv hz _ _) dL_law_349 gL_law_X5_in rfl rfl nn_X5_in ⟨rfl, rfl⟩ ⟨by decide, by decide⟩ rfl rfl (Nat.le_of_ble_eq_true rfl) ?_
  refine v_icmp_eq (tgt := 922) dL_law_352 (by decide) (fun c352 => ?_) (fun c352 => absurd rfl c352)
  exact hn _ ⟨s, hr, hm, hp.mono (Nat.le_succ _)⟩
set_option maxRecDepth 100000 in
set_option maxHeartbeats 4000000 in
theorem law_7 {v : EE} {b N t : Nat} {xs : Nat → Int32} {τ : SS} (hL : N ≤ 448) (ht : 7 * t + 7 ≤ N) (hI : LI t τ) (hn : ∀ τ' : SS, LI (t + 1) τ' → V v M_L_law (zL b N xs) 922 [(0, .ref b), (1, .ref (v.1 0)), (2, .ref (v.1 40)), (3, .int (nI (7 * t)))] [] τ') : V v M_L_law (zL b N xs) 357 [(0, .ref b), (1, .ref (v.1 0)), (2, .ref (v.1 40)), (3, .int (nI (7 * t)))] [] τ := by
  obtain ⟨s, hr, hm, hp⟩ := hI
  have hv := hp.2.1
  have hz : 50000 + t ≤ 1000000 := by omega
  have hb9 : wS (aW s) ≤ 16 ∧ wC (aW s) ≤ 16 ∧ wN (aW s) ≤ 10 := ⟨hv.1.1, hv.1.2.1, hv.1.2.2.1⟩
  refine v_aload_n dL_law_357 rfl ?_
  refine v_aload_n dL_law_358 rfl ?_
  refine v_iload_n dL_law_359 rfl ?_
  refine v_iconst (x := nI 1) dL_law_360 (by decide +kernel) ?_
  refine n_iadd dL_law_361 ?_
  refine v_scr dL_law_362 hL (by omega) ?_
  refine v_aload_n dL_law_363 rfl ?_
  refine v_iload_n dL_law_364 rfl ?_
  refine v_iconst (x := nI 2) dL_law_365 (by decide +kernel) ?_
  refine n_iadd dL_law_366 ?_
  refine v_scr dL_law_367 hL (by omega) ?_
  refine v_callVRi (M' := M_X4_read) (As := [_, _]) iO0 (s_X4_read hr hv hz _ _) dL_law_368 gL_law_X4_read rfl rfl nn_X4_read ⟨rfl, rfl⟩ ⟨by decide, by decide⟩ rfl rfl (Nat.le_of_ble_eq_true rfl) (fun σ1 h1 => ?_)
  have hm1 := h1.2.rm hm
  refine v_aload_n dL_law_371 rfl ?_
  refine v_aload_n dL_law_372 rfl ?_
  refine v_iload_n dL_law_373 rfl ?_
  refine v_iconst (x := nI 1) dL_law_374 (by decide +kernel) ?_
  refine n_iadd dL_law_375 ?_
  refine v_scr dL_law_376 hL (by omega) ?_
  refine v_aload_n dL_law_377 rfl ?_
  refine v_iload_n dL_law_378 rfl ?_
  refine v_iconst (x := nI 2) dL_law_379 (by decide +kernel) ?_
  refine n_iadd dL_law_380 ?_
  refine v_scr dL_law_381 hL (by omega) ?_
  refine v_callVRi (M' := M_X5_read) (As := [_, _]) iO40 (s_X5_read hm1 hv hz _ _) dL_law_382 gL_law_X5_read rfl rfl nn_X5_read ⟨rfl, rfl⟩ ⟨by decide, by decide⟩ rfl rfl (Nat.le_of_ble_eq_true rfl) (fun σ2 h2 => ?_)
  refine v_icmp_eq (tgt := 922) dL_law_385 (by decide) (fun c385 => ?_) (fun c385 => absurd rfl c385)
  exact hn _ ⟨_, h2.2.rc h1.1, h2.1, pv_read hp _ _⟩
set_option maxRecDepth 100000 in
set_option maxHeartbeats 4000000 in
theorem law_8 {v : EE} {b N t : Nat} {xs : Nat → Int32} {τ : SS} (hL : N ≤ 448) (ht : 7 * t + 7 ≤ N) (hI : LI t τ) (hn : ∀ τ' : SS, LI (t + 1) τ' → V v M_L_law (zL b N xs) 922 [(0, .ref b), (1, .ref (v.1 0)), (2, .ref (v.1 40)), (3, .int (nI (7 * t)))] [] τ') : V v M_L_law (zL b N xs) 390 [(0, .ref b), (1, .ref (v.1 0)), (2, .ref (v.1 40)), (3, .int (nI (7 * t)))] [] τ := by
  obtain ⟨s, hr, hm, hp⟩ := hI
  have hv := hp.2.1
  have hz : 50000 + t ≤ 1000000 := by omega
  have hb9 : wS (aW s) ≤ 16 ∧ wC (aW s) ≤ 16 ∧ wN (aW s) ≤ 10 := ⟨hv.1.1, hv.1.2.1, hv.1.2.2.1⟩
  refine v_aload_n dL_law_390 rfl ?_
  refine v_aload_n dL_law_391 rfl ?_
  refine v_iload_n dL_law_392 rfl ?_
  refine v_iconst (x := nI 1) dL_law_393 (by decide +kernel) ?_
  refine n_iadd dL_law_394 ?_
  refine v_scr dL_law_395 hL (by omega) ?_
  refine v_aload_n dL_law_396 rfl ?_
  refine v_iload_n dL_law_397 rfl ?_
  refine v_iconst (x := nI 2) dL_law_398 (by decide +kernel) ?_
  refine n_iadd dL_law_399 ?_
  refine v_scr dL_law_400 hL (by omega) ?_
  refine v_callVi (M' := M_X4_alike) (As := [_, _]) iO0 (s_X4_alike hr.la hr.ch hv hz _ _) dL_law_401 gL_law_X4_alike rfl rfl nn_X4_alike ⟨rfl, rfl⟩ ⟨by decide, by decide⟩ rfl rfl (Nat.le_of_ble_eq_true rfl) ?_
  refine v_aload_n dL_law_404 rfl ?_
  refine v_aload_n dL_law_405 rfl ?_
  refine v_iload_n dL_law_406 rfl ?_
  refine v_iconst (x := nI 1) dL_law_407 (by decide +kernel) ?_
  refine n_iadd dL_law_408 ?_
  refine v_scr dL_law_409 hL (by omega) ?_
  refine v_aload_n dL_law_410 rfl ?_
  refine v_iload_n dL_law_411 rfl ?_
  refine v_iconst (x := nI 2) dL_law_412 (by decide +kernel) ?_
  refine n_iadd dL_law_413 ?_
  refine v_scr dL_law_414 hL (by omega) ?_
  refine v_callVi (M' := M_X5_alike) (As := [_, _]) iO40 (s_X5_alike hm.2.1 hv hz _ _) dL_law_415 gL_law_X5_alike rfl rfl nn_X5_alike ⟨rfl, rfl⟩ ⟨by decide, by decide⟩ rfl rfl (Nat.le_of_ble_eq_true rfl) ?_
  refine v_icmp_eq (tgt := 922) dL_law_418 (by decide) (fun c418 => ?_) (fun c418 => absurd rfl c418)
  exact hn _ ⟨s, hr, hm, hp.mono (Nat.le_succ _)⟩
set_option maxRecDepth 100000 in
set_option maxHeartbeats 4000000 in
theorem law_9 {v : EE} {b N t : Nat} {xs : Nat → Int32} {τ : SS} (hL : N ≤ 448) (ht : 7 * t + 7 ≤ N) (hI : LI t τ) (hn : ∀ τ' : SS, LI (t + 1) τ' → V v M_L_law (zL b N xs) 922 [(0, .ref b), (1, .ref (v.1 0)), (2, .ref (v.1 40)), (3, .int (nI (7 * t)))] [] τ') : V v M_L_law (zL b N xs) 423 [(0, .ref b), (1, .ref (v.1 0)), (2, .ref (v.1 40)), (3, .int (nI (7 * t)))] [] τ := by
  obtain ⟨s, hr, hm, hp⟩ := hI
  have hv := hp.2.1
  have hz : 50000 + t ≤ 1000000 := by omega
  have hb9 : wS (aW s) ≤ 16 ∧ wC (aW s) ≤ 16 ∧ wN (aW s) ≤ 10 := ⟨hv.1.1, hv.1.2.1, hv.1.2.2.1⟩
  refine v_aload_n dL_law_423 rfl ?_
  refine v_aload_n dL_law_424 rfl ?_
  refine v_iload_n dL_law_425 rfl ?_
  refine v_iconst (x := nI 1) dL_law_426 (by decide +kernel) ?_
  refine n_iadd dL_law_427 ?_
  refine v_scr dL_law_428 hL (by omega) ?_
  refine v_aload_n dL_law_429 rfl ?_
  refine v_iload_n dL_law_430 rfl ?_
  refine v_iconst (x := nI 2) dL_law_431 (by decide +kernel) ?_
  refine n_iadd dL_law_432 ?_
  refine v_scr dL_law_433 hL (by omega) ?_
  refine v_aload_n dL_law_434 rfl ?_
  refine v_iload_n dL_law_435 rfl ?_
  refine v_iconst (x := nI 3) dL_law_436 (by decide +kernel) ?_
  refine n_iadd dL_law_437 ?_
  refine v_scr dL_law_438 hL (by omega) ?_
  refine v_callVl (M' := M_X4_chance) (As := [_, _, _]) iO0 (s_X4_chance hr.la hr.ch hv hz _ _ _) dL_law_439 gL_law_X4_chance rfl rfl nn_X4_chance ⟨rfl, rfl⟩ ⟨by decide, by decide⟩ rfl rfl (Nat.le_of_ble_eq_true rfl) ?_
  refine v_aload_n dL_law_442 rfl ?_
  refine v_aload_n dL_law_443 rfl ?_
  refine v_iload_n dL_law_444 rfl ?_
  refine v_iconst (x := nI 1) dL_law_445 (by decide +kernel) ?_
  refine n_iadd dL_law_446 ?_
  refine v_scr dL_law_447 hL (by omega) ?_
  refine v_aload_n dL_law_448 rfl ?_
  refine v_iload_n dL_law_449 rfl ?_
  refine v_iconst (x := nI 2) dL_law_450 (by decide +kernel) ?_
  refine n_iadd dL_law_451 ?_
  refine v_scr dL_law_452 hL (by omega) ?_
  refine v_aload_n dL_law_453 rfl ?_
  refine v_iload_n dL_law_454 rfl ?_
  refine v_iconst (x := nI 3) dL_law_455 (by decide +kernel) ?_
  refine n_iadd dL_law_456 ?_
  refine v_scr dL_law_457 hL (by omega) ?_
  refine v_callVRl (M' := M_X5_chance) (As := [_, _, _]) iO40 (s_X5_chance hm hv hz _ _ _) dL_law_458 gL_law_X5_chance rfl rfl nn_X5_chance ⟨rfl, rfl⟩ ⟨by decide, by decide⟩ rfl rfl (Nat.le_of_ble_eq_true rfl) (fun σ2 h2 => ?_)
  refine v_lcmp dL_law_461 ?_
  refine v_if_eq (tgt := 922) dL_law_462 (by decide) (fun c462 => ?_) (fun c462 => absurd ((lg_cmp_eq _ _).mpr rfl) c462)
  exact hn _ ⟨s, h2.2.rc hr, h2.1, hp.mono (Nat.le_succ _)⟩
set_option maxRecDepth 100000 in
set_option maxHeartbeats 4000000 in
theorem law_10 {v : EE} {b N t : Nat} {xs : Nat → Int32} {τ : SS} (hL : N ≤ 448) (ht : 7 * t + 7 ≤ N) (hI : LI t τ) (hn : ∀ τ' : SS, LI (t + 1) τ' → V v M_L_law (zL b N xs) 922 [(0, .ref b), (1, .ref (v.1 0)), (2, .ref (v.1 40)), (3, .int (nI (7 * t)))] [] τ') : V v M_L_law (zL b N xs) 467 [(0, .ref b), (1, .ref (v.1 0)), (2, .ref (v.1 40)), (3, .int (nI (7 * t)))] [] τ := by
  obtain ⟨s, hr, hm, hp⟩ := hI
  have hv := hp.2.1
  have hz : 50000 + t ≤ 1000000 := by omega
  have hb9 : wS (aW s) ≤ 16 ∧ wC (aW s) ≤ 16 ∧ wN (aW s) ≤ 10 := ⟨hv.1.1, hv.1.2.1, hv.1.2.2.1⟩
  refine v_aload_n dL_law_467 rfl ?_
  refine v_aload_n dL_law_468 rfl ?_
  refine v_iload_n dL_law_469 rfl ?_
  refine v_iconst (x := nI 1) dL_law_470 (by decide +kernel) ?_
  refine n_iadd dL_law_471 ?_
  refine v_scr dL_law_472 hL (by omega) ?_
  refine v_callVRi (M' := M_X4_best) (As := [_]) iO0 (s_X4_best hr hv hz _) dL_law_473 gL_law_X4_best rfl rfl nn_X4_best ⟨rfl, rfl⟩ ⟨by decide, by decide⟩ rfl rfl (Nat.le_of_ble_eq_true rfl) (fun σ1 h1 => ?_)
  have hm1 := h1.2.rm hm
  refine v_aload_n dL_law_476 rfl ?_
  refine v_aload_n dL_law_477 rfl ?_
  refine v_iload_n dL_law_478 rfl ?_
  refine v_iconst (x := nI 1) dL_law_479 (by decide +kernel) ?_
  refine n_iadd dL_law_480 ?_
  refine v_scr dL_law_481 hL (by omega) ?_
  refine v_callVRi (M' := M_X5_best) (As := [_]) iO40 (s_X5_best hm1 hv hz _) dL_law_482 gL_law_X5_best rfl rfl nn_X5_best ⟨rfl, rfl⟩ ⟨by decide, by decide⟩ rfl rfl (Nat.le_of_ble_eq_true rfl) (fun σ2 h2 => ?_)
  refine v_icmp_eq (tgt := 922) dL_law_485 (by decide) (fun c485 => ?_) (fun c485 => absurd rfl c485)
  exact hn _ ⟨_, h2.2.rc h1.1, h2.1, hp.mono (Nat.le_succ _)⟩
set_option maxRecDepth 100000 in
set_option maxHeartbeats 4000000 in
theorem law_11 {v : EE} {b N t : Nat} {xs : Nat → Int32} {τ : SS} (hL : N ≤ 448) (ht : 7 * t + 7 ≤ N) (hI : LI t τ) (hn : ∀ τ' : SS, LI (t + 1) τ' → V v M_L_law (zL b N xs) 922 [(0, .ref b), (1, .ref (v.1 0)), (2, .ref (v.1 40)), (3, .int (nI (7 * t)))] [] τ') : V v M_L_law (zL b N xs) 490 [(0, .ref b), (1, .ref (v.1 0)), (2, .ref (v.1 40)), (3, .int (nI (7 * t)))] [] τ := by
  obtain ⟨s, hr, hm, hp⟩ := hI
  have hv := hp.2.1
  have hz : 50000 + t ≤ 1000000 := by omega
  have hb9 : wS (aW s) ≤ 16 ∧ wC (aW s) ≤ 16 ∧ wN (aW s) ≤ 10 := ⟨hv.1.1, hv.1.2.1, hv.1.2.2.1⟩
  refine v_aload_n dL_law_490 rfl ?_
  refine v_aload_n dL_law_491 rfl ?_
  refine v_iload_n dL_law_492 rfl ?_
  refine v_iconst (x := nI 1) dL_law_493 (by decide +kernel) ?_
  refine n_iadd dL_law_494 ?_
  refine v_scr dL_law_495 hL (by omega) ?_
  refine v_aload_n dL_law_496 rfl ?_
  refine v_iload_n dL_law_497 rfl ?_
  refine v_iconst (x := nI 2) dL_law_498 (by decide +kernel) ?_
  refine n_iadd dL_law_499 ?_
  refine v_scr dL_law_500 hL (by omega) ?_
  refine v_callVRi (M' := M_X4_sure) (As := [_, _]) iO0 (s_X4_sure hr hv hz _ _) dL_law_501 gL_law_X4_sure rfl rfl nn_X4_sure ⟨rfl, rfl⟩ ⟨by decide, by decide⟩ rfl rfl (Nat.le_of_ble_eq_true rfl) (fun σ1 h1 => ?_)
  have hm1 := h1.2.rm hm
  refine v_aload_n dL_law_504 rfl ?_
  refine v_aload_n dL_law_505 rfl ?_
  refine v_iload_n dL_law_506 rfl ?_
  refine v_iconst (x := nI 1) dL_law_507 (by decide +kernel) ?_
  refine n_iadd dL_law_508 ?_
  refine v_scr dL_law_509 hL (by omega) ?_
  refine v_aload_n dL_law_510 rfl ?_
  refine v_iload_n dL_law_511 rfl ?_
  refine v_iconst (x := nI 2) dL_law_512 (by decide +kernel) ?_
  refine n_iadd dL_law_513 ?_
  refine v_scr dL_law_514 hL (by omega) ?_
  refine v_callVRi (M' := M_X5_sure) (As := [_, _]) iO40 (s_X5_sure hm1 hv hz _ _) dL_law_515 gL_law_X5_sure rfl rfl nn_X5_sure ⟨rfl, rfl⟩ ⟨by decide, by decide⟩ rfl rfl (Nat.le_of_ble_eq_true rfl) (fun σ2 h2 => ?_)
  refine v_icmp_eq (tgt := 922) dL_law_518 (by decide) (fun c518 => ?_) (fun c518 => absurd rfl c518)
  exact hn _ ⟨_, h2.2.rc h1.1, h2.1, hp.mono (Nat.le_succ _)⟩
set_option maxRecDepth 100000 in
set_option maxHeartbeats 4000000 in
theorem law_12 {v : EE} {b N t : Nat} {xs : Nat → Int32} {τ : SS} (hL : N ≤ 448) (ht : 7 * t + 7 ≤ N) (hI : LI t τ) (hn : ∀ τ' : SS, LI (t + 1) τ' → V v M_L_law (zL b N xs) 922 [(0, .ref b), (1, .ref (v.1 0)), (2, .ref (v.1 40)), (3, .int (nI (7 * t)))] [] τ') : V v M_L_law (zL b N xs) 523 [(0, .ref b), (1, .ref (v.1 0)), (2, .ref (v.1 40)), (3, .int (nI (7 * t)))] [] τ := by
  obtain ⟨s, hr, hm, hp⟩ := hI
  have hv := hp.2.1
  have hz : 50000 + t ≤ 1000000 := by omega
  have hb9 : wS (aW s) ≤ 16 ∧ wC (aW s) ≤ 16 ∧ wN (aW s) ≤ 10 := ⟨hv.1.1, hv.1.2.1, hv.1.2.2.1⟩
  refine v_aload_n dL_law_523 rfl ?_
  refine v_aload_n dL_law_524 rfl ?_
  refine v_iload_n dL_law_525 rfl ?_
  refine v_iconst (x := nI 1) dL_law_526 (by decide +kernel) ?_
  refine n_iadd dL_law_527 ?_
  refine v_scr dL_law_528 hL (by omega) ?_
  refine v_aload_n dL_law_529 rfl ?_
  refine v_iload_n dL_law_530 rfl ?_
  refine v_iconst (x := nI 2) dL_law_531 (by decide +kernel) ?_
  refine n_iadd dL_law_532 ?_
  refine v_scr dL_law_533 hL (by omega) ?_
  refine v_callVRi (M' := M_X4_seam) (As := [_, _]) iO0 (s_X4_seam hr hv hz _ _) dL_law_534 gL_law_X4_seam rfl rfl nn_X4_seam ⟨rfl, rfl⟩ ⟨by decide, by decide⟩ rfl rfl (Nat.le_of_ble_eq_true rfl) (fun σ1 h1 => ?_)
  have hm1 := h1.2.rm hm
  refine v_aload_n dL_law_537 rfl ?_
  refine v_aload_n dL_law_538 rfl ?_
  refine v_iload_n dL_law_539 rfl ?_
  refine v_iconst (x := nI 1) dL_law_540 (by decide +kernel) ?_
  refine n_iadd dL_law_541 ?_
  refine v_scr dL_law_542 hL (by omega) ?_
  refine v_aload_n dL_law_543 rfl ?_
  refine v_iload_n dL_law_544 rfl ?_
  refine v_iconst (x := nI 2) dL_law_545 (by decide +kernel) ?_
  refine n_iadd dL_law_546 ?_
  refine v_scr dL_law_547 hL (by omega) ?_
  refine v_callVRi (M' := M_X5_seam) (As := [_, _]) iO40 (s_X5_seam hm1 hv hz _ _) dL_law_548 gL_law_X5_seam rfl rfl nn_X5_seam ⟨rfl, rfl⟩ ⟨by decide, by decide⟩ rfl rfl (Nat.le_of_ble_eq_true rfl) (fun σ2 h2 => ?_)
  refine v_icmp_eq (tgt := 922) dL_law_551 (by decide) (fun c551 => ?_) (fun c551 => absurd rfl c551)
  exact hn _ ⟨_, h2.2.rc h1.1, h2.1, hp.mono (Nat.le_succ _)⟩
set_option maxRecDepth 100000 in
set_option maxHeartbeats 4000000 in
theorem law_13 {v : EE} {b N t : Nat} {xs : Nat → Int32} {τ : SS} (hL : N ≤ 448) (ht : 7 * t + 7 ≤ N) (hI : LI t τ) (hn : ∀ τ' : SS, LI (t + 1) τ' → V v M_L_law (zL b N xs) 922 [(0, .ref b), (1, .ref (v.1 0)), (2, .ref (v.1 40)), (3, .int (nI (7 * t)))] [] τ') : V v M_L_law (zL b N xs) 556 [(0, .ref b), (1, .ref (v.1 0)), (2, .ref (v.1 40)), (3, .int (nI (7 * t)))] [] τ := by
  obtain ⟨s, hr, hm, hp⟩ := hI
  have hv := hp.2.1
  have hz : 50000 + t ≤ 1000000 := by omega
  have hb9 : wS (aW s) ≤ 16 ∧ wC (aW s) ≤ 16 ∧ wN (aW s) ≤ 10 := ⟨hv.1.1, hv.1.2.1, hv.1.2.2.1⟩
  refine v_aload_n dL_law_556 rfl ?_
  refine v_callVRi (M' := M_X4_pause) (As := []) iO0 (s_X4_pause hr hv hz ) dL_law_557 gL_law_X4_pause rfl rfl nn_X4_pause ⟨rfl, rfl⟩ ⟨by decide, by decide⟩ rfl rfl (Nat.le_of_ble_eq_true rfl) (fun σ1 h1 => ?_)
  have hm1 := h1.2.rm hm
  refine v_aload_n dL_law_560 rfl ?_
  refine v_callVRi (M' := M_X5_pause) (As := []) iO40 (s_X5_pause hm1 hv hz ) dL_law_561 gL_law_X5_pause rfl rfl nn_X5_pause ⟨rfl, rfl⟩ ⟨by decide, by decide⟩ rfl rfl (Nat.le_of_ble_eq_true rfl) (fun σ2 h2 => ?_)
  refine v_icmp_eq (tgt := 922) dL_law_564 (by decide) (fun c564 => ?_) (fun c564 => absurd rfl c564)
  exact hn _ ⟨_, h2.2.rc h1.1, h2.1, hp.mono (Nat.le_succ _)⟩
set_option maxRecDepth 100000 in
set_option maxHeartbeats 4000000 in
theorem law_14 {v : EE} {b N t : Nat} {xs : Nat → Int32} {τ : SS} (hL : N ≤ 448) (ht : 7 * t + 7 ≤ N) (hI : LI t τ) (hn : ∀ τ' : SS, LI (t + 1) τ' → V v M_L_law (zL b N xs) 922 [(0, .ref b), (1, .ref (v.1 0)), (2, .ref (v.1 40)), (3, .int (nI (7 * t)))] [] τ') : V v M_L_law (zL b N xs) 569 [(0, .ref b), (1, .ref (v.1 0)), (2, .ref (v.1 40)), (3, .int (nI (7 * t)))] [] τ := by
  obtain ⟨s, hr, hm, hp⟩ := hI
  have hv := hp.2.1
  have hz : 50000 + t ≤ 1000000 := by omega
  have hb9 : wS (aW s) ≤ 16 ∧ wC (aW s) ≤ 16 ∧ wN (aW s) ≤ 10 := ⟨hv.1.1, hv.1.2.1, hv.1.2.2.1⟩
  refine v_aload_n dL_law_569 rfl ?_
  refine v_callVRi (M' := M_X4_next) (As := []) iO0 (s_X4_next hr hv hz ) dL_law_570 gL_law_X4_next rfl rfl nn_X4_next ⟨rfl, rfl⟩ ⟨by decide, by decide⟩ rfl rfl (Nat.le_of_ble_eq_true rfl) (fun σ1 h1 => ?_)
  have hm1 := h1.2.rm hm
  refine v_aload_n dL_law_573 rfl ?_
  refine v_callVRi (M' := M_X5_next) (As := []) iO40 (s_X5_next hm1 hv hz ) dL_law_574 gL_law_X5_next rfl rfl nn_X5_next ⟨rfl, rfl⟩ ⟨by decide, by decide⟩ rfl rfl (Nat.le_of_ble_eq_true rfl) (fun σ2 h2 => ?_)
  refine v_icmp_eq (tgt := 922) dL_law_577 (by decide) (fun c577 => ?_) (fun c577 => absurd rfl c577)
  exact hn _ ⟨_, h2.2.rc h1.1, h2.1, hp.mono (Nat.le_succ _)⟩
set_option maxRecDepth 100000 in
set_option maxHeartbeats 4000000 in
theorem law_15 {v : EE} {b N t : Nat} {xs : Nat → Int32} {τ : SS} (hL : N ≤ 448) (ht : 7 * t + 7 ≤ N) (hI : LI t τ) (hn : ∀ τ' : SS, LI (t + 1) τ' → V v M_L_law (zL b N xs) 922 [(0, .ref b), (1, .ref (v.1 0)), (2, .ref (v.1 40)), (3, .int (nI (7 * t)))] [] τ') : V v M_L_law (zL b N xs) 582 [(0, .ref b), (1, .ref (v.1 0)), (2, .ref (v.1 40)), (3, .int (nI (7 * t)))] [] τ := by
  obtain ⟨s, hr, hm, hp⟩ := hI
  have hv := hp.2.1
  have hz : 50000 + t ≤ 1000000 := by omega
  have hb9 : wS (aW s) ≤ 16 ∧ wC (aW s) ≤ 16 ∧ wN (aW s) ≤ 10 := ⟨hv.1.1, hv.1.2.1, hv.1.2.2.1⟩
  refine v_aload_n dL_law_582 rfl ?_
  refine v_aload_n dL_law_583 rfl ?_
  refine v_iload_n dL_law_584 rfl ?_
  refine v_iconst (x := nI 1) dL_law_585 (by decide +kernel) ?_
  refine n_iadd dL_law_586 ?_
  refine v_scr dL_law_587 hL (by omega) ?_
  refine v_aload_n dL_law_588 rfl ?_
  refine v_iload_n dL_law_589 rfl ?_
  refine v_iconst (x := nI 2) dL_law_590 (by decide +kernel) ?_
  refine n_iadd dL_law_591 ?_
  refine v_scr dL_law_592 hL (by omega) ?_
  refine v_callVi (M' := M_X4_men) (As := [_, _]) iO0 (s_X4_men hr.la hr.ch hv hz _ _) dL_law_593 gL_law_X4_men rfl rfl nn_X4_men ⟨rfl, rfl⟩ ⟨by decide, by decide⟩ rfl rfl (Nat.le_of_ble_eq_true rfl) ?_
  refine v_aload_n dL_law_596 rfl ?_
  refine v_aload_n dL_law_597 rfl ?_
  refine v_iload_n dL_law_598 rfl ?_
  refine v_iconst (x := nI 1) dL_law_599 (by decide +kernel) ?_
  refine n_iadd dL_law_600 ?_
  refine v_scr dL_law_601 hL (by omega) ?_
  refine v_aload_n dL_law_602 rfl ?_
  refine v_iload_n dL_law_603 rfl ?_
  refine v_iconst (x := nI 2) dL_law_604 (by decide +kernel) ?_
  refine n_iadd dL_law_605 ?_
  refine v_scr dL_law_606 hL (by omega) ?_
  refine v_callVi (M' := M_X5_men) (As := [_, _]) iO40 (s_X5_men hm.2.1 hv hz _ _) dL_law_607 gL_law_X5_men rfl rfl nn_X5_men ⟨rfl, rfl⟩ ⟨by decide, by decide⟩ rfl rfl (Nat.le_of_ble_eq_true rfl) ?_
  refine v_icmp_eq (tgt := 922) dL_law_610 (by decide) (fun c610 => ?_) (fun c610 => absurd rfl c610)
  exact hn _ ⟨s, hr, hm, hp.mono (Nat.le_succ _)⟩
set_option maxRecDepth 100000 in
set_option maxHeartbeats 4000000 in
theorem law_16 {v : EE} {b N t : Nat} {xs : Nat → Int32} {τ : SS} (hL : N ≤ 448) (ht : 7 * t + 7 ≤ N) (hI : LI t τ) (hn : ∀ τ' : SS, LI (t + 1) τ' → V v M_L_law (zL b N xs) 922 [(0, .ref b), (1, .ref (v.1 0)), (2, .ref (v.1 40)), (3, .int (nI (7 * t)))] [] τ') : V v M_L_law (zL b N xs) 615 [(0, .ref b), (1, .ref (v.1 0)), (2, .ref (v.1 40)), (3, .int (nI (7 * t)))] [] τ := by
  obtain ⟨s, hr, hm, hp⟩ := hI
  have hv := hp.2.1
  have hz : 50000 + t ≤ 1000000 := by omega
  have hb9 : wS (aW s) ≤ 16 ∧ wC (aW s) ≤ 16 ∧ wN (aW s) ≤ 10 := ⟨hv.1.1, hv.1.2.1, hv.1.2.2.1⟩
  refine v_aload_n dL_law_615 rfl ?_
  refine v_aload_n dL_law_616 rfl ?_
  refine v_iload_n dL_law_617 rfl ?_
  refine v_iconst (x := nI 1) dL_law_618 (by decide +kernel) ?_
  refine n_iadd dL_law_619 ?_
  refine v_scr dL_law_620 hL (by omega) ?_
  refine v_aload_n dL_law_621 rfl ?_
  refine v_iload_n dL_law_622 rfl ?_
  refine v_iconst (x := nI 2) dL_law_623 (by decide +kernel) ?_
  refine n_iadd dL_law_624 ?_
  refine v_scr dL_law_625 hL (by omega) ?_
  refine v_callVi (M' := M_X4_asks) (As := [_, _]) iO0 (s_X4_asks hr.la hr.ch hv hz _ _) dL_law_626 gL_law_X4_asks rfl rfl nn_X4_asks ⟨rfl, rfl⟩ ⟨by decide, by decide⟩ rfl rfl (Nat.le_of_ble_eq_true rfl) ?_
  refine v_aload_n dL_law_629 rfl ?_
  refine v_aload_n dL_law_630 rfl ?_
  refine v_iload_n dL_law_631 rfl ?_
  refine v_iconst (x := nI 1) dL_law_632 (by decide +kernel) ?_
  refine n_iadd dL_law_633 ?_
  refine v_scr dL_law_634 hL (by omega) ?_
  refine v_aload_n dL_law_635 rfl ?_
  refine v_iload_n dL_law_636 rfl ?_
  refine v_iconst (x := nI 2) dL_law_637 (by decide +kernel) ?_
  refine n_iadd dL_law_638 ?_
  refine v_scr dL_law_639 hL (by omega) ?_
  refine v_callVi (M' := M_X5_asks) (As := [_, _]) iO40 (s_X5_asks hm.2.1 hv hz _ _) dL_law_640 gL_law_X5_asks rfl rfl nn_X5_asks ⟨rfl, rfl⟩ ⟨by decide, by decide⟩ rfl rfl (Nat.le_of_ble_eq_true rfl) ?_
  refine v_icmp_eq (tgt := 922) dL_law_643 (by decide) (fun c643 => ?_) (fun c643 => absurd rfl c643)
  exact hn _ ⟨s, hr, hm, hp.mono (Nat.le_succ _)⟩
set_option maxRecDepth 100000 in
set_option maxHeartbeats 4000000 in
theorem law_17 {v : EE} {b N t : Nat} {xs : Nat → Int32} {τ : SS} (hL : N ≤ 448) (ht : 7 * t + 7 ≤ N) (hI : LI t τ) (hn : ∀ τ' : SS, LI (t + 1) τ' → V v M_L_law (zL b N xs) 922 [(0, .ref b), (1, .ref (v.1 0)), (2, .ref (v.1 40)), (3, .int (nI (7 * t)))] [] τ') : V v M_L_law (zL b N xs) 648 [(0, .ref b), (1, .ref (v.1 0)), (2, .ref (v.1 40)), (3, .int (nI (7 * t)))] [] τ := by
  obtain ⟨s, hr, hm, hp⟩ := hI
  have hv := hp.2.1
  have hz : 50000 + t ≤ 1000000 := by omega
  have hb9 : wS (aW s) ≤ 16 ∧ wC (aW s) ≤ 16 ∧ wN (aW s) ≤ 10 := ⟨hv.1.1, hv.1.2.1, hv.1.2.2.1⟩
  refine v_aload_n dL_law_648 rfl ?_
  refine v_aload_n dL_law_649 rfl ?_
  refine v_iload_n dL_law_650 rfl ?_
  refine v_iconst (x := nI 1) dL_law_651 (by decide +kernel) ?_
  refine n_iadd dL_law_652 ?_
  refine v_scr dL_law_653 hL (by omega) ?_
  refine v_aload_n dL_law_654 rfl ?_
  refine v_iload_n dL_law_655 rfl ?_
  refine v_iconst (x := nI 2) dL_law_656 (by decide +kernel) ?_
  refine n_iadd dL_law_657 ?_
  refine v_scr dL_law_658 hL (by omega) ?_
  refine v_callVi (M' := M_X4_may) (As := [_, _]) iO0 (s_X4_may hr.la hr.ch hv hz _ _) dL_law_659 gL_law_X4_may rfl rfl nn_X4_may ⟨rfl, rfl⟩ ⟨by decide, by decide⟩ rfl rfl (Nat.le_of_ble_eq_true rfl) ?_
  refine v_aload_n dL_law_662 rfl ?_
  refine v_aload_n dL_law_663 rfl ?_
  refine v_iload_n dL_law_664 rfl ?_
  refine v_iconst (x := nI 1) dL_law_665 (by decide +kernel) ?_
  refine n_iadd dL_law_666 ?_
  refine v_scr dL_law_667 hL (by omega) ?_
  refine v_aload_n dL_law_668 rfl ?_
  refine v_iload_n dL_law_669 rfl ?_
  refine v_iconst (x := nI 2) dL_law_670 (by decide +kernel) ?_
  refine n_iadd dL_law_671 ?_
  refine v_scr dL_law_672 hL (by omega) ?_
  refine v_callVi (M' := M_X5_may) (As := [_, _]) iO40 (s_X5_may hm.2.1 hv hz _ _) dL_law_673 gL_law_X5_may rfl rfl nn_X5_may ⟨rfl, rfl⟩ ⟨by decide, by decide⟩ rfl rfl (Nat.le_of_ble_eq_true rfl) ?_
  refine v_icmp_eq (tgt := 922) dL_law_676 (by decide) (fun c676 => ?_) (fun c676 => absurd rfl c676)
  exact hn _ ⟨s, hr, hm, hp.mono (Nat.le_succ _)⟩
set_option maxRecDepth 100000 in
set_option maxHeartbeats 4000000 in
theorem law_18 {v : EE} {b N t : Nat} {xs : Nat → Int32} {τ : SS} (hL : N ≤ 448) (ht : 7 * t + 7 ≤ N) (hI : LI t τ) (hn : ∀ τ' : SS, LI (t + 1) τ' → V v M_L_law (zL b N xs) 922 [(0, .ref b), (1, .ref (v.1 0)), (2, .ref (v.1 40)), (3, .int (nI (7 * t)))] [] τ') : V v M_L_law (zL b N xs) 681 [(0, .ref b), (1, .ref (v.1 0)), (2, .ref (v.1 40)), (3, .int (nI (7 * t)))] [] τ := by
  obtain ⟨s, hr, hm, hp⟩ := hI
  have hv := hp.2.1
  have hz : 50000 + t ≤ 1000000 := by omega
  have hb9 : wS (aW s) ≤ 16 ∧ wC (aW s) ≤ 16 ∧ wN (aW s) ≤ 10 := ⟨hv.1.1, hv.1.2.1, hv.1.2.2.1⟩
  refine v_aload_n dL_law_681 rfl ?_
  refine v_callVRl (M' := M_X4_partings) (As := []) iO0 (s_X4_partings hr hv hz ) dL_law_682 gL_law_X4_partings rfl rfl nn_X4_partings ⟨rfl, rfl⟩ ⟨by decide, by decide⟩ rfl rfl (Nat.le_of_ble_eq_true rfl) (fun σ1 h1 => ?_)
  have hm1 := h1.2.rm hm
  refine v_aload_n dL_law_685 rfl ?_
  refine v_callVRl (M' := M_X5_partings) (As := []) iO40 (s_X5_partings hm1 hv hz ) dL_law_686 gL_law_X5_partings rfl rfl nn_X5_partings ⟨rfl, rfl⟩ ⟨by decide, by decide⟩ rfl rfl (Nat.le_of_ble_eq_true rfl) (fun σ2 h2 => ?_)
  refine v_lcmp dL_law_689 ?_
  refine v_if_eq (tgt := 922) dL_law_690 (by decide) (fun c690 => ?_) (fun c690 => absurd ((lg_cmp_eq _ _).mpr rfl) c690)
  exact hn _ ⟨_, h2.2.rc h1.1, h2.1, hp.mono (Nat.le_succ _)⟩
set_option maxRecDepth 100000 in
set_option maxHeartbeats 4000000 in
theorem law_19 {v : EE} {b N t : Nat} {xs : Nat → Int32} {τ : SS} (hL : N ≤ 448) (ht : 7 * t + 7 ≤ N) (hI : LI t τ) (hn : ∀ τ' : SS, LI (t + 1) τ' → V v M_L_law (zL b N xs) 922 [(0, .ref b), (1, .ref (v.1 0)), (2, .ref (v.1 40)), (3, .int (nI (7 * t)))] [] τ') : V v M_L_law (zL b N xs) 695 [(0, .ref b), (1, .ref (v.1 0)), (2, .ref (v.1 40)), (3, .int (nI (7 * t)))] [] τ := by
  obtain ⟨s, hr, hm, hp⟩ := hI
  have hv := hp.2.1
  have hz : 50000 + t ≤ 1000000 := by omega
  have hb9 : wS (aW s) ≤ 16 ∧ wC (aW s) ≤ 16 ∧ wN (aW s) ≤ 10 := ⟨hv.1.1, hv.1.2.1, hv.1.2.2.1⟩
  refine v_aload_n dL_law_695 rfl ?_
  refine v_aload_n dL_law_696 rfl ?_
  refine v_iload_n dL_law_697 rfl ?_
  refine v_iconst (x := nI 1) dL_law_698 (by decide +kernel) ?_
  refine n_iadd dL_law_699 ?_
  refine v_scr dL_law_700 hL (by omega) ?_
  refine v_aload_n dL_law_701 rfl ?_
  refine v_iload_n dL_law_702 rfl ?_
  refine v_iconst (x := nI 2) dL_law_703 (by decide +kernel) ?_
  refine n_iadd dL_law_704 ?_
  refine v_scr dL_law_705 hL (by omega) ?_
  refine v_aload_n dL_law_706 rfl ?_
  refine v_iload_n dL_law_707 rfl ?_
  refine v_iconst (x := nI 3) dL_law_708 (by decide +kernel) ?_
  refine n_iadd dL_law_709 ?_
  refine v_scr dL_law_710 hL (by omega) ?_
  refine v_callVRl (M' := M_X4_odds) (As := [_, _, _]) iO0 (s_X4_odds hr hv hz _ _ _) dL_law_711 gL_law_X4_odds rfl rfl nn_X4_odds ⟨rfl, rfl⟩ ⟨by decide, by decide⟩ rfl rfl (Nat.le_of_ble_eq_true rfl) (fun σ1 h1 => ?_)
  have hm1 := h1.2.rm hm
  refine v_aload_n dL_law_714 rfl ?_
  refine v_aload_n dL_law_715 rfl ?_
  refine v_iload_n dL_law_716 rfl ?_
  refine v_iconst (x := nI 1) dL_law_717 (by decide +kernel) ?_
  refine n_iadd dL_law_718 ?_
  refine v_scr dL_law_719 hL (by omega) ?_
  refine v_aload_n dL_law_720 rfl ?_
  refine v_iload_n dL_law_721 rfl ?_
  refine v_iconst (x := nI 2) dL_law_722 (by decide +kernel) ?_
  refine n_iadd dL_law_723 ?_
  refine v_scr dL_law_724 hL (by omega) ?_
  refine v_aload_n dL_law_725 rfl ?_
  refine v_iload_n dL_law_726 rfl ?_
  refine v_iconst (x := nI 3) dL_law_727 (by decide +kernel) ?_
  refine n_iadd dL_law_728 ?_
  refine v_scr dL_law_729 hL (by omega) ?_
  refine v_callVRl (M' := M_X5_odds) (As := [_, _, _]) iO40 (s_X5_odds hm1 hv hz _ _ _) dL_law_730 gL_law_X5_odds rfl rfl nn_X5_odds ⟨rfl, rfl⟩ ⟨by decide, by decide⟩ rfl rfl (Nat.le_of_ble_eq_true rfl) (fun σ2 h2 => ?_)
  refine v_lcmp dL_law_733 ?_
  refine v_if_eq (tgt := 922) dL_law_734 (by decide) (fun c734 => ?_) (fun c734 => absurd ((lg_cmp_eq _ _).mpr rfl) c734)
  exact hn _ ⟨_, h2.2.rc h1.1, h2.1, hp.mono (Nat.le_succ _)⟩
set_option maxRecDepth 100000 in
set_option maxHeartbeats 4000000 in
theorem law_20 {v : EE} {b N t : Nat} {xs : Nat → Int32} {τ : SS} (hL : N ≤ 448) (ht : 7 * t + 7 ≤ N) (hI : LI t τ) (hn : ∀ τ' : SS, LI (t + 1) τ' → V v M_L_law (zL b N xs) 922 [(0, .ref b), (1, .ref (v.1 0)), (2, .ref (v.1 40)), (3, .int (nI (7 * t)))] [] τ') : V v M_L_law (zL b N xs) 739 [(0, .ref b), (1, .ref (v.1 0)), (2, .ref (v.1 40)), (3, .int (nI (7 * t)))] [] τ := by
  obtain ⟨s, hr, hm, hp⟩ := hI
  have hv := hp.2.1
  have hz : 50000 + t ≤ 1000000 := by omega
  have hb9 : wS (aW s) ≤ 16 ∧ wC (aW s) ≤ 16 ∧ wN (aW s) ≤ 10 := ⟨hv.1.1, hv.1.2.1, hv.1.2.2.1⟩
  refine v_aload_n dL_law_739 rfl ?_
  refine v_aload_n dL_law_740 rfl ?_
  refine v_iload_n dL_law_741 rfl ?_
  refine v_iconst (x := nI 1) dL_law_742 (by decide +kernel) ?_
  refine n_iadd dL_law_743 ?_
  refine v_scr dL_law_744 hL (by omega) ?_
  refine v_callVRi (M' := M_X4_named) (As := [_]) iO0 (s_X4_named hr hv hz _) dL_law_745 gL_law_X4_named rfl rfl nn_X4_named ⟨rfl, rfl⟩ ⟨by decide, by decide⟩ rfl rfl (Nat.le_of_ble_eq_true rfl) (fun σ1 h1 => ?_)
  have hm1 := h1.2.rm hm
  refine v_aload_n dL_law_748 rfl ?_
  refine v_aload_n dL_law_749 rfl ?_
  refine v_iload_n dL_law_750 rfl ?_
  refine v_iconst (x := nI 1) dL_law_751 (by decide +kernel) ?_
  refine n_iadd dL_law_752 ?_
  refine v_scr dL_law_753 hL (by omega) ?_
  refine v_callVRi (M' := M_X5_named) (As := [_]) iO40 (s_X5_named hm1 hv hz _) dL_law_754 gL_law_X5_named rfl rfl nn_X5_named ⟨rfl, rfl⟩ ⟨by decide, by decide⟩ rfl rfl (Nat.le_of_ble_eq_true rfl) (fun σ2 h2 => ?_)
  refine v_icmp_eq (tgt := 922) dL_law_757 (by decide) (fun c757 => ?_) (fun c757 => absurd rfl c757)
  exact hn _ ⟨_, h2.2.rc h1.1, h2.1, hp.mono (Nat.le_succ _)⟩
set_option maxRecDepth 100000 in
set_option maxHeartbeats 4000000 in
theorem law_21 {v : EE} {b N t : Nat} {xs : Nat → Int32} {τ : SS} (hL : N ≤ 448) (ht : 7 * t + 7 ≤ N) (hI : LI t τ) (hn : ∀ τ' : SS, LI (t + 1) τ' → V v M_L_law (zL b N xs) 922 [(0, .ref b), (1, .ref (v.1 0)), (2, .ref (v.1 40)), (3, .int (nI (7 * t)))] [] τ') : V v M_L_law (zL b N xs) 762 [(0, .ref b), (1, .ref (v.1 0)), (2, .ref (v.1 40)), (3, .int (nI (7 * t)))] [] τ := by
  obtain ⟨s, hr, hm, hp⟩ := hI
  have hv := hp.2.1
  have hz : 50000 + t ≤ 1000000 := by omega
  have hb9 : wS (aW s) ≤ 16 ∧ wC (aW s) ≤ 16 ∧ wN (aW s) ≤ 10 := ⟨hv.1.1, hv.1.2.1, hv.1.2.2.1⟩
  refine v_aload_n dL_law_762 rfl ?_
  refine v_aload_n dL_law_763 rfl ?_
  refine v_iload_n dL_law_764 rfl ?_
  refine v_iconst (x := nI 1) dL_law_765 (by decide +kernel) ?_
  refine n_iadd dL_law_766 ?_
  refine v_scr dL_law_767 hL (by omega) ?_
  refine v_callVi (M' := M_X4_grown) (As := [_]) iO0 (s_X4_grown hr.la hr.ch hv hz _) dL_law_768 gL_law_X4_grown rfl rfl nn_X4_grown ⟨rfl, rfl⟩ ⟨by decide, by decide⟩ rfl rfl (Nat.le_of_ble_eq_true rfl) ?_
  refine v_aload_n dL_law_771 rfl ?_
  refine v_aload_n dL_law_772 rfl ?_
  refine v_iload_n dL_law_773 rfl ?_
  refine v_iconst (x := nI 1) dL_law_774 (by decide +kernel) ?_
  refine n_iadd dL_law_775 ?_
  refine v_scr dL_law_776 hL (by omega) ?_
  refine v_callVi (M' := M_X5_grown) (As := [_]) iO40 (s_X5_grown hm.2.1 hv hz _) dL_law_777 gL_law_X5_grown rfl rfl nn_X5_grown ⟨rfl, rfl⟩ ⟨by decide, by decide⟩ rfl rfl (Nat.le_of_ble_eq_true rfl) ?_
  refine v_icmp_eq (tgt := 922) dL_law_780 (by decide) (fun c780 => ?_) (fun c780 => absurd rfl c780)
  exact hn _ ⟨s, hr, hm, hp.mono (Nat.le_succ _)⟩
set_option maxRecDepth 100000 in
set_option maxHeartbeats 4000000 in
theorem law_22 {v : EE} {b N t : Nat} {xs : Nat → Int32} {τ : SS} (hL : N ≤ 448) (ht : 7 * t + 7 ≤ N) (hI : LI t τ) (hn : ∀ τ' : SS, LI (t + 1) τ' → V v M_L_law (zL b N xs) 922 [(0, .ref b), (1, .ref (v.1 0)), (2, .ref (v.1 40)), (3, .int (nI (7 * t)))] [] τ') : V v M_L_law (zL b N xs) 785 [(0, .ref b), (1, .ref (v.1 0)), (2, .ref (v.1 40)), (3, .int (nI (7 * t)))] [] τ := by
  obtain ⟨s, hr, hm, hp⟩ := hI
  have hv := hp.2.1
  have hz : 50000 + t ≤ 1000000 := by omega
  have hb9 : wS (aW s) ≤ 16 ∧ wC (aW s) ≤ 16 ∧ wN (aW s) ≤ 10 := ⟨hv.1.1, hv.1.2.1, hv.1.2.2.1⟩
  refine v_aload_n dL_law_785 rfl ?_
  refine v_callVRi (M' := M_X4_again) (As := []) iO0 (s_X4_again hr hv hz ) dL_law_786 gL_law_X4_again rfl rfl nn_X4_again ⟨rfl, rfl⟩ ⟨by decide, by decide⟩ rfl rfl (Nat.le_of_ble_eq_true rfl) (fun σ1 h1 => ?_)
  have hm1 := h1.2.rm hm
  refine v_aload_n dL_law_789 rfl ?_
  refine v_callVRi (M' := M_X5_again) (As := []) iO40 (s_X5_again hm1 hv hz ) dL_law_790 gL_law_X5_again rfl rfl nn_X5_again ⟨rfl, rfl⟩ ⟨by decide, by decide⟩ rfl rfl (Nat.le_of_ble_eq_true rfl) (fun σ2 h2 => ?_)
  refine v_icmp_eq (tgt := 922) dL_law_793 (by decide) (fun c793 => ?_) (fun c793 => absurd rfl c793)
  exact hn _ ⟨_, h2.2.rc h1.1, h2.1, hp.mono (Nat.le_succ _)⟩
set_option maxRecDepth 100000 in
set_option maxHeartbeats 4000000 in
theorem law_23 {v : EE} {b N t : Nat} {xs : Nat → Int32} {τ : SS} (hL : N ≤ 448) (ht : 7 * t + 7 ≤ N) (hI : LI t τ) (hn : ∀ τ' : SS, LI (t + 1) τ' → V v M_L_law (zL b N xs) 922 [(0, .ref b), (1, .ref (v.1 0)), (2, .ref (v.1 40)), (3, .int (nI (7 * t)))] [] τ') : V v M_L_law (zL b N xs) 798 [(0, .ref b), (1, .ref (v.1 0)), (2, .ref (v.1 40)), (3, .int (nI (7 * t)))] [] τ := by
  obtain ⟨s, hr, hm, hp⟩ := hI
  have hv := hp.2.1
  have hz : 50000 + t ≤ 1000000 := by omega
  have hb9 : wS (aW s) ≤ 16 ∧ wC (aW s) ≤ 16 ∧ wN (aW s) ≤ 10 := ⟨hv.1.1, hv.1.2.1, hv.1.2.2.1⟩
  refine v_aload_n dL_law_798 rfl ?_
  refine v_aload_n dL_law_799 rfl ?_
  refine v_iload_n dL_law_800 rfl ?_
  refine v_iconst (x := nI 1) dL_law_801 (by decide +kernel) ?_
  refine n_iadd dL_law_802 ?_
  refine v_scr dL_law_803 hL (by omega) ?_
  refine v_aload_n dL_law_804 rfl ?_
  refine v_iload_n dL_law_805 rfl ?_
  refine v_iconst (x := nI 2) dL_law_806 (by decide +kernel) ?_
  refine n_iadd dL_law_807 ?_
  refine v_scr dL_law_808 hL (by omega) ?_
  refine v_aload_n dL_law_809 rfl ?_
  refine v_iload_n dL_law_810 rfl ?_
  refine v_iconst (x := nI 3) dL_law_811 (by decide +kernel) ?_
  refine n_iadd dL_law_812 ?_
  refine v_scr dL_law_813 hL (by omega) ?_
  refine v_aload_n dL_law_814 rfl ?_
  refine v_iload_n dL_law_815 rfl ?_
  refine v_iconst (x := nI 4) dL_law_816 (by decide +kernel) ?_
  refine n_iadd dL_law_817 ?_
  refine v_scr dL_law_818 hL (by omega) ?_
  refine v_aload_n dL_law_819 rfl ?_
  refine v_iload_n dL_law_820 rfl ?_
  refine v_iconst (x := nI 5) dL_law_821 (by decide +kernel) ?_
  refine n_iadd dL_law_822 ?_
  refine v_scr dL_law_823 hL (by omega) ?_
  refine v_aload_n dL_law_824 rfl ?_
  refine v_iload_n dL_law_825 rfl ?_
  refine v_bipush (x := nI 6) dL_law_826 (by decide +kernel) ?_
  refine n_iadd dL_law_828 ?_
  refine v_scr dL_law_829 hL (by omega) ?_
  refine v_callVRi (M' := M_X4_found) (As := [_, _, _, _, _, _]) iO0 (s_X4_found hr _ _ _ _ _ _) dL_law_830 gL_law_X4_found rfl rfl nn_X4_found ⟨rfl, rfl⟩ ⟨by decide, by decide⟩ rfl rfl (Nat.le_of_ble_eq_true rfl) (fun σ1 h1 => ?_)
  have hm1 := h1.2.rm hm
  refine v_aload_n dL_law_833 rfl ?_
  refine v_aload_n dL_law_834 rfl ?_
  refine v_iload_n dL_law_835 rfl ?_
  refine v_iconst (x := nI 1) dL_law_836 (by decide +kernel) ?_
  refine n_iadd dL_law_837 ?_
  refine v_scr dL_law_838 hL (by omega) ?_
  refine v_aload_n dL_law_839 rfl ?_
  refine v_iload_n dL_law_840 rfl ?_
  refine v_iconst (x := nI 2) dL_law_841 (by decide +kernel) ?_
  refine n_iadd dL_law_842 ?_
  refine v_scr dL_law_843 hL (by omega) ?_
  refine v_aload_n dL_law_844 rfl ?_
  refine v_iload_n dL_law_845 rfl ?_
  refine v_iconst (x := nI 3) dL_law_846 (by decide +kernel) ?_
  refine n_iadd dL_law_847 ?_
  refine v_scr dL_law_848 hL (by omega) ?_
  refine v_aload_n dL_law_849 rfl ?_
  refine v_iload_n dL_law_850 rfl ?_
  refine v_iconst (x := nI 4) dL_law_851 (by decide +kernel) ?_
  refine n_iadd dL_law_852 ?_
  refine v_scr dL_law_853 hL (by omega) ?_
  refine v_aload_n dL_law_854 rfl ?_
  refine v_iload_n dL_law_855 rfl ?_
  refine v_iconst (x := nI 5) dL_law_856 (by decide +kernel) ?_
  refine n_iadd dL_law_857 ?_
  refine v_scr dL_law_858 hL (by omega) ?_
  refine v_aload_n dL_law_859 rfl ?_
  refine v_iload_n dL_law_860 rfl ?_
  refine v_bipush (x := nI 6) dL_law_861 (by decide +kernel) ?_
  refine n_iadd dL_law_863 ?_
  refine v_scr dL_law_864 hL (by omega) ?_
  refine v_callVRi (M' := M_X5_found) (As := [_, _, _, _, _, _]) iO40 (s_X5_found hm1 _ _ _ _ _ _) dL_law_865 gL_law_X5_found rfl rfl nn_X5_found ⟨rfl, rfl⟩ ⟨by decide, by decide⟩ rfl rfl (Nat.le_of_ble_eq_true rfl) (fun σ2 h2 => ?_)
  refine v_icmp_eq (tgt := 922) dL_law_868 (by decide) (fun c868 => ?_) (fun c868 => absurd rfl c868)
  exact hn _ ⟨_, h2.2.rc h1.1, h2.1, hp.mono (Nat.le_succ _)⟩
set_option maxRecDepth 100000 in
set_option maxHeartbeats 4000000 in
theorem law_24 {v : EE} {b N t : Nat} {xs : Nat → Int32} {τ : SS} (hL : N ≤ 448) (ht : 7 * t + 7 ≤ N) (hI : LI t τ) (hn : ∀ τ' : SS, LI (t + 1) τ' → V v M_L_law (zL b N xs) 922 [(0, .ref b), (1, .ref (v.1 0)), (2, .ref (v.1 40)), (3, .int (nI (7 * t)))] [] τ') : V v M_L_law (zL b N xs) 873 [(0, .ref b), (1, .ref (v.1 0)), (2, .ref (v.1 40)), (3, .int (nI (7 * t)))] [] τ := by
  obtain ⟨s, hr, hm, hp⟩ := hI
  have hv := hp.2.1
  have hz : 50000 + t ≤ 1000000 := by omega
  have hb9 : wS (aW s) ≤ 16 ∧ wC (aW s) ≤ 16 ∧ wN (aW s) ≤ 10 := ⟨hv.1.1, hv.1.2.1, hv.1.2.2.1⟩
  refine v_aload_n dL_law_873 rfl ?_
  refine v_callVRi (M' := M_X4_keep) (As := []) iO0 (s_X4_keep hr ) dL_law_874 gL_law_X4_keep rfl rfl nn_X4_keep ⟨rfl, rfl⟩ ⟨by decide, by decide⟩ rfl rfl (Nat.le_of_ble_eq_true rfl) (fun σ1 h1 => ?_)
  have hm1 := h1.2.rm hm
  refine v_aload_n dL_law_877 rfl ?_
  refine v_callVRi (M' := M_X5_keep) (As := []) iO40 (s_X5_keep hm1 ) dL_law_878 gL_law_X5_keep rfl rfl nn_X5_keep ⟨rfl, rfl⟩ ⟨by decide, by decide⟩ rfl rfl (Nat.le_of_ble_eq_true rfl) (fun σ2 h2 => ?_)
  refine v_icmp_eq (tgt := 922) dL_law_881 (by decide) (fun c881 => ?_) (fun c881 => absurd rfl c881)
  exact hn _ ⟨_, h2.2.rc h1.1, h2.1, (pv_keep hp).mono (Nat.le_succ _)⟩
set_option maxRecDepth 100000 in
set_option maxHeartbeats 4000000 in
theorem law_25 {v : EE} {b N t : Nat} {xs : Nat → Int32} {τ : SS} (hL : N ≤ 448) (ht : 7 * t + 7 ≤ N) (hI : LI t τ) (hn : ∀ τ' : SS, LI (t + 1) τ' → V v M_L_law (zL b N xs) 922 [(0, .ref b), (1, .ref (v.1 0)), (2, .ref (v.1 40)), (3, .int (nI (7 * t)))] [] τ') : V v M_L_law (zL b N xs) 886 [(0, .ref b), (1, .ref (v.1 0)), (2, .ref (v.1 40)), (3, .int (nI (7 * t)))] [] τ := by
  obtain ⟨s, hr, hm, hp⟩ := hI
  have hv := hp.2.1
  have hz : 50000 + t ≤ 1000000 := by omega
  have hb9 : wS (aW s) ≤ 16 ∧ wC (aW s) ≤ 16 ∧ wN (aW s) ≤ 10 := ⟨hv.1.1, hv.1.2.1, hv.1.2.2.1⟩
  refine v_aload_n dL_law_886 rfl ?_
  refine v_callVRi (M' := M_X4_back) (As := []) iO0 (s_X4_back hr ) dL_law_887 gL_law_X4_back rfl rfl nn_X4_back ⟨rfl, rfl⟩ ⟨by decide, by decide⟩ rfl rfl (Nat.le_of_ble_eq_true rfl) (fun σ1 h1 => ?_)
  have hm1 := h1.2.rm hm
  refine v_aload_n dL_law_890 rfl ?_
  refine v_callVRi (M' := M_X5_back) (As := []) iO40 (s_X5_back hm1 ) dL_law_891 gL_law_X5_back rfl rfl nn_X5_back ⟨rfl, rfl⟩ ⟨by decide, by decide⟩ rfl rfl (Nat.le_of_ble_eq_true rfl) (fun σ2 h2 => ?_)
  refine v_icmp_eq (tgt := 922) dL_law_894 (by decide) (fun c894 => ?_) (fun c894 => absurd rfl c894)
  exact hn _ ⟨_, h2.2.rc h1.1, h2.1, (pv_back hp).mono (Nat.le_succ _)⟩
set_option maxRecDepth 100000 in
set_option maxHeartbeats 4000000 in
theorem law_26 {v : EE} {b N t : Nat} {xs : Nat → Int32} {τ : SS} (hL : N ≤ 448) (ht : 7 * t + 7 ≤ N) (hI : LI t τ) (hn : ∀ τ' : SS, LI (t + 1) τ' → V v M_L_law (zL b N xs) 922 [(0, .ref b), (1, .ref (v.1 0)), (2, .ref (v.1 40)), (3, .int (nI (7 * t)))] [] τ') : V v M_L_law (zL b N xs) 899 [(0, .ref b), (1, .ref (v.1 0)), (2, .ref (v.1 40)), (3, .int (nI (7 * t)))] [] τ := by
  obtain ⟨s, hr, hm, hp⟩ := hI
  have hv := hp.2.1
  have hz : 50000 + t ≤ 1000000 := by omega
  have hb9 : wS (aW s) ≤ 16 ∧ wC (aW s) ≤ 16 ∧ wN (aW s) ≤ 10 := ⟨hv.1.1, hv.1.2.1, hv.1.2.2.1⟩
  refine v_aload_n dL_law_899 rfl ?_
  refine v_aload_n dL_law_900 rfl ?_
  refine v_iload_n dL_law_901 rfl ?_
  refine v_iconst (x := nI 1) dL_law_902 (by decide +kernel) ?_
  refine n_iadd dL_law_903 ?_
  refine v_scr dL_law_904 hL (by omega) ?_
  refine v_callVi (M' := M_X4_count) (As := [_]) iO0 (s_X4_count hr.la hr.ch hv hz hr.ct.1 hr.2.2.2.1.1 _) dL_law_905 gL_law_X4_count rfl rfl nn_X4_count ⟨rfl, rfl⟩ ⟨by decide, by decide⟩ rfl rfl (Nat.le_of_ble_eq_true rfl) ?_
  refine v_aload_n dL_law_908 rfl ?_
  refine v_aload_n dL_law_909 rfl ?_
  refine v_iload_n dL_law_910 rfl ?_
  refine v_iconst (x := nI 1) dL_law_911 (by decide +kernel) ?_
  refine n_iadd dL_law_912 ?_
  refine v_scr dL_law_913 hL (by omega) ?_
  refine v_callVi (M' := M_X5_count) (As := [_]) iO40 (s_X5_count hm.2.1 hv hz hm.1.1 hm.2.2.1.1 _) dL_law_914 gL_law_X5_count rfl rfl nn_X5_count ⟨rfl, rfl⟩ ⟨by decide, by decide⟩ rfl rfl (Nat.le_of_ble_eq_true rfl) ?_
  refine v_icmp_eq (tgt := 922) dL_law_917 (by decide) (fun c917 => ?_) (fun c917 => absurd rfl c917)
  exact hn _ ⟨s, hr, hm, hp.mono (Nat.le_succ _)⟩
set_option maxRecDepth 100000 in
set_option maxHeartbeats 4000000 in
theorem law_next {v : EE} {b N t : Nat} {xs : Nat → Int32} {τ : SS} (k : V v M_L_law (zL b N xs) 18 [(0, .ref b), (1, .ref (v.1 0)), (2, .ref (v.1 40)), (3, .int (nI (7 * (t + 1))))] [] τ) : V v M_L_law (zL b N xs) 922 [(0, .ref b), (1, .ref (v.1 0)), (2, .ref (v.1 40)), (3, .int (nI (7 * t)))] [] τ := by
  have e7 : 7 * (t + 1) = 7 * t + 7 := by omega
  rw [e7] at k
  refine n_iinc (n := 7) (L' := [(3, _), (0, _), (1, _), (2, _)]) dL_law_922 rfl (by decide) rfl ?_
  refine v_goto (tgt := 18) dL_law_925 (by decide) ?_
  refine v_sub [1, 2, 3, 0] rfl ?_
  exact k
theorem law_gt {N t : Nat} (hL : N ≤ 448) (ht : 7 * t ≤ N) : (nI N - 7 < nI (7 * t)) ↔ N < 7 * t + 7 := by
  have e : (nI N - 7).toInt = (N : Int) - 7 := by
    have h7 : (7 : Int32).toInt = 7 := by decide
    rw [Int32.toInt_sub, nI_toInt (by omega), h7, fb_bmod (by omega) (by omega)]
  rw [Int32.lt_iff_toInt_lt, e, nI_toInt (by omega)]
  omega
set_option maxRecDepth 100000 in
set_option maxHeartbeats 4000000 in
theorem law_loop {v : EE} {b N : Nat} {xs : Nat → Int32} {τ : SS} (hL : N ≤ 448) (hI : LI 0 τ) : V v M_L_law (zL b N xs) 18 [(0, .ref b), (1, .ref (v.1 0)), (2, .ref (v.1 40)), (3, .int (nI 0))] [] τ := by
  refine loopN (fun t => ∀ τ : SS, LI t τ → V v M_L_law (zL b N xs) 18 [(0, .ref b), (1, .ref (v.1 0)), (2, .ref (v.1 40)), (3, .int (nI (7 * t)))] [] τ) (N / 7) ?_ ?_ τ hI
  · intro t hi ih τ hI
    have ht : 7 * t + 7 ≤ N := by omega
    refine v_iload_n dL_law_18 rfl ?_
    refine v_aload_n dL_law_19 rfl ?_
    refine v_slen dL_law_20 ?_
    refine v_bipush (x := 7) dL_law_21 (by decide +kernel) ?_
    refine v_isub dL_law_23 ?_
    refine v_icmp_gt (tgt := 928) dL_law_24 (by decide) (fun c => absurd ((law_gt hL (by omega)).mp c) (by omega)) (fun _ => ?_)
    refine v_aload_n dL_law_27 rfl ?_
    refine v_iload_n dL_law_28 rfl ?_
    refine v_scr dL_law_29 hL (by omega) ?_
    refine v_bipush (x := 31) dL_law_30 (by decide +kernel) ?_
    refine v_iand dL_law_32 ?_
    generalize xs (7 * t) &&& 31 = y
    have hn : ∀ τ' : SS, LI (t + 1) τ' → V v M_L_law (zL b N xs) 922 [(0, .ref b), (1, .ref (v.1 0)), (2, .ref (v.1 40)), (3, .int (nI (7 * t)))] [] τ' := fun τ' h => law_next (ih τ' h)
    cases hy : isN y 27 with
    | false => exact v_tableOut (tgt := 922) dL_law_33 (swo (n := 27) hy) (by decide) (hn _ hI.up)
    | true =>
      obtain ⟨j, hj, -, rfl⟩ := isN_nI hy
      rcases (show j = 0 ∨ j = 1 ∨ j = 2 ∨ j = 3 ∨ j = 4 ∨ j = 5 ∨ j = 6 ∨ j = 7 ∨ j = 8 ∨ j = 9 ∨ j = 10 ∨ j = 11 ∨ j = 12 ∨ j = 13 ∨ j = 14 ∨ j = 15 ∨ j = 16 ∨ j = 17 ∨ j = 18 ∨ j = 19 ∨ j = 20 ∨ j = 21 ∨ j = 22 ∨ j = 23 ∨ j = 24 ∨ j = 25 ∨ j = 26 by omega) with rfl | rfl | rfl | rfl | rfl | rfl | rfl | rfl | rfl | rfl | rfl | rfl | rfl | rfl | rfl | rfl | rfl | rfl | rfl | rfl | rfl | rfl | rfl | rfl | rfl | rfl | rfl
      · exact v_tableIn (off := 123) (tgt := 156) dL_law_33 (by decide +kernel) (by decide +kernel) (by decide +kernel) (by decide) (law_0 hL ht hI hn)
      · exact v_tableIn (off := 186) (tgt := 219) dL_law_33 (by decide +kernel) (by decide +kernel) (by decide +kernel) (by decide) (law_1 hL ht hI hn)
      · exact v_tableIn (off := 199) (tgt := 232) dL_law_33 (by decide +kernel) (by decide +kernel) (by decide +kernel) (by decide) (law_2 hL ht hI hn)
      · exact v_tableIn (off := 212) (tgt := 245) dL_law_33 (by decide +kernel) (by decide +kernel) (by decide +kernel) (by decide) (law_3 hL ht hI hn)
      · exact v_tableIn (off := 225) (tgt := 258) dL_law_33 (by decide +kernel) (by decide +kernel) (by decide +kernel) (by decide) (law_4 hL ht hI hn)
      · exact v_tableIn (off := 258) (tgt := 291) dL_law_33 (by decide +kernel) (by decide +kernel) (by decide +kernel) (by decide) (law_5 hL ht hI hn)
      · exact v_tableIn (off := 291) (tgt := 324) dL_law_33 (by decide +kernel) (by decide +kernel) (by decide +kernel) (by decide) (law_6 hL ht hI hn)
      · exact v_tableIn (off := 324) (tgt := 357) dL_law_33 (by decide +kernel) (by decide +kernel) (by decide +kernel) (by decide) (law_7 hL ht hI hn)
      · exact v_tableIn (off := 357) (tgt := 390) dL_law_33 (by decide +kernel) (by decide +kernel) (by decide +kernel) (by decide) (law_8 hL ht hI hn)
      · exact v_tableIn (off := 390) (tgt := 423) dL_law_33 (by decide +kernel) (by decide +kernel) (by decide +kernel) (by decide) (law_9 hL ht hI hn)
      · exact v_tableIn (off := 434) (tgt := 467) dL_law_33 (by decide +kernel) (by decide +kernel) (by decide +kernel) (by decide) (law_10 hL ht hI hn)
      · exact v_tableIn (off := 457) (tgt := 490) dL_law_33 (by decide +kernel) (by decide +kernel) (by decide +kernel) (by decide) (law_11 hL ht hI hn)
      · exact v_tableIn (off := 490) (tgt := 523) dL_law_33 (by decide +kernel) (by decide +kernel) (by decide +kernel) (by decide) (law_12 hL ht hI hn)
      · exact v_tableIn (off := 523) (tgt := 556) dL_law_33 (by decide +kernel) (by decide +kernel) (by decide +kernel) (by decide) (law_13 hL ht hI hn)
      · exact v_tableIn (off := 536) (tgt := 569) dL_law_33 (by decide +kernel) (by decide +kernel) (by decide +kernel) (by decide) (law_14 hL ht hI hn)
      · exact v_tableIn (off := 549) (tgt := 582) dL_law_33 (by decide +kernel) (by decide +kernel) (by decide +kernel) (by decide) (law_15 hL ht hI hn)
      · exact v_tableIn (off := 582) (tgt := 615) dL_law_33 (by decide +kernel) (by decide +kernel) (by decide +kernel) (by decide) (law_16 hL ht hI hn)
      · exact v_tableIn (off := 615) (tgt := 648) dL_law_33 (by decide +kernel) (by decide +kernel) (by decide +kernel) (by decide) (law_17 hL ht hI hn)
      · exact v_tableIn (off := 648) (tgt := 681) dL_law_33 (by decide +kernel) (by decide +kernel) (by decide +kernel) (by decide) (law_18 hL ht hI hn)
      · exact v_tableIn (off := 662) (tgt := 695) dL_law_33 (by decide +kernel) (by decide +kernel) (by decide +kernel) (by decide) (law_19 hL ht hI hn)
      · exact v_tableIn (off := 706) (tgt := 739) dL_law_33 (by decide +kernel) (by decide +kernel) (by decide +kernel) (by decide) (law_20 hL ht hI hn)
      · exact v_tableIn (off := 729) (tgt := 762) dL_law_33 (by decide +kernel) (by decide +kernel) (by decide +kernel) (by decide) (law_21 hL ht hI hn)
      · exact v_tableIn (off := 752) (tgt := 785) dL_law_33 (by decide +kernel) (by decide +kernel) (by decide +kernel) (by decide) (law_22 hL ht hI hn)
      · exact v_tableIn (off := 765) (tgt := 798) dL_law_33 (by decide +kernel) (by decide +kernel) (by decide +kernel) (by decide) (law_23 hL ht hI hn)
      · exact v_tableIn (off := 840) (tgt := 873) dL_law_33 (by decide +kernel) (by decide +kernel) (by decide +kernel) (by decide) (law_24 hL ht hI hn)
      · exact v_tableIn (off := 853) (tgt := 886) dL_law_33 (by decide +kernel) (by decide +kernel) (by decide +kernel) (by decide) (law_25 hL ht hI hn)
      · exact v_tableIn (off := 866) (tgt := 899) dL_law_33 (by decide +kernel) (by decide +kernel) (by decide +kernel) (by decide) (law_26 hL ht hI hn)
  · intro τ hI
    refine v_iload_n dL_law_18 rfl ?_
    refine v_aload_n dL_law_19 rfl ?_
    refine v_slen dL_law_20 ?_
    refine v_bipush (x := 7) dL_law_21 (by decide +kernel) ?_
    refine v_isub dL_law_23 ?_
    refine v_icmp_gt (tgt := 928) dL_law_24 (by decide) (fun _ => ?_) (fun c => absurd ((law_gt hL (by omega)).mpr (by omega)) c)
    refine v_iconst (x := 1) dL_law_928 rfl ?_
    exact v_lend dL_law_929
