theorem in_X5_next_X5 : ∀ w ∈ u_ws RX5 TX5 29, w ∈ mWs M_X5_next := by decide +kernel
theorem in_X5_pause_X5 : ∀ w ∈ u_ws RX5 TX5 29, w ∈ mWs M_X5_pause := by decide +kernel
theorem in_X5_seam_X5 : ∀ w ∈ u_ws RX5 TX5 29, w ∈ mWs M_X5_seam := by decide +kernel
theorem fl_X5_next_44 : Cond.fieldLink (mOwn M_X5_next) 44 (TX5 16).1 (TX5 16).2.1 (TX5 16).2.2.1 ∈ mWs M_X5_next := by decide +kernel
theorem fl_X5_next_189 : Cond.fieldLink (mOwn M_X5_next) 189 (TX5 15).1 (TX5 15).2.1 (TX5 15).2.2.1 ∈ mWs M_X5_next := by decide +kernel
theorem fl_X5_next_192 : Cond.fieldLink (mOwn M_X5_next) 192 (TX5 21).1 (TX5 21).2.1 (TX5 21).2.2.1 ∈ mWs M_X5_next := by decide +kernel
theorem fl_X5_pause_186 : Cond.fieldLink (mOwn M_X5_pause) 186 (TX5 13).1 (TX5 13).2.1 (TX5 13).2.2.1 ∈ mWs M_X5_pause := by decide +kernel
theorem fl_X5_pause_192 : Cond.fieldLink (mOwn M_X5_pause) 192 (TX5 21).1 (TX5 21).2.1 (TX5 21).2.2.1 ∈ mWs M_X5_pause := by decide +kernel
theorem fl_X5_seam_186 : Cond.fieldLink (mOwn M_X5_seam) 186 (TX5 13).1 (TX5 13).2.1 (TX5 13).2.2.1 ∈ mWs M_X5_seam := by decide +kernel
theorem fl_X5_seam_192 : Cond.fieldLink (mOwn M_X5_seam) 192 (TX5 21).1 (TX5 21).2.1 (TX5 21).2.2.1 ∈ mWs M_X5_seam := by decide +kernel
theorem nn_X5_seamOf : (mY M_X5_seamOf).cls = mOwn M_X5_seamOf ∧ (mY M_X5_seamOf).cls ≠ "java/lang/invoke/MethodHandle" ∧ (mY M_X5_seamOf).cls ≠ "java/lang/invoke/VarHandle" ∧ (parseMethodDescriptor (mY M_X5_seamOf).desc).map (fun d => d.parameters.length) = some 3 := by decide +kernel
theorem btw_s2 {i : Int32} {m : Nat} (hm : m ≤ 6) : btw i.toInt64 0 (nI m - 2).toInt64 = isN i (m - 1) := by
  by_cases h : m = 0
  · subst h
    cases q : isN i (0 - 1) with
    | true => rw [isN_iff] at q; omega
    | false =>
      rw [btw, show (nI 0 - 2).toInt64 = -2 by decide]
      simp only [Int64.le_iff_toInt_le, Int32.toInt_toInt64]
      rw [show (0 : Int64).toInt = 0 from rfl, show (-2 : Int64).toInt = -2 by decide]
      by_cases h1 : 0 ≤ i.toInt
      · have : ¬ i.toInt ≤ -2 := by omega
        simp [this]
      · simp [h1]
  · rw [nI_s2 (by omega), Nat.sub_zero, btw_isN (by omega)]
set_option maxRecDepth 100000 in
set_option maxHeartbeats 4000000 in
theorem s_X5_seam {v : EE} {s : AS} {z : Nat} {σ : SS} (hr : RM s σ) (hv : WV z (aW s)) (hz : z ≤ 1000000) (i what : Int32) : SR v M_X5_seam [.ref (v.1 40), .int i, .int what] σ (some (.int (q_seam (aW s) i what))) (fun σ' => RM s σ' ∧ FM σ σ') := by
  refine Sp.of rfl (by decide) rfl (Nat.le_of_ble_eq_true rfl) ?_
  show V v M_X5_seam _ 0 [(0, .ref (v.1 40)), (1, .int i), (2, .int what)] [] σ
  refine v_aload_n dX5_seam_0 rfl ?_
  refine v_callVRv (M' := M_X5_seeks) (As := []) iO40 (s_X5_seeks hr.2.1 hv hz) dX5_seam_1 gX5_seam_X5_seeks rfl rfl nn_X5_seeks ⟨rfl, rfl⟩ ⟨by decide, by decide⟩ rfl rfl (Nat.le_of_ble_eq_true rfl) (fun s1 h1 => ?_)
  have ho := ov_W hv
  have hb := TL_b ho (A := 0) (by decide)
  have hl := fr_len ho
  have hnB : nB (aW s) = (TL (odW (aW s)) 0).length := rfl
  refine v_iload_n dX5_seam_4 rfl ?_
  refine v_i2l dX5_seam_5 ?_
  refine v_lconst (x := 0) dX5_seam_6 rfl ?_
  refine v_aload_n dX5_seam_7 rfl ?_
  refine v_get (j := 13) iO40 rfl dX5_seam_8 (by decide) in_X5_seam_X5 fl_X5_seam_186 rfl ?_
  refine v_top (h1.1.m' hv) ?_
  refine v_iconst (x := 2) dX5_seam_11 rfl ?_
  refine v_isub dX5_seam_12 ?_
  refine v_i2l dX5_seam_13 ?_
  refine v_callSi (M' := M_X5_between) (As := [_, _, _]) (s_X5_between) dX5_seam_14 gX5_seam_X5_between rfl nn_X5_between ⟨rfl, rfl⟩ ⟨by decide, by decide⟩ rfl rfl (Nat.le_of_ble_eq_true rfl) ?_
  refine v_top (by rw [btw_s2 (by have := (bits_len _ (pbits_lt hv)); omega)]) ?_
  refine b_if_eq (tgt := 32) dX5_seam_17 (by decide) (fun c17 => ?_) (fun c17 => ?_)
  · refine v_iconst (x := (-1)) dX5_seam_32 rfl ?_
    exact v_iret rfl dX5_seam_33 ⟨congrArg (fun z => some (Value.int z)) (by rw [q_seam, if_neg (fun h => by rw [c17] at h; exact absurd h.1 (by decide))]), h1.2.rm hr, h1.2.fm⟩
  · rcases sw3 what with rfl | rfl | rfl | hsw
    · refine v_iload_n dX5_seam_20 rfl ?_
      refine v_i2l dX5_seam_21 ?_
      refine v_lconst (x := 0) dX5_seam_22 rfl ?_
      refine v_ldc2 (x := (2)) (by decide +kernel) dX5_seam_23 ?_
      refine v_callSi (M' := M_X5_between) (As := [_, _, _]) (s_X5_between) dX5_seam_26 gX5_seam_X5_between rfl nn_X5_between ⟨rfl, rfl⟩ ⟨by decide, by decide⟩ rfl rfl (Nat.le_of_ble_eq_true rfl) ?_
      refine v_top (by rw [btw_lit 3 (by decide)]) ?_
      refine b_if_ne (tgt := 34) dX5_seam_29 (by decide) (fun c29 => ?_) (fun c29 => absurd c29 (by decide))
      have hwh : isN 0 3 = true := by decide
      refine v_aload_n dX5_seam_34 rfl ?_
      refine v_get (j := 21) iO40 rfl dX5_seam_35 (by decide) in_X5_seam_X5 fl_X5_seam_192 rfl ?_
      refine v_top h1.1.n ?_
      refine n_if_ne (tgt := 46) dX5_seam_38 (by decide) (by omega) (fun c38 => ?_) (fun c38 => ?_)
      · have hn := pos_ne (hnB ▸ (Nat.pos_of_ne_zero c38))
        have hlp := fr_len' ho hn
        obtain ⟨k, hk, hk2, rfl⟩ := isN_nI c17
        have hk3 : k + 1 < (fr (odW (aW s)) 0).length := by have e : oP (odW (aW s)) = pbits (aW s) := rfl; rw [e] at hlp; omega
        refine v_aload_n dX5_seam_46 rfl ?_
        refine v_iload_n dX5_seam_47 rfl ?_
        refine v_iload_n dX5_seam_48 rfl ?_
        refine v_iconst (x := 0) dX5_seam_49 rfl ?_
        refine v_callVi (M' := M_X5_seamOf) (As := [_, _, _]) iO40 (s_X5_seamOf_00 h1.1 hv hn hk3) dX5_seam_50 gX5_seam_X5_seamOf rfl rfl nn_X5_seamOf ⟨rfl, rfl⟩ ⟨by decide, by decide⟩ rfl rfl (Nat.le_of_ble_eq_true rfl) ?_
        exact v_iret rfl dX5_seam_53 ⟨congrArg (fun z => some (Value.int z)) (by rw [q_seam, if_pos ⟨c17, hwh⟩, if_pos (by omega), nI_clamp hk2, sgV_pc ho hn (wWP _) hk3]; rfl), h1.2.rm hr, h1.2.fm⟩
      · refine v_bipush (x := (-4)) dX5_seam_41 (by decide +kernel) ?_
        refine v_goto (tgt := 53) dX5_seam_43 (by decide) ?_
        exact v_iret rfl dX5_seam_53 ⟨congrArg (fun z => some (Value.int z)) (by rw [q_seam, if_pos ⟨c17, hwh⟩, if_neg (by omega)]), h1.2.rm hr, h1.2.fm⟩
    · refine v_iload_n dX5_seam_20 rfl ?_
      refine v_i2l dX5_seam_21 ?_
      refine v_lconst (x := 0) dX5_seam_22 rfl ?_
      refine v_ldc2 (x := (2)) (by decide +kernel) dX5_seam_23 ?_
      refine v_callSi (M' := M_X5_between) (As := [_, _, _]) (s_X5_between) dX5_seam_26 gX5_seam_X5_between rfl nn_X5_between ⟨rfl, rfl⟩ ⟨by decide, by decide⟩ rfl rfl (Nat.le_of_ble_eq_true rfl) ?_
      refine v_top (by rw [btw_lit 3 (by decide)]) ?_
      refine b_if_ne (tgt := 34) dX5_seam_29 (by decide) (fun c29 => ?_) (fun c29 => absurd c29 (by decide))
      have hwh : isN 1 3 = true := by decide
      refine v_aload_n dX5_seam_34 rfl ?_
      refine v_get (j := 21) iO40 rfl dX5_seam_35 (by decide) in_X5_seam_X5 fl_X5_seam_192 rfl ?_
      refine v_top h1.1.n ?_
      refine n_if_ne (tgt := 46) dX5_seam_38 (by decide) (by omega) (fun c38 => ?_) (fun c38 => ?_)
      · have hn := pos_ne (hnB ▸ (Nat.pos_of_ne_zero c38))
        have hlp := fr_len' ho hn
        obtain ⟨k, hk, hk2, rfl⟩ := isN_nI c17
        have hk3 : k + 1 < (fr (odW (aW s)) 0).length := by have e : oP (odW (aW s)) = pbits (aW s) := rfl; rw [e] at hlp; omega
        refine v_aload_n dX5_seam_46 rfl ?_
        refine v_iload_n dX5_seam_47 rfl ?_
        refine v_iload_n dX5_seam_48 rfl ?_
        refine v_iconst (x := 0) dX5_seam_49 rfl ?_
        refine v_callVi (M' := M_X5_seamOf) (As := [_, _, _]) iO40 (s_X5_seamOf_10 h1.1 hv hn hk3) dX5_seam_50 gX5_seam_X5_seamOf rfl rfl nn_X5_seamOf ⟨rfl, rfl⟩ ⟨by decide, by decide⟩ rfl rfl (Nat.le_of_ble_eq_true rfl) ?_
        exact v_iret rfl dX5_seam_53 ⟨congrArg (fun z => some (Value.int z)) (by rw [q_seam, if_pos ⟨c17, hwh⟩, if_pos (by omega), nI_clamp hk2, sgV_pc ho hn (wWP _) hk3]; rfl), h1.2.rm hr, h1.2.fm⟩
      · refine v_bipush (x := (-4)) dX5_seam_41 (by decide +kernel) ?_
        refine v_goto (tgt := 53) dX5_seam_43 (by decide) ?_
        exact v_iret rfl dX5_seam_53 ⟨congrArg (fun z => some (Value.int z)) (by rw [q_seam, if_pos ⟨c17, hwh⟩, if_neg (by omega)]), h1.2.rm hr, h1.2.fm⟩
    · refine v_iload_n dX5_seam_20 rfl ?_
      refine v_i2l dX5_seam_21 ?_
      refine v_lconst (x := 0) dX5_seam_22 rfl ?_
      refine v_ldc2 (x := (2)) (by decide +kernel) dX5_seam_23 ?_
      refine v_callSi (M' := M_X5_between) (As := [_, _, _]) (s_X5_between) dX5_seam_26 gX5_seam_X5_between rfl nn_X5_between ⟨rfl, rfl⟩ ⟨by decide, by decide⟩ rfl rfl (Nat.le_of_ble_eq_true rfl) ?_
      refine v_top (by rw [btw_lit 3 (by decide)]) ?_
      refine b_if_ne (tgt := 34) dX5_seam_29 (by decide) (fun c29 => ?_) (fun c29 => absurd c29 (by decide))
      have hwh : isN 2 3 = true := by decide
      refine v_aload_n dX5_seam_34 rfl ?_
      refine v_get (j := 21) iO40 rfl dX5_seam_35 (by decide) in_X5_seam_X5 fl_X5_seam_192 rfl ?_
      refine v_top h1.1.n ?_
      refine n_if_ne (tgt := 46) dX5_seam_38 (by decide) (by omega) (fun c38 => ?_) (fun c38 => ?_)
      · have hn := pos_ne (hnB ▸ (Nat.pos_of_ne_zero c38))
        have hlp := fr_len' ho hn
        obtain ⟨k, hk, hk2, rfl⟩ := isN_nI c17
        have hk3 : k + 1 < (fr (odW (aW s)) 0).length := by have e : oP (odW (aW s)) = pbits (aW s) := rfl; rw [e] at hlp; omega
        refine v_aload_n dX5_seam_46 rfl ?_
        refine v_iload_n dX5_seam_47 rfl ?_
        refine v_iload_n dX5_seam_48 rfl ?_
        refine v_iconst (x := 0) dX5_seam_49 rfl ?_
        refine v_callVi (M' := M_X5_seamOf) (As := [_, _, _]) iO40 (s_X5_seamOf_20 h1.1 hv hn hk3) dX5_seam_50 gX5_seam_X5_seamOf rfl rfl nn_X5_seamOf ⟨rfl, rfl⟩ ⟨by decide, by decide⟩ rfl rfl (Nat.le_of_ble_eq_true rfl) ?_
        exact v_iret rfl dX5_seam_53 ⟨congrArg (fun z => some (Value.int z)) (by rw [q_seam, if_pos ⟨c17, hwh⟩, if_pos (by omega), nI_clamp hk2, sgV_pc ho hn (wWP _) hk3]; rfl), h1.2.rm hr, h1.2.fm⟩
      · refine v_bipush (x := (-4)) dX5_seam_41 (by decide +kernel) ?_
        refine v_goto (tgt := 53) dX5_seam_43 (by decide) ?_
        exact v_iret rfl dX5_seam_53 ⟨congrArg (fun z => some (Value.int z)) (by rw [q_seam, if_pos ⟨c17, hwh⟩, if_neg (by omega)]), h1.2.rm hr, h1.2.fm⟩
    · refine v_iload_n dX5_seam_20 rfl ?_
      refine v_i2l dX5_seam_21 ?_
      refine v_lconst (x := 0) dX5_seam_22 rfl ?_
      refine v_ldc2 (x := (2)) (by decide +kernel) dX5_seam_23 ?_
      refine v_callSi (M' := M_X5_between) (As := [_, _, _]) (s_X5_between) dX5_seam_26 gX5_seam_X5_between rfl nn_X5_between ⟨rfl, rfl⟩ ⟨by decide, by decide⟩ rfl rfl (Nat.le_of_ble_eq_true rfl) ?_
      refine v_top (by rw [btw_lit 3 (by decide), hsw]) ?_
      refine b_if_ne (tgt := 34) dX5_seam_29 (by decide) (fun c29 => absurd c29 (by decide)) (fun c29 => ?_)
      refine v_iconst (x := (-1)) dX5_seam_32 rfl ?_
      exact v_iret rfl dX5_seam_33 ⟨congrArg (fun z => some (Value.int z)) (by rw [q_seam, if_neg (fun h => by rw [hsw] at h; exact absurd h.2 (by decide))]), h1.2.rm hr, h1.2.fm⟩
set_option maxRecDepth 100000 in
set_option maxHeartbeats 4000000 in
theorem s_X5_pause {v : EE} {s : AS} {z : Nat} {σ : SS} (hr : RM s σ) (hv : WV z (aW s)) (hz : z ≤ 1000000) : SR v M_X5_pause [.ref (v.1 40)] σ (some (.int (q_pause (aW s)))) (fun σ' => RM s σ' ∧ FM σ σ') := by
  refine Sp.of rfl (by decide) rfl (Nat.le_of_ble_eq_true rfl) ?_
  show V v M_X5_pause _ 0 [(0, .ref (v.1 40))] [] σ
  refine v_aload_n dX5_pause_0 rfl ?_
  refine v_callVRv (M' := M_X5_seeks) (As := []) iO40 (s_X5_seeks hr.2.1 hv hz) dX5_pause_1 gX5_pause_X5_seeks rfl rfl nn_X5_seeks ⟨rfl, rfl⟩ ⟨by decide, by decide⟩ rfl rfl (Nat.le_of_ble_eq_true rfl) (fun s1 h1 => ?_)
  have ho := ov_W hv
  have hb := TL_b ho (A := 0) (by decide)
  have hl := fr_len ho
  have hnB : nB (aW s) = (TL (odW (aW s)) 0).length := rfl
  refine v_bipush (x := (-4)) dX5_pause_4 (by decide +kernel) ?_
  refine v_istore_n (L' := [(1, _), (0, _)]) dX5_pause_6 rfl (by decide) rfl ?_
  refine v_iconst (x := nI 0) dX5_pause_7 (by decide +kernel) ?_
  refine v_istore_n (L' := [(2, _), (1, _), (0, _)]) dX5_pause_8 rfl (by decide) rfl ?_
  by_cases hn : TL (odW (aW s)) 0 = []
  · refine v_iload_n dX5_pause_9 rfl ?_
    refine v_aload_n dX5_pause_10 rfl ?_
    refine v_get (j := 13) iO40 rfl dX5_pause_11 (by decide) in_X5_pause_X5 fl_X5_pause_186 rfl ?_
    refine v_top (h1.1.m' hv) ?_
    refine v_iconst (x := 1) dX5_pause_14 rfl ?_
    refine v_isub dX5_pause_15 ?_
    refine v_icmp_ge (tgt := 59) dX5_pause_16 (by decide) (fun c16 => ?_) (fun c16 => ?_)
    · refine v_iload_n dX5_pause_59 rfl ?_
      exact v_iret rfl dX5_pause_60 ⟨congrArg (fun z => some (Value.int z)) (by rw [q_pause, fr, hn]; rfl), h1.2.rm hr, h1.2.fm⟩
    · refine v_aload_n dX5_pause_19 rfl ?_
      refine v_get (j := 21) iO40 rfl dX5_pause_20 (by decide) in_X5_pause_X5 fl_X5_pause_192 rfl ?_
      refine v_top (h1.1.n.trans (by rw [show nB (aW s) = 0 by rw [hnB, hn]; rfl])) ?_
      refine n_if_le (tgt := 59) dX5_pause_23 (by decide) (by decide) (fun c23 => ?_) (fun c23 => absurd c23 (by omega))
      refine v_iload_n dX5_pause_59 rfl ?_
      exact v_iret rfl dX5_pause_60 ⟨congrArg (fun z => some (Value.int z)) (by rw [q_pause, fr, hn]; rfl), h1.2.rm hr, h1.2.fm⟩
  · have hpos : 0 < nB (aW s) := by rw [hnB]; exact List.length_pos_iff.mpr hn
    refine v_sub [2, 1, 0] rfl ?_
    refine loopN (fun i => V v M_X5_pause (zR v M_X5_pause (fun r' σ' => r' = (some (.int (q_pause (aW s)))) ∧ (RM s σ' ∧ FM σ σ'))) 9 [(0, .ref (v.1 40)), (1, .int (opI (amn (fun _ => true) (psF (aW s)) i))), (2, .int (nI i))] [] (s1)) ((fr (odW (aW s)) 0).length - 1) ?_ ?_
    · intro i hi ih
      rcases ha : (amn (fun _ => true) (psF (aW s)) i) with _ | j
      · dsimp only [opI]
        refine v_iload_n dX5_pause_9 rfl ?_
        refine v_aload_n dX5_pause_10 rfl ?_
        refine v_get (j := 13) iO40 rfl dX5_pause_11 (by decide) in_X5_pause_X5 fl_X5_pause_186 rfl ?_
        refine v_top (h1.1.m hv hn) ?_
        refine v_iconst (x := nI 1) dX5_pause_14 (by decide +kernel) ?_
        refine n_isub dX5_pause_15 (by omega) ?_
        refine n_icmp_ge (tgt := 59) dX5_pause_16 (by decide) (by omega) (by omega) (fun c16 => absurd c16 (by omega)) (fun c16 => ?_)
        refine v_aload_n dX5_pause_19 rfl ?_
        refine v_get (j := 21) iO40 rfl dX5_pause_20 (by decide) in_X5_pause_X5 fl_X5_pause_192 rfl ?_
        refine v_top h1.1.n ?_
        refine n_if_le (tgt := 59) dX5_pause_23 (by decide) (by omega) (fun c23 => absurd c23 (by omega)) (fun c23 => ?_)
        refine v_iload_n dX5_pause_26 rfl ?_
        refine v_if_lt (tgt := 47) dX5_pause_27 (by decide) (fun c27 => ?_) (fun c27 => absurd (by decide) c27)
        refine v_iload_n dX5_pause_47 rfl ?_
        refine v_goto (tgt := 52) dX5_pause_48 (by decide) ?_
        rw [amn_n rfl ha] at ih
        dsimp only [opI] at ih
        refine v_istore_n (L' := [(1, _), (0, _), (2, _)]) dX5_pause_52 rfl (by decide) rfl ?_
        refine n_iinc (n := 1) (L' := [(2, _), (1, _), (0, _)]) dX5_pause_53 rfl (by decide) rfl ?_
        refine v_goto (tgt := 9) dX5_pause_56 (by decide) ?_
        refine v_sub [2, 1, 0] rfl ?_
        exact ih
      · dsimp only [opI]
        refine v_iload_n dX5_pause_9 rfl ?_
        refine v_aload_n dX5_pause_10 rfl ?_
        refine v_get (j := 13) iO40 rfl dX5_pause_11 (by decide) in_X5_pause_X5 fl_X5_pause_186 rfl ?_
        refine v_top (h1.1.m hv hn) ?_
        refine v_iconst (x := nI 1) dX5_pause_14 (by decide +kernel) ?_
        refine n_isub dX5_pause_15 (by omega) ?_
        refine n_icmp_ge (tgt := 59) dX5_pause_16 (by decide) (by omega) (by omega) (fun c16 => absurd c16 (by omega)) (fun c16 => ?_)
        refine v_aload_n dX5_pause_19 rfl ?_
        refine v_get (j := 21) iO40 rfl dX5_pause_20 (by decide) in_X5_pause_X5 fl_X5_pause_192 rfl ?_
        refine v_top h1.1.n ?_
        refine n_if_le (tgt := 59) dX5_pause_23 (by decide) (by omega) (fun c23 => absurd c23 (by omega)) (fun c23 => ?_)
        refine v_iload_n dX5_pause_26 rfl ?_
        refine n_if_lt (tgt := 47) dX5_pause_27 (by decide) (by have := amn_bd ha; omega) ?_
        refine v_aload_n dX5_pause_30 rfl ?_
        refine v_iload_n dX5_pause_31 rfl ?_
        refine v_iconst (x := 0) dX5_pause_32 rfl ?_
        refine v_iconst (x := 1) dX5_pause_33 rfl ?_
        refine v_callVi (M' := M_X5_seamOf) (As := [_, _, _]) iO40 (s_X5_seamOf_01 h1.1 hv hn (by omega)) dX5_pause_34 gX5_pause_X5_seamOf rfl rfl nn_X5_seamOf ⟨rfl, rfl⟩ ⟨by decide, by decide⟩ rfl rfl (Nat.le_of_ble_eq_true rfl) ?_
        refine v_top (by rw [sgV_sk ho hn (wWP _) (by omega)]) ?_
        refine v_aload_n dX5_pause_37 rfl ?_
        refine v_iload_n dX5_pause_38 rfl ?_
        refine v_iconst (x := 0) dX5_pause_39 rfl ?_
        refine v_iconst (x := 1) dX5_pause_40 rfl ?_
        refine v_callVi (M' := M_X5_seamOf) (As := [_, _, _]) iO40 (s_X5_seamOf_01 h1.1 hv hn (by have := amn_bd ha; omega)) dX5_pause_41 gX5_pause_X5_seamOf rfl rfl nn_X5_seamOf ⟨rfl, rfl⟩ ⟨by decide, by decide⟩ rfl rfl (Nat.le_of_ble_eq_true rfl) ?_
        refine v_top (by rw [sgV_sk ho hn (wWP _) (by have := amn_bd ha; omega)]) ?_
        refine n_icmp_ge (tgt := 51) dX5_pause_44 (by decide) (by have := skO_le ho (sgU (odW (aW s)) i &&& sgB (odW (aW s)) i); omega) (by have := skO_le ho (sgU (odW (aW s)) j &&& sgB (odW (aW s)) j); omega) (fun c44 => ?_) (fun c44 => ?_)
        · refine v_iload_n dX5_pause_51 rfl ?_
          rw [amn_ge rfl ha c44] at ih
          dsimp only [opI] at ih
          refine v_istore_n (L' := [(1, _), (0, _), (2, _)]) dX5_pause_52 rfl (by decide) rfl ?_
          refine n_iinc (n := 1) (L' := [(2, _), (1, _), (0, _)]) dX5_pause_53 rfl (by decide) rfl ?_
          refine v_goto (tgt := 9) dX5_pause_56 (by decide) ?_
          refine v_sub [2, 1, 0] rfl ?_
          exact ih
        · refine v_iload_n dX5_pause_47 rfl ?_
          refine v_goto (tgt := 52) dX5_pause_48 (by decide) ?_
          rw [amn_lt rfl ha c44] at ih
          dsimp only [opI] at ih
          refine v_istore_n (L' := [(1, _), (0, _), (2, _)]) dX5_pause_52 rfl (by decide) rfl ?_
          refine n_iinc (n := 1) (L' := [(2, _), (1, _), (0, _)]) dX5_pause_53 rfl (by decide) rfl ?_
          refine v_goto (tgt := 9) dX5_pause_56 (by decide) ?_
          refine v_sub [2, 1, 0] rfl ?_
          exact ih
    · by_cases h0 : (fr (odW (aW s)) 0).length = 0
      · rw [h0]
        refine v_iload_n dX5_pause_9 rfl ?_
        refine v_aload_n dX5_pause_10 rfl ?_
        refine v_get (j := 13) iO40 rfl dX5_pause_11 (by decide) in_X5_pause_X5 fl_X5_pause_186 rfl ?_
        refine v_top ((h1.1.m hv hn).trans (by rw [h0])) ?_
        refine v_iconst (x := 1) dX5_pause_14 rfl ?_
        refine v_isub dX5_pause_15 ?_
        refine v_top (y := -1) (by decide) ?_
        refine v_icmp_ge (tgt := 59) dX5_pause_16 (by decide) (fun c16 => ?_) (fun c16 => absurd (by decide) c16)
        refine v_iload_n dX5_pause_59 rfl ?_
        exact v_iret rfl dX5_pause_60 ⟨congrArg (fun z => some (Value.int z)) (by rw [q_pause, h0]), h1.2.rm hr, h1.2.fm⟩
      · refine v_iload_n dX5_pause_9 rfl ?_
        refine v_aload_n dX5_pause_10 rfl ?_
        refine v_get (j := 13) iO40 rfl dX5_pause_11 (by decide) in_X5_pause_X5 fl_X5_pause_186 rfl ?_
        refine v_top (h1.1.m hv hn) ?_
        refine v_iconst (x := nI 1) dX5_pause_14 (by decide +kernel) ?_
        refine n_isub dX5_pause_15 (by omega) ?_
        refine n_icmp_ge (tgt := 59) dX5_pause_16 (by decide) (by omega) (by omega) (fun c16 => ?_) (fun c16 => absurd c16 (by omega))
        refine v_iload_n dX5_pause_59 rfl ?_
        exact v_iret rfl dX5_pause_60 ⟨congrArg (fun z => some (Value.int z)) (rfl), h1.2.rm hr, h1.2.fm⟩
theorem FQ.skom {o : OD} {σ τ : SS} (f : FQ σ τ) (h : OM o σ) : OM o τ := f.om h
theorem OM.add {o : OD} {τ : SS} {k p : Nat} (hk : k < oS o) (h : OM o τ) : OM (oadd o k p) (sI τ 52 k (nI (oW o k ||| 2 ^ p))) := by
  refine ⟨h.1, h.2.1, fun j hj => ?_, h.2.2.2.1, h.2.2.2.2⟩
  have := h.2.2.1 j hj
  refine ⟨?_, this.2⟩
  show _ = nI (updN (oW o) k (oW o k ||| 2 ^ p) j)
  rw [updN]
  by_cases c : j = k
  · subst c; rw [if_pos rfl, sI_at]
  · rw [if_neg c, sI_ne _ _ (Or.inr c)]; exact this.1
theorem dif_or {a p : Nat} (h : a.testBit p = false) : dif (a ||| 2 ^ p) (2 ^ p) = a := Nat.eq_of_testBit_eq (fun i => by
  rw [tb_dif, tb_or2, tb_pow]
  by_cases c : p = i
  · subst c; simp [h]
  · simp [c])
theorem OM.back {o : OD} {τ : SS} {k p : Nat} (hk : k < oS o) (h : OM (oadd o k p) τ) : OM o (sI τ 52 k (nI (oW o k))) := by
  refine ⟨h.1, h.2.1, fun j hj => ?_, h.2.2.2.1, h.2.2.2.2⟩
  have := h.2.2.1 j hj
  refine ⟨?_, this.2⟩
  by_cases c : j = k
  · subst c; rw [sI_at]
  · rw [sI_ne _ _ (Or.inr c), this.1]
    show nI (updN (oW o) k (oW o k ||| 2 ^ p) j) = _
    rw [updN, if_neg c]
theorem OM.at {o : OD} {τ : SS} {k p : Nat} (hk : k < oS o) (h : OM (oadd o k p) τ) : τ.1 52 k = nI (oW o k ||| 2 ^ p) := by
  have := (h.2.2.1 k hk).1
  rw [this]
  show nI (updN (oW o) k (oW o k ||| 2 ^ p) k) = _
  rw [updN, if_pos rfl]
theorem smp_isP {w : WD} {p : Nat} (hp : p < 6) (h : 0 < smp w p 17) : isP w (nI p) = true := by
  rw [isP, isN_of hp (by decide), nI_clamp (by omega), Bool.true_and]
  cases e : (pbits w).testBit p with
  | true => rfl
  | false =>
    have : smp w p 17 = 0 := sm_zero.mpr (fun c hc => if_neg (fun q => by
      have : (pbits w).testBit p = true := om_bit.mpr ⟨c, hc, by rw [q, tb_pow]; simp⟩
      rw [this] at e; cases e))
    omega
set_option maxRecDepth 100000 in
set_option maxHeartbeats 4000000 in
theorem s_X5_next {v : EE} {s : AS} {z : Nat} {σ : SS} (hr : RM s σ) (hv : WV z (aW s)) (hz : z ≤ 1000000) : SR v M_X5_next [.ref (v.1 40)] σ (some (.int (q_next (aW s)))) (fun σ' => RM s σ' ∧ FM σ σ') := by
  refine Sp.of rfl (by decide) rfl (Nat.le_of_ble_eq_true rfl) ?_
  show V v M_X5_next _ 0 [(0, .ref (v.1 40))] [] σ
  refine v_aload_n dX5_next_0 rfl ?_
  refine v_callVRv (M' := M_X5_seeks) (As := []) iO40 (s_X5_seeks hr.2.1 hv hz) dX5_next_1 gX5_next_X5_seeks rfl rfl nn_X5_seeks ⟨rfl, rfl⟩ ⟨by decide, by decide⟩ rfl rfl (Nat.le_of_ble_eq_true rfl) (fun s1 h1 => ?_)
  have ho := ov_W hv
  have hb := TL_b ho (A := 0) (by decide)
  have hl := fr_len ho
  have hnB : nB (aW s) = (TL (odW (aW s)) 0).length := rfl
  refine v_aload_n dX5_next_4 rfl ?_
  refine v_get (j := 21) iO40 rfl dX5_next_5 (by decide) in_X5_next_X5 fl_X5_next_192 rfl ?_
  refine v_top h1.1.n ?_
  refine v_istore_n (L' := [(1, _), (0, _)]) dX5_next_8 rfl (by decide) rfl ?_
  refine v_bipush (x := (-4)) dX5_next_9 (by decide +kernel) ?_
  refine v_istore_n (L' := [(2, _), (1, _), (0, _)]) dX5_next_11 rfl (by decide) rfl ?_
  refine v_iconst (x := nI 0) dX5_next_12 (by decide +kernel) ?_
  refine v_istore_n (L' := [(3, _), (2, _), (1, _), (0, _)]) dX5_next_13 rfl (by decide) rfl ?_
  refine v_iconst (x := nI 0) dX5_next_14 (by decide +kernel) ?_
  refine v_istore (L' := [(4, _), (3, _), (2, _), (1, _), (0, _)]) dX5_next_15 (by decide) rfl ?_
  by_cases hp0 : nB (aW s) = 0
  · refine v_iload dX5_next_17 rfl ?_
    refine v_bipush (x := nI 6) dX5_next_19 (by decide +kernel) ?_
    refine n_icmp_ge (tgt := 173) dX5_next_21 (by decide) (by omega) (by omega) (fun c21 => absurd c21 (by omega)) (fun c21 => ?_)
    refine v_iload_n dX5_next_24 rfl ?_
    refine n_if_le (tgt := 173) dX5_next_25 (by decide) (by omega) (fun c25 => ?_) (fun c25 => absurd c25 (by omega))
    refine v_iload_n dX5_next_173 rfl ?_
    exact v_iret rfl dX5_next_174 ⟨congrArg (fun z => some (Value.int z)) (by rw [q_next, if_neg (by omega)]), h1.2.rm hr, h1.2.fm⟩
  · refine v_sub [4, 3, 2, 1, 0] rfl ?_
    refine loopN (fun i => ∀ τ : SS, (OM (odW (aW s)) τ ∧ FNo σ τ) → V v M_X5_next (zR v M_X5_next (fun r' σ' => r' = (some (.int (q_next (aW s)))) ∧ (RM s σ' ∧ FM σ σ'))) 17 [(0, .ref (v.1 40)), (1, .int (nI (nB (aW s)))), (2, .int (opI (amn (nxC (aW s)) (nxF (aW s)) i))), (3, .int (nI (opF (nxF (aW s)) (amn (nxC (aW s)) (nxF (aW s)) i)))), (4, .int (nI i))] [] τ) 6 ?_ ?_ _ ⟨h1.1.1, h1.2⟩
    · intro i hi ih τ hinv
      refine v_iload dX5_next_17 rfl ?_
      refine v_bipush (x := nI 6) dX5_next_19 (by decide +kernel) ?_
      refine n_icmp_ge (tgt := 173) dX5_next_21 (by decide) (by omega) (by omega) (fun c21 => absurd c21 (by omega)) (fun c21 => ?_)
      refine v_iload_n dX5_next_24 rfl ?_
      refine n_if_le (tgt := 173) dX5_next_25 (by decide) (by omega) (fun c25 => absurd c25 (by omega)) (fun c25 => ?_)
      refine v_aload_n dX5_next_28 rfl ?_
      refine v_iload dX5_next_29 rfl ?_
      refine v_callVi (M' := M_X5_isPart) (As := [_]) iO40 (s_X5_isPart (hinv.2.mh hr.2.1) hv _) dX5_next_31 gX5_next_X5_isPart rfl rfl nn_X5_isPart ⟨rfl, rfl⟩ ⟨by decide, by decide⟩ rfl rfl (Nat.le_of_ble_eq_true rfl) ?_
      refine b_if_eq (tgt := 167) dX5_next_34 (by decide) (fun c34 => ?_) (fun c34 => ?_)
      · rw [amn_no (by rw [nxC]; exact decide_eq_false (fun h => by rw [smp_isP hi h] at c34; cases c34))] at ih
        refine n_iinc (n := 1) (L' := [(4, _), (0, _), (1, _), (2, _), (3, _)]) dX5_next_167 rfl (by decide) rfl ?_
        refine v_goto (tgt := 17) dX5_next_170 (by decide) ?_
        refine v_sub [1, 2, 3, 4, 0] rfl ?_
        exact ih _ hinv
      · refine v_aload_n dX5_next_37 rfl ?_
        refine v_iload dX5_next_38 rfl ?_
        refine v_bipush (x := 99) dX5_next_40 (by decide +kernel) ?_
        refine v_callVi (M' := M_X5_inPart) (As := [_, _]) iO40 (s_X5_inPart (hinv.2.mh hr.2.1) hv hi (l := 17) (by decide) (by decide)) dX5_next_42 gX5_next_X5_inPart rfl rfl nn_X5_inPart ⟨rfl, rfl⟩ ⟨by decide, by decide⟩ rfl rfl (Nat.le_of_ble_eq_true rfl) ?_
        refine n_if_le (tgt := 167) dX5_next_45 (by decide) (by have := smp_le hv (p := i) (k := 17) (by decide); omega) (fun c45 => ?_) (fun c45 => ?_)
        · rw [amn_no (by rw [nxC]; exact decide_eq_false (by omega))] at ih
          refine n_iinc (n := 1) (L' := [(4, _), (0, _), (1, _), (2, _), (3, _)]) dX5_next_167 rfl (by decide) rfl ?_
          refine v_goto (tgt := 17) dX5_next_170 (by decide) ?_
          refine v_sub [1, 2, 3, 4, 0] rfl ?_
          exact ih _ hinv
        · have hC : nxC (aW s) i = true := decide_eq_true c45
          have ih0 := ih
          have hip := hi
          refine v_iconst (x := nI 0) dX5_next_48 (by decide +kernel) ?_
          refine v_istore (L' := [(5, _), (0, _), (1, _), (2, _), (3, _), (4, _)]) dX5_next_49 (by decide) rfl ?_
          refine v_iconst (x := nI 0) dX5_next_51 (by decide +kernel) ?_
          refine v_istore (L' := [(6, _), (5, _), (0, _), (1, _), (2, _), (3, _), (4, _)]) dX5_next_52 (by decide) rfl ?_
          refine v_sub [2, 3, 4, 5, 6, 1, 0] rfl ?_
          refine loopN (fun k => ∀ τ2 : SS, (OM (odW (aW s)) τ2 ∧ FNo σ τ2) → V v M_X5_next (zR v M_X5_next (fun r' σ' => r' = (some (.int (q_next (aW s)))) ∧ (RM s σ' ∧ FM σ σ'))) 54 [(0, .ref (v.1 40)), (1, .int (nI (nB (aW s)))), (2, .int (opI (amn (nxC (aW s)) (nxF (aW s)) i))), (3, .int (nI (opF (nxF (aW s)) (amn (nxC (aW s)) (nxF (aW s)) i)))), (4, .int (nI i)), (5, .int (nI (mwN (odW (aW s)) i k))), (6, .int (nI k))] [] τ2) (oS (odW (aW s))) ?_ ?_ _ hinv
          · intro k hi ih τ2 hin2
            have hS := ho.2.2.1
            have hW6 := (ho.2.2.2 k hi).1
            refine v_iload dX5_next_54 rfl ?_
            refine v_aload_n dX5_next_56 rfl ?_
            refine v_get (j := 15) iO40 rfl dX5_next_57 (by decide) in_X5_next_X5 fl_X5_next_189 rfl ?_
            refine v_top hin2.1.2.1 ?_
            refine n_icmp_ge (tgt := 138) dX5_next_60 (by decide) (by omega) (by omega) (fun c60 => absurd c60 (by omega)) (fun c60 => ?_)
            refine v_aload_n dX5_next_63 rfl ?_
            refine v_get (j := 16) iO40 rfl dX5_next_64 (by decide) in_X5_next_X5 fl_X5_next_44 rfl ?_
            refine v_iload dX5_next_67 rfl ?_
            refine v_ialdN k iI52 dX5_next_69 rfl (by omega) (by decide) ?_
            refine v_top (hin2.1.2.2.1 _ hi).1 ?_
            refine v_iload dX5_next_70 rfl ?_
            refine n_ishr dX5_next_72 (by omega) (by omega) ?_
            refine v_iconst (x := nI 1) dX5_next_73 (by decide +kernel) ?_
            refine n_and1 dX5_next_74 ?_
            refine n_if_ne (tgt := 132) dX5_next_75 (by decide) (by omega) (fun c75 => ?_) (fun c75 => ?_)
            · have e : mwN (odW (aW s)) i (k + 1) = mwN (odW (aW s)) i k := if_pos (by rw [tb_div]; simp; omega)
              rw [e] at ih
              refine n_iinc (n := 1) (L' := [(6, _), (0, _), (1, _), (2, _), (3, _), (4, _), (5, _)]) dX5_next_132 rfl (by decide) rfl ?_
              refine v_goto (tgt := 54) dX5_next_135 (by decide) ?_
              refine v_sub [1, 2, 3, 4, 5, 6, 0] rfl ?_
              first | exact ih _ ⟨(h3.2.om (hin2.1.add hi)).back hi, ((hin2.2.up (by decide) _ _).tr h3.2.fn).up (by decide) _ _⟩ | exact ih _ hin2
            · have hbf : (oW (odW (aW s)) k).testBit i = false := by rw [tb_div]; simp; omega
              have e : mwN (odW (aW s)) i (k + 1) = max (mwN (odW (aW s)) i k) (TL (oadd (odW (aW s)) k i) 0).length := if_neg (by rw [hbf]; decide)
              rw [e] at ih
              have ho2 := oadd_ov ho (k := k) hip
              have hT2 := TL_b ho2 (A := 0) (by decide)
              have hm2 := mwN_le ho hip k
              refine v_aload_n dX5_next_78 rfl ?_
              refine v_get (j := 16) iO40 rfl dX5_next_79 (by decide) in_X5_next_X5 fl_X5_next_44 rfl ?_
              refine v_iload dX5_next_82 rfl ?_
              refine v_dup2 dX5_next_84 rfl rfl ?_
              refine v_ialdN k iI52 dX5_next_85 rfl (by omega) (by decide) ?_
              refine v_top (hin2.1.2.2.1 _ hi).1 ?_
              refine v_iconst (x := nI 1) dX5_next_86 (by decide +kernel) ?_
              refine v_iload dX5_next_87 rfl ?_
              refine n_shl1 dX5_next_89 (by omega) ?_
              refine n_ior dX5_next_90 ?_
              refine v_iastN k iI52 dX5_next_91 rfl (by omega) (by decide) ?_
              refine v_aload_n dX5_next_92 rfl ?_
              refine v_callVRv (M' := M_X5_orders) (As := []) iO40 (s_X5_orders ho2 (hin2.1.add hi)) dX5_next_93 gX5_next_X5_orders rfl rfl nn_X5_orders ⟨rfl, rfl⟩ ⟨by decide, by decide⟩ rfl rfl (Nat.le_of_ble_eq_true rfl) (fun s3 h3 => ?_)
              refine v_aload_n dX5_next_96 rfl ?_
              refine v_get (j := 21) iO40 rfl dX5_next_97 (by decide) in_X5_next_X5 fl_X5_next_192 rfl ?_
              refine v_top h3.1.1 ?_
              refine v_iload dX5_next_100 rfl ?_
              refine n_icmp_le (tgt := 112) dX5_next_102 (by decide) (by omega) (by omega) (fun c102 => ?_) (fun c102 => ?_)
              · refine v_iload dX5_next_112 rfl ?_
                refine v_top (y := nI (max (mwN (odW (aW s)) i k) (TL (oadd (odW (aW s)) k i) 0).length)) (by rw [Nat.max_eq_left c102]) ?_
                refine v_istore (L' := [(5, _), (0, _), (1, _), (2, _), (3, _), (4, _), (6, _)]) dX5_next_114 (by decide) rfl ?_
                refine v_aload_n dX5_next_116 rfl ?_
                refine v_get (j := 16) iO40 rfl dX5_next_117 (by decide) in_X5_next_X5 fl_X5_next_44 rfl ?_
                refine v_iload dX5_next_120 rfl ?_
                refine v_dup2 dX5_next_122 rfl rfl ?_
                refine v_ialdN k iI52 dX5_next_123 rfl (by omega) (by decide) ?_
                refine v_top ((h3.2.om (hin2.1.add hi)).at hi) ?_
                refine v_iconst (x := nI 1) dX5_next_124 (by decide +kernel) ?_
                refine v_iload dX5_next_125 rfl ?_
                refine n_shl1 dX5_next_127 (by omega) ?_
                refine v_iconst (x := (-1)) dX5_next_128 rfl ?_
                refine v_ixor dX5_next_129 ?_
                refine n_dif dX5_next_130 ?_
                refine v_top (by rw [dif_or hbf]) ?_
                refine v_iastN k iI52 dX5_next_131 rfl (by omega) (by decide) ?_
                refine n_iinc (n := 1) (L' := [(6, _), (5, _), (0, _), (1, _), (2, _), (3, _), (4, _)]) dX5_next_132 rfl (by decide) rfl ?_
                refine v_goto (tgt := 54) dX5_next_135 (by decide) ?_
                refine v_sub [2, 3, 4, 5, 6, 1, 0] rfl ?_
                first | exact ih _ ⟨(h3.2.om (hin2.1.add hi)).back hi, ((hin2.2.up (by decide) _ _).tr h3.2.fn).up (by decide) _ _⟩ | exact ih _ hin2
              · refine v_aload_n dX5_next_105 rfl ?_
                refine v_get (j := 21) iO40 rfl dX5_next_106 (by decide) in_X5_next_X5 fl_X5_next_192 rfl ?_
                refine v_top h3.1.1 ?_
                refine v_goto (tgt := 114) dX5_next_109 (by decide) ?_
                refine v_top (y := nI (max (mwN (odW (aW s)) i k) (TL (oadd (odW (aW s)) k i) 0).length)) (by rw [Nat.max_eq_right (by omega)]) ?_
                refine v_istore (L' := [(5, _), (0, _), (1, _), (2, _), (3, _), (4, _), (6, _)]) dX5_next_114 (by decide) rfl ?_
                refine v_aload_n dX5_next_116 rfl ?_
                refine v_get (j := 16) iO40 rfl dX5_next_117 (by decide) in_X5_next_X5 fl_X5_next_44 rfl ?_
                refine v_iload dX5_next_120 rfl ?_
                refine v_dup2 dX5_next_122 rfl rfl ?_
                refine v_ialdN k iI52 dX5_next_123 rfl (by omega) (by decide) ?_
                refine v_top ((h3.2.om (hin2.1.add hi)).at hi) ?_
                refine v_iconst (x := nI 1) dX5_next_124 (by decide +kernel) ?_
                refine v_iload dX5_next_125 rfl ?_
                refine n_shl1 dX5_next_127 (by omega) ?_
                refine v_iconst (x := (-1)) dX5_next_128 rfl ?_
                refine v_ixor dX5_next_129 ?_
                refine n_dif dX5_next_130 ?_
                refine v_top (by rw [dif_or hbf]) ?_
                refine v_iastN k iI52 dX5_next_131 rfl (by omega) (by decide) ?_
                refine n_iinc (n := 1) (L' := [(6, _), (5, _), (0, _), (1, _), (2, _), (3, _), (4, _)]) dX5_next_132 rfl (by decide) rfl ?_
                refine v_goto (tgt := 54) dX5_next_135 (by decide) ?_
                refine v_sub [2, 3, 4, 5, 6, 1, 0] rfl ?_
                first | exact ih _ ⟨(h3.2.om (hin2.1.add hi)).back hi, ((hin2.2.up (by decide) _ _).tr h3.2.fn).up (by decide) _ _⟩ | exact ih _ hin2
          · intro τ2 hin2
            have hS := ho.2.2.1
            refine v_iload dX5_next_54 rfl ?_
            refine v_aload_n dX5_next_56 rfl ?_
            refine v_get (j := 15) iO40 rfl dX5_next_57 (by decide) in_X5_next_X5 fl_X5_next_189 rfl ?_
            refine v_top hin2.1.2.1 ?_
            refine n_icmp_ge (tgt := 138) dX5_next_60 (by decide) (by omega) (by omega) (fun c60 => ?_) (fun c60 => absurd c60 (by omega))
            refine v_iload dX5_next_138 rfl ?_
            refine n_if_ne (tgt := 147) dX5_next_140 (by decide) (by have := mwN_le ho hip (oS (odW (aW s))); omega) (fun c140 => ?_) (fun c140 => ?_)
            · refine v_iload dX5_next_147 rfl ?_
              rcases ha : (amn (nxC (aW s)) (nxF (aW s)) i) with _ | j
              · dsimp only [opI, opF]
                refine v_top (y := nI (nxF (aW s) i)) (by rw [nxF, mw, if_pos (by omega)]) ?_
                refine v_istore (L' := [(5, _), (0, _), (1, _), (2, _), (3, _), (4, _), (6, _)]) dX5_next_149 (by decide) rfl ?_
                refine v_iload_n dX5_next_151 rfl ?_
                refine v_if_lt (tgt := 161) dX5_next_152 (by decide) (fun c152 => ?_) (fun c152 => absurd (by decide) c152)
                refine v_iload dX5_next_161 rfl ?_
                refine v_istore_n (L' := [(2, _), (5, _), (0, _), (1, _), (3, _), (4, _), (6, _)]) dX5_next_163 rfl (by decide) rfl ?_
                refine v_iload dX5_next_164 rfl ?_
                refine v_istore_n (L' := [(3, _), (2, _), (5, _), (0, _), (1, _), (4, _), (6, _)]) dX5_next_166 rfl (by decide) rfl ?_
                rw [amn_n hC ha] at ih0
                dsimp only [opI, opF] at ih0
                refine n_iinc (n := 1) (L' := [(4, _), (3, _), (2, _), (5, _), (0, _), (1, _), (6, _)]) dX5_next_167 rfl (by decide) rfl ?_
                refine v_goto (tgt := 17) dX5_next_170 (by decide) ?_
                refine v_sub [4, 5, 2, 1, 0] rfl ?_
                exact ih0 _ hin2
              · dsimp only [opI, opF]
                refine v_top (y := nI (nxF (aW s) i)) (by rw [nxF, mw, if_pos (by omega)]) ?_
                refine v_istore (L' := [(5, _), (0, _), (1, _), (2, _), (3, _), (4, _), (6, _)]) dX5_next_149 (by decide) rfl ?_
                refine v_iload_n dX5_next_151 rfl ?_
                refine n_if_lt (tgt := 161) dX5_next_152 (by decide) (by have := amn_bd ha; omega) ?_
                refine v_iload dX5_next_155 rfl ?_
                refine v_iload_n dX5_next_157 rfl ?_
                refine n_icmp_ge (tgt := 167) dX5_next_158 (by decide) (by have := nxF_le hv hip; omega) (by have := nxF_le hv (p := j) (by have := amn_bd ha; omega); omega) (fun c158 => ?_) (fun c158 => ?_)
                · rw [amn_ge hC ha c158] at ih0
                  dsimp only [opI, opF] at ih0
                  refine n_iinc (n := 1) (L' := [(4, _), (5, _), (0, _), (1, _), (2, _), (3, _), (6, _)]) dX5_next_167 rfl (by decide) rfl ?_
                  refine v_goto (tgt := 17) dX5_next_170 (by decide) ?_
                  refine v_sub [2, 3, 4, 5, 0] rfl ?_
                  exact ih0 _ hin2
                · refine v_iload dX5_next_161 rfl ?_
                  refine v_istore_n (L' := [(2, _), (5, _), (0, _), (1, _), (3, _), (4, _), (6, _)]) dX5_next_163 rfl (by decide) rfl ?_
                  refine v_iload dX5_next_164 rfl ?_
                  refine v_istore_n (L' := [(3, _), (2, _), (5, _), (0, _), (1, _), (4, _), (6, _)]) dX5_next_166 rfl (by decide) rfl ?_
                  rw [amn_lt hC ha c158] at ih0
                  dsimp only [opI, opF] at ih0
                  refine n_iinc (n := 1) (L' := [(4, _), (3, _), (2, _), (5, _), (0, _), (1, _), (6, _)]) dX5_next_167 rfl (by decide) rfl ?_
                  refine v_goto (tgt := 17) dX5_next_170 (by decide) ?_
                  refine v_sub [4, 5, 2, 1, 0] rfl ?_
                  exact ih0 _ hin2
            · refine v_iload_n dX5_next_143 rfl ?_
              refine v_goto (tgt := 149) dX5_next_144 (by decide) ?_
              rcases ha : (amn (nxC (aW s)) (nxF (aW s)) i) with _ | j
              · dsimp only [opI, opF]
                refine v_top (y := nI (nxF (aW s) i)) (by rw [nxF, mw, if_neg (by omega)]) ?_
                refine v_istore (L' := [(5, _), (0, _), (1, _), (2, _), (3, _), (4, _), (6, _)]) dX5_next_149 (by decide) rfl ?_
                refine v_iload_n dX5_next_151 rfl ?_
                refine v_if_lt (tgt := 161) dX5_next_152 (by decide) (fun c152 => ?_) (fun c152 => absurd (by decide) c152)
                refine v_iload dX5_next_161 rfl ?_
                refine v_istore_n (L' := [(2, _), (5, _), (0, _), (1, _), (3, _), (4, _), (6, _)]) dX5_next_163 rfl (by decide) rfl ?_
                refine v_iload dX5_next_164 rfl ?_
                refine v_istore_n (L' := [(3, _), (2, _), (5, _), (0, _), (1, _), (4, _), (6, _)]) dX5_next_166 rfl (by decide) rfl ?_
                rw [amn_n hC ha] at ih0
                dsimp only [opI, opF] at ih0
                refine n_iinc (n := 1) (L' := [(4, _), (3, _), (2, _), (5, _), (0, _), (1, _), (6, _)]) dX5_next_167 rfl (by decide) rfl ?_
                refine v_goto (tgt := 17) dX5_next_170 (by decide) ?_
                refine v_sub [4, 5, 2, 1, 0] rfl ?_
                exact ih0 _ hin2
              · dsimp only [opI, opF]
                refine v_top (y := nI (nxF (aW s) i)) (by rw [nxF, mw, if_neg (by omega)]) ?_
                refine v_istore (L' := [(5, _), (0, _), (1, _), (2, _), (3, _), (4, _), (6, _)]) dX5_next_149 (by decide) rfl ?_
                refine v_iload_n dX5_next_151 rfl ?_
                refine n_if_lt (tgt := 161) dX5_next_152 (by decide) (by have := amn_bd ha; omega) ?_
                refine v_iload dX5_next_155 rfl ?_
                refine v_iload_n dX5_next_157 rfl ?_
                refine n_icmp_ge (tgt := 167) dX5_next_158 (by decide) (by have := nxF_le hv hip; omega) (by have := nxF_le hv (p := j) (by have := amn_bd ha; omega); omega) (fun c158 => ?_) (fun c158 => ?_)
                · rw [amn_ge hC ha c158] at ih0
                  dsimp only [opI, opF] at ih0
                  refine n_iinc (n := 1) (L' := [(4, _), (5, _), (0, _), (1, _), (2, _), (3, _), (6, _)]) dX5_next_167 rfl (by decide) rfl ?_
                  refine v_goto (tgt := 17) dX5_next_170 (by decide) ?_
                  refine v_sub [2, 3, 4, 5, 0] rfl ?_
                  exact ih0 _ hin2
                · refine v_iload dX5_next_161 rfl ?_
                  refine v_istore_n (L' := [(2, _), (5, _), (0, _), (1, _), (3, _), (4, _), (6, _)]) dX5_next_163 rfl (by decide) rfl ?_
                  refine v_iload dX5_next_164 rfl ?_
                  refine v_istore_n (L' := [(3, _), (2, _), (5, _), (0, _), (1, _), (4, _), (6, _)]) dX5_next_166 rfl (by decide) rfl ?_
                  rw [amn_lt hC ha c158] at ih0
                  dsimp only [opI, opF] at ih0
                  refine n_iinc (n := 1) (L' := [(4, _), (3, _), (2, _), (5, _), (0, _), (1, _), (6, _)]) dX5_next_167 rfl (by decide) rfl ?_
                  refine v_goto (tgt := 17) dX5_next_170 (by decide) ?_
                  refine v_sub [4, 5, 2, 1, 0] rfl ?_
                  exact ih0 _ hin2
    · intro τ hinv
      refine v_iload dX5_next_17 rfl ?_
      refine v_bipush (x := nI 6) dX5_next_19 (by decide +kernel) ?_
      refine n_icmp_ge (tgt := 173) dX5_next_21 (by decide) (by omega) (by omega) (fun c21 => ?_) (fun c21 => absurd c21 (by omega))
      refine v_iload_n dX5_next_173 rfl ?_
      exact v_iret rfl dX5_next_174 ⟨congrArg (fun z => some (Value.int z)) (by rw [q_next, if_pos (by omega)]), hinv.2.rm hr, hinv.2.fm⟩
