theorem in_X4_named_X4 : ∀ w ∈ u_ws RX4 TX4 8, w ∈ mWs M_X4_named := by decide +kernel
theorem in_X4_odds_X4 : ∀ w ∈ u_ws RX4 TX4 8, w ∈ mWs M_X4_odds := by decide +kernel
theorem in_X4_partings_X4 : ∀ w ∈ u_ws RX4 TX4 8, w ∈ mWs M_X4_partings := by decide +kernel
theorem fl_X4_named_19 : Cond.fieldLink (mOwn M_X4_named) 19 (TX4 1).1 (TX4 1).2.1 (TX4 1).2.2.1 ∈ mWs M_X4_named := by decide +kernel
theorem fl_X4_named_42 : Cond.fieldLink (mOwn M_X4_named) 42 (TX4 5).1 (TX4 5).2.1 (TX4 5).2.2.1 ∈ mWs M_X4_named := by decide +kernel
theorem fl_X4_odds_19 : Cond.fieldLink (mOwn M_X4_odds) 19 (TX4 1).1 (TX4 1).2.1 (TX4 1).2.2.1 ∈ mWs M_X4_odds := by decide +kernel
theorem fl_X4_odds_42 : Cond.fieldLink (mOwn M_X4_odds) 42 (TX4 5).1 (TX4 5).2.1 (TX4 5).2.2.1 ∈ mWs M_X4_odds := by decide +kernel
theorem fl_X4_partings_19 : Cond.fieldLink (mOwn M_X4_partings) 19 (TX4 1).1 (TX4 1).2.1 (TX4 1).2.2.1 ∈ mWs M_X4_partings := by decide +kernel
theorem fl_X4_partings_42 : Cond.fieldLink (mOwn M_X4_partings) 42 (TX4 5).1 (TX4 5).2.1 (TX4 5).2.2.1 ∈ mWs M_X4_partings := by decide +kernel
theorem nn_X1_allWays : (mY M_X1_allWays).cls = mOwn M_X1_allWays ∧ (mY M_X1_allWays).cls ≠ "java/lang/invoke/MethodHandle" ∧ (mY M_X1_allWays).cls ≠ "java/lang/invoke/VarHandle" ∧ (parseMethodDescriptor (mY M_X1_allWays).desc).map (fun d => d.parameters.length) = some 0 := by decide +kernel
theorem nn_X1_callOver : (mY M_X1_callOver).cls = mOwn M_X1_callOver ∧ (mY M_X1_callOver).cls ≠ "java/lang/invoke/MethodHandle" ∧ (mY M_X1_callOver).cls ≠ "java/lang/invoke/VarHandle" ∧ (parseMethodDescriptor (mY M_X1_callOver).desc).map (fun d => d.parameters.length) = some 1 := by decide +kernel
theorem nn_X1_listOwners : (mY M_X1_listOwners).cls = mOwn M_X1_listOwners ∧ (mY M_X1_listOwners).cls ≠ "java/lang/invoke/MethodHandle" ∧ (mY M_X1_listOwners).cls ≠ "java/lang/invoke/VarHandle" ∧ (parseMethodDescriptor (mY M_X1_listOwners).desc).map (fun d => d.parameters.length) = some 0 := by decide +kernel
theorem nn_X1_onlyOwner : (mY M_X1_onlyOwner).cls = mOwn M_X1_onlyOwner ∧ (mY M_X1_onlyOwner).cls ≠ "java/lang/invoke/MethodHandle" ∧ (mY M_X1_onlyOwner).cls ≠ "java/lang/invoke/VarHandle" ∧ (parseMethodDescriptor (mY M_X1_onlyOwner).desc).map (fun d => d.parameters.length) = some 1 := by decide +kernel
theorem nn_X1_signsWithOneOwner : (mY M_X1_signsWithOneOwner).cls = mOwn M_X1_signsWithOneOwner ∧ (mY M_X1_signsWithOneOwner).cls ≠ "java/lang/invoke/MethodHandle" ∧ (mY M_X1_signsWithOneOwner).cls ≠ "java/lang/invoke/VarHandle" ∧ (parseMethodDescriptor (mY M_X1_signsWithOneOwner).desc).map (fun d => d.parameters.length) = some 0 := by decide +kernel
theorem nn_X1_waysTogether : (mY M_X1_waysTogether).cls = mOwn M_X1_waysTogether ∧ (mY M_X1_waysTogether).cls ≠ "java/lang/invoke/MethodHandle" ∧ (mY M_X1_waysTogether).cls ≠ "java/lang/invoke/VarHandle" ∧ (parseMethodDescriptor (mY M_X1_waysTogether).desc).map (fun d => d.parameters.length) = some 2 := by decide +kernel
theorem sw2 (x : Int32) : x = 0 ∨ x = 1 ∨ isN x 2 = false := by
  cases h : isN x 2 with
  | false => exact Or.inr (Or.inr rfl)
  | true =>
    obtain ⟨j, hj, rfl⟩ := sw_of (by decide) h
    rcases (by omega : j = 0 ∨ j = 1) with rfl | rfl
    · exact Or.inl rfl
    · exact Or.inr (Or.inl rfl)
def q_partings (w : WD) : Int64 := lN (allW w)
def q_odds (w : WD) (m k part : Int32) : Int64 := if isN m (wN w) = true ∧ isN k (wS w) = true ∧ isN part 2 = true then (if allW w = 0 ∨ sh w k.toNatClampNeg = false then -2 else lN ((if part = 0 then TW w k.toNatClampNeg m.toNatClampNeg else allW w) / Nat.gcd (TW w k.toNatClampNeg m.toNatClampNeg) (allW w))) else -1
def q_named (w : WD) (k : Int32) : Int32 := if k = -1 ∨ isN k (wS w) = true then (if allW w = 0 then -2 else if k = -1 then nI (sm (oneF w) (nSh w)) else nmI w k.toNatClampNeg) else -1
set_option maxRecDepth 100000 in
set_option maxHeartbeats 4000000 in
theorem s_X4_partings {v : EE} {s : AS} {z : Nat} {σ : SS} (hr : RC s σ) (hv : WV z (aW s)) (hz : z ≤ 1000000) : SR v M_X4_partings [.ref (v.1 0)] σ (some (.long (q_partings (aW s)))) (fun σ' => RC s σ' ∧ FC σ σ') := by
  refine Sp.of rfl (by decide) rfl (Nat.le_of_ble_eq_true rfl) ?_
  show V v M_X4_partings _ 0 [(0, .ref (v.1 0))] [] σ
  have hla := hr.la
  have hw := hr.ch
  refine v_aload_n dX4_partings_0 rfl ?_
  refine v_get (j := 1) iO0 rfl dX4_partings_1 (by decide) in_X4_partings_X4 fl_X4_partings_19 rfl ?_
  refine v_aload_n dX4_partings_4 rfl ?_
  refine v_get (j := 5) iO0 rfl dX4_partings_5 (by decide) in_X4_partings_X4 fl_X4_partings_42 rfl ?_
  refine v_callVRv (M' := M_X1_callOver) (As := [_]) iO4 (s_X1_callOver hla hw hv hz) dX4_partings_8 gX4_partings_X1_callOver rfl rfl nn_X1_callOver ⟨rfl, rfl⟩ ⟨by decide, by decide⟩ rfl rfl (Nat.le_of_ble_eq_true rfl) (fun s1 h1 => ?_)
  have hr1 := h1.2.rc hr
  have hla := hr1.la
  have hw := hr1.ch
  have hF := h1.2.fc
  have hal := allW_le hv
  refine v_aload_n dX4_partings_11 rfl ?_
  refine v_get (j := 1) iO0 rfl dX4_partings_12 (by decide) in_X4_partings_X4 fl_X4_partings_19 rfl ?_
  refine v_callVl (M' := M_X1_allWays) (As := []) iO4 (s_X1_allWays hv h1.1) dX4_partings_15 gX4_partings_X1_allWays rfl rfl nn_X1_allWays ⟨rfl, rfl⟩ ⟨by decide, by decide⟩ rfl rfl (Nat.le_of_ble_eq_true rfl) ?_
  exact v_lret rfl dX4_partings_18 ⟨congrArg (fun z => some (Value.long z)) (rfl), hr1, hF⟩
set_option maxRecDepth 100000 in
set_option maxHeartbeats 4000000 in
theorem s_X4_odds {v : EE} {s : AS} {z : Nat} {σ : SS} (hr : RC s σ) (hv : WV z (aW s)) (hz : z ≤ 1000000) (m k part : Int32) : SR v M_X4_odds [.ref (v.1 0), .int m, .int k, .int part] σ (some (.long (q_odds (aW s) m k part))) (fun σ' => RC s σ' ∧ FC σ σ') := by
  refine Sp.of rfl (by decide) rfl (Nat.le_of_ble_eq_true rfl) ?_
  show V v M_X4_odds _ 0 [(0, .ref (v.1 0)), (1, .int m), (2, .int k), (3, .int part)] [] σ
  have hla := hr.la
  have hw := hr.ch
  refine v_aload_n dX4_odds_0 rfl ?_
  refine v_get (j := 5) iO0 rfl dX4_odds_1 (by decide) in_X4_odds_X4 fl_X4_odds_42 rfl ?_
  refine v_iload_n dX4_odds_4 rfl ?_
  refine v_callVi (M' := M_X3_hasName) (As := [_]) (iWO hla) (s_X3_hasName hla hw hv _) dX4_odds_5 gX4_odds_X3_hasName rfl rfl nn_X3_hasName ⟨rfl, rfl⟩ ⟨by decide, by decide⟩ rfl rfl (Nat.le_of_ble_eq_true rfl) ?_
  refine b_if_eq (tgt := 31) dX4_odds_8 (by decide) (fun c8 => ?_) (fun c8 => ?_)
  · refine v_ldc2 (x := (-1)) (by decide +kernel) dX4_odds_31 ?_
    exact v_lret rfl dX4_odds_34 ⟨congrArg (fun z => some (Value.long z)) (by rw [q_odds, if_neg (fun h => by rw [c8] at h; exact absurd h.1 (by decide))]), hr, FC.rf σ⟩
  · refine v_aload_n dX4_odds_11 rfl ?_
    refine v_get (j := 5) iO0 rfl dX4_odds_12 (by decide) in_X4_odds_X4 fl_X4_odds_42 rfl ?_
    refine v_iload_n dX4_odds_15 rfl ?_
    refine v_callVi (M' := M_X3_hasSign) (As := [_]) (iWO hla) (s_X3_hasSign hla hw hv _) dX4_odds_16 gX4_odds_X3_hasSign rfl rfl nn_X3_hasSign ⟨rfl, rfl⟩ ⟨by decide, by decide⟩ rfl rfl (Nat.le_of_ble_eq_true rfl) ?_
    refine b_if_eq (tgt := 31) dX4_odds_19 (by decide) (fun c19 => ?_) (fun c19 => ?_)
    · refine v_ldc2 (x := (-1)) (by decide +kernel) dX4_odds_31 ?_
      exact v_lret rfl dX4_odds_34 ⟨congrArg (fun z => some (Value.long z)) (by rw [q_odds, if_neg (fun h => by rw [c19] at h; exact absurd h.2.1 (by decide))]), hr, FC.rf σ⟩
    · rcases sw2 part with rfl | rfl | hsw
      · have hwh : isN 0 2 = true := by decide
        obtain ⟨M, hM, hM2, rfl⟩ := isN_nI c8
        obtain ⟨K, hK, hK2, rfl⟩ := isN_nI c19
        have hS := wv_S hv
        refine v_iload_n dX4_odds_22 rfl ?_
        refine v_if_lt (tgt := 31) dX4_odds_23 (by decide) (fun c23 => absurd c23 (by decide)) (fun c23 => ?_)
        refine v_iload_n dX4_odds_26 rfl ?_
        refine v_iconst (x := 1) dX4_odds_27 rfl ?_
        refine v_icmp_le (tgt := 35) dX4_odds_28 (by decide) (fun c28 => ?_) (fun c28 => absurd (by decide) c28)
        refine v_aload_n dX4_odds_35 rfl ?_
        refine v_get (j := 1) iO0 rfl dX4_odds_36 (by decide) in_X4_odds_X4 fl_X4_odds_19 rfl ?_
        refine v_aload_n dX4_odds_39 rfl ?_
        refine v_get (j := 5) iO0 rfl dX4_odds_40 (by decide) in_X4_odds_X4 fl_X4_odds_42 rfl ?_
        refine v_callVRv (M' := M_X1_callOver) (As := [_]) iO4 (s_X1_callOver hla hw hv hz) dX4_odds_43 gX4_odds_X1_callOver rfl rfl nn_X1_callOver ⟨rfl, rfl⟩ ⟨by decide, by decide⟩ rfl rfl (Nat.le_of_ble_eq_true rfl) (fun s1 h1 => ?_)
        have hr1 := h1.2.rc hr
        have hla := hr1.la
        have hw := hr1.ch
        have hF := h1.2.fc
        have hal := allW_le hv
        refine v_aload_n dX4_odds_46 rfl ?_
        refine v_get (j := 1) iO0 rfl dX4_odds_47 (by decide) in_X4_odds_X4 fl_X4_odds_19 rfl ?_
        refine v_callVl (M' := M_X1_allWays) (As := []) iO4 (s_X1_allWays hv h1.1) dX4_odds_50 gX4_odds_X1_allWays rfl rfl nn_X1_allWays ⟨rfl, rfl⟩ ⟨by decide, by decide⟩ rfl rfl (Nat.le_of_ble_eq_true rfl) ?_
        refine v_lconst (x := 0) dX4_odds_53 rfl ?_
        refine v_lcmp dX4_odds_54 ?_
        refine v_if_eq (tgt := 69) dX4_odds_55 (by decide) (fun c55 => ?_) (fun c55 => ?_)
        · refine v_ldc2 (x := (-2)) (by decide +kernel) dX4_odds_69 ?_
          exact v_lret rfl dX4_odds_72 ⟨congrArg (fun z => some (Value.long z)) (by rw [q_odds, if_pos ⟨c8, c19, hwh⟩, nI_clamp (by omega), nI_clamp (by omega), if_pos (Or.inl ((lN0 (by omega)).mp c55))]), hr1, hF⟩
        · have hne : allW (aW s) ≠ 0 := fun e => c55 ((lN0 (by omega)).mpr e)
          refine v_aload_n dX4_odds_58 rfl ?_
          refine v_get (j := 1) iO0 rfl dX4_odds_59 (by decide) in_X4_odds_X4 fl_X4_odds_19 rfl ?_
          refine v_iload_n dX4_odds_62 rfl ?_
          refine v_callVi (M' := M_X1_isShown) (As := [_]) iO4 (s_X1_isShown hv h1.1 (by omega)) dX4_odds_63 gX4_odds_X1_isShown rfl rfl nn_X1_isShown ⟨rfl, rfl⟩ ⟨by decide, by decide⟩ rfl rfl (Nat.le_of_ble_eq_true rfl) ?_
          refine b_if_ne (tgt := 73) dX4_odds_66 (by decide) (fun c66 => ?_) (fun c66 => ?_)
          · refine v_aload_n dX4_odds_73 rfl ?_
            refine v_get (j := 1) iO0 rfl dX4_odds_74 (by decide) in_X4_odds_X4 fl_X4_odds_19 rfl ?_
            refine v_iload_n dX4_odds_77 rfl ?_
            refine v_iload_n dX4_odds_78 rfl ?_
            refine v_callVl (M' := M_X1_waysTogether) (As := [_, _]) iO4 (s_X1_waysTogether hv h1.1 (by omega) c66 hM) dX4_odds_79 gX4_odds_X1_waysTogether rfl rfl nn_X1_waysTogether ⟨rfl, rfl⟩ ⟨by decide, by decide⟩ rfl rfl (Nat.le_of_ble_eq_true rfl) ?_
            refine v_aload_n dX4_odds_82 rfl ?_
            refine v_get (j := 1) iO0 rfl dX4_odds_83 (by decide) in_X4_odds_X4 fl_X4_odds_19 rfl ?_
            refine v_callVl (M' := M_X1_allWays) (As := []) iO4 (s_X1_allWays hv h1.1) dX4_odds_86 gX4_odds_X1_allWays rfl rfl nn_X1_allWays ⟨rfl, rfl⟩ ⟨by decide, by decide⟩ rfl rfl (Nat.le_of_ble_eq_true rfl) ?_
            refine v_iload_n dX4_odds_89 rfl ?_
            refine v_callSl (M' := M_X4_lowest) (As := [_, _, _]) (s_X4_lowest (a := TW (aW s) K M) (b := allW (aW s)) (p := 0) (by have := TW_le hv (show K < 16 by omega) c66 hM; omega) (by omega) (by omega) (by decide)) dX4_odds_90 gX4_odds_X4_lowest rfl nn_X4_lowest ⟨rfl, rfl⟩ ⟨by decide, by decide⟩ rfl rfl (Nat.le_of_ble_eq_true rfl) ?_
            refine v_topl (congrArg (fun x => lN (x / Nat.gcd (TW (aW s) K M) (allW (aW s)))) (if_pos rfl)) ?_
            exact v_lret rfl dX4_odds_93 ⟨congrArg (fun z => some (Value.long z)) (by rw [q_odds, if_pos ⟨c8, c19, hwh⟩, nI_clamp (by omega), nI_clamp (by omega), if_neg (fun h => h.elim hne (fun q => by rw [c66] at q; cases q)), if_pos rfl]), hr1, hF⟩
          · refine v_ldc2 (x := (-2)) (by decide +kernel) dX4_odds_69 ?_
            exact v_lret rfl dX4_odds_72 ⟨congrArg (fun z => some (Value.long z)) (by rw [q_odds, if_pos ⟨c8, c19, hwh⟩, nI_clamp (by omega), nI_clamp (by omega), if_pos (Or.inr c66)]), hr1, hF⟩
      · have hwh : isN 1 2 = true := by decide
        obtain ⟨M, hM, hM2, rfl⟩ := isN_nI c8
        obtain ⟨K, hK, hK2, rfl⟩ := isN_nI c19
        have hS := wv_S hv
        refine v_iload_n dX4_odds_22 rfl ?_
        refine v_if_lt (tgt := 31) dX4_odds_23 (by decide) (fun c23 => absurd c23 (by decide)) (fun c23 => ?_)
        refine v_iload_n dX4_odds_26 rfl ?_
        refine v_iconst (x := 1) dX4_odds_27 rfl ?_
        refine v_icmp_le (tgt := 35) dX4_odds_28 (by decide) (fun c28 => ?_) (fun c28 => absurd (by decide) c28)
        refine v_aload_n dX4_odds_35 rfl ?_
        refine v_get (j := 1) iO0 rfl dX4_odds_36 (by decide) in_X4_odds_X4 fl_X4_odds_19 rfl ?_
        refine v_aload_n dX4_odds_39 rfl ?_
        refine v_get (j := 5) iO0 rfl dX4_odds_40 (by decide) in_X4_odds_X4 fl_X4_odds_42 rfl ?_
        refine v_callVRv (M' := M_X1_callOver) (As := [_]) iO4 (s_X1_callOver hla hw hv hz) dX4_odds_43 gX4_odds_X1_callOver rfl rfl nn_X1_callOver ⟨rfl, rfl⟩ ⟨by decide, by decide⟩ rfl rfl (Nat.le_of_ble_eq_true rfl) (fun s1 h1 => ?_)
        have hr1 := h1.2.rc hr
        have hla := hr1.la
        have hw := hr1.ch
        have hF := h1.2.fc
        have hal := allW_le hv
        refine v_aload_n dX4_odds_46 rfl ?_
        refine v_get (j := 1) iO0 rfl dX4_odds_47 (by decide) in_X4_odds_X4 fl_X4_odds_19 rfl ?_
        refine v_callVl (M' := M_X1_allWays) (As := []) iO4 (s_X1_allWays hv h1.1) dX4_odds_50 gX4_odds_X1_allWays rfl rfl nn_X1_allWays ⟨rfl, rfl⟩ ⟨by decide, by decide⟩ rfl rfl (Nat.le_of_ble_eq_true rfl) ?_
        refine v_lconst (x := 0) dX4_odds_53 rfl ?_
        refine v_lcmp dX4_odds_54 ?_
        refine v_if_eq (tgt := 69) dX4_odds_55 (by decide) (fun c55 => ?_) (fun c55 => ?_)
        · refine v_ldc2 (x := (-2)) (by decide +kernel) dX4_odds_69 ?_
          exact v_lret rfl dX4_odds_72 ⟨congrArg (fun z => some (Value.long z)) (by rw [q_odds, if_pos ⟨c8, c19, hwh⟩, nI_clamp (by omega), nI_clamp (by omega), if_pos (Or.inl ((lN0 (by omega)).mp c55))]), hr1, hF⟩
        · have hne : allW (aW s) ≠ 0 := fun e => c55 ((lN0 (by omega)).mpr e)
          refine v_aload_n dX4_odds_58 rfl ?_
          refine v_get (j := 1) iO0 rfl dX4_odds_59 (by decide) in_X4_odds_X4 fl_X4_odds_19 rfl ?_
          refine v_iload_n dX4_odds_62 rfl ?_
          refine v_callVi (M' := M_X1_isShown) (As := [_]) iO4 (s_X1_isShown hv h1.1 (by omega)) dX4_odds_63 gX4_odds_X1_isShown rfl rfl nn_X1_isShown ⟨rfl, rfl⟩ ⟨by decide, by decide⟩ rfl rfl (Nat.le_of_ble_eq_true rfl) ?_
          refine b_if_ne (tgt := 73) dX4_odds_66 (by decide) (fun c66 => ?_) (fun c66 => ?_)
          · refine v_aload_n dX4_odds_73 rfl ?_
            refine v_get (j := 1) iO0 rfl dX4_odds_74 (by decide) in_X4_odds_X4 fl_X4_odds_19 rfl ?_
            refine v_iload_n dX4_odds_77 rfl ?_
            refine v_iload_n dX4_odds_78 rfl ?_
            refine v_callVl (M' := M_X1_waysTogether) (As := [_, _]) iO4 (s_X1_waysTogether hv h1.1 (by omega) c66 hM) dX4_odds_79 gX4_odds_X1_waysTogether rfl rfl nn_X1_waysTogether ⟨rfl, rfl⟩ ⟨by decide, by decide⟩ rfl rfl (Nat.le_of_ble_eq_true rfl) ?_
            refine v_aload_n dX4_odds_82 rfl ?_
            refine v_get (j := 1) iO0 rfl dX4_odds_83 (by decide) in_X4_odds_X4 fl_X4_odds_19 rfl ?_
            refine v_callVl (M' := M_X1_allWays) (As := []) iO4 (s_X1_allWays hv h1.1) dX4_odds_86 gX4_odds_X1_allWays rfl rfl nn_X1_allWays ⟨rfl, rfl⟩ ⟨by decide, by decide⟩ rfl rfl (Nat.le_of_ble_eq_true rfl) ?_
            refine v_iload_n dX4_odds_89 rfl ?_
            refine v_callSl (M' := M_X4_lowest) (As := [_, _, _]) (s_X4_lowest (a := TW (aW s) K M) (b := allW (aW s)) (p := 1) (by have := TW_le hv (show K < 16 by omega) c66 hM; omega) (by omega) (by omega) (by decide)) dX4_odds_90 gX4_odds_X4_lowest rfl nn_X4_lowest ⟨rfl, rfl⟩ ⟨by decide, by decide⟩ rfl rfl (Nat.le_of_ble_eq_true rfl) ?_
            refine v_topl (congrArg (fun x => lN (x / Nat.gcd (TW (aW s) K M) (allW (aW s)))) (if_neg (by decide))) ?_
            exact v_lret rfl dX4_odds_93 ⟨congrArg (fun z => some (Value.long z)) (by rw [q_odds, if_pos ⟨c8, c19, hwh⟩, nI_clamp (by omega), nI_clamp (by omega), if_neg (fun h => h.elim hne (fun q => by rw [c66] at q; cases q)), if_neg (by decide)]), hr1, hF⟩
          · refine v_ldc2 (x := (-2)) (by decide +kernel) dX4_odds_69 ?_
            exact v_lret rfl dX4_odds_72 ⟨congrArg (fun z => some (Value.long z)) (by rw [q_odds, if_pos ⟨c8, c19, hwh⟩, nI_clamp (by omega), nI_clamp (by omega), if_pos (Or.inr c66)]), hr1, hF⟩
      · refine v_iload_n dX4_odds_22 rfl ?_
        refine v_if_lt (tgt := 31) dX4_odds_23 (by decide) (fun c23 => ?_) (fun c23 => ?_)
        · refine v_ldc2 (x := (-1)) (by decide +kernel) dX4_odds_31 ?_
          exact v_lret rfl dX4_odds_34 ⟨congrArg (fun z => some (Value.long z)) (by rw [q_odds, if_neg (fun h => by exact absurd h.2.2 (by rw [hsw]; decide))]), hr, FC.rf σ⟩
        · refine v_iload_n dX4_odds_26 rfl ?_
          refine v_iconst (x := 1) dX4_odds_27 rfl ?_
          refine v_icmp_le (tgt := 35) dX4_odds_28 (by decide) (fun c28 => absurd c28 (fun q => by have h9 := isN_in (n := 2) (by decide) c23 (fun q2 => by rw [Int32.le_iff_toInt_le] at q q2; rw [show (1 : Int32).toInt = 1 by decide] at q; rw [nI_toInt (by decide)] at q2; omega); rw [hsw] at h9; cases h9)) (fun c28 => ?_)
          refine v_ldc2 (x := (-1)) (by decide +kernel) dX4_odds_31 ?_
          exact v_lret rfl dX4_odds_34 ⟨congrArg (fun z => some (Value.long z)) (by rw [q_odds, if_neg (fun h => by exact absurd h.2.2 (by rw [hsw]; decide))]), hr, FC.rf σ⟩
theorem m1_nN {n : Nat} : isN (-1) n = false := isN_lt0 (by decide)
set_option maxRecDepth 100000 in
set_option maxHeartbeats 4000000 in
theorem s_X4_named {v : EE} {s : AS} {z : Nat} {σ : SS} (hr : RC s σ) (hv : WV z (aW s)) (hz : z ≤ 1000000) (k : Int32) : SR v M_X4_named [.ref (v.1 0), .int k] σ (some (.int (q_named (aW s) k))) (fun σ' => RC s σ' ∧ FC σ σ') := by
  refine Sp.of rfl (by decide) rfl (Nat.le_of_ble_eq_true rfl) ?_
  show V v M_X4_named _ 0 [(0, .ref (v.1 0)), (1, .int k)] [] σ
  have hla := hr.la
  have hw := hr.ch
  refine v_iload_n dX4_named_0 rfl ?_
  refine v_iconst (x := (-1)) dX4_named_1 rfl ?_
  refine v_icmp_eq (tgt := 18) dX4_named_2 (by decide) (fun c2 => ?_) (fun c2 => ?_)
  · have hm := c2
    refine v_aload_n dX4_named_18 rfl ?_
    refine v_get (j := 1) iO0 rfl dX4_named_19 (by decide) in_X4_named_X4 fl_X4_named_19 rfl ?_
    refine v_aload_n dX4_named_22 rfl ?_
    refine v_get (j := 5) iO0 rfl dX4_named_23 (by decide) in_X4_named_X4 fl_X4_named_42 rfl ?_
    refine v_callVRv (M' := M_X1_callOver) (As := [_]) iO4 (s_X1_callOver hla hw hv hz) dX4_named_26 gX4_named_X1_callOver rfl rfl nn_X1_callOver ⟨rfl, rfl⟩ ⟨by decide, by decide⟩ rfl rfl (Nat.le_of_ble_eq_true rfl) (fun s1 h1 => ?_)
    have hr1 := h1.2.rc hr
    have hla := hr1.la
    have hw := hr1.ch
    have hF := h1.2.fc
    have hal := allW_le hv
    refine v_aload_n dX4_named_29 rfl ?_
    refine v_get (j := 1) iO0 rfl dX4_named_30 (by decide) in_X4_named_X4 fl_X4_named_19 rfl ?_
    refine v_callVl (M' := M_X1_allWays) (As := []) iO4 (s_X1_allWays hv h1.1) dX4_named_33 gX4_named_X1_allWays rfl rfl nn_X1_allWays ⟨rfl, rfl⟩ ⟨by decide, by decide⟩ rfl rfl (Nat.le_of_ble_eq_true rfl) ?_
    refine v_lconst (x := 0) dX4_named_36 rfl ?_
    refine v_lcmp dX4_named_37 ?_
    refine v_if_ne (tgt := 44) dX4_named_38 (by decide) (fun c38 => ?_) (fun c38 => ?_)
    · have hne : allW (aW s) ≠ 0 := fun e => c38 ((lN0 (by omega)).mpr e)
      refine v_aload_n dX4_named_44 rfl ?_
      refine v_get (j := 1) iO0 rfl dX4_named_45 (by decide) in_X4_named_X4 fl_X4_named_19 rfl ?_
      refine v_callVRv (M' := M_X1_listOwners) (As := []) iO4 (s_X1_listOwners hv h1.1) dX4_named_48 gX4_named_X1_listOwners rfl rfl nn_X1_listOwners ⟨rfl, rfl⟩ ⟨by decide, by decide⟩ rfl rfl (Nat.le_of_ble_eq_true rfl) (fun s2 h2 => ?_)
      have hr1 := h2.fr.rc hr1
      have hF := (h1.2.tr h2.fr).fc
      refine v_iload_n dX4_named_51 rfl ?_
      refine v_iconst (x := (-1)) dX4_named_52 rfl ?_
      refine v_icmp_ne (tgt := 66) dX4_named_53 (by decide) (fun c53 => absurd hm c53) (fun c53 => ?_)
      refine v_aload_n dX4_named_56 rfl ?_
      refine v_get (j := 1) iO0 rfl dX4_named_57 (by decide) in_X4_named_X4 fl_X4_named_19 rfl ?_
      refine v_callVi (M' := M_X1_signsWithOneOwner) (As := []) iO4 (s_X1_signsWithOneOwner hv (h2.ro h1.1) h2.1) dX4_named_60 gX4_named_X1_signsWithOneOwner rfl rfl nn_X1_signsWithOneOwner ⟨rfl, rfl⟩ ⟨by decide, by decide⟩ rfl rfl (Nat.le_of_ble_eq_true rfl) ?_
      refine v_goto (tgt := 74) dX4_named_63 (by decide) ?_
      exact v_iret rfl dX4_named_74 ⟨congrArg (fun z => some (Value.int z)) (by rw [q_named, if_pos (Or.inl hm), if_neg hne, if_pos hm]), hr1, hF⟩
    · refine v_bipush (x := (-2)) dX4_named_41 (by decide +kernel) ?_
      exact v_iret rfl dX4_named_43 ⟨congrArg (fun z => some (Value.int z)) (by rw [q_named, if_pos (Or.inl hm), if_pos ((lN0 (by omega)).mp c38)]), hr1, hF⟩
  · have hm := c2
    refine v_aload_n dX4_named_5 rfl ?_
    refine v_get (j := 5) iO0 rfl dX4_named_6 (by decide) in_X4_named_X4 fl_X4_named_42 rfl ?_
    refine v_iload_n dX4_named_9 rfl ?_
    refine v_callVi (M' := M_X3_hasSign) (As := [_]) (iWO hla) (s_X3_hasSign hla hw hv _) dX4_named_10 gX4_named_X3_hasSign rfl rfl nn_X3_hasSign ⟨rfl, rfl⟩ ⟨by decide, by decide⟩ rfl rfl (Nat.le_of_ble_eq_true rfl) ?_
    refine b_if_ne (tgt := 18) dX4_named_13 (by decide) (fun c13 => ?_) (fun c13 => ?_)
    · obtain ⟨K, hK, hK2, rfl⟩ := isN_nI c13
      refine v_aload_n dX4_named_18 rfl ?_
      refine v_get (j := 1) iO0 rfl dX4_named_19 (by decide) in_X4_named_X4 fl_X4_named_19 rfl ?_
      refine v_aload_n dX4_named_22 rfl ?_
      refine v_get (j := 5) iO0 rfl dX4_named_23 (by decide) in_X4_named_X4 fl_X4_named_42 rfl ?_
      refine v_callVRv (M' := M_X1_callOver) (As := [_]) iO4 (s_X1_callOver hla hw hv hz) dX4_named_26 gX4_named_X1_callOver rfl rfl nn_X1_callOver ⟨rfl, rfl⟩ ⟨by decide, by decide⟩ rfl rfl (Nat.le_of_ble_eq_true rfl) (fun s1 h1 => ?_)
      have hr1 := h1.2.rc hr
      have hla := hr1.la
      have hw := hr1.ch
      have hF := h1.2.fc
      have hal := allW_le hv
      refine v_aload_n dX4_named_29 rfl ?_
      refine v_get (j := 1) iO0 rfl dX4_named_30 (by decide) in_X4_named_X4 fl_X4_named_19 rfl ?_
      refine v_callVl (M' := M_X1_allWays) (As := []) iO4 (s_X1_allWays hv h1.1) dX4_named_33 gX4_named_X1_allWays rfl rfl nn_X1_allWays ⟨rfl, rfl⟩ ⟨by decide, by decide⟩ rfl rfl (Nat.le_of_ble_eq_true rfl) ?_
      refine v_lconst (x := 0) dX4_named_36 rfl ?_
      refine v_lcmp dX4_named_37 ?_
      refine v_if_ne (tgt := 44) dX4_named_38 (by decide) (fun c38 => ?_) (fun c38 => ?_)
      · have hne : allW (aW s) ≠ 0 := fun e => c38 ((lN0 (by omega)).mpr e)
        refine v_aload_n dX4_named_44 rfl ?_
        refine v_get (j := 1) iO0 rfl dX4_named_45 (by decide) in_X4_named_X4 fl_X4_named_19 rfl ?_
        refine v_callVRv (M' := M_X1_listOwners) (As := []) iO4 (s_X1_listOwners hv h1.1) dX4_named_48 gX4_named_X1_listOwners rfl rfl nn_X1_listOwners ⟨rfl, rfl⟩ ⟨by decide, by decide⟩ rfl rfl (Nat.le_of_ble_eq_true rfl) (fun s2 h2 => ?_)
        have hr1 := h2.fr.rc hr1
        have hF := (h1.2.tr h2.fr).fc
        refine v_iload_n dX4_named_51 rfl ?_
        refine v_iconst (x := (-1)) dX4_named_52 rfl ?_
        refine v_icmp_ne (tgt := 66) dX4_named_53 (by decide) (fun c53 => ?_) (fun c53 => absurd c53 hm)
        refine v_aload_n dX4_named_66 rfl ?_
        refine v_get (j := 1) iO0 rfl dX4_named_67 (by decide) in_X4_named_X4 fl_X4_named_19 rfl ?_
        refine v_iload_n dX4_named_70 rfl ?_
        refine v_callVi (M' := M_X1_onlyOwner) (As := [_]) iO4 (s_X1_onlyOwner hv (h2.ro h1.1) h2.1 (by have := wv_S hv; omega)) dX4_named_71 gX4_named_X1_onlyOwner rfl rfl nn_X1_onlyOwner ⟨rfl, rfl⟩ ⟨by decide, by decide⟩ rfl rfl (Nat.le_of_ble_eq_true rfl) ?_
        exact v_iret rfl dX4_named_74 ⟨congrArg (fun z => some (Value.int z)) (by rw [q_named, if_pos (Or.inr c13), if_neg hne, if_neg hm, nI_clamp hK2]), hr1, hF⟩
      · refine v_bipush (x := (-2)) dX4_named_41 (by decide +kernel) ?_
        exact v_iret rfl dX4_named_43 ⟨congrArg (fun z => some (Value.int z)) (by rw [q_named, if_pos (Or.inr c13), if_pos ((lN0 (by omega)).mp c38)]), hr1, hF⟩
    · refine v_iconst (x := (-1)) dX4_named_16 rfl ?_
      exact v_iret rfl dX4_named_17 ⟨congrArg (fun z => some (Value.int z)) (by rw [q_named, if_neg (fun h => h.elim hm (fun q => by rw [c13] at q; cases q))]), hr, FC.rf σ⟩
