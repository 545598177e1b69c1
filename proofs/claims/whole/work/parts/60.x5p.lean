theorem in_X5_nameOf_X5 : ∀ w ∈ u_ws RX5 TX5 29, w ∈ mWs M_X5_nameOf := by decide +kernel
theorem in_X5_named_X5 : ∀ w ∈ u_ws RX5 TX5 29, w ∈ mWs M_X5_named := by decide +kernel
theorem in_X5_odds_X5 : ∀ w ∈ u_ws RX5 TX5 29, w ∈ mWs M_X5_odds := by decide +kernel
theorem fl_X5_nameOf_29 : Cond.fieldLink (mOwn M_X5_nameOf) 29 (TX5 8).1 (TX5 8).2.1 (TX5 8).2.2.1 ∈ mWs M_X5_nameOf := by decide +kernel
theorem fl_X5_named_13 : Cond.fieldLink (mOwn M_X5_named) 13 (TX5 3).1 (TX5 3).2.1 (TX5 3).2.2.1 ∈ mWs M_X5_named := by decide +kernel
theorem fl_X5_odds_167 : Cond.fieldLink (mOwn M_X5_odds) 167 (TX5 26).1 (TX5 26).2.1 (TX5 26).2.2.1 ∈ mWs M_X5_odds := by decide +kernel
theorem fl_X5_odds_171 : Cond.fieldLink (mOwn M_X5_odds) 171 (TX5 27).1 (TX5 27).2.1 (TX5 27).2.2.1 ∈ mWs M_X5_odds := by decide +kernel
theorem nn_X5_nameOf : (mY M_X5_nameOf).cls = mOwn M_X5_nameOf ∧ (mY M_X5_nameOf).cls ≠ "java/lang/invoke/MethodHandle" ∧ (mY M_X5_nameOf).cls ≠ "java/lang/invoke/VarHandle" ∧ (parseMethodDescriptor (mY M_X5_nameOf).desc).map (fun d => d.parameters.length) = some 2 := by decide +kernel
theorem nn_X5_waysOf : (mY M_X5_waysOf).cls = mOwn M_X5_waysOf ∧ (mY M_X5_waysOf).cls ≠ "java/lang/invoke/MethodHandle" ∧ (mY M_X5_waysOf).cls ≠ "java/lang/invoke/VarHandle" ∧ (parseMethodDescriptor (mY M_X5_waysOf).desc).map (fun d => d.parameters.length) = some 2 := by decide +kernel
theorem nI_nm1 {j : Nat} (h : j < 2 ^ 31) : ¬ nI j = -1 := fun e => by
  have := congrArg Int32.toInt e
  rw [nI_toInt h, show (-1 : Int32).toInt = -1 by decide] at this
  omega
theorem w0_al {z : Nat} {w : WD} (hv : WV z w) : ∀ k m, k < wS w → sh w k = true → m < wN w → (av w (shl w k).length).testBit m = (mayc w m k && (!decide (nI k = -1) || decide (nI m = -1))) := fun k m hk hs hm => by
  have := wv_S hv
  rw [av_at (by omega) hs, cut_bit, decide_eq_false (nI_nm1 (show k < 2 ^ 31 by omega))]
  simp [hm]
theorem wk_al {z : Nat} {w : WD} (hv : WV z w) {k0 m0 : Nat} (hk0 : k0 < wS w) (hs0 : sh w k0 = true) (hm0 : m0 < wN w) : ∀ k m, k < wS w → sh w k = true → m < wN w → (rs (av w) (shl w k0).length m0 (shl w k).length).testBit m = (mayc w m k && (!decide (nI k = nI k0) || decide (nI m = nI m0))) := fun k m hk hs hm => by
  have hS := wv_S hv
  have hN := wv_N hv
  rw [rs]
  by_cases c : k = k0
  · subst c
    rw [if_pos rfl, Nat.testBit_and, av_at (by omega) hs, cut_bit, tb_pow]
    have : decide (nI m = nI m0) = decide (m0 = m) := by
      refine decide_eq_decide.mpr ⟨fun e => ((nI_eq (by omega) (by omega)).mp e).symm, fun e => by rw [e]⟩
    rw [this]
    simp [hm]
  · have : (shl w k).length ≠ (shl w k0).length := fun e => by
      have h1 := (shl_at (by omega) hs).2
      have h2 := (shl_at (by omega) hs0).2
      rw [e, h2] at h1
      exact c h1.symm
    rw [if_neg this, av_at (by omega) hs, cut_bit]
    have : decide (nI k = nI k0) = false := decide_eq_false (fun e => c ((nI_eq (by omega) (by omega)).mp e))
    rw [this]
    simp [hm]
theorem s_w0 {v : EE} {w : WD} {z : Nat} {σ : SS} (hw : MH 0 w σ) (hv : WV z w) (hz : z ≤ 1000000) : SR v M_X5_waysOf [.ref (v.1 40), .int (-1), .int (-1)] σ (some (.long (lN (allW w)))) (fun σ' => FLo σ σ') := by
  have h := s_X5_waysOf (v := v) hw hv hz (-1) (-1) (w0_al hv)
  rw [flow_n] at h
  exact h
theorem s_wk {v : EE} {w : WD} {z : Nat} {σ : SS} (hw : MH 0 w σ) (hv : WV z w) (hz : z ≤ 1000000) {k m : Nat} (hk : k < wS w) (hs : sh w k = true) (hm : m < wN w) : SR v M_X5_waysOf [.ref (v.1 40), .int (nI m), .int (nI k)] σ (some (.long (lN (TW w k m)))) (fun σ' => FLo σ σ') := by
  have h := s_X5_waysOf (v := v) hw hv hz (nI m) (nI k) (wk_al hv hk hs hm)
  rw [TT_rs (shl_at (by have := wv_S hv; omega) hs).1 hm] at h
  exact h
theorem rm_JL {s : AS} {σ : SS} (h : RM s σ) (x y : Int64) : RM s (sJ (sJ σ 40 26 x) 40 27 y) ∧ FM σ (sJ (sJ σ 40 26 x) 40 27 y) := ⟨h, fun _ _ => rfl, rfl⟩
theorem FM.tr' {σ τ υ : SS} (h : FM σ τ) (g : FM τ υ) : FM σ υ := ⟨fun a ha => (g.1 a ha).trans (h.1 a ha), g.2.trans h.2⟩
theorem sm_oth {f : Nat → Nat} {n m : Nat} (hm : m < n) (h : ∀ k, k < n → k ≠ m → f k = 0) : sm f n = f m := by
  have : sm f n = sm (fun x => if x = m then f m else 0) n := sm_cong (fun k hk => by
    by_cases c : k = m
    · subst c; rw [if_pos rfl]
    · rw [if_neg c, h k hk c])
  rw [this, sm_one hm]
theorem sm_two {f : Nat → Nat} {n a b : Nat} (ha : a < n) (hb : b < n) (hab : a ≠ b) : f a + f b ≤ sm f n := by
  have h1 : sm (fun x => if x = a then f a else 0) n = f a := sm_one ha
  have h2 : sm (fun x => if x = b then f b else 0) n = f b := sm_one hb
  rw [← h1, ← h2, ← sm_add]
  refine sm_mono (fun k _ => ?_)
  by_cases c : k = a
  · subst c; simp [hab]
  · by_cases d : k = b
    · subst d; simp [c]
    · simp [c, d]
def nmf (w : WD) (k : Nat) : Nat → Int32
  | 0 => -4
  | i + 1 => if TW w k i = allW w then nI i else nmf w k i
theorem pc_2 : ∀ m, m < 10 → pc (2 ^ m) = 1 ∧ Nat.log2 (2 ^ m) = m := by decide
theorem nmf_no {w : WD} {k : Nat} : ∀ n, (∀ m, m < n → TW w k m ≠ allW w) → nmf w k n = -4
  | 0, _ => rfl
  | n + 1, h => by rw [nmf, if_neg (h n (by omega)), nmf_no n (fun m hm => h m (by omega))]
theorem nmf_one {w : WD} {k j : Nat} : ∀ n, j < n → TW w k j = allW w → (∀ m, m < n → m ≠ j → TW w k m ≠ allW w) → nmf w k n = nI j
  | 0, h, _, _ => by omega
  | n + 1, h, hj, ho => by
    rw [nmf]
    by_cases c : n = j
    · subst c; rw [if_pos hj]
    · rw [if_neg (ho n (by omega) c), nmf_one n (by omega) hj (fun m hm hx => ho m (by omega) hx)]
theorem nm_end {z : Nat} {w : WD} (hv : WV z w) {k : Nat} (hk : k < 16) (hs : sh w k = true) (ha : 0 < allW w) : nmf w k (wN w) = nmI w k := by
  have hN := wv_N hv
  have hq := (shl_at hk hs).1
  have hsum : sm (TW w k) (wN w) = allW w := TT_sum hq
  rw [nmI, if_pos hs, onI]
  have hbit : ∀ m, (own w (shl w k).length).testBit m = true ↔ m < wN w ∧ 0 < TW w k m := fun m => own_bit hv hq
  have key : ∀ j, j < wN w → TW w k j = allW w → own w (shl w k).length = 2 ^ j := fun j hj e => Nat.eq_of_testBit_eq (fun i => by
    rw [tb_pow]
    apply Bool.eq_iff_iff.mpr
    rw [hbit, decide_eq_true_eq]
    constructor
    · rintro ⟨h1, h2⟩
      apply Classical.byContradiction
      intro c
      have := sm_two (f := TW w k) hj h1 c
      omega
    · rintro rfl; exact ⟨hj, by omega⟩)
  by_cases c : pc (own w (shl w k).length) = 1
  · rw [if_pos c]
    have hlt : own w (shl w k).length < 1024 := Nat.lt_of_lt_of_le (own_lt w _) (p2N hv)
    obtain ⟨h1, h2⟩ := pc1 _ hlt c
    generalize hj : Nat.log2 (own w (shl w k).length) = j at h1 h2
    have h3 : (own w (shl w k).length).testBit j = true := by rw [h1, tb_pow]; simp
    have h4 := (hbit j).mp h3
    have hz : ∀ m, m < wN w → m ≠ j → TW w k m = 0 := fun m hm hne => by
      apply Classical.byContradiction
      intro q
      have : (own w (shl w k).length).testBit m = true := (hbit m).mpr ⟨hm, by omega⟩
      rw [h1, tb_pow, decide_eq_true_eq] at this
      exact hne this.symm
    have h5 : TW w k j = allW w := by rw [← hsum]; exact (sm_oth h4.1 hz).symm
    exact nmf_one _ h4.1 h5 (fun m hm hne e => by rw [hz m hm hne] at e; omega)
  · rw [if_neg c]
    refine nmf_no _ (fun m hm e => c ?_)
    rw [key m hm e]
    exact (pc_2 m (by omega)).1
theorem one_sum {w : WD} : ∀ i, sm (fun j => if sh w j then oneF w (shl w j).length else 0) i = sm (oneF w) (shl w i).length
  | 0 => rfl
  | i + 1 => by
    rw [sm, one_sum i]
    cases h : sh w i with
    | true => rw [shl_y h, List.length_append, List.length_singleton, sm]; rfl
    | false => rw [shl_n h]; rfl
set_option maxRecDepth 100000 in
set_option maxHeartbeats 4000000 in
theorem s_X5_partings {v : EE} {s : AS} {z : Nat} {σ : SS} (hr : RM s σ) (hv : WV z (aW s)) (hz : z ≤ 1000000) : SR v M_X5_partings [.ref (v.1 40)] σ (some (.long (q_partings (aW s)))) (fun σ' => RM s σ' ∧ FM σ σ') := by
  refine Sp.of rfl (by decide) rfl (Nat.le_of_ble_eq_true rfl) ?_
  show V v M_X5_partings _ 0 [(0, .ref (v.1 40))] [] σ
  refine v_aload_n dX5_partings_0 rfl ?_
  refine v_iconst (x := (-1)) dX5_partings_1 rfl ?_
  refine v_iconst (x := (-1)) dX5_partings_2 rfl ?_
  refine v_callVRl (M' := M_X5_waysOf) (As := [_, _]) iO40 (s_w0 hr.2.1 hv hz) dX5_partings_3 gX5_partings_X5_waysOf rfl rfl nn_X5_waysOf ⟨rfl, rfl⟩ ⟨by decide, by decide⟩ rfl rfl (Nat.le_of_ble_eq_true rfl) (fun s1 h1 => ?_)
  exact v_lret rfl dX5_partings_6 ⟨rfl, h1.rm hr, h1.fm⟩
set_option maxRecDepth 100000 in
set_option maxHeartbeats 4000000 in
theorem s_X5_odds {v : EE} {s : AS} {z : Nat} {σ : SS} (hr : RM s σ) (hv : WV z (aW s)) (hz : z ≤ 1000000) (m k part : Int32) : SR v M_X5_odds [.ref (v.1 40), .int m, .int k, .int part] σ (some (.long (q_odds (aW s) m k part))) (fun σ' => RM s σ' ∧ FM σ σ') := by
  refine Sp.of rfl (by decide) rfl (Nat.le_of_ble_eq_true rfl) ?_
  show V v M_X5_odds _ 0 [(0, .ref (v.1 40)), (1, .int m), (2, .int k), (3, .int part)] [] σ
  refine v_aload_n dX5_odds_0 rfl ?_
  refine v_iload_n dX5_odds_1 rfl ?_
  refine v_callVi (M' := M_X5_isNameOf) (As := [_]) iO40 (s_X5_isNameOf hr.2.1 hv _) dX5_odds_2 gX5_odds_X5_isNameOf rfl rfl nn_X5_isNameOf ⟨rfl, rfl⟩ ⟨by decide, by decide⟩ rfl rfl (Nat.le_of_ble_eq_true rfl) ?_
  refine b_if_eq (tgt := 26) dX5_odds_5 (by decide) (fun c5 => ?_) (fun c5 => ?_)
  · refine v_ldc2 (x := (-1)) (by decide +kernel) dX5_odds_26 ?_
    exact v_lret rfl dX5_odds_29 ⟨congrArg (fun z => some (Value.long z)) (by rw [q_odds, if_neg (fun h => by rw [c5] at h; exact absurd h.1 (by decide))]), hr, FM.rf σ⟩
  · refine v_aload_n dX5_odds_8 rfl ?_
    refine v_iload_n dX5_odds_9 rfl ?_
    refine v_callVi (M' := M_X5_isSign) (As := [_]) iO40 (s_X5_isSign hr.2.1 hv _) dX5_odds_10 gX5_odds_X5_isSign rfl rfl nn_X5_isSign ⟨rfl, rfl⟩ ⟨by decide, by decide⟩ rfl rfl (Nat.le_of_ble_eq_true rfl) ?_
    refine b_if_eq (tgt := 26) dX5_odds_13 (by decide) (fun c13 => ?_) (fun c13 => ?_)
    · refine v_ldc2 (x := (-1)) (by decide +kernel) dX5_odds_26 ?_
      exact v_lret rfl dX5_odds_29 ⟨congrArg (fun z => some (Value.long z)) (by rw [q_odds, if_neg (fun h => by rw [c13] at h; exact absurd h.2.1 (by decide))]), hr, FM.rf σ⟩
    · rcases sw2 part with rfl | rfl | hsw
      · refine v_iload_n dX5_odds_16 rfl ?_
        refine v_i2l dX5_odds_17 ?_
        refine v_lconst (x := 0) dX5_odds_18 rfl ?_
        refine v_lconst (x := 1) dX5_odds_19 rfl ?_
        refine v_callSi (M' := M_X5_between) (As := [_, _, _]) (s_X5_between) dX5_odds_20 gX5_odds_X5_between rfl nn_X5_between ⟨rfl, rfl⟩ ⟨by decide, by decide⟩ rfl rfl (Nat.le_of_ble_eq_true rfl) ?_
        refine v_top (by rw [btw_lit 2 (by decide)]) ?_
        refine b_if_ne (tgt := 30) dX5_odds_23 (by decide) (fun c23 => ?_) (fun c23 => absurd c23 (by decide))
        have hwh : isN 0 2 = true := by decide
        obtain ⟨M, hM, hM2, rfl⟩ := isN_nI c5
        obtain ⟨K, hK, hK2, rfl⟩ := isN_nI c13
        have hS := wv_S hv
        have hal := allW_le hv
        refine v_aload_n dX5_odds_30 rfl ?_
        refine v_iconst (x := (-1)) dX5_odds_31 rfl ?_
        refine v_iconst (x := (-1)) dX5_odds_32 rfl ?_
        refine v_callVRl (M' := M_X5_waysOf) (As := [_, _]) iO40 (s_w0 hr.2.1 hv hz) dX5_odds_33 gX5_odds_X5_waysOf rfl rfl nn_X5_waysOf ⟨rfl, rfl⟩ ⟨by decide, by decide⟩ rfl rfl (Nat.le_of_ble_eq_true rfl) (fun s1 h1 => ?_)
        refine v_lstore (L' := [(4, _), (0, _), (1, _), (2, _), (3, _)]) dX5_odds_36 (by decide) rfl ?_
        refine v_lload dX5_odds_38 rfl ?_
        refine v_lconst (x := 0) dX5_odds_40 rfl ?_
        refine v_lcmp dX5_odds_41 ?_
        refine v_if_eq (tgt := 53) dX5_odds_42 (by decide) (fun c42 => ?_) (fun c42 => ?_)
        · refine v_ldc2 (x := (-2)) (by decide +kernel) dX5_odds_53 ?_
          exact v_lret rfl dX5_odds_56 ⟨congrArg (fun z => some (Value.long z)) (by rw [q_odds, if_pos ⟨c5, c13, hwh⟩, nI_clamp (by omega), nI_clamp (by omega), if_pos (Or.inl ((lN0 (by omega)).mp c42))]), h1.rm hr, h1.fm⟩
        · have hne : allW (aW s) ≠ 0 := fun e => c42 ((lN0 (by omega)).mpr e)
          refine v_aload_n dX5_odds_45 rfl ?_
          refine v_iload_n dX5_odds_46 rfl ?_
          refine v_callVi (M' := M_X5_ofSign) (As := [_]) iO40 (s_X5_ofSign (h1.mh hr.2.1) hv (by omega)) dX5_odds_47 gX5_odds_X5_ofSign rfl rfl nn_X5_ofSign ⟨rfl, rfl⟩ ⟨by decide, by decide⟩ rfl rfl (Nat.le_of_ble_eq_true rfl) ?_
          refine n_if_ne (tgt := 57) dX5_odds_50 (by decide) (by have := sms_le hv (k := K) (by omega); omega) (fun c50 => ?_) (fun c50 => ?_)
          · have hsh : sh (aW s) K = true := by rw [sh, decide_eq_true hK, decide_eq_true (Nat.pos_of_ne_zero c50)]; rfl
            refine v_aload_n dX5_odds_57 rfl ?_
            refine v_aload_n dX5_odds_58 rfl ?_
            refine v_iload_n dX5_odds_59 rfl ?_
            refine v_iload_n dX5_odds_60 rfl ?_
            refine v_callVRl (M' := M_X5_waysOf) (As := [_, _]) iO40 (s_wk (h1.mh hr.2.1) hv hz hK hsh hM) dX5_odds_61 gX5_odds_X5_waysOf rfl rfl nn_X5_waysOf ⟨rfl, rfl⟩ ⟨by decide, by decide⟩ rfl rfl (Nat.le_of_ble_eq_true rfl) (fun s2 h2 => ?_)
            refine v_lload dX5_odds_64 rfl ?_
            refine v_callVv (M' := M_X5_lowest) (As := [_, _]) iO40 (s_X5_lowest (a := TW (aW s) K M) (b := allW (aW s)) (by have := TW_le hv (show K < 16 by omega) hsh hM; omega) (by omega) (by omega)) dX5_odds_66 gX5_odds_X5_lowest rfl rfl nn_X5_lowest ⟨rfl, rfl⟩ ⟨by decide, by decide⟩ rfl rfl (Nat.le_of_ble_eq_true rfl) ?_
            refine v_iload_n dX5_odds_69 rfl ?_
            refine v_if_ne (tgt := 80) dX5_odds_70 (by decide) (fun c70 => absurd rfl c70) (fun c70 => ?_)
            refine v_aload_n dX5_odds_73 rfl ?_
            refine v_get (j := 26) iO40 rfl dX5_odds_74 (by decide) in_X5_odds_X5 fl_X5_odds_167 rfl ?_
            refine v_topl (y := lN (TW (aW s) K M / Nat.gcd (TW (aW s) K M) (allW (aW s)))) (by simp [sJ, vp_updL]) ?_
            refine v_goto (tgt := 84) dX5_odds_77 (by decide) ?_
            exact v_lret rfl dX5_odds_84 ⟨congrArg (fun z => some (Value.long z)) (by rw [q_odds, if_pos ⟨c5, c13, hwh⟩, nI_clamp (by omega), nI_clamp (by omega), if_neg (fun h => h.elim hne (fun q => by rw [hsh] at q; cases q)), if_pos rfl]), (rm_JL ((h1.tr h2).rm hr) _ _).1, (h1.tr h2).fm.tr' (rm_JL ((h1.tr h2).rm hr) _ _).2⟩
          · refine v_ldc2 (x := (-2)) (by decide +kernel) dX5_odds_53 ?_
            exact v_lret rfl dX5_odds_56 ⟨congrArg (fun z => some (Value.long z)) (by rw [q_odds, if_pos ⟨c5, c13, hwh⟩, nI_clamp (by omega), nI_clamp (by omega), if_pos (Or.inr (by rw [sh, c50]; simp))]), h1.rm hr, h1.fm⟩
      · refine v_iload_n dX5_odds_16 rfl ?_
        refine v_i2l dX5_odds_17 ?_
        refine v_lconst (x := 0) dX5_odds_18 rfl ?_
        refine v_lconst (x := 1) dX5_odds_19 rfl ?_
        refine v_callSi (M' := M_X5_between) (As := [_, _, _]) (s_X5_between) dX5_odds_20 gX5_odds_X5_between rfl nn_X5_between ⟨rfl, rfl⟩ ⟨by decide, by decide⟩ rfl rfl (Nat.le_of_ble_eq_true rfl) ?_
        refine v_top (by rw [btw_lit 2 (by decide)]) ?_
        refine b_if_ne (tgt := 30) dX5_odds_23 (by decide) (fun c23 => ?_) (fun c23 => absurd c23 (by decide))
        have hwh : isN 1 2 = true := by decide
        obtain ⟨M, hM, hM2, rfl⟩ := isN_nI c5
        obtain ⟨K, hK, hK2, rfl⟩ := isN_nI c13
        have hS := wv_S hv
        have hal := allW_le hv
        refine v_aload_n dX5_odds_30 rfl ?_
        refine v_iconst (x := (-1)) dX5_odds_31 rfl ?_
        refine v_iconst (x := (-1)) dX5_odds_32 rfl ?_
        refine v_callVRl (M' := M_X5_waysOf) (As := [_, _]) iO40 (s_w0 hr.2.1 hv hz) dX5_odds_33 gX5_odds_X5_waysOf rfl rfl nn_X5_waysOf ⟨rfl, rfl⟩ ⟨by decide, by decide⟩ rfl rfl (Nat.le_of_ble_eq_true rfl) (fun s1 h1 => ?_)
        refine v_lstore (L' := [(4, _), (0, _), (1, _), (2, _), (3, _)]) dX5_odds_36 (by decide) rfl ?_
        refine v_lload dX5_odds_38 rfl ?_
        refine v_lconst (x := 0) dX5_odds_40 rfl ?_
        refine v_lcmp dX5_odds_41 ?_
        refine v_if_eq (tgt := 53) dX5_odds_42 (by decide) (fun c42 => ?_) (fun c42 => ?_)
        · refine v_ldc2 (x := (-2)) (by decide +kernel) dX5_odds_53 ?_
          exact v_lret rfl dX5_odds_56 ⟨congrArg (fun z => some (Value.long z)) (by rw [q_odds, if_pos ⟨c5, c13, hwh⟩, nI_clamp (by omega), nI_clamp (by omega), if_pos (Or.inl ((lN0 (by omega)).mp c42))]), h1.rm hr, h1.fm⟩
        · have hne : allW (aW s) ≠ 0 := fun e => c42 ((lN0 (by omega)).mpr e)
          refine v_aload_n dX5_odds_45 rfl ?_
          refine v_iload_n dX5_odds_46 rfl ?_
          refine v_callVi (M' := M_X5_ofSign) (As := [_]) iO40 (s_X5_ofSign (h1.mh hr.2.1) hv (by omega)) dX5_odds_47 gX5_odds_X5_ofSign rfl rfl nn_X5_ofSign ⟨rfl, rfl⟩ ⟨by decide, by decide⟩ rfl rfl (Nat.le_of_ble_eq_true rfl) ?_
          refine n_if_ne (tgt := 57) dX5_odds_50 (by decide) (by have := sms_le hv (k := K) (by omega); omega) (fun c50 => ?_) (fun c50 => ?_)
          · have hsh : sh (aW s) K = true := by rw [sh, decide_eq_true hK, decide_eq_true (Nat.pos_of_ne_zero c50)]; rfl
            refine v_aload_n dX5_odds_57 rfl ?_
            refine v_aload_n dX5_odds_58 rfl ?_
            refine v_iload_n dX5_odds_59 rfl ?_
            refine v_iload_n dX5_odds_60 rfl ?_
            refine v_callVRl (M' := M_X5_waysOf) (As := [_, _]) iO40 (s_wk (h1.mh hr.2.1) hv hz hK hsh hM) dX5_odds_61 gX5_odds_X5_waysOf rfl rfl nn_X5_waysOf ⟨rfl, rfl⟩ ⟨by decide, by decide⟩ rfl rfl (Nat.le_of_ble_eq_true rfl) (fun s2 h2 => ?_)
            refine v_lload dX5_odds_64 rfl ?_
            refine v_callVv (M' := M_X5_lowest) (As := [_, _]) iO40 (s_X5_lowest (a := TW (aW s) K M) (b := allW (aW s)) (by have := TW_le hv (show K < 16 by omega) hsh hM; omega) (by omega) (by omega)) dX5_odds_66 gX5_odds_X5_lowest rfl rfl nn_X5_lowest ⟨rfl, rfl⟩ ⟨by decide, by decide⟩ rfl rfl (Nat.le_of_ble_eq_true rfl) ?_
            refine v_iload_n dX5_odds_69 rfl ?_
            refine v_if_ne (tgt := 80) dX5_odds_70 (by decide) (fun c70 => ?_) (fun c70 => absurd c70 (by decide))
            refine v_aload_n dX5_odds_80 rfl ?_
            refine v_get (j := 27) iO40 rfl dX5_odds_81 (by decide) in_X5_odds_X5 fl_X5_odds_171 rfl ?_
            refine v_topl (y := lN (allW (aW s) / Nat.gcd (TW (aW s) K M) (allW (aW s)))) (by simp [sJ, vp_updL]) ?_
            exact v_lret rfl dX5_odds_84 ⟨congrArg (fun z => some (Value.long z)) (by rw [q_odds, if_pos ⟨c5, c13, hwh⟩, nI_clamp (by omega), nI_clamp (by omega), if_neg (fun h => h.elim hne (fun q => by rw [hsh] at q; cases q)), if_neg (by decide)]), (rm_JL ((h1.tr h2).rm hr) _ _).1, (h1.tr h2).fm.tr' (rm_JL ((h1.tr h2).rm hr) _ _).2⟩
          · refine v_ldc2 (x := (-2)) (by decide +kernel) dX5_odds_53 ?_
            exact v_lret rfl dX5_odds_56 ⟨congrArg (fun z => some (Value.long z)) (by rw [q_odds, if_pos ⟨c5, c13, hwh⟩, nI_clamp (by omega), nI_clamp (by omega), if_pos (Or.inr (by rw [sh, c50]; simp))]), h1.rm hr, h1.fm⟩
      · refine v_iload_n dX5_odds_16 rfl ?_
        refine v_i2l dX5_odds_17 ?_
        refine v_lconst (x := 0) dX5_odds_18 rfl ?_
        refine v_lconst (x := 1) dX5_odds_19 rfl ?_
        refine v_callSi (M' := M_X5_between) (As := [_, _, _]) (s_X5_between) dX5_odds_20 gX5_odds_X5_between rfl nn_X5_between ⟨rfl, rfl⟩ ⟨by decide, by decide⟩ rfl rfl (Nat.le_of_ble_eq_true rfl) ?_
        refine v_top (by rw [btw_lit 2 (by decide), hsw]) ?_
        refine b_if_ne (tgt := 30) dX5_odds_23 (by decide) (fun c23 => absurd c23 (by decide)) (fun c23 => ?_)
        refine v_ldc2 (x := (-1)) (by decide +kernel) dX5_odds_26 ?_
        exact v_lret rfl dX5_odds_29 ⟨congrArg (fun z => some (Value.long z)) (by rw [q_odds, if_neg (fun h => by exact absurd h.2.2 (by rw [hsw]; decide))]), hr, FM.rf σ⟩
theorem sms_pos {w : WD} {k : Nat} (h : sh w k = true) : 0 < sms w k := by
  rw [sh, Bool.and_eq_true, decide_eq_true_eq, decide_eq_true_eq] at h; exact h.2
set_option maxRecDepth 100000 in
set_option maxHeartbeats 4000000 in
theorem s_X5_nameOf {v : EE} {w : WD} {z : Nat} {σ : SS} (hw : MH 0 w σ) (hv : WV z w) (hz : z ≤ 1000000) {k : Nat} (hk : k < wS w) (ha : 0 < allW w) : SR v M_X5_nameOf [.ref (v.1 40), .int (nI k), .long (lN (allW w))] σ (some (.int (nmI w k))) (fun σ' => FLo σ σ') := by
  refine Sp.of rfl (by decide) rfl (Nat.le_of_ble_eq_true rfl) ?_
  show V v M_X5_nameOf _ 0 [(0, .ref (v.1 40)), (1, .int (nI k)), (2, .long (lN (allW w)))] [] σ
  have hS := wv_S hv
  have hN10 := wv_N hv
  have hal := allW_le hv
  refine v_bipush (x := (-4)) dX5_nameOf_0 (by decide +kernel) ?_
  refine v_istore (L' := [(4, _), (0, _), (1, _), (2, _)]) dX5_nameOf_2 (by decide) rfl ?_
  refine v_iconst (x := nI 0) dX5_nameOf_4 (by decide +kernel) ?_
  refine v_istore (L' := [(5, _), (4, _), (0, _), (1, _), (2, _)]) dX5_nameOf_5 (by decide) rfl ?_
  by_cases hs : sh w k = true
  · have hpp := sms_pos hs
    refine v_sub [2, 3, 4, 1, 0] rfl ?_
    refine loopN (fun i => ∀ τ : SS, FLo σ τ → V v M_X5_nameOf (zR v M_X5_nameOf (fun r' σ' => r' = (some (.int (nmI w k))) ∧ (FLo σ σ'))) 7 [(0, .ref (v.1 40)), (1, .int (nI k)), (2, .long (lN (allW w))), (4, .int (nmf w k i)), (5, .int (nI i))] [] τ) (wN w) ?_ ?_ _ (FLo.rf σ)
    · intro i hi ih τ hinv
      refine v_iload dX5_nameOf_7 rfl ?_
      refine v_aload_n dX5_nameOf_9 rfl ?_
      refine v_get (j := 8) iO40 rfl dX5_nameOf_10 (by decide) in_X5_nameOf_X5 fl_X5_nameOf_29 rfl ?_
      refine v_iconst (x := nI 0) dX5_nameOf_13 (by decide +kernel) ?_
      refine v_ialdN 0 iI47 dX5_nameOf_14 rfl (by decide) (by decide) ?_
      refine v_top (mh_N (hinv.mh hw)) ?_
      refine n_icmp_ge (tgt := 53) dX5_nameOf_15 (by decide) (by omega) (by omega) (fun c15 => absurd c15 (by omega)) (fun c15 => ?_)
      refine v_aload_n dX5_nameOf_18 rfl ?_
      refine v_iload_n dX5_nameOf_19 rfl ?_
      refine v_callVi (M' := M_X5_ofSign) (As := [_]) iO40 (s_X5_ofSign (hinv.mh hw) hv (by omega)) dX5_nameOf_20 gX5_nameOf_X5_ofSign rfl rfl nn_X5_ofSign ⟨rfl, rfl⟩ ⟨by decide, by decide⟩ rfl rfl (Nat.le_of_ble_eq_true rfl) ?_
      refine n_if_le (tgt := 53) dX5_nameOf_23 (by decide) (by have := sms_le hv (k := k) (by omega); omega) (fun c23 => absurd c23 (by omega)) (fun c23 => ?_)
      refine v_aload_n dX5_nameOf_26 rfl ?_
      refine v_iload dX5_nameOf_27 rfl ?_
      refine v_iload_n dX5_nameOf_29 rfl ?_
      refine v_callVRl (M' := M_X5_waysOf) (As := [_, _]) iO40 (s_wk (hinv.mh hw) hv hz hk hs hi) dX5_nameOf_30 gX5_nameOf_X5_waysOf rfl rfl nn_X5_waysOf ⟨rfl, rfl⟩ ⟨by decide, by decide⟩ rfl rfl (Nat.le_of_ble_eq_true rfl) (fun s1 h1 => ?_)
      have htw := TW_le hv (show k < 16 by omega) hs hi
      refine v_lload_n dX5_nameOf_33 rfl ?_
      refine v_lcmp dX5_nameOf_34 ?_
      refine v_if_ne (tgt := 43) dX5_nameOf_35 (by decide) (fun c35 => ?_) (fun c35 => ?_)
      · refine v_iload dX5_nameOf_43 rfl ?_
        have e : nmf w k (i + 1) = nmf w k i := if_neg (fun q => c35 ((lg_cmp_eq _ _).mpr (by rw [q])))
        rw [e] at ih
        refine v_istore (L' := [(4, _), (0, _), (1, _), (2, _), (5, _)]) dX5_nameOf_45 (by decide) rfl ?_
        refine n_iinc (n := 1) (L' := [(5, _), (4, _), (0, _), (1, _), (2, _)]) dX5_nameOf_47 rfl (by decide) rfl ?_
        refine v_goto (tgt := 7) dX5_nameOf_50 (by decide) ?_
        refine v_sub [2, 3, 4, 1, 0] rfl ?_
        exact ih _ (hinv.tr h1)
      · refine v_iload dX5_nameOf_38 rfl ?_
        refine v_goto (tgt := 45) dX5_nameOf_40 (by decide) ?_
        have e : nmf w k (i + 1) = nI i := if_pos ((fb_lN_inj (by omega) (by omega)).mp ((lg_cmp_eq _ _).mp c35))
        rw [e] at ih
        refine v_istore (L' := [(4, _), (0, _), (1, _), (2, _), (5, _)]) dX5_nameOf_45 (by decide) rfl ?_
        refine n_iinc (n := 1) (L' := [(5, _), (4, _), (0, _), (1, _), (2, _)]) dX5_nameOf_47 rfl (by decide) rfl ?_
        refine v_goto (tgt := 7) dX5_nameOf_50 (by decide) ?_
        refine v_sub [2, 3, 4, 1, 0] rfl ?_
        exact ih _ (hinv.tr h1)
    · intro τ hinv
      refine v_iload dX5_nameOf_7 rfl ?_
      refine v_aload_n dX5_nameOf_9 rfl ?_
      refine v_get (j := 8) iO40 rfl dX5_nameOf_10 (by decide) in_X5_nameOf_X5 fl_X5_nameOf_29 rfl ?_
      refine v_iconst (x := nI 0) dX5_nameOf_13 (by decide +kernel) ?_
      refine v_ialdN 0 iI47 dX5_nameOf_14 rfl (by decide) (by decide) ?_
      refine v_top (mh_N (hinv.mh hw)) ?_
      refine n_icmp_ge (tgt := 53) dX5_nameOf_15 (by decide) (by omega) (by omega) (fun c15 => ?_) (fun c15 => absurd c15 (by omega))
      refine v_iload dX5_nameOf_53 rfl ?_
      exact v_iret rfl dX5_nameOf_55 ⟨congrArg (fun z => some (Value.int z)) (by rw [nm_end hv (by omega) hs ha]), hinv⟩
  · rw [Bool.not_eq_true] at hs
    have hsm : sms w k = 0 := by rw [sh, decide_eq_true hk] at hs; simp at hs; omega
    refine v_iload dX5_nameOf_7 rfl ?_
    refine v_aload_n dX5_nameOf_9 rfl ?_
    refine v_get (j := 8) iO40 rfl dX5_nameOf_10 (by decide) in_X5_nameOf_X5 fl_X5_nameOf_29 rfl ?_
    refine v_iconst (x := nI 0) dX5_nameOf_13 (by decide +kernel) ?_
    refine v_ialdN 0 iI47 dX5_nameOf_14 rfl (by decide) (by decide) ?_
    refine v_top (mh_N hw) ?_
    refine n_icmp_ge (tgt := 53) dX5_nameOf_15 (by decide) (by omega) (by omega) (fun c15 => ?_) (fun c15 => ?_)
    · refine v_iload dX5_nameOf_53 rfl ?_
      exact v_iret rfl dX5_nameOf_55 ⟨congrArg (fun z => some (Value.int z)) (by rw [nmI, hs]; rfl), FLo.rf σ⟩
    · refine v_aload_n dX5_nameOf_18 rfl ?_
      refine v_iload_n dX5_nameOf_19 rfl ?_
      refine v_callVi (M' := M_X5_ofSign) (As := [_]) iO40 (s_X5_ofSign hw hv (by omega)) dX5_nameOf_20 gX5_nameOf_X5_ofSign rfl rfl nn_X5_ofSign ⟨rfl, rfl⟩ ⟨by decide, by decide⟩ rfl rfl (Nat.le_of_ble_eq_true rfl) ?_
      refine n_if_le (tgt := 53) dX5_nameOf_23 (by decide) (by omega) (fun c23 => ?_) (fun c23 => absurd c23 (by omega))
      refine v_iload dX5_nameOf_53 rfl ?_
      exact v_iret rfl dX5_nameOf_55 ⟨congrArg (fun z => some (Value.int z)) (by rw [nmI, hs]; rfl), FLo.rf σ⟩
theorem nm_ge {z : Nat} {w : WD} (hv : WV z w) {k : Nat} : (if 0 ≤ nmI w k then 1 else 0) = (if sh w k then oneF w (shl w k).length else 0) := by
  rw [nmI]
  by_cases hs : sh w k = true
  · rw [if_pos hs, if_pos hs, onI, oneF]
    by_cases c : pc (own w (shl w k).length) = 1
    · rw [if_pos c, if_pos c, if_pos]
      have := (pc1 _ (Nat.lt_of_lt_of_le (own_lt w _) (p2N hv)) c).2
      exact nI_le (a := 0) (Nat.zero_le _) (by omega)
    · rw [if_neg c, if_neg c, if_neg (by decide)]
  · rw [if_neg hs, if_neg hs, if_neg (by decide)]
theorem nlt_of_le {x : Int32} (h : 0 ≤ x) : ¬ x < 0 := by
  rw [Int32.le_iff_toInt_le] at h
  rw [Int32.lt_iff_toInt_lt]
  omega
theorem le_of_nlt {x : Int32} (h : ¬ x < 0) : 0 ≤ x := by
  rw [Int32.lt_iff_toInt_lt] at h
  rw [Int32.le_iff_toInt_le]
  omega
set_option maxRecDepth 100000 in
set_option maxHeartbeats 4000000 in
theorem s_X5_named {v : EE} {s : AS} {z : Nat} {σ : SS} (hr : RM s σ) (hv : WV z (aW s)) (hz : z ≤ 1000000) (k : Int32) : SR v M_X5_named [.ref (v.1 40), .int k] σ (some (.int (q_named (aW s) k))) (fun σ' => RM s σ' ∧ FM σ σ') := by
  refine Sp.of rfl (by decide) rfl (Nat.le_of_ble_eq_true rfl) ?_
  show V v M_X5_named _ 0 [(0, .ref (v.1 40)), (1, .int k)] [] σ
  have hS := wv_S hv
  have hal := allW_le hv
  refine v_iload_n dX5_named_0 rfl ?_
  refine v_iconst (x := (-1)) dX5_named_1 rfl ?_
  refine v_icmp_eq (tgt := 15) dX5_named_2 (by decide) (fun c2 => ?_) (fun c2 => ?_)
  · have hm := c2
    refine v_aload_n dX5_named_15 rfl ?_
    refine v_iconst (x := (-1)) dX5_named_16 rfl ?_
    refine v_iconst (x := (-1)) dX5_named_17 rfl ?_
    refine v_callVRl (M' := M_X5_waysOf) (As := [_, _]) iO40 (s_w0 hr.2.1 hv hz) dX5_named_18 gX5_named_X5_waysOf rfl rfl nn_X5_waysOf ⟨rfl, rfl⟩ ⟨by decide, by decide⟩ rfl rfl (Nat.le_of_ble_eq_true rfl) (fun s1 h1 => ?_)
    refine v_lstore_n (L' := [(2, _), (0, _), (1, _)]) dX5_named_21 rfl (by decide) rfl ?_
    refine v_lload_n dX5_named_22 rfl ?_
    refine v_lconst (x := 0) dX5_named_23 rfl ?_
    refine v_lcmp dX5_named_24 ?_
    refine v_if_ne (tgt := 31) dX5_named_25 (by decide) (fun c25 => ?_) (fun c25 => ?_)
    · have hne : allW (aW s) ≠ 0 := fun e => c25 ((lN0 (by omega)).mpr e)
      refine v_iload_n dX5_named_31 rfl ?_
      refine v_if_lt (tgt := 42) dX5_named_32 (by decide) (fun c32 => ?_) (fun c32 => absurd (by rw [hm]; decide) c32)
      refine v_iconst (x := nI 0) dX5_named_42 (by decide +kernel) ?_
      refine v_istore (L' := [(4, _), (2, _), (0, _), (1, _)]) dX5_named_43 (by decide) rfl ?_
      refine v_iconst (x := nI 0) dX5_named_45 (by decide +kernel) ?_
      refine v_istore (L' := [(5, _), (4, _), (2, _), (0, _), (1, _)]) dX5_named_46 (by decide) rfl ?_
      refine v_sub [3, 2, 1, 0] rfl ?_
      refine loopN (fun i => ∀ τ : SS, FLo σ τ → V v M_X5_named (zR v M_X5_named (fun r' σ' => r' = (some (.int (q_named (aW s) k))) ∧ (RM s σ' ∧ FM σ σ'))) 48 [(0, .ref (v.1 40)), (2, .long (lN (allW (aW s)))), (4, .int (nI (sm (fun j => if sh (aW s) j then oneF (aW s) (shl (aW s) j).length else 0) i))), (5, .int (nI i))] [] τ) (wS (aW s)) ?_ ?_ _ h1
      · intro i hi ih τ hinv
        refine v_iload dX5_named_48 rfl ?_
        refine v_aload_n dX5_named_50 rfl ?_
        refine v_get (j := 3) iO40 rfl dX5_named_51 (by decide) in_X5_named_X5 fl_X5_named_13 rfl ?_
        refine v_iconst (x := nI 0) dX5_named_54 (by decide +kernel) ?_
        refine v_ialdN 0 iI42 dX5_named_55 rfl (by decide) (by decide) ?_
        refine v_top (mh_S (hinv.mh hr.2.1)) ?_
        refine n_icmp_ge (tgt := 85) dX5_named_56 (by decide) (by omega) (by omega) (fun c56 => absurd c56 (by omega)) (fun c56 => ?_)
        refine v_iload dX5_named_59 rfl ?_
        refine v_aload_n dX5_named_61 rfl ?_
        refine v_iload dX5_named_62 rfl ?_
        refine v_lload_n dX5_named_64 rfl ?_
        refine v_callVRi (M' := M_X5_nameOf) (As := [_, _]) iO40 (s_X5_nameOf (hinv.mh hr.2.1) hv hz hi (by omega)) dX5_named_65 gX5_named_X5_nameOf rfl rfl nn_X5_nameOf ⟨rfl, rfl⟩ ⟨by decide, by decide⟩ rfl rfl (Nat.le_of_ble_eq_true rfl) (fun s2 h2 => ?_)
        refine v_if_lt (tgt := 75) dX5_named_68 (by decide) (fun c68 => ?_) (fun c68 => ?_)
        · refine v_iconst (x := nI 0) dX5_named_75 (by decide +kernel) ?_
          have e : sm (fun j => if sh (aW s) j then oneF (aW s) (shl (aW s) j).length else 0) (i + 1) = sm (fun j => if sh (aW s) j then oneF (aW s) (shl (aW s) j).length else 0) i + 0 := by rw [sm, ← nm_ge hv, if_neg (fun q => absurd c68 (nlt_of_le q))]
          rw [e] at ih
          refine n_iadd dX5_named_76 ?_
          refine v_istore (L' := [(4, _), (0, _), (2, _), (5, _)]) dX5_named_77 (by decide) rfl ?_
          refine n_iinc (n := 1) (L' := [(5, _), (4, _), (0, _), (2, _)]) dX5_named_79 rfl (by decide) rfl ?_
          refine v_goto (tgt := 48) dX5_named_82 (by decide) ?_
          refine v_sub [2, 3, 1, 0] rfl ?_
          exact ih _ (hinv.tr h2)
        · refine v_iconst (x := nI 1) dX5_named_71 (by decide +kernel) ?_
          refine v_goto (tgt := 76) dX5_named_72 (by decide) ?_
          have e : sm (fun j => if sh (aW s) j then oneF (aW s) (shl (aW s) j).length else 0) (i + 1) = sm (fun j => if sh (aW s) j then oneF (aW s) (shl (aW s) j).length else 0) i + 1 := by rw [sm, ← nm_ge hv, if_pos (le_of_nlt c68)]
          rw [e] at ih
          refine n_iadd dX5_named_76 ?_
          refine v_istore (L' := [(4, _), (0, _), (2, _), (5, _)]) dX5_named_77 (by decide) rfl ?_
          refine n_iinc (n := 1) (L' := [(5, _), (4, _), (0, _), (2, _)]) dX5_named_79 rfl (by decide) rfl ?_
          refine v_goto (tgt := 48) dX5_named_82 (by decide) ?_
          refine v_sub [2, 3, 1, 0] rfl ?_
          exact ih _ (hinv.tr h2)
      · intro τ hinv
        refine v_iload dX5_named_48 rfl ?_
        refine v_aload_n dX5_named_50 rfl ?_
        refine v_get (j := 3) iO40 rfl dX5_named_51 (by decide) in_X5_named_X5 fl_X5_named_13 rfl ?_
        refine v_iconst (x := nI 0) dX5_named_54 (by decide +kernel) ?_
        refine v_ialdN 0 iI42 dX5_named_55 rfl (by decide) (by decide) ?_
        refine v_top (mh_S (hinv.mh hr.2.1)) ?_
        refine n_icmp_ge (tgt := 85) dX5_named_56 (by decide) (by omega) (by omega) (fun c56 => ?_) (fun c56 => absurd c56 (by omega))
        refine v_iload dX5_named_85 rfl ?_
        exact v_iret rfl dX5_named_87 ⟨congrArg (fun z => some (Value.int z)) (by rw [q_named, if_pos (Or.inl hm), if_neg hne, if_pos hm, one_sum, shl_end hv]; rfl), hinv.rm hr, hinv.fm⟩
    · refine v_bipush (x := (-2)) dX5_named_28 (by decide +kernel) ?_
      exact v_iret rfl dX5_named_30 ⟨congrArg (fun z => some (Value.int z)) (by rw [q_named, if_pos (Or.inl hm), if_pos ((lN0 (by omega)).mp c25)]), h1.rm hr, h1.fm⟩
  · have hm := c2
    refine v_aload_n dX5_named_5 rfl ?_
    refine v_iload_n dX5_named_6 rfl ?_
    refine v_callVi (M' := M_X5_isSign) (As := [_]) iO40 (s_X5_isSign hr.2.1 hv _) dX5_named_7 gX5_named_X5_isSign rfl rfl nn_X5_isSign ⟨rfl, rfl⟩ ⟨by decide, by decide⟩ rfl rfl (Nat.le_of_ble_eq_true rfl) ?_
    refine b_if_ne (tgt := 15) dX5_named_10 (by decide) (fun c10 => ?_) (fun c10 => ?_)
    · obtain ⟨K, hK, hK2, rfl⟩ := isN_nI c10
      refine v_aload_n dX5_named_15 rfl ?_
      refine v_iconst (x := (-1)) dX5_named_16 rfl ?_
      refine v_iconst (x := (-1)) dX5_named_17 rfl ?_
      refine v_callVRl (M' := M_X5_waysOf) (As := [_, _]) iO40 (s_w0 hr.2.1 hv hz) dX5_named_18 gX5_named_X5_waysOf rfl rfl nn_X5_waysOf ⟨rfl, rfl⟩ ⟨by decide, by decide⟩ rfl rfl (Nat.le_of_ble_eq_true rfl) (fun s1 h1 => ?_)
      refine v_lstore_n (L' := [(2, _), (0, _), (1, _)]) dX5_named_21 rfl (by decide) rfl ?_
      refine v_lload_n dX5_named_22 rfl ?_
      refine v_lconst (x := 0) dX5_named_23 rfl ?_
      refine v_lcmp dX5_named_24 ?_
      refine v_if_ne (tgt := 31) dX5_named_25 (by decide) (fun c25 => ?_) (fun c25 => ?_)
      · have hne : allW (aW s) ≠ 0 := fun e => c25 ((lN0 (by omega)).mpr e)
        refine v_iload_n dX5_named_31 rfl ?_
        refine n_if_lt (tgt := 42) dX5_named_32 (by decide) (by omega) ?_
        refine v_aload_n dX5_named_35 rfl ?_
        refine v_iload_n dX5_named_36 rfl ?_
        refine v_lload_n dX5_named_37 rfl ?_
        refine v_callVRi (M' := M_X5_nameOf) (As := [_, _]) iO40 (s_X5_nameOf (h1.mh hr.2.1) hv hz hK (by omega)) dX5_named_38 gX5_named_X5_nameOf rfl rfl nn_X5_nameOf ⟨rfl, rfl⟩ ⟨by decide, by decide⟩ rfl rfl (Nat.le_of_ble_eq_true rfl) (fun s2 h2 => ?_)
        exact v_iret rfl dX5_named_41 ⟨congrArg (fun z => some (Value.int z)) (by rw [q_named, if_pos (Or.inr c10), if_neg hne, if_neg hm, nI_clamp hK2]), (h1.tr h2).rm hr, (h1.tr h2).fm⟩
      · refine v_bipush (x := (-2)) dX5_named_28 (by decide +kernel) ?_
        exact v_iret rfl dX5_named_30 ⟨congrArg (fun z => some (Value.int z)) (by rw [q_named, if_pos (Or.inr c10), if_pos ((lN0 (by omega)).mp c25)]), h1.rm hr, h1.fm⟩
    · refine v_iconst (x := (-1)) dX5_named_13 rfl ?_
      exact v_iret rfl dX5_named_14 ⟨congrArg (fun z => some (Value.int z)) (by rw [q_named, if_neg (fun h => h.elim hm (fun q => by rw [c10] at q; cases q))]), hr, FM.rf σ⟩
