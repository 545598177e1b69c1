theorem in_X1_allWays_X1 : ∀ w ∈ u_ws RX1 TX1 7, w ∈ mWs M_X1_allWays := by decide +kernel
theorem in_X1_callOver_X1 : ∀ w ∈ u_ws RX1 TX1 7, w ∈ mWs M_X1_callOver := by decide +kernel
theorem in_X1_callOver_X3 : ∀ w ∈ u_ws RX3 TX3 12, w ∈ mWs M_X1_callOver := by decide +kernel
theorem in_X1_isShown_X1 : ∀ w ∈ u_ws RX1 TX1 7, w ∈ mWs M_X1_isShown := by decide +kernel
theorem in_X1_waysTogether_X1 : ∀ w ∈ u_ws RX1 TX1 7, w ∈ mWs M_X1_waysTogether := by decide +kernel
theorem fl_X1_allWays_24 : Cond.fieldLink (mOwn M_X1_allWays) 24 (TX1 4).1 (TX1 4).2.1 (TX1 4).2.2.1 ∈ mWs M_X1_allWays := by decide +kernel
theorem fl_X1_callOver_9 : Cond.fieldLink (mOwn M_X1_callOver) 9 (TX1 0).1 (TX1 0).2.1 (TX1 0).2.2.1 ∈ mWs M_X1_callOver := by decide +kernel
theorem fl_X1_callOver_15 : Cond.fieldLink (mOwn M_X1_callOver) 15 (TX1 1).1 (TX1 1).2.1 (TX1 1).2.2.1 ∈ mWs M_X1_callOver := by decide +kernel
theorem fl_X1_callOver_27 : Cond.fieldLink (mOwn M_X1_callOver) 27 (TX3 10).1 (TX3 10).2.1 (TX3 10).2.2.1 ∈ mWs M_X1_callOver := by decide +kernel
theorem fl_X1_callOver_39 : Cond.fieldLink (mOwn M_X1_callOver) 39 (TX1 6).1 (TX1 6).2.1 (TX1 6).2.2.1 ∈ mWs M_X1_callOver := by decide +kernel
theorem fl_X1_callOver_40 : Cond.fieldLink (mOwn M_X1_callOver) 40 (TX1 5).1 (TX1 5).2.1 (TX1 5).2.2.1 ∈ mWs M_X1_callOver := by decide +kernel
theorem fl_X1_isShown_9 : Cond.fieldLink (mOwn M_X1_isShown) 9 (TX1 0).1 (TX1 0).2.1 (TX1 0).2.2.1 ∈ mWs M_X1_isShown := by decide +kernel
theorem fl_X1_waysTogether_9 : Cond.fieldLink (mOwn M_X1_waysTogether) 9 (TX1 0).1 (TX1 0).2.1 (TX1 0).2.2.1 ∈ mWs M_X1_waysTogether := by decide +kernel
theorem fl_X1_waysTogether_21 : Cond.fieldLink (mOwn M_X1_waysTogether) 21 (TX1 3).1 (TX1 3).2.1 (TX1 3).2.2.1 ∈ mWs M_X1_waysTogether := by decide +kernel
theorem fl_X1_waysTogether_24 : Cond.fieldLink (mOwn M_X1_waysTogether) 24 (TX1 4).1 (TX1 4).2.1 (TX1 4).2.2.1 ∈ mWs M_X1_waysTogether := by decide +kernel
theorem fl_X1_waysTogether_39 : Cond.fieldLink (mOwn M_X1_waysTogether) 39 (TX1 6).1 (TX1 6).2.1 (TX1 6).2.2.1 ∈ mWs M_X1_waysTogether := by decide +kernel
theorem nn_X1_countGiven : (mY M_X1_countGiven).cls = mOwn M_X1_countGiven ∧ (mY M_X1_countGiven).cls ≠ "java/lang/invoke/MethodHandle" ∧ (mY M_X1_countGiven).cls ≠ "java/lang/invoke/VarHandle" ∧ (parseMethodDescriptor (mY M_X1_countGiven).desc).map (fun d => d.parameters.length) = some 0 := by decide +kernel
theorem nn_X1_countToGive : (mY M_X1_countToGive).cls = mOwn M_X1_countToGive ∧ (mY M_X1_countToGive).cls ≠ "java/lang/invoke/MethodHandle" ∧ (mY M_X1_countToGive).cls ≠ "java/lang/invoke/VarHandle" ∧ (parseMethodDescriptor (mY M_X1_countToGive).desc).map (fun d => d.parameters.length) = some 0 := by decide +kernel
theorem nn_X1_cuttersOf : (mY M_X1_cuttersOf).cls = mOwn M_X1_cuttersOf ∧ (mY M_X1_cuttersOf).cls ≠ "java/lang/invoke/MethodHandle" ∧ (mY M_X1_cuttersOf).cls ≠ "java/lang/invoke/VarHandle" ∧ (parseMethodDescriptor (mY M_X1_cuttersOf).desc).map (fun d => d.parameters.length) = some 2 := by decide +kernel
theorem nn_X1_isShown : (mY M_X1_isShown).cls = mOwn M_X1_isShown ∧ (mY M_X1_isShown).cls ≠ "java/lang/invoke/MethodHandle" ∧ (mY M_X1_isShown).cls ≠ "java/lang/invoke/VarHandle" ∧ (parseMethodDescriptor (mY M_X1_isShown).desc).map (fun d => d.parameters.length) = some 1 := by decide +kernel
theorem nI_minO {a b : Nat} (ha : a < 2 ^ 31) (hb : b < 2 ^ 31) : (if nI b < nI a then nI b else nI a) = nI (min a b) := by
  by_cases c : b < a
  · rw [if_pos (nI_lt c ha), Nat.min_eq_right (by omega)]
  · rw [if_neg (nI_nlt (by omega) hb), Nat.min_eq_left (by omega)]
def cI (w : WD) (σ : SS) (k : Nat) (τ : SS) : Prop := τ.1 4 5 = nI (shl w k).length ∧ τ.1 4 6 = nI (wN w) ∧ (∀ j, j < k → τ.1 5 j = pl w j) ∧ (∀ j, j < (shl w k).length → τ.1 6 j = nI (cut w (ofL (shl w k) j))) ∧ FRo σ τ
theorem cI_0 {w : WD} (σ : SS) : cI w σ 0 (sI (sI σ 4 6 (nI (wN w))) 4 5 (nI 0)) := ⟨sI_at _ _ _ _, by rw [sI_ne _ _ (Or.inr (by decide)), sI_at], fun j hj => (by omega), fun j hj => absurd hj (by simp [shl, fm]), ((FRo.rf σ).up (by decide) _ _).up (by decide) _ _⟩
theorem pl_st {w : WD} {σ τ : SS} {k : Nat} {x : Int32} (h : cI w σ k τ) (hx : x = pl w k) : ∀ j, j < k + 1 → (sI τ 5 k x).1 5 j = pl w j := fun j hj => by
  by_cases c : j = k
  · subst c; rw [sI_at, hx]
  · rw [sI_ne _ _ (Or.inr c)]; exact h.2.2.1 j (by omega)
theorem cI_n {w : WD} {σ τ : SS} {k : Nat} (h : cI w σ k τ) (hk : sh w k = false) : cI w σ (k + 1) (sI τ 5 k (-4)) := by
  refine ⟨?_, h.2.1, pl_st h (by rw [pl, hk]; rfl), ?_, h.2.2.2.2.up (by decide) _ _⟩
  · rw [shl_n hk]; exact h.1
  · rw [shl_n hk]; exact h.2.2.2.1
theorem cI_y {w : WD} {σ τ : SS} {k : Nat} (h : cI w σ k τ) (hk : sh w k = true) : cI w σ (k + 1) (sI (sI (sI (sI τ 5 k (-4)) 5 k (nI (shl w k).length)) 6 (shl w k).length (nI (cut w k))) 4 5 (nI ((shl w k).length + 1))) := by
  refine ⟨?_, ?_, ?_, ?_, (((h.2.2.2.2.up (by decide) _ _).up (by decide) _ _).up (by decide) _ _).up (by decide) _ _⟩
  · rw [sI_at, shl_y hk, List.length_append]; rfl
  · rw [sI_ne _ _ (Or.inr (by decide))]; exact h.2.1
  · intro j hj
    rw [sI_ne _ _ (Or.inl (by decide)), sI_ne _ _ (Or.inl (by decide)), sI_sI]
    exact pl_st h (by rw [pl, hk]; rfl) j hj
  · intro j hj
    rw [shl_y hk, List.length_append, List.length_singleton] at hj
    rw [sI_ne _ _ (Or.inl (by decide)), shl_y hk]
    by_cases c : j = (shl w k).length
    · subst c; rw [sI_at, ofL_app2]
    · rw [sI_ne _ _ (Or.inr c), ofL_app (by omega)]
      exact h.2.2.2.1 j (by omega)
def RO (w : WD) (σ : SS) : Prop := ROa w σ ∧ (∀ k, k < 16 → σ.1 5 k = pl w k) ∧ (∀ S, S < 2 ^ wN w → σ.1 8 S = nI (GV (wN w) (av w) S)) ∧ ∀ S, S < 2 ^ wN w → σ.1 9 S = nI (TG (wN w) (av w) (nSh w) S)
theorem cI_ro {w : WD} {σ τ : SS} (h : cI w σ 16 τ) : ROa w τ := ⟨h.1, h.2.1, fun j hj => by rw [h.2.2.2.1 j hj, av, if_pos hj]⟩
theorem ro_mk {w : WD} {σ τ υ φ : SS} (h : cI w σ 16 τ) (g : G1 w (2 ^ wN w) τ υ) (t : T1 w 0 υ φ) : RO w φ ∧ FRo σ φ := by
  refine ⟨⟨t.ro (g.ro (cI_ro h)), fun k hk => ?_, fun S hS => ?_, fun S hS => t.1 S (Nat.zero_le _) hS⟩, h.2.2.2.2.tr (FRo.tr (σ := τ) (τ := υ) ⟨fun a ha => g.2.1 a (by omega), g.2.2⟩ ⟨fun a ha => t.2.1 a (by omega), t.2.2⟩)⟩
  · rw [t.2.1 5 (by decide), g.2.1 5 (by decide)]; exact h.2.2.1 k hk
  · rw [t.2.1 8 (by decide)]; exact g.1 S hS
theorem sms_le {z : Nat} {w : WD} (hv : WV z w) {k : Nat} (hk : k < 18) : sms w k ≤ 16 * z := sm_le_sub (fun c hc => wv_H hv (by have := wv_C hv; omega)) 16 (wv_C hv)
set_option maxRecDepth 100000 in
set_option maxHeartbeats 4000000 in
theorem s_X1_callOver {v : EE} {b : Nat} (hb : isW b) {w : WD} {z : Nat} {σ : SS} (hw : CH b w σ) (hv : WV z w) (hz : z ≤ 1000000) : SR v M_X1_callOver [.ref (v.1 4), .ref (v.1 b)] σ none (fun σ' => RO w σ' ∧ FRo σ σ') := by
  refine Sp.of rfl (by decide) rfl (Nat.le_of_ble_eq_true rfl) ?_
  show V v M_X1_callOver _ 0 [(0, .ref (v.1 4)), (1, .ref (v.1 b))] [] σ
  refine v_aload_n dX1_callOver_0 rfl ?_
  refine v_aload_n dX1_callOver_1 rfl ?_
  refine v_get (j := 10) (iWO hb) rfl dX1_callOver_2 (by decide) in_X1_callOver_X3 fl_X1_callOver_27 rfl ?_
  refine v_top (ch_N hw) ?_
  refine v_bipush (x := nI 10) dX1_callOver_5 (by decide +kernel) ?_
  refine v_mmin dX1_callOver_7 (by decide +kernel) ⟨by decide, Nat.le_of_ble_eq_true rfl⟩ ?_
  refine v_top (y := nI (wN w)) (by have := wv_N hv; rw [nI_minO (by omega) (by decide), Nat.min_eq_left this]) ?_
  refine pX1_6 dX1_callOver_10 in_X1_callOver_X1 fl_X1_callOver_39 ?_
  refine v_aload_n dX1_callOver_13 rfl ?_
  refine v_iconst (x := nI 0) dX1_callOver_14 (by decide +kernel) ?_
  refine pX1_5 dX1_callOver_15 in_X1_callOver_X1 fl_X1_callOver_40 ?_
  refine v_iconst (x := nI 0) dX1_callOver_18 (by decide +kernel) ?_
  refine v_istore_n (L' := [(2, _), (0, _), (1, _)]) dX1_callOver_19 rfl (by decide) rfl ?_
  refine v_sub [1, 2, 0] rfl ?_
  refine loopN (fun i => ∀ τ : SS, cI w σ i τ → V v M_X1_callOver (zR v M_X1_callOver (fun r' σ' => r' = none ∧ (RO w σ' ∧ FRo σ σ'))) 20 [(0, .ref (v.1 4)), (1, .ref (v.1 b)), (2, .int (nI i))] [] τ) 16 ?_ ?_ _ (cI_0 σ)
  · intro i hi ih τ hinv
    refine v_iload_n dX1_callOver_20 rfl ?_
    refine v_bipush (x := nI 16) dX1_callOver_21 (by decide +kernel) ?_
    refine n_icmp_ge (tgt := 91) dX1_callOver_23 (by decide) (by omega) (by omega) (fun c23 => absurd c23 (by omega)) (fun c23 => ?_)
    refine v_aload_n dX1_callOver_26 rfl ?_
    refine v_get (j := 0) iO4 rfl dX1_callOver_27 (by decide) in_X1_callOver_X1 fl_X1_callOver_9 rfl ?_
    refine v_iload_n dX1_callOver_30 rfl ?_
    refine v_bipush (x := (-4)) dX1_callOver_31 (by decide +kernel) ?_
    refine v_iastN i iI5 dX1_callOver_33 rfl (by omega) (by decide) ?_
    refine v_aload_n dX1_callOver_34 rfl ?_
    refine v_iload_n dX1_callOver_35 rfl ?_
    refine v_callVi (M' := M_X3_hasSign) (As := [_]) (iWO hb) (s_X3_hasSign hb ((hinv.2.2.2.2.up (by decide) _ _).ch hb hw) hv _) dX1_callOver_36 gX1_callOver_X3_hasSign rfl rfl nn_X3_hasSign ⟨rfl, rfl⟩ ⟨by decide, by decide⟩ rfl rfl (Nat.le_of_ble_eq_true rfl) ?_
    refine v_top (by rw [isN_dec (by omega)]) ?_
    refine b_if_eq (tgt := 85) dX1_callOver_39 (by decide) (fun c39 => ?_) (fun c39 => ?_)
    · have hs : sh w i = false := by rw [sh, c39]; rfl
      refine n_iinc (n := 1) (L' := [(2, _), (0, _), (1, _)]) dX1_callOver_85 rfl (by decide) rfl ?_
      refine v_goto (tgt := 20) dX1_callOver_88 (by decide) ?_
      refine v_sub [1, 2, 0] rfl ?_
      first | exact ih _ (cI_y hinv hs) | exact ih _ (cI_n hinv hs)
    · refine v_aload_n dX1_callOver_42 rfl ?_
      refine v_iload_n dX1_callOver_43 rfl ?_
      refine v_callVi (M' := M_X3_stonesShowing) (As := [_]) (iWO hb) (s_X3_stonesShowing hb ((hinv.2.2.2.2.up (by decide) _ _).ch hb hw) hv (by omega)) dX1_callOver_44 gX1_callOver_X3_stonesShowing rfl rfl nn_X3_stonesShowing ⟨rfl, rfl⟩ ⟨by decide, by decide⟩ rfl rfl (Nat.le_of_ble_eq_true rfl) ?_
      refine n_if_le (tgt := 85) dX1_callOver_47 (by decide) (by have := sms_le hv (k := i) (by omega); omega) (fun c47 => ?_) (fun c47 => ?_)
      · have hs : sh w i = false := by rw [sh, c47]; simp
        refine n_iinc (n := 1) (L' := [(2, _), (0, _), (1, _)]) dX1_callOver_85 rfl (by decide) rfl ?_
        refine v_goto (tgt := 20) dX1_callOver_88 (by decide) ?_
        refine v_sub [1, 2, 0] rfl ?_
        first | exact ih _ (cI_y hinv hs) | exact ih _ (cI_n hinv hs)
      · have hs : sh w i = true := by rw [sh, c39, decide_eq_true c47]; rfl
        have hl := shl_len w i
        refine v_aload_n dX1_callOver_50 rfl ?_
        refine v_get (j := 0) iO4 rfl dX1_callOver_51 (by decide) in_X1_callOver_X1 fl_X1_callOver_9 rfl ?_
        refine v_iload_n dX1_callOver_54 rfl ?_
        refine v_aload_n dX1_callOver_55 rfl ?_
        refine v_get (j := 5) iO4 rfl dX1_callOver_56 (by decide) in_X1_callOver_X1 fl_X1_callOver_40 rfl ?_
        refine v_top ((sI_ne _ _ (Or.inl (by decide))).trans hinv.1) ?_
        refine v_iastN i iI5 dX1_callOver_59 rfl (by omega) (by decide) ?_
        refine v_aload_n dX1_callOver_60 rfl ?_
        refine v_get (j := 1) iO4 rfl dX1_callOver_61 (by decide) in_X1_callOver_X1 fl_X1_callOver_15 rfl ?_
        refine v_aload_n dX1_callOver_64 rfl ?_
        refine v_get (j := 5) iO4 rfl dX1_callOver_65 (by decide) in_X1_callOver_X1 fl_X1_callOver_40 rfl ?_
        refine v_top ((sI_ne _ _ (Or.inl (by decide))).trans ((sI_ne _ _ (Or.inl (by decide))).trans hinv.1)) ?_
        refine v_aload_n dX1_callOver_68 rfl ?_
        refine v_aload_n dX1_callOver_69 rfl ?_
        refine v_iload_n dX1_callOver_70 rfl ?_
        refine v_callVi (M' := M_X1_cuttersOf) (As := [_, _]) iO4 (s_X1_cuttersOf hb (((hinv.2.2.2.2.up (by decide) _ _).up (by decide) _ _).ch hb hw) hv hz ((sI_ne _ _ (Or.inl (by decide))).trans ((sI_ne _ _ (Or.inl (by decide))).trans hinv.2.1)) (by omega)) dX1_callOver_71 gX1_callOver_X1_cuttersOf rfl rfl nn_X1_cuttersOf ⟨rfl, rfl⟩ ⟨by decide, by decide⟩ rfl rfl (Nat.le_of_ble_eq_true rfl) ?_
        refine v_iastN (shl w i).length iI6 dX1_callOver_74 rfl (by omega) (by decide) ?_
        refine v_aload_n dX1_callOver_75 rfl ?_
        refine v_dup dX1_callOver_76 rfl ?_
        refine v_get (j := 5) iO4 rfl dX1_callOver_77 (by decide) in_X1_callOver_X1 fl_X1_callOver_40 rfl ?_
        refine v_top ((sI_ne _ _ (Or.inl (by decide))).trans ((sI_ne _ _ (Or.inl (by decide))).trans ((sI_ne _ _ (Or.inl (by decide))).trans hinv.1))) ?_
        refine v_iconst (x := nI 1) dX1_callOver_80 (by decide +kernel) ?_
        refine n_iadd dX1_callOver_81 ?_
        refine pX1_5 dX1_callOver_82 in_X1_callOver_X1 fl_X1_callOver_40 ?_
        refine n_iinc (n := 1) (L' := [(2, _), (0, _), (1, _)]) dX1_callOver_85 rfl (by decide) rfl ?_
        refine v_goto (tgt := 20) dX1_callOver_88 (by decide) ?_
        refine v_sub [1, 2, 0] rfl ?_
        first | exact ih _ (cI_y hinv hs) | exact ih _ (cI_n hinv hs)
  · intro τ hinv
    refine v_iload_n dX1_callOver_20 rfl ?_
    refine v_bipush (x := nI 16) dX1_callOver_21 (by decide +kernel) ?_
    refine n_icmp_ge (tgt := 91) dX1_callOver_23 (by decide) (by omega) (by omega) (fun c23 => ?_) (fun c23 => absurd c23 (by omega))
    refine v_aload_n dX1_callOver_91 rfl ?_
    refine v_callVRv (M' := M_X1_countGiven) (As := []) iO4 (s_X1_countGiven hv (cI_ro hinv)) dX1_callOver_92 gX1_callOver_X1_countGiven rfl rfl nn_X1_countGiven ⟨rfl, rfl⟩ ⟨by decide, by decide⟩ rfl rfl (Nat.le_of_ble_eq_true rfl) (fun s1 h1 => ?_)
    refine v_aload_n dX1_callOver_95 rfl ?_
    refine v_callVRv (M' := M_X1_countToGive) (As := []) iO4 (s_X1_countToGive hv (h1.ro (cI_ro hinv))) dX1_callOver_96 gX1_callOver_X1_countToGive rfl rfl nn_X1_countToGive ⟨rfl, rfl⟩ ⟨by decide, by decide⟩ rfl rfl (Nat.le_of_ble_eq_true rfl) (fun s2 h2 => ?_)
    exact v_vret rfl dX1_callOver_99 ⟨rfl, ro_mk hinv h1 h2⟩
def allW (w : WD) : Nat := Bw (wN w) (av w) (nSh w) (nSh w) 0
theorem allW_le {z : Nat} {w : WD} (hv : WV z w) : allW w ≤ 3628800 := by
  rw [allW, ← TG_0]; exact TG_le (wv_N hv) (Nat.pow_pos (by decide))
def TW (w : WD) (k m : Nat) : Nat := TT (wN w) (av w) (nSh w) (shl w k).length m
set_option maxRecDepth 100000 in
set_option maxHeartbeats 4000000 in
theorem s_X1_allWays {v : EE} {w : WD} {z : Nat} {σ : SS} (hv : WV z w) (hr : RO w σ) : S1 v M_X1_allWays [.ref (v.1 4)] σ (some (.long (lN (allW w)))) (σ) := by
  refine Sp.of rfl (by decide) rfl (Nat.le_of_ble_eq_true rfl) ?_
  show V v M_X1_allWays _ 0 [(0, .ref (v.1 4))] [] σ
  refine v_aload_n dX1_allWays_0 rfl ?_
  refine v_get (j := 4) iO4 rfl dX1_allWays_1 (by decide) in_X1_allWays_X1 fl_X1_allWays_24 rfl ?_
  refine v_iconst (x := nI 0) dX1_allWays_4 (by decide +kernel) ?_
  refine v_ialdN 0 iI9 dX1_allWays_5 rfl (by decide) (by decide) ?_
  refine v_top ((hr.2.2.2 0 (Nat.pow_pos (by decide))).trans (by rw [TG_0])) ?_
  refine v_i2l dX1_allWays_6 ?_
  refine v_topl (nI_l (by have := allW_le hv; rw [allW] at this; omega)) ?_
  exact v_lret rfl dX1_allWays_7 ⟨rfl, rfl⟩
set_option maxRecDepth 100000 in
set_option maxHeartbeats 4000000 in
theorem s_X1_isShown {v : EE} {w : WD} {z : Nat} {σ : SS} (hv : WV z w) (hr : RO w σ) {k : Nat} (hk : k < 16) : S1 v M_X1_isShown [.ref (v.1 4), .int (nI k)] σ (some (.int (bI (sh w k)))) (σ) := by
  refine Sp.of rfl (by decide) rfl (Nat.le_of_ble_eq_true rfl) ?_
  show V v M_X1_isShown _ 0 [(0, .ref (v.1 4)), (1, .int (nI k))] [] σ
  refine v_iload_n dX1_isShown_0 rfl ?_
  refine n_if_lt (tgt := 23) dX1_isShown_1 (by decide) (by omega) ?_
  refine v_iload_n dX1_isShown_4 rfl ?_
  refine v_bipush (x := nI 16) dX1_isShown_5 (by decide +kernel) ?_
  refine n_icmp_ge (tgt := 23) dX1_isShown_7 (by decide) (by omega) (by omega) (fun c7 => absurd c7 (by omega)) (fun c7 => ?_)
  refine v_aload_n dX1_isShown_10 rfl ?_
  refine v_get (j := 0) iO4 rfl dX1_isShown_11 (by decide) in_X1_isShown_X1 fl_X1_isShown_9 rfl ?_
  refine v_iload_n dX1_isShown_14 rfl ?_
  refine v_ialdN k iI5 dX1_isShown_15 rfl hk (by decide) ?_
  refine v_top (hr.2.1 k hk) ?_
  cases hs : sh w k
  · refine v_top (y := -4) (by rw [pl, hs]; rfl) ?_
    refine v_if_lt (tgt := 23) dX1_isShown_16 (by decide) (fun c16 => ?_) (fun c16 => absurd (by decide) c16)
    refine v_iconst (x := nI 0) dX1_isShown_23 (by decide +kernel) ?_
    exact v_zret rfl (by decide) dX1_isShown_24 ⟨rfl, rfl⟩
  · refine v_top (y := nI (shl w k).length) (by rw [pl, hs]; rfl) ?_
    refine n_if_lt (tgt := 23) dX1_isShown_16 (by decide) (by have := shl_len w k; omega) ?_
    refine v_iconst (x := nI 1) dX1_isShown_19 (by decide +kernel) ?_
    refine v_goto (tgt := 24) dX1_isShown_20 (by decide) ?_
    exact v_zret rfl (by decide) dX1_isShown_24 ⟨rfl, rfl⟩
def wF (w : WD) (q m S : Nat) : Nat := if pc S = q ∧ (dif (av w q) S).testBit m then GV (wN w) (av w) S * TG (wN w) (av w) (nSh w) (S ||| 2 ^ m) else 0
theorem wF_TW {z : Nat} {w : WD} (hv : WV z w) {k m : Nat} (hk : k < 16) (hs : sh w k = true) (hm : m < wN w) : sm (wF w (shl w k).length m) (2 ^ wN w) = TW w k m := TT_cl (wv_N hv) (shl_at hk hs).1 hm
theorem TW_le {z : Nat} {w : WD} (hv : WV z w) {k m : Nat} (hk : k < 16) (hs : sh w k = true) (hm : m < wN w) : TW w k m ≤ allW w := by
  rw [allW, ← TT_sum (shl_at hk hs).1, TW]
  have : ∀ n, m < n → TT (wN w) (av w) (nSh w) (shl w k).length m ≤ sm (TT (wN w) (av w) (nSh w) (shl w k).length) n := by
    intro n
    induction n with
    | zero => intro h; omega
    | succ n ih =>
      intro h
      rw [sm]
      by_cases c : m = n
      · subst c; omega
      · have := ih (by omega); omega
  exact this _ hm
set_option maxRecDepth 100000 in
set_option maxHeartbeats 4000000 in
theorem s_X1_waysTogether {v : EE} {w : WD} {z : Nat} {σ : SS} (hv : WV z w) (hr : RO w σ) {k m : Nat} (hk : k < 16) (hs : sh w k = true) (hm : m < wN w) : S1 v M_X1_waysTogether [.ref (v.1 4), .int (nI m), .int (nI k)] σ (some (.long (lN (TW w k m)))) (σ) := by
  refine Sp.of rfl (by decide) rfl (Nat.le_of_ble_eq_true rfl) ?_
  show V v M_X1_waysTogether _ 0 [(0, .ref (v.1 4)), (1, .int (nI m)), (2, .int (nI k))] [] σ
  have hN10 := wv_N hv
  have hp := p2N hv
  have hl := shl_len w k
  refine v_aload_n dX1_waysTogether_0 rfl ?_
  refine v_iload_n dX1_waysTogether_1 rfl ?_
  refine v_callVi (M' := M_X1_isShown) (As := [_]) iO4 (s_X1_isShown hv hr hk) dX1_waysTogether_2 gX1_waysTogether_X1_isShown rfl rfl nn_X1_isShown ⟨rfl, rfl⟩ ⟨by decide, by decide⟩ rfl rfl (Nat.le_of_ble_eq_true rfl) ?_
  refine b_if_eq (tgt := 17) dX1_waysTogether_5 (by decide) (fun c5 => absurd c5 (by rw [hs]; decide)) (fun c5 => ?_)
  refine v_aload_n dX1_waysTogether_8 rfl ?_
  refine v_get (j := 0) iO4 rfl dX1_waysTogether_9 (by decide) in_X1_waysTogether_X1 fl_X1_waysTogether_9 rfl ?_
  refine v_iload_n dX1_waysTogether_12 rfl ?_
  refine v_ialdN k iI5 dX1_waysTogether_13 rfl hk (by decide) ?_
  refine v_top (y := nI (shl w k).length) ((hr.2.1 k hk).trans (by rw [pl, hs]; rfl)) ?_
  refine v_goto (tgt := 19) dX1_waysTogether_14 (by decide) ?_
  refine v_istore_n (L' := [(3, _), (0, _), (1, _), (2, _)]) dX1_waysTogether_19 rfl (by decide) rfl ?_
  refine v_lconst (x := 0) dX1_waysTogether_20 rfl ?_
  refine v_lstore (L' := [(4, _), (3, _), (0, _), (1, _), (2, _)]) dX1_waysTogether_21 (by decide) rfl ?_
  refine v_iconst (x := nI 0) dX1_waysTogether_23 (by decide +kernel) ?_
  refine v_istore (L' := [(6, _), (4, _), (3, _), (0, _), (1, _), (2, _)]) dX1_waysTogether_24 (by decide) rfl ?_
  refine v_sub [3, 4, 5, 2, 1, 0] rfl ?_
  refine loopN (fun i => V v M_X1_waysTogether (zR v M_X1_waysTogether (fun r' σ' => r' = (some (.long (lN (TW w k m)))) ∧ σ' = (σ))) 26 [(0, .ref (v.1 4)), (1, .int (nI m)), (2, .int (nI k)), (3, .int (nI (shl w k).length)), (4, .long (lN (sm (wF w (shl w k).length m) i))), (6, .int (nI i))] [] (σ)) (2 ^ wN w) ?_ ?_
  · intro i hi ih
    refine v_iload dX1_waysTogether_26 rfl ?_
    refine v_iconst (x := nI 1) dX1_waysTogether_28 (by decide +kernel) ?_
    refine v_aload_n dX1_waysTogether_29 rfl ?_
    refine v_get (j := 6) iO4 rfl dX1_waysTogether_30 (by decide) in_X1_waysTogether_X1 fl_X1_waysTogether_39 rfl ?_
    refine v_top hr.1.2.1 ?_
    refine n_shl1 dX1_waysTogether_33 (by omega) ?_
    refine n_icmp_ge (tgt := 95) dX1_waysTogether_34 (by decide) (by omega) (by omega) (fun c34 => absurd c34 (by omega)) (fun c34 => ?_)
    refine v_iload dX1_waysTogether_37 rfl ?_
    refine v_callSi (M' := M_J6_bitCount_0f7a4) (As := [_]) (s_J6_bitCount_0f7a4 (by omega)) dX1_waysTogether_39 gX1_waysTogether_J6_bitCount_0f7a4 rfl nn_J6_bitCount_0f7a4 ⟨rfl, rfl⟩ ⟨by decide, by decide⟩ rfl rfl (Nat.le_of_ble_eq_true rfl) ?_
    have hpl := pc_leN hN10 (show i < 2 ^ wN w by omega)
    refine v_iload_n dX1_waysTogether_42 rfl ?_
    refine n_icmp_ne (tgt := 89) dX1_waysTogether_43 (by decide) (by omega) (by omega) (fun c43 => ?_) (fun c43 => ?_)
    · have e : sm (wF w (shl w k).length m) (i + 1) = sm (wF w (shl w k).length m) i := by rw [sm, wF, if_neg (fun h => c43 h.1), Nat.add_zero]
      rw [e] at ih
      refine n_iinc (n := 1) (L' := [(6, _), (0, _), (1, _), (2, _), (3, _), (4, _)]) dX1_waysTogether_89 rfl (by decide) rfl ?_
      refine v_goto (tgt := 26) dX1_waysTogether_92 (by decide) ?_
      refine v_sub [1, 2, 3, 4, 5, 0] rfl ?_
      exact ih
    · refine v_aload_n dX1_waysTogether_46 rfl ?_
      refine v_iload_n dX1_waysTogether_47 rfl ?_
      refine v_callVi (M' := M_X1_mayOwnAt) (As := [_]) iO4 (s_X1_mayOwnAt hr.1 (by omega)) dX1_waysTogether_48 gX1_waysTogether_X1_mayOwnAt rfl rfl nn_X1_mayOwnAt ⟨rfl, rfl⟩ ⟨by decide, by decide⟩ rfl rfl (Nat.le_of_ble_eq_true rfl) ?_
      refine v_iload dX1_waysTogether_51 rfl ?_
      refine v_iconst (x := (-1)) dX1_waysTogether_53 rfl ?_
      refine v_ixor dX1_waysTogether_54 ?_
      refine n_dif dX1_waysTogether_55 ?_
      refine v_iconst (x := nI 1) dX1_waysTogether_56 (by decide +kernel) ?_
      refine v_iload_n dX1_waysTogether_57 rfl ?_
      refine n_shl1 dX1_waysTogether_58 (by omega) ?_
      refine n_iand dX1_waysTogether_59 ?_
      refine n_if_eq (tgt := 89) dX1_waysTogether_60 (by decide) (Nat.lt_of_le_of_lt Nat.and_le_left (by have := dif_le (av w (shl w k).length) i; have := av_lt w (shl w k).length; omega)) (fun c60 => ?_) (fun c60 => ?_)
      · have e : sm (wF w (shl w k).length m) (i + 1) = sm (wF w (shl w k).length m) i := by rw [sm, wF, if_neg (fun h => wait_iff.mp c60 (by have := h.2; rw [tb_dif, Bool.and_eq_true, Bool.not_eq_true'] at this; exact this)), Nat.add_zero]
        rw [e] at ih
        refine n_iinc (n := 1) (L' := [(6, _), (0, _), (1, _), (2, _), (3, _), (4, _)]) dX1_waysTogether_89 rfl (by decide) rfl ?_
        refine v_goto (tgt := 26) dX1_waysTogether_92 (by decide) ?_
        refine v_sub [1, 2, 3, 4, 5, 0] rfl ?_
        exact ih
      · have hh := Classical.not_not.mp (fun z => c60 (wait_iff.mpr z))
        have e : sm (wF w (shl w k).length m) (i + 1) = sm (wF w (shl w k).length m) i + GV (wN w) (av w) i * TG (wN w) (av w) (nSh w) (i ||| 2 ^ m) := by rw [sm, wF, if_pos ⟨c43, by rw [tb_dif, hh.1, hh.2]; rfl⟩]
        rw [e] at ih
        have hl2 : i ||| 2 ^ m < 2 ^ wN w := Nat.or_lt_two_pow (by omega) (Nat.pow_lt_pow_right (by decide) hm)
        have hg1 := GV_le hN10 (a := av w) (S := i) (by omega)
        have hg2 := TG_le hN10 (a := av w) (n := nSh w) hl2
        refine v_lload dX1_waysTogether_63 rfl ?_
        refine v_aload_n dX1_waysTogether_65 rfl ?_
        refine v_get (j := 3) iO4 rfl dX1_waysTogether_66 (by decide) in_X1_waysTogether_X1 fl_X1_waysTogether_21 rfl ?_
        refine v_iload dX1_waysTogether_69 rfl ?_
        refine v_ialdN i iI8 dX1_waysTogether_71 rfl (by omega) (by decide) ?_
        refine v_top (hr.2.2.1 i (by omega)) ?_
        refine v_i2l dX1_waysTogether_72 ?_
        refine v_topl (nI_l (by omega)) ?_
        refine v_aload_n dX1_waysTogether_73 rfl ?_
        refine v_get (j := 4) iO4 rfl dX1_waysTogether_74 (by decide) in_X1_waysTogether_X1 fl_X1_waysTogether_24 rfl ?_
        refine v_iload dX1_waysTogether_77 rfl ?_
        refine v_iconst (x := nI 1) dX1_waysTogether_79 (by decide +kernel) ?_
        refine v_iload_n dX1_waysTogether_80 rfl ?_
        refine n_shl1 dX1_waysTogether_81 (by omega) ?_
        refine n_ior dX1_waysTogether_82 ?_
        refine v_ialdN (i ||| 2 ^ m) iI9 dX1_waysTogether_83 rfl (by omega) (by decide) ?_
        refine v_top (hr.2.2.2 _ hl2) ?_
        refine v_i2l dX1_waysTogether_84 ?_
        refine v_topl (nI_l (by omega)) ?_
        refine v_lmul dX1_waysTogether_85 ?_
        refine v_topl (lN_mulN _ _) ?_
        refine v_ladd dX1_waysTogether_86 ?_
        refine v_topl (lN_add _ _) ?_
        refine v_lstore (L' := [(4, _), (0, _), (1, _), (2, _), (3, _), (6, _)]) dX1_waysTogether_87 (by decide) rfl ?_
        refine n_iinc (n := 1) (L' := [(6, _), (4, _), (0, _), (1, _), (2, _), (3, _)]) dX1_waysTogether_89 rfl (by decide) rfl ?_
        refine v_goto (tgt := 26) dX1_waysTogether_92 (by decide) ?_
        refine v_sub [2, 3, 4, 5, 1, 0] rfl ?_
        exact ih
  · refine v_iload dX1_waysTogether_26 rfl ?_
    refine v_iconst (x := nI 1) dX1_waysTogether_28 (by decide +kernel) ?_
    refine v_aload_n dX1_waysTogether_29 rfl ?_
    refine v_get (j := 6) iO4 rfl dX1_waysTogether_30 (by decide) in_X1_waysTogether_X1 fl_X1_waysTogether_39 rfl ?_
    refine v_top hr.1.2.1 ?_
    refine n_shl1 dX1_waysTogether_33 (by omega) ?_
    refine n_icmp_ge (tgt := 95) dX1_waysTogether_34 (by decide) (by omega) (by omega) (fun c34 => ?_) (fun c34 => absurd c34 (by omega))
    refine v_lload dX1_waysTogether_95 rfl ?_
    exact v_lret rfl dX1_waysTogether_97 ⟨congrArg (fun z => some (Value.long z)) (by rw [wF_TW hv hk hs hm]), rfl⟩
