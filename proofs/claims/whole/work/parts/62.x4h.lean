theorem in_X4_found_X4 : ∀ w ∈ u_ws RX4 TX4 8, w ∈ mWs M_X4_found := by decide +kernel
theorem in_X4_letCut_X0 : ∀ w ∈ u_ws RX0 TX0 10, w ∈ mWs M_X4_letCut := by decide +kernel
theorem in_X4_letCut_X4 : ∀ w ∈ u_ws RX4 TX4 8, w ∈ mWs M_X4_letCut := by decide +kernel
theorem fl_X4_found_26 : Cond.fieldLink (mOwn M_X4_found) 26 (TX4 2).1 (TX4 2).2.1 (TX4 2).2.2.1 ∈ mWs M_X4_found := by decide +kernel
theorem fl_X4_found_30 : Cond.fieldLink (mOwn M_X4_found) 30 (TX4 3).1 (TX4 3).2.1 (TX4 3).2.2.1 ∈ mWs M_X4_found := by decide +kernel
theorem fl_X4_letCut_26 : Cond.fieldLink (mOwn M_X4_letCut) 26 (TX4 2).1 (TX4 2).2.1 (TX4 2).2.2.1 ∈ mWs M_X4_letCut := by decide +kernel
theorem fl_X4_letCut_30 : Cond.fieldLink (mOwn M_X4_letCut) 30 (TX4 3).1 (TX4 3).2.1 (TX4 3).2.2.1 ∈ mWs M_X4_letCut := by decide +kernel
theorem fl_X4_letCut_277 : Cond.fieldLink (mOwn M_X4_letCut) 277 (TX0 1).1 (TX0 1).2.1 (TX0 1).2.2.1 ∈ mWs M_X4_letCut := by decide +kernel
theorem fl_X4_letCut_278 : Cond.fieldLink (mOwn M_X4_letCut) 278 (TX0 0).1 (TX0 0).2.1 (TX0 0).2.2.1 ∈ mWs M_X4_letCut := by decide +kernel
theorem nn_X0_gapsOf : (mY M_X0_gapsOf).cls = mOwn M_X0_gapsOf ∧ (mY M_X0_gapsOf).cls ≠ "java/lang/invoke/MethodHandle" ∧ (mY M_X0_gapsOf).cls ≠ "java/lang/invoke/VarHandle" ∧ (parseMethodDescriptor (mY M_X0_gapsOf).desc).map (fun d => d.parameters.length) = some 2 := by decide +kernel
theorem nn_X4_drawn : (mY M_X4_drawn).cls ≠ "java/lang/invoke/MethodHandle" ∧ (mY M_X4_drawn).cls ≠ "java/lang/invoke/VarHandle" ∧ (parseMethodDescriptor (mY M_X4_drawn).desc).map (fun d => d.parameters.length) = some 3 := by decide +kernel
theorem nn_X4_letCut : (mY M_X4_letCut).cls = mOwn M_X4_letCut ∧ (mY M_X4_letCut).cls ≠ "java/lang/invoke/MethodHandle" ∧ (mY M_X4_letCut).cls ≠ "java/lang/invoke/VarHandle" ∧ (parseMethodDescriptor (mY M_X4_letCut).desc).map (fun d => d.parameters.length) = some 4 := by decide +kernel
theorem nn_X4_planRow : (mY M_X4_planRow).cls = mOwn M_X4_planRow ∧ (mY M_X4_planRow).cls ≠ "java/lang/invoke/MethodHandle" ∧ (mY M_X4_planRow).cls ≠ "java/lang/invoke/VarHandle" ∧ (parseMethodDescriptor (mY M_X4_planRow).desc).map (fun d => d.parameters.length) = some 2 := by decide +kernel
theorem in_r {k : Int32} {lo hi : Nat} (hh : hi < 2 ^ 31 - 1) (hl : lo ≤ hi) (h1 : ¬ k < nI lo) (h2 : ¬ nI hi < k) : ∃ j, j < hi + 1 ∧ lo ≤ j ∧ k = nI j := by
  rw [Int32.lt_iff_toInt_lt, nI_toInt (by omega)] at h1 h2
  obtain ⟨j, a, b, rfl⟩ := isN_nI (isN_iff.mpr ⟨(by omega : 0 ≤ k.toInt), (by omega : k.toInt < ((hi + 1 : Nat) : Int))⟩)
  rw [nI_toInt b] at h1
  exact ⟨j, a, by omega, rfl⟩
theorem in_r2 {k : Int32} {hi : Nat} (hh : hi < 2 ^ 31) (h1 : ¬ k < 0) (h2 : k < nI hi) : ∃ j, j < hi ∧ k = nI j := by
  obtain ⟨j, a, b, e⟩ := isN_nI (isN_in hh h1 (fun q => by rw [Int32.le_iff_toInt_le] at q; rw [Int32.lt_iff_toInt_lt] at h2; omega))
  exact ⟨j, a, e⟩
def lcI (z n o h i : Nat) (σ : SS) (t : Nat) (τ : SS) : Prop := (τ.1 10 9 = nI (2 ^ n - 1) ∧ (∀ p, p < 6 → τ.1 11 p = nI (sgo (fOD z n o i h) p ||| (if (om (fWf (lgP n o) n z h i) t).testBit p then 2 ^ i else 0))) ∧ (∀ k, k < 16 → τ.1 12 k = nI (stv (fOD z n o (i + 1) h) k)) ∧ (∀ p, p < 6 → τ.1 13 p = nI 0)) ∧ PL (lgP n o) n τ ∧ FOp σ τ
theorem lcI_0 {z n o h i : Nat} {σ : SS} (hc : OC0 (fOD z n o i h) σ) (hp : PL (lgP n o) n σ) : lcI z n o h i σ 0 (sI σ 12 i (nI (fT z i))) := by
  refine ⟨⟨(sI_ne _ _ (Or.inl (by decide))).trans hc.1, fun p hp => ?_, fun k hk => ?_, fun p hp => (sI_ne _ _ (Or.inl (by decide))).trans (hc.2.2.2 p hp)⟩, fun j hj => (sI_ne _ _ (Or.inl (by decide))).trans (hp j hj), (FOp.rf σ).up (by decide) _ _⟩
  · rw [sI_ne _ _ (Or.inl (by decide)), hc.2.1 p hp, om, Nat.zero_testBit]
    simp
  · by_cases q : k = i
    · subst q
      rw [sI_at, stv]
      show nI (fT z k) = nI (if k < k + 1 then fT z k else 0)
      rw [if_pos (by omega)]
    · rw [sI_ne _ _ (Or.inr q), hc.2.2.1 k hk, stv, stv]
      show nI (if k < i then fT z k else 0) = nI (if k < i + 1 then fT z k else 0)
      by_cases c : k < i
      · rw [if_pos c, if_pos (by omega)]
      · rw [if_neg c, if_neg (by omega)]
theorem lcI_n {z n o h i t : Nat} {σ τ : SS} (hI : lcI z n o h i σ t τ) (hw : ¬ dr z i (10 + (fFr n z i + t)) % 100 < h) : lcI z n o h i σ (t + 1) τ := by
  refine ⟨⟨hI.1.1, fun p hp => ?_, hI.1.2.2⟩, hI.2⟩
  rw [hI.1.2.1 p hp, om, fWf, if_neg hw, Nat.or_zero]
theorem lcI_y {z n o h i t : Nat} {σ τ : SS} (hI : lcI z n o h i σ t τ) (hw : dr z i (10 + (fFr n z i + t)) % 100 < h) : lcI z n o h i σ (t + 1) (sI τ 11 (ofL (lgP n o) (fFr n z i + t)) (nI (sgo (fOD z n o i h) (ofL (lgP n o) (fFr n z i + t)) ||| (if (om (fWf (lgP n o) n z h i) t).testBit (ofL (lgP n o) (fFr n z i + t)) then 2 ^ i else 0) ||| 2 ^ i))) := by
  refine ⟨⟨(sI_ne _ _ (Or.inl (by decide))).trans hI.1.1, fun p hp => ?_, fun k hk => (sI_ne _ _ (Or.inl (by decide))).trans (hI.1.2.2.1 k hk), fun p hp => (sI_ne _ _ (Or.inl (by decide))).trans (hI.1.2.2.2 p hp)⟩, fun j hj => (sI_ne _ _ (Or.inl (by decide))).trans (hI.2.1 j hj), hI.2.2.up (by decide) _ _⟩
  rw [om, Nat.testBit_or, show fWf (lgP n o) n z h i t = 2 ^ ofL (lgP n o) (fFr n z i + t) from if_pos hw, tb_pow]
  by_cases q : p = ofL (lgP n o) (fFr n z i + t)
  · subst q
    rw [sI_at]
    simp only [decide_true, Bool.or_true, if_true]
    congr 1
    split
    · rw [Nat.or_assoc, Nat.or_self]
    · rw [Nat.or_zero]
  · rw [sI_ne _ _ (Or.inr q), hI.1.2.1 p hp]
    have : decide (ofL (lgP n o) (fFr n z i + t) = p) = false := decide_eq_false (fun e => q e.symm)
    rw [this, Bool.or_false]
theorem lcI_e {z n o h i : Nat} {σ τ : SS} (hI : lcI z n o h i σ (fCn n z i) τ) : OC0 (fOD z n o (i + 1) h) τ ∧ PL (lgP n o) n τ ∧ FOp σ τ :=
  ⟨⟨hI.1.1, fun p hp => hI.1.2.1 p hp, hI.1.2.2.1, hI.1.2.2.2⟩, hI.2⟩
set_option maxRecDepth 100000 in
set_option maxHeartbeats 4000000 in
theorem s_X4_letCut {v : EE} {σ : SS} {z n o i h : Nat} (hz : z < 10000) (hn2 : 2 ≤ n) (hn : n < 7) (ho : o < fc n) (hi12 : i < 12) (hh : h < 101) (hc : OC0 (fOD z n o i h) σ) (hp : PL (lgP n o) n σ) : SR v M_X4_letCut [.ref (v.1 0), .int (nI z), .int (nI n), .int (nI i), .int (nI h)] σ none (fun σ' => OC0 (fOD z n o (i + 1) h) σ' ∧ PL (lgP n o) n σ' ∧ FOp σ σ') := by
  refine Sp.of rfl (by decide) rfl (Nat.le_of_ble_eq_true rfl) ?_
  show V v M_X4_letCut _ 0 [(0, .ref (v.1 0)), (1, .int (nI z)), (2, .int (nI n)), (3, .int (nI i)), (4, .int (nI h))] [] σ
  have hfr : fFr n z i < n := Nat.mod_lt _ (by omega)
  have hst : 1 ≤ fSt z i ∧ fSt z i ≤ 3 := by rw [fSt]; omega
  refine v_iload_n dX4_letCut_0 rfl ?_
  refine v_iload_n dX4_letCut_1 rfl ?_
  refine v_iconst (x := nI 0) dX4_letCut_2 (by decide +kernel) ?_
  refine v_callSi (M' := M_X4_drawn) (As := [_, _, _]) (s_X4_drawn hz (by omega) (by decide)) dX4_letCut_3 gX4_letCut_X4_drawn rfl nn_X4_drawn ⟨rfl, rfl⟩ ⟨by decide, by decide⟩ rfl rfl (Nat.le_of_ble_eq_true rfl) ?_
  refine v_iload_n dX4_letCut_6 rfl ?_
  refine n_irem dX4_letCut_7 (by have := dr_lt z i 0; omega) (by omega) (by omega) ?_
  refine v_istore (L' := [(5, _), (0, _), (1, _), (2, _), (3, _), (4, _)]) dX4_letCut_8 (by decide) rfl ?_
  refine v_iconst (x := nI 1) dX4_letCut_10 (by decide +kernel) ?_
  refine v_iload_n dX4_letCut_11 rfl ?_
  refine v_iload_n dX4_letCut_12 rfl ?_
  refine v_iconst (x := nI 1) dX4_letCut_13 (by decide +kernel) ?_
  refine v_callSi (M' := M_X4_drawn) (As := [_, _, _]) (s_X4_drawn hz (by omega) (by decide)) dX4_letCut_14 gX4_letCut_X4_drawn rfl nn_X4_drawn ⟨rfl, rfl⟩ ⟨by decide, by decide⟩ rfl rfl (Nat.le_of_ble_eq_true rfl) ?_
  refine v_iconst (x := nI 3) dX4_letCut_17 (by decide +kernel) ?_
  refine n_irem dX4_letCut_18 (by have := dr_lt z i 1; omega) (by decide) (by decide) ?_
  refine n_iadd dX4_letCut_19 ?_
  refine v_istore (L' := [(6, _), (5, _), (0, _), (1, _), (2, _), (3, _), (4, _)]) dX4_letCut_20 (by decide) rfl ?_
  refine v_aload_n dX4_letCut_22 rfl ?_
  refine v_get (j := 2) iO0 rfl dX4_letCut_23 (by decide) in_X4_letCut_X4 fl_X4_letCut_26 rfl ?_
  refine v_get (j := 1) iO10 rfl dX4_letCut_26 (by decide) in_X4_letCut_X0 fl_X4_letCut_277 rfl ?_
  refine v_iload_n dX4_letCut_29 rfl ?_
  refine v_iconst (x := nI 1) dX4_letCut_30 (by decide +kernel) ?_
  refine v_iload_n dX4_letCut_31 rfl ?_
  refine v_iload_n dX4_letCut_32 rfl ?_
  refine v_iconst (x := nI 2) dX4_letCut_33 (by decide +kernel) ?_
  refine v_callSi (M' := M_X4_drawn) (As := [_, _, _]) (s_X4_drawn hz (by omega) (by decide)) dX4_letCut_34 gX4_letCut_X4_drawn rfl nn_X4_drawn ⟨rfl, rfl⟩ ⟨by decide, by decide⟩ rfl rfl (Nat.le_of_ble_eq_true rfl) ?_
  refine v_iconst (x := nI 5) dX4_letCut_37 (by decide +kernel) ?_
  refine n_irem dX4_letCut_38 (by have := dr_lt z i 2; omega) (by decide) (by decide) ?_
  refine n_iadd dX4_letCut_39 ?_
  refine v_iastN i iI12 dX4_letCut_40 rfl (by omega) (by decide) ?_
  refine v_iload dX4_letCut_41 rfl ?_
  refine v_istore (L' := [(7, _), (6, _), (5, _), (0, _), (1, _), (2, _), (3, _), (4, _)]) dX4_letCut_43 (by decide) rfl ?_
  refine v_sub [3, 4, 5, 6, 7, 2, 1, 0] rfl ?_
  refine loopN (fun t => ∀ τ : SS, lcI z n o h i σ t τ → V v M_X4_letCut (zR v M_X4_letCut (fun r' σ' => r' = none ∧ (OC0 (fOD z n o (i + 1) h) σ' ∧ PL (lgP n o) n σ' ∧ FOp σ σ'))) 45 [(0, .ref (v.1 0)), (1, .int (nI z)), (2, .int (nI n)), (3, .int (nI i)), (4, .int (nI h)), (5, .int (nI (fFr n z i))), (6, .int (nI (fSt z i))), (7, .int (nI (fFr n z i + t)))] [] τ) (fCn n z i) ?_ ?_ _ (lcI_0 hc hp)
  · intro t hi ih τ hinv
    have hi2 : fFr n z i + t < n ∧ fFr n z i + t < fFr n z i + fSt z i := by rw [fCn] at hi; omega
    have hel := lgP_el hn ho hi2.1
    refine v_iload dX4_letCut_45 rfl ?_
    refine v_iload_n dX4_letCut_47 rfl ?_
    refine n_icmp_ge (tgt := 106) dX4_letCut_48 (by decide) (by omega) (by omega) (fun c48 => absurd c48 (by omega)) (fun c48 => ?_)
    refine v_iload dX4_letCut_51 rfl ?_
    refine v_iload dX4_letCut_53 rfl ?_
    refine v_iload dX4_letCut_55 rfl ?_
    refine n_iadd dX4_letCut_57 ?_
    refine n_icmp_ge (tgt := 106) dX4_letCut_58 (by decide) (by omega) (by omega) (fun c58 => absurd c58 (by omega)) (fun c58 => ?_)
    refine v_iload_n dX4_letCut_61 rfl ?_
    refine v_iload_n dX4_letCut_62 rfl ?_
    refine v_bipush (x := nI 10) dX4_letCut_63 (by decide +kernel) ?_
    refine v_iload dX4_letCut_65 rfl ?_
    refine n_iadd dX4_letCut_67 ?_
    refine v_callSi (M' := M_X4_drawn) (As := [_, _, _]) (s_X4_drawn hz (by omega) (by omega)) dX4_letCut_68 gX4_letCut_X4_drawn rfl nn_X4_drawn ⟨rfl, rfl⟩ ⟨by decide, by decide⟩ rfl rfl (Nat.le_of_ble_eq_true rfl) ?_
    refine v_bipush (x := nI 100) dX4_letCut_71 (by decide +kernel) ?_
    refine n_irem dX4_letCut_73 (by have := dr_lt z i (10 + (fFr n z i + t)); omega) (by omega) (by omega) ?_
    refine v_iload dX4_letCut_74 rfl ?_
    refine n_icmp_ge (tgt := 100) dX4_letCut_76 (by decide) (by omega) (by omega) (fun c76 => ?_) (fun c76 => ?_)
    · have hnx := lcI_n hinv (by omega)
      refine n_iinc (n := 1) (L' := [(7, _), (0, _), (1, _), (2, _), (3, _), (4, _), (5, _), (6, _)]) dX4_letCut_100 rfl (by decide) rfl ?_
      refine v_goto (tgt := 45) dX4_letCut_103 (by decide) ?_
      refine v_sub [1, 2, 3, 4, 5, 6, 7, 0] rfl ?_
      exact ih _ hnx
    · refine v_aload_n dX4_letCut_79 rfl ?_
      refine v_get (j := 2) iO0 rfl dX4_letCut_80 (by decide) in_X4_letCut_X4 fl_X4_letCut_26 rfl ?_
      refine v_get (j := 0) iO10 rfl dX4_letCut_83 (by decide) in_X4_letCut_X0 fl_X4_letCut_278 rfl ?_
      refine v_aload_n dX4_letCut_86 rfl ?_
      refine v_get (j := 3) iO0 rfl dX4_letCut_87 (by decide) in_X4_letCut_X4 fl_X4_letCut_30 rfl ?_
      refine v_iload dX4_letCut_90 rfl ?_
      refine v_ialdN (fFr n z i + t) iI61 dX4_letCut_92 rfl (by omega) (by decide) ?_
      refine v_top (hinv.2.1 _ hi2.1) ?_
      refine v_dup2 dX4_letCut_93 rfl rfl ?_
      refine v_ialdN _ iI11 dX4_letCut_94 rfl hel (by decide) ?_
      refine v_top (hinv.1.2.1 _ hel) ?_
      refine v_iconst (x := nI 1) dX4_letCut_95 (by decide +kernel) ?_
      refine v_iload_n dX4_letCut_96 rfl ?_
      refine n_shl1 dX4_letCut_97 (by omega) ?_
      refine n_ior dX4_letCut_98 ?_
      refine v_iastN _ iI11 dX4_letCut_99 rfl hel (by decide) ?_
      have hnx := lcI_y hinv c76
      refine n_iinc (n := 1) (L' := [(7, _), (0, _), (1, _), (2, _), (3, _), (4, _), (5, _), (6, _)]) dX4_letCut_100 rfl (by decide) rfl ?_
      refine v_goto (tgt := 45) dX4_letCut_103 (by decide) ?_
      refine v_sub [1, 2, 3, 4, 5, 6, 7, 0] rfl ?_
      exact ih _ hnx
  · intro τ hinv
    have hi2 : fFr n z i + fCn n z i = n ∨ fFr n z i + fCn n z i = fFr n z i + fSt z i := by rw [fCn]; omega
    refine v_iload dX4_letCut_45 rfl ?_
    refine v_iload_n dX4_letCut_47 rfl ?_
    refine n_icmp_ge (tgt := 106) dX4_letCut_48 (by decide) (by omega) (by omega) (fun c48 => ?_) (fun c48 => ?_)
    · exact v_vret rfl dX4_letCut_106 ⟨rfl, lcI_e hinv⟩
    · refine v_iload dX4_letCut_51 rfl ?_
      refine v_iload dX4_letCut_53 rfl ?_
      refine v_iload dX4_letCut_55 rfl ?_
      refine n_iadd dX4_letCut_57 ?_
      refine n_icmp_ge (tgt := 106) dX4_letCut_58 (by decide) (by omega) (by omega) (fun c58 => ?_) (fun c58 => absurd c58 (by omega))
      exact v_vret rfl dX4_letCut_106 ⟨rfl, lcI_e hinv⟩
theorem fOC_0 {z n o h : Nat} {τ : SS} (hc : CLR (2 ^ n - 1) τ) : OC0 (fOD z n o 0 h) τ :=
  ⟨hc.1, fun p hp => hc.2.1 p hp, fun k hk => (hc.2.2.1 k hk).trans (by rw [stv]; show (0 : Int32) = nI (if k < 0 then fT z k else 0); rw [if_neg (by omega)]; rfl), fun p hp => hc.2.2.2 p hp⟩
set_option maxRecDepth 100000 in
set_option maxHeartbeats 4000000 in
theorem s_X4_found {v : EE} {s : AS} {σ : SS} (hr : RC s σ) (z n o m h what : Int32) : SR v M_X4_found [.ref (v.1 0), .int z, .int n, .int o, .int m, .int h, .int what] σ (some (.int (q_found z n o m h what))) (fun σ' => RC s σ' ∧ FC σ σ') := by
  refine Sp.of rfl (by decide) rfl (Nat.le_of_ble_eq_true rfl) ?_
  show V v M_X4_found _ 0 [(0, .ref (v.1 0)), (1, .int z), (2, .int n), (3, .int o), (4, .int m), (5, .int h), (6, .int what)] [] σ
  by_cases hok : fOKb z n o m h what = true
  · obtain ⟨hz1, ⟨hn1, hn2⟩, ho1, ⟨hm1, hm2⟩, hh1, hw1⟩ := fOK_iff.mp hok
    obtain ⟨Z, hZ, hZ2, rfl⟩ := isN_nI hz1
    obtain ⟨N, hN, hN2, rfl⟩ := isN_nI hn1
    rw [nI_clamp hN2] at hn2 ho1
    obtain ⟨O, hO, hO2, rfl⟩ := isN_nI ho1
    obtain ⟨Mm, hM, hM2, rfl⟩ := isN_nI hm1
    rw [nI_clamp hM2] at hm2
    obtain ⟨Hh, hH, hH2, rfl⟩ := isN_nI hh1
    have hq : q_found (nI Z) (nI N) (nI O) (nI Mm) (nI Hh) what = fA Z N O Mm Hh what := by rw [q_found, if_pos hok, nI_clamp hZ2, nI_clamp hN2, nI_clamp hO2, nI_clamp hM2, nI_clamp hH2]
    have hp1 : 0 < 2 ^ N := Nat.pow_pos (by decide)
    have hfb := fc_b N hN
    have hov := fOD_ov (z := Z) (h := Hh) hN hO hM
    rcases sw3 what with rfl | rfl | rfl | hsw
    · refine v_iload_n dX4_found_0 rfl ?_
      refine n_if_lt (tgt := 35) dX4_found_1 (by decide) (by omega) ?_
      refine v_iload_n dX4_found_4 rfl ?_
      refine v_sipush (x := nI 9999) dX4_found_5 (by decide +kernel) ?_
      refine n_icmp_gt (tgt := 35) dX4_found_8 (by decide) (by omega) (by omega) (fun c8 => absurd c8 (by omega)) (fun c8 => ?_)
      refine v_iload_n dX4_found_11 rfl ?_
      refine v_iconst (x := nI 2) dX4_found_12 (by decide +kernel) ?_
      refine n_icmp_lt (tgt := 35) dX4_found_13 (by decide) (by omega) (by omega) (fun c13 => absurd c13 (by omega)) (fun c13 => ?_)
      refine v_iload_n dX4_found_16 rfl ?_
      refine v_bipush (x := nI 6) dX4_found_17 (by decide +kernel) ?_
      refine n_icmp_gt (tgt := 35) dX4_found_19 (by decide) (by omega) (by omega) (fun c19 => absurd c19 (by omega)) (fun c19 => ?_)
      refine v_iload_n dX4_found_22 rfl ?_
      refine n_if_lt (tgt := 35) dX4_found_23 (by decide) (by omega) ?_
      refine v_iload_n dX4_found_26 rfl ?_
      refine v_gets dX4_found_27 (by decide +kernel) ?_
      refine v_iload_n dX4_found_30 rfl ?_
      refine v_saldN _ dX4_found_31 rfl hN ?_
      refine n_icmp_lt (tgt := 37) dX4_found_32 (by decide) (by omega) (by omega) (fun c32 => ?_) (fun c32 => absurd c32 (by omega))
      refine v_iload dX4_found_37 rfl ?_
      refine v_iconst (x := nI 1) dX4_found_39 (by decide +kernel) ?_
      refine n_icmp_lt (tgt := 73) dX4_found_40 (by decide) (by omega) (by omega) (fun c40 => absurd c40 (by omega)) (fun c40 => ?_)
      refine v_iload dX4_found_43 rfl ?_
      refine v_bipush (x := nI 12) dX4_found_45 (by decide +kernel) ?_
      refine n_icmp_gt (tgt := 73) dX4_found_47 (by decide) (by omega) (by omega) (fun c47 => absurd c47 (by omega)) (fun c47 => ?_)
      refine v_iload dX4_found_50 rfl ?_
      refine n_if_lt (tgt := 73) dX4_found_52 (by decide) (by omega) ?_
      refine v_iload dX4_found_55 rfl ?_
      refine v_bipush (x := nI 100) dX4_found_57 (by decide +kernel) ?_
      refine n_icmp_gt (tgt := 73) dX4_found_59 (by decide) (by omega) (by omega) (fun c59 => absurd c59 (by omega)) (fun c59 => ?_)
      refine v_iload dX4_found_62 rfl ?_
      refine v_if_lt (tgt := 73) dX4_found_64 (by decide) (fun c64 => absurd c64 (by decide)) (fun c64 => ?_)
      refine v_iload dX4_found_67 rfl ?_
      refine v_iconst (x := nI 2) dX4_found_69 (by decide +kernel) ?_
      refine v_icmp_le (tgt := 75) dX4_found_70 (by decide) (fun c70 => ?_) (fun c70 => absurd (by decide) c70)
      refine v_aload_n dX4_found_75 rfl ?_
      refine v_iload_n dX4_found_76 rfl ?_
      refine v_iload_n dX4_found_77 rfl ?_
      refine v_callVRv (M' := M_X4_planRow) (As := [_, _]) iO0 (s_X4_planRow hN hO) dX4_found_78 gX4_found_X4_planRow rfl rfl nn_X4_planRow ⟨rfl, rfl⟩ ⟨by decide, by decide⟩ rfl rfl (Nat.le_of_ble_eq_true rfl) (fun s1 h1 => ?_)
      refine v_aload_n dX4_found_81 rfl ?_
      refine v_get (j := 2) iO0 rfl dX4_found_82 (by decide) in_X4_found_X4 fl_X4_found_26 rfl ?_
      refine v_iconst (x := nI 1) dX4_found_85 (by decide +kernel) ?_
      refine v_iload_n dX4_found_86 rfl ?_
      refine n_shl1 dX4_found_87 (by omega) ?_
      refine v_iconst (x := nI 1) dX4_found_88 (by decide +kernel) ?_
      refine n_isub dX4_found_89 (by omega) ?_
      refine v_callVRv (M' := M_X0_clear) (As := [_]) iO10 (s_X0_clear (two_n hN)) dX4_found_90 gX4_found_X0_clear rfl rfl nn_X0_clear ⟨rfl, rfl⟩ ⟨by decide, by decide⟩ rfl rfl (Nat.le_of_ble_eq_true rfl) (fun s2 h2 => ?_)
      refine v_iconst (x := nI 0) dX4_found_93 (by decide +kernel) ?_
      refine v_istore (L' := [(7, _), (0, _), (1, _), (2, _), (3, _), (4, _), (5, _), (6, _)]) dX4_found_94 (by decide) rfl ?_
      refine v_sub [1, 2, 3, 5, 6, 7, 0] rfl ?_
      refine loopN (fun i => ∀ τ : SS, (OC0 (fOD Z N O i Hh) τ ∧ PL (lgP N O) N τ ∧ FOp σ τ) → V v M_X4_found (zR v M_X4_found (fun r' σ' => r' = (some (.int (q_found (nI Z) (nI N) (nI O) (nI Mm) (nI Hh) 0))) ∧ (RC s σ' ∧ FC σ σ'))) 96 [(0, .ref (v.1 0)), (1, .int (nI Z)), (2, .int (nI N)), (4, .int (nI Mm)), (5, .int (nI Hh)), (6, .int 0), (7, .int (nI i))] [] τ) Mm ?_ ?_ _ ⟨fOC_0 h2.1, fun j hj => by rw [h2.2.1 61 (by decide)]; exact h1.1 j hj, h1.2.tr h2.2.p⟩
      · intro i hi ih τ hinv
        refine v_iload dX4_found_96 rfl ?_
        refine v_iload dX4_found_98 rfl ?_
        refine n_icmp_ge (tgt := 119) dX4_found_100 (by decide) (by omega) (by omega) (fun c100 => absurd c100 (by omega)) (fun c100 => ?_)
        refine v_aload_n dX4_found_103 rfl ?_
        refine v_iload_n dX4_found_104 rfl ?_
        refine v_iload_n dX4_found_105 rfl ?_
        refine v_iload dX4_found_106 rfl ?_
        refine v_iload dX4_found_108 rfl ?_
        refine v_callVRv (M' := M_X4_letCut) (As := [_, _, _, _]) iO0 (s_X4_letCut hZ hn2 hN hO (by omega) hH hinv.1 hinv.2.1) dX4_found_110 gX4_found_X4_letCut rfl rfl nn_X4_letCut ⟨rfl, rfl⟩ ⟨by decide, by decide⟩ rfl rfl (Nat.le_of_ble_eq_true rfl) (fun s3 h3 => ?_)
        refine n_iinc (n := 1) (L' := [(7, _), (0, _), (1, _), (2, _), (4, _), (5, _), (6, _)]) dX4_found_113 rfl (by decide) rfl ?_
        refine v_goto (tgt := 96) dX4_found_116 (by decide) ?_
        refine v_sub [1, 2, 3, 4, 5, 6, 0] rfl ?_
        exact ih _ ⟨h3.1, h3.2.1, hinv.2.2.tr h3.2.2⟩
      · intro τ hinv
        refine v_iload dX4_found_96 rfl ?_
        refine v_iload dX4_found_98 rfl ?_
        refine n_icmp_ge (tgt := 119) dX4_found_100 (by decide) (by omega) (by omega) (fun c100 => ?_) (fun c100 => absurd c100 (by omega))
        refine v_aload_n dX4_found_119 rfl ?_
        refine v_get (j := 2) iO0 rfl dX4_found_120 (by decide) in_X4_found_X4 fl_X4_found_26 rfl ?_
        refine v_callVRv (M' := M_X0_weigh) (As := []) iO10 (s_X0_weigh hov hinv.1 (hinv.2.2.2.2.trans hr.g0)) dX4_found_123 gX4_found_X0_weigh rfl rfl nn_X0_weigh ⟨rfl, rfl⟩ ⟨by decide, by decide⟩ rfl rfl (Nat.le_of_ble_eq_true rfl) (fun s4 h4 => ?_)
        have hF := hinv.2.2.tr h4.2.2.fo.p
        have hr1 := hF.rc hr
        have hc4 := h4.2.1
        refine v_iload dX4_found_126 rfl ?_
        refine v_if_ne (tgt := 139) dX4_found_128 (by decide) (fun c128 => absurd rfl c128) (fun c128 => ?_)
        refine v_aload_n dX4_found_131 rfl ?_
        refine v_get (j := 2) iO0 rfl dX4_found_132 (by decide) in_X4_found_X4 fl_X4_found_26 rfl ?_
        refine v_callVi (M' := M_X0_fewestGaps) (As := []) iO10 (s_X0_fewestGaps hov h4.1) dX4_found_135 gX4_found_X0_fewestGaps rfl rfl nn_X0_fewestGaps ⟨rfl, rfl⟩ ⟨by decide, by decide⟩ rfl rfl (Nat.le_of_ble_eq_true rfl) ?_
        exact v_iret rfl dX4_found_138 ⟨congrArg (fun z => some (Value.int z)) (by rw [hq, fA, if_pos rfl]), hr1, hF.fc⟩
    · refine v_iload_n dX4_found_0 rfl ?_
      refine n_if_lt (tgt := 35) dX4_found_1 (by decide) (by omega) ?_
      refine v_iload_n dX4_found_4 rfl ?_
      refine v_sipush (x := nI 9999) dX4_found_5 (by decide +kernel) ?_
      refine n_icmp_gt (tgt := 35) dX4_found_8 (by decide) (by omega) (by omega) (fun c8 => absurd c8 (by omega)) (fun c8 => ?_)
      refine v_iload_n dX4_found_11 rfl ?_
      refine v_iconst (x := nI 2) dX4_found_12 (by decide +kernel) ?_
      refine n_icmp_lt (tgt := 35) dX4_found_13 (by decide) (by omega) (by omega) (fun c13 => absurd c13 (by omega)) (fun c13 => ?_)
      refine v_iload_n dX4_found_16 rfl ?_
      refine v_bipush (x := nI 6) dX4_found_17 (by decide +kernel) ?_
      refine n_icmp_gt (tgt := 35) dX4_found_19 (by decide) (by omega) (by omega) (fun c19 => absurd c19 (by omega)) (fun c19 => ?_)
      refine v_iload_n dX4_found_22 rfl ?_
      refine n_if_lt (tgt := 35) dX4_found_23 (by decide) (by omega) ?_
      refine v_iload_n dX4_found_26 rfl ?_
      refine v_gets dX4_found_27 (by decide +kernel) ?_
      refine v_iload_n dX4_found_30 rfl ?_
      refine v_saldN _ dX4_found_31 rfl hN ?_
      refine n_icmp_lt (tgt := 37) dX4_found_32 (by decide) (by omega) (by omega) (fun c32 => ?_) (fun c32 => absurd c32 (by omega))
      refine v_iload dX4_found_37 rfl ?_
      refine v_iconst (x := nI 1) dX4_found_39 (by decide +kernel) ?_
      refine n_icmp_lt (tgt := 73) dX4_found_40 (by decide) (by omega) (by omega) (fun c40 => absurd c40 (by omega)) (fun c40 => ?_)
      refine v_iload dX4_found_43 rfl ?_
      refine v_bipush (x := nI 12) dX4_found_45 (by decide +kernel) ?_
      refine n_icmp_gt (tgt := 73) dX4_found_47 (by decide) (by omega) (by omega) (fun c47 => absurd c47 (by omega)) (fun c47 => ?_)
      refine v_iload dX4_found_50 rfl ?_
      refine n_if_lt (tgt := 73) dX4_found_52 (by decide) (by omega) ?_
      refine v_iload dX4_found_55 rfl ?_
      refine v_bipush (x := nI 100) dX4_found_57 (by decide +kernel) ?_
      refine n_icmp_gt (tgt := 73) dX4_found_59 (by decide) (by omega) (by omega) (fun c59 => absurd c59 (by omega)) (fun c59 => ?_)
      refine v_iload dX4_found_62 rfl ?_
      refine v_if_lt (tgt := 73) dX4_found_64 (by decide) (fun c64 => absurd c64 (by decide)) (fun c64 => ?_)
      refine v_iload dX4_found_67 rfl ?_
      refine v_iconst (x := nI 2) dX4_found_69 (by decide +kernel) ?_
      refine v_icmp_le (tgt := 75) dX4_found_70 (by decide) (fun c70 => ?_) (fun c70 => absurd (by decide) c70)
      refine v_aload_n dX4_found_75 rfl ?_
      refine v_iload_n dX4_found_76 rfl ?_
      refine v_iload_n dX4_found_77 rfl ?_
      refine v_callVRv (M' := M_X4_planRow) (As := [_, _]) iO0 (s_X4_planRow hN hO) dX4_found_78 gX4_found_X4_planRow rfl rfl nn_X4_planRow ⟨rfl, rfl⟩ ⟨by decide, by decide⟩ rfl rfl (Nat.le_of_ble_eq_true rfl) (fun s1 h1 => ?_)
      refine v_aload_n dX4_found_81 rfl ?_
      refine v_get (j := 2) iO0 rfl dX4_found_82 (by decide) in_X4_found_X4 fl_X4_found_26 rfl ?_
      refine v_iconst (x := nI 1) dX4_found_85 (by decide +kernel) ?_
      refine v_iload_n dX4_found_86 rfl ?_
      refine n_shl1 dX4_found_87 (by omega) ?_
      refine v_iconst (x := nI 1) dX4_found_88 (by decide +kernel) ?_
      refine n_isub dX4_found_89 (by omega) ?_
      refine v_callVRv (M' := M_X0_clear) (As := [_]) iO10 (s_X0_clear (two_n hN)) dX4_found_90 gX4_found_X0_clear rfl rfl nn_X0_clear ⟨rfl, rfl⟩ ⟨by decide, by decide⟩ rfl rfl (Nat.le_of_ble_eq_true rfl) (fun s2 h2 => ?_)
      refine v_iconst (x := nI 0) dX4_found_93 (by decide +kernel) ?_
      refine v_istore (L' := [(7, _), (0, _), (1, _), (2, _), (3, _), (4, _), (5, _), (6, _)]) dX4_found_94 (by decide) rfl ?_
      refine v_sub [1, 2, 3, 5, 6, 7, 0] rfl ?_
      refine loopN (fun i => ∀ τ : SS, (OC0 (fOD Z N O i Hh) τ ∧ PL (lgP N O) N τ ∧ FOp σ τ) → V v M_X4_found (zR v M_X4_found (fun r' σ' => r' = (some (.int (q_found (nI Z) (nI N) (nI O) (nI Mm) (nI Hh) 1))) ∧ (RC s σ' ∧ FC σ σ'))) 96 [(0, .ref (v.1 0)), (1, .int (nI Z)), (2, .int (nI N)), (4, .int (nI Mm)), (5, .int (nI Hh)), (6, .int 1), (7, .int (nI i))] [] τ) Mm ?_ ?_ _ ⟨fOC_0 h2.1, fun j hj => by rw [h2.2.1 61 (by decide)]; exact h1.1 j hj, h1.2.tr h2.2.p⟩
      · intro i hi ih τ hinv
        refine v_iload dX4_found_96 rfl ?_
        refine v_iload dX4_found_98 rfl ?_
        refine n_icmp_ge (tgt := 119) dX4_found_100 (by decide) (by omega) (by omega) (fun c100 => absurd c100 (by omega)) (fun c100 => ?_)
        refine v_aload_n dX4_found_103 rfl ?_
        refine v_iload_n dX4_found_104 rfl ?_
        refine v_iload_n dX4_found_105 rfl ?_
        refine v_iload dX4_found_106 rfl ?_
        refine v_iload dX4_found_108 rfl ?_
        refine v_callVRv (M' := M_X4_letCut) (As := [_, _, _, _]) iO0 (s_X4_letCut hZ hn2 hN hO (by omega) hH hinv.1 hinv.2.1) dX4_found_110 gX4_found_X4_letCut rfl rfl nn_X4_letCut ⟨rfl, rfl⟩ ⟨by decide, by decide⟩ rfl rfl (Nat.le_of_ble_eq_true rfl) (fun s3 h3 => ?_)
        refine n_iinc (n := 1) (L' := [(7, _), (0, _), (1, _), (2, _), (4, _), (5, _), (6, _)]) dX4_found_113 rfl (by decide) rfl ?_
        refine v_goto (tgt := 96) dX4_found_116 (by decide) ?_
        refine v_sub [1, 2, 3, 4, 5, 6, 0] rfl ?_
        exact ih _ ⟨h3.1, h3.2.1, hinv.2.2.tr h3.2.2⟩
      · intro τ hinv
        refine v_iload dX4_found_96 rfl ?_
        refine v_iload dX4_found_98 rfl ?_
        refine n_icmp_ge (tgt := 119) dX4_found_100 (by decide) (by omega) (by omega) (fun c100 => ?_) (fun c100 => absurd c100 (by omega))
        refine v_aload_n dX4_found_119 rfl ?_
        refine v_get (j := 2) iO0 rfl dX4_found_120 (by decide) in_X4_found_X4 fl_X4_found_26 rfl ?_
        refine v_callVRv (M' := M_X0_weigh) (As := []) iO10 (s_X0_weigh hov hinv.1 (hinv.2.2.2.2.trans hr.g0)) dX4_found_123 gX4_found_X0_weigh rfl rfl nn_X0_weigh ⟨rfl, rfl⟩ ⟨by decide, by decide⟩ rfl rfl (Nat.le_of_ble_eq_true rfl) (fun s4 h4 => ?_)
        have hF := hinv.2.2.tr h4.2.2.fo.p
        have hr1 := hF.rc hr
        have hc4 := h4.2.1
        refine v_iload dX4_found_126 rfl ?_
        refine v_if_ne (tgt := 139) dX4_found_128 (by decide) (fun c128 => ?_) (fun c128 => absurd c128 (by decide))
        refine v_iload dX4_found_139 rfl ?_
        refine v_iconst (x := nI 1) dX4_found_141 (by decide +kernel) ?_
        refine v_icmp_ne (tgt := 153) dX4_found_142 (by decide) (fun c142 => absurd rfl c142) (fun c142 => ?_)
        refine v_aload_n dX4_found_145 rfl ?_
        refine v_get (j := 2) iO0 rfl dX4_found_146 (by decide) in_X4_found_X4 fl_X4_found_26 rfl ?_
        refine v_callVi (M' := M_X0_howMany) (As := []) iO10 (s_X0_howMany hov h4.1) dX4_found_149 gX4_found_X0_howMany rfl rfl nn_X0_howMany ⟨rfl, rfl⟩ ⟨by decide, by decide⟩ rfl rfl (Nat.le_of_ble_eq_true rfl) ?_
        exact v_iret rfl dX4_found_152 ⟨congrArg (fun z => some (Value.int z)) (by rw [hq, fA, if_neg (by decide), if_pos rfl]), hr1, hF.fc⟩
    · refine v_iload_n dX4_found_0 rfl ?_
      refine n_if_lt (tgt := 35) dX4_found_1 (by decide) (by omega) ?_
      refine v_iload_n dX4_found_4 rfl ?_
      refine v_sipush (x := nI 9999) dX4_found_5 (by decide +kernel) ?_
      refine n_icmp_gt (tgt := 35) dX4_found_8 (by decide) (by omega) (by omega) (fun c8 => absurd c8 (by omega)) (fun c8 => ?_)
      refine v_iload_n dX4_found_11 rfl ?_
      refine v_iconst (x := nI 2) dX4_found_12 (by decide +kernel) ?_
      refine n_icmp_lt (tgt := 35) dX4_found_13 (by decide) (by omega) (by omega) (fun c13 => absurd c13 (by omega)) (fun c13 => ?_)
      refine v_iload_n dX4_found_16 rfl ?_
      refine v_bipush (x := nI 6) dX4_found_17 (by decide +kernel) ?_
      refine n_icmp_gt (tgt := 35) dX4_found_19 (by decide) (by omega) (by omega) (fun c19 => absurd c19 (by omega)) (fun c19 => ?_)
      refine v_iload_n dX4_found_22 rfl ?_
      refine n_if_lt (tgt := 35) dX4_found_23 (by decide) (by omega) ?_
      refine v_iload_n dX4_found_26 rfl ?_
      refine v_gets dX4_found_27 (by decide +kernel) ?_
      refine v_iload_n dX4_found_30 rfl ?_
      refine v_saldN _ dX4_found_31 rfl hN ?_
      refine n_icmp_lt (tgt := 37) dX4_found_32 (by decide) (by omega) (by omega) (fun c32 => ?_) (fun c32 => absurd c32 (by omega))
      refine v_iload dX4_found_37 rfl ?_
      refine v_iconst (x := nI 1) dX4_found_39 (by decide +kernel) ?_
      refine n_icmp_lt (tgt := 73) dX4_found_40 (by decide) (by omega) (by omega) (fun c40 => absurd c40 (by omega)) (fun c40 => ?_)
      refine v_iload dX4_found_43 rfl ?_
      refine v_bipush (x := nI 12) dX4_found_45 (by decide +kernel) ?_
      refine n_icmp_gt (tgt := 73) dX4_found_47 (by decide) (by omega) (by omega) (fun c47 => absurd c47 (by omega)) (fun c47 => ?_)
      refine v_iload dX4_found_50 rfl ?_
      refine n_if_lt (tgt := 73) dX4_found_52 (by decide) (by omega) ?_
      refine v_iload dX4_found_55 rfl ?_
      refine v_bipush (x := nI 100) dX4_found_57 (by decide +kernel) ?_
      refine n_icmp_gt (tgt := 73) dX4_found_59 (by decide) (by omega) (by omega) (fun c59 => absurd c59 (by omega)) (fun c59 => ?_)
      refine v_iload dX4_found_62 rfl ?_
      refine v_if_lt (tgt := 73) dX4_found_64 (by decide) (fun c64 => absurd c64 (by decide)) (fun c64 => ?_)
      refine v_iload dX4_found_67 rfl ?_
      refine v_iconst (x := nI 2) dX4_found_69 (by decide +kernel) ?_
      refine v_icmp_le (tgt := 75) dX4_found_70 (by decide) (fun c70 => ?_) (fun c70 => absurd (by decide) c70)
      refine v_aload_n dX4_found_75 rfl ?_
      refine v_iload_n dX4_found_76 rfl ?_
      refine v_iload_n dX4_found_77 rfl ?_
      refine v_callVRv (M' := M_X4_planRow) (As := [_, _]) iO0 (s_X4_planRow hN hO) dX4_found_78 gX4_found_X4_planRow rfl rfl nn_X4_planRow ⟨rfl, rfl⟩ ⟨by decide, by decide⟩ rfl rfl (Nat.le_of_ble_eq_true rfl) (fun s1 h1 => ?_)
      refine v_aload_n dX4_found_81 rfl ?_
      refine v_get (j := 2) iO0 rfl dX4_found_82 (by decide) in_X4_found_X4 fl_X4_found_26 rfl ?_
      refine v_iconst (x := nI 1) dX4_found_85 (by decide +kernel) ?_
      refine v_iload_n dX4_found_86 rfl ?_
      refine n_shl1 dX4_found_87 (by omega) ?_
      refine v_iconst (x := nI 1) dX4_found_88 (by decide +kernel) ?_
      refine n_isub dX4_found_89 (by omega) ?_
      refine v_callVRv (M' := M_X0_clear) (As := [_]) iO10 (s_X0_clear (two_n hN)) dX4_found_90 gX4_found_X0_clear rfl rfl nn_X0_clear ⟨rfl, rfl⟩ ⟨by decide, by decide⟩ rfl rfl (Nat.le_of_ble_eq_true rfl) (fun s2 h2 => ?_)
      refine v_iconst (x := nI 0) dX4_found_93 (by decide +kernel) ?_
      refine v_istore (L' := [(7, _), (0, _), (1, _), (2, _), (3, _), (4, _), (5, _), (6, _)]) dX4_found_94 (by decide) rfl ?_
      refine v_sub [1, 2, 3, 5, 6, 7, 0] rfl ?_
      refine loopN (fun i => ∀ τ : SS, (OC0 (fOD Z N O i Hh) τ ∧ PL (lgP N O) N τ ∧ FOp σ τ) → V v M_X4_found (zR v M_X4_found (fun r' σ' => r' = (some (.int (q_found (nI Z) (nI N) (nI O) (nI Mm) (nI Hh) 2))) ∧ (RC s σ' ∧ FC σ σ'))) 96 [(0, .ref (v.1 0)), (1, .int (nI Z)), (2, .int (nI N)), (4, .int (nI Mm)), (5, .int (nI Hh)), (6, .int 2), (7, .int (nI i))] [] τ) Mm ?_ ?_ _ ⟨fOC_0 h2.1, fun j hj => by rw [h2.2.1 61 (by decide)]; exact h1.1 j hj, h1.2.tr h2.2.p⟩
      · intro i hi ih τ hinv
        refine v_iload dX4_found_96 rfl ?_
        refine v_iload dX4_found_98 rfl ?_
        refine n_icmp_ge (tgt := 119) dX4_found_100 (by decide) (by omega) (by omega) (fun c100 => absurd c100 (by omega)) (fun c100 => ?_)
        refine v_aload_n dX4_found_103 rfl ?_
        refine v_iload_n dX4_found_104 rfl ?_
        refine v_iload_n dX4_found_105 rfl ?_
        refine v_iload dX4_found_106 rfl ?_
        refine v_iload dX4_found_108 rfl ?_
        refine v_callVRv (M' := M_X4_letCut) (As := [_, _, _, _]) iO0 (s_X4_letCut hZ hn2 hN hO (by omega) hH hinv.1 hinv.2.1) dX4_found_110 gX4_found_X4_letCut rfl rfl nn_X4_letCut ⟨rfl, rfl⟩ ⟨by decide, by decide⟩ rfl rfl (Nat.le_of_ble_eq_true rfl) (fun s3 h3 => ?_)
        refine n_iinc (n := 1) (L' := [(7, _), (0, _), (1, _), (2, _), (4, _), (5, _), (6, _)]) dX4_found_113 rfl (by decide) rfl ?_
        refine v_goto (tgt := 96) dX4_found_116 (by decide) ?_
        refine v_sub [1, 2, 3, 4, 5, 6, 0] rfl ?_
        exact ih _ ⟨h3.1, h3.2.1, hinv.2.2.tr h3.2.2⟩
      · intro τ hinv
        refine v_iload dX4_found_96 rfl ?_
        refine v_iload dX4_found_98 rfl ?_
        refine n_icmp_ge (tgt := 119) dX4_found_100 (by decide) (by omega) (by omega) (fun c100 => ?_) (fun c100 => absurd c100 (by omega))
        refine v_aload_n dX4_found_119 rfl ?_
        refine v_get (j := 2) iO0 rfl dX4_found_120 (by decide) in_X4_found_X4 fl_X4_found_26 rfl ?_
        refine v_callVRv (M' := M_X0_weigh) (As := []) iO10 (s_X0_weigh hov hinv.1 (hinv.2.2.2.2.trans hr.g0)) dX4_found_123 gX4_found_X0_weigh rfl rfl nn_X0_weigh ⟨rfl, rfl⟩ ⟨by decide, by decide⟩ rfl rfl (Nat.le_of_ble_eq_true rfl) (fun s4 h4 => ?_)
        have hF := hinv.2.2.tr h4.2.2.fo.p
        have hr1 := hF.rc hr
        have hc4 := h4.2.1
        refine v_iload dX4_found_126 rfl ?_
        refine v_if_ne (tgt := 139) dX4_found_128 (by decide) (fun c128 => ?_) (fun c128 => absurd c128 (by decide))
        refine v_iload dX4_found_139 rfl ?_
        refine v_iconst (x := nI 1) dX4_found_141 (by decide +kernel) ?_
        refine v_icmp_ne (tgt := 153) dX4_found_142 (by decide) (fun c142 => ?_) (fun c142 => absurd c142 (by decide))
        have hg := s_X0_gapsOf (v := v) hov hc4 (l := lgP N O) (fOD_good hN hO) (fun j hj => by rw [lgP_len hN hO] at hj; rw [h4.2.2.1 61 (by decide) (by decide) (by decide)]; exact hinv.2.1 j hj)
        rw [lgP_len hN hO] at hg
        have hwb := good.w hov (fOD_good (z := Z) (m := Mm) (h := Hh) hN hO)
        have hfb2 := (TL_b hov (show 0 < 64 by decide)).2
        refine v_aload_n dX4_found_153 rfl ?_
        refine v_get (j := 2) iO0 rfl dX4_found_154 (by decide) in_X4_found_X4 fl_X4_found_26 rfl ?_
        refine v_aload_n dX4_found_157 rfl ?_
        refine v_get (j := 3) iO0 rfl dX4_found_158 (by decide) in_X4_found_X4 fl_X4_found_30 rfl ?_
        refine v_iload_n dX4_found_161 rfl ?_
        refine v_callVi (M' := M_X0_gapsOf) (As := [_, _]) iO10 hg dX4_found_162 gX4_found_X0_gapsOf rfl rfl nn_X0_gapsOf ⟨rfl, rfl⟩ ⟨by decide, by decide⟩ rfl rfl (Nat.le_of_ble_eq_true rfl) ?_
        refine v_aload_n dX4_found_165 rfl ?_
        refine v_get (j := 2) iO0 rfl dX4_found_166 (by decide) in_X4_found_X4 fl_X4_found_26 rfl ?_
        refine v_callVi (M' := M_X0_fewestGaps) (As := []) iO10 (s_X0_fewestGaps hov h4.1) dX4_found_169 gX4_found_X0_fewestGaps rfl rfl nn_X0_fewestGaps ⟨rfl, rfl⟩ ⟨by decide, by decide⟩ rfl rfl (Nat.le_of_ble_eq_true rfl) ?_
        refine n_icmp_ne (tgt := 179) dX4_found_172 (by decide) (by omega) (by omega) (fun c172 => ?_) (fun c172 => ?_)
        · refine v_iconst (x := nI 0) dX4_found_179 (by decide +kernel) ?_
          exact v_iret rfl dX4_found_180 ⟨congrArg (fun z => some (Value.int z)) (by rw [hq, fA, if_neg (by decide), if_neg (by decide), if_neg c172]; rfl), hr1, hF.fc⟩
        · refine v_iconst (x := nI 1) dX4_found_175 (by decide +kernel) ?_
          refine v_goto (tgt := 180) dX4_found_176 (by decide) ?_
          exact v_iret rfl dX4_found_180 ⟨congrArg (fun z => some (Value.int z)) (by rw [hq, fA, if_neg (by decide), if_neg (by decide), if_pos c172]; rfl), hr1, hF.fc⟩
    · rw [hsw] at hw1; cases hw1
  · refine v_iload_n dX4_found_0 rfl ?_
    refine v_if_lt (tgt := 35) dX4_found_1 (by decide) (fun c1 => ?_) (fun c1 => ?_)
    · refine v_iconst (x := (-1)) dX4_found_35 rfl ?_
      exact v_iret rfl dX4_found_36 ⟨congrArg (fun z => some (Value.int z)) (by rw [q_found, if_neg hok]), hr, FC.rf σ⟩
    · refine v_iload_n dX4_found_4 rfl ?_
      refine v_sipush (x := nI 9999) dX4_found_5 (by decide +kernel) ?_
      refine v_icmp_gt (tgt := 35) dX4_found_8 (by decide) (fun c8 => ?_) (fun c8 => ?_)
      · refine v_iconst (x := (-1)) dX4_found_35 rfl ?_
        exact v_iret rfl dX4_found_36 ⟨congrArg (fun z => some (Value.int z)) (by rw [q_found, if_neg hok]), hr, FC.rf σ⟩
      · refine v_iload_n dX4_found_11 rfl ?_
        refine v_iconst (x := nI 2) dX4_found_12 (by decide +kernel) ?_
        refine v_icmp_lt (tgt := 35) dX4_found_13 (by decide) (fun c13 => ?_) (fun c13 => ?_)
        · refine v_iconst (x := (-1)) dX4_found_35 rfl ?_
          exact v_iret rfl dX4_found_36 ⟨congrArg (fun z => some (Value.int z)) (by rw [q_found, if_neg hok]), hr, FC.rf σ⟩
        · refine v_iload_n dX4_found_16 rfl ?_
          refine v_bipush (x := nI 6) dX4_found_17 (by decide +kernel) ?_
          refine v_icmp_gt (tgt := 35) dX4_found_19 (by decide) (fun c19 => ?_) (fun c19 => ?_)
          · refine v_iconst (x := (-1)) dX4_found_35 rfl ?_
            exact v_iret rfl dX4_found_36 ⟨congrArg (fun z => some (Value.int z)) (by rw [q_found, if_neg hok]), hr, FC.rf σ⟩
          · obtain ⟨Z, hZ, -, rfl⟩ := in_r (lo := 0) (hi := 9999) (by decide) (by decide) c1 c8
            obtain ⟨N, hN, hN2, rfl⟩ := in_r (lo := 2) (hi := 6) (by decide) (by decide) c13 c19
            have hfb := fc_b N (by omega)
            refine v_iload_n dX4_found_22 rfl ?_
            refine v_if_lt (tgt := 35) dX4_found_23 (by decide) (fun c23 => ?_) (fun c23 => ?_)
            · refine v_iconst (x := (-1)) dX4_found_35 rfl ?_
              exact v_iret rfl dX4_found_36 ⟨congrArg (fun z => some (Value.int z)) (by rw [q_found, if_neg hok]), hr, FC.rf σ⟩
            · refine v_iload_n dX4_found_26 rfl ?_
              refine v_gets dX4_found_27 (by decide +kernel) ?_
              refine v_iload_n dX4_found_30 rfl ?_
              refine v_saldN _ dX4_found_31 rfl (by omega) ?_
              refine v_icmp_lt (tgt := 37) dX4_found_32 (by decide) (fun c32 => ?_) (fun c32 => ?_)
              · obtain ⟨O, hO, rfl⟩ := in_r2 (by omega) c23 c32
                refine v_iload dX4_found_37 rfl ?_
                refine v_iconst (x := nI 1) dX4_found_39 (by decide +kernel) ?_
                refine v_icmp_lt (tgt := 73) dX4_found_40 (by decide) (fun c40 => ?_) (fun c40 => ?_)
                · refine v_iconst (x := (-1)) dX4_found_73 rfl ?_
                  exact v_iret rfl dX4_found_74 ⟨congrArg (fun z => some (Value.int z)) (by rw [q_found, if_neg hok]), hr, FC.rf σ⟩
                · refine v_iload dX4_found_43 rfl ?_
                  refine v_bipush (x := nI 12) dX4_found_45 (by decide +kernel) ?_
                  refine v_icmp_gt (tgt := 73) dX4_found_47 (by decide) (fun c47 => ?_) (fun c47 => ?_)
                  · refine v_iconst (x := (-1)) dX4_found_73 rfl ?_
                    exact v_iret rfl dX4_found_74 ⟨congrArg (fun z => some (Value.int z)) (by rw [q_found, if_neg hok]), hr, FC.rf σ⟩
                  · obtain ⟨Mm, hM, hM2, rfl⟩ := in_r (lo := 1) (hi := 12) (by decide) (by decide) c40 c47
                    refine v_iload dX4_found_50 rfl ?_
                    refine v_if_lt (tgt := 73) dX4_found_52 (by decide) (fun c52 => ?_) (fun c52 => ?_)
                    · refine v_iconst (x := (-1)) dX4_found_73 rfl ?_
                      exact v_iret rfl dX4_found_74 ⟨congrArg (fun z => some (Value.int z)) (by rw [q_found, if_neg hok]), hr, FC.rf σ⟩
                    · refine v_iload dX4_found_55 rfl ?_
                      refine v_bipush (x := nI 100) dX4_found_57 (by decide +kernel) ?_
                      refine v_icmp_gt (tgt := 73) dX4_found_59 (by decide) (fun c59 => ?_) (fun c59 => ?_)
                      · refine v_iconst (x := (-1)) dX4_found_73 rfl ?_
                        exact v_iret rfl dX4_found_74 ⟨congrArg (fun z => some (Value.int z)) (by rw [q_found, if_neg hok]), hr, FC.rf σ⟩
                      · obtain ⟨Hh, hH, -, rfl⟩ := in_r (lo := 0) (hi := 100) (by decide) (by decide) c52 c59
                        refine v_iload dX4_found_62 rfl ?_
                        refine v_if_lt (tgt := 73) dX4_found_64 (by decide) (fun c64 => ?_) (fun c64 => ?_)
                        · refine v_iconst (x := (-1)) dX4_found_73 rfl ?_
                          exact v_iret rfl dX4_found_74 ⟨congrArg (fun z => some (Value.int z)) (by rw [q_found, if_neg hok]), hr, FC.rf σ⟩
                        · refine v_iload dX4_found_67 rfl ?_
                          refine v_iconst (x := nI 2) dX4_found_69 (by decide +kernel) ?_
                          refine v_icmp_le (tgt := 75) dX4_found_70 (by decide) (fun c70 => ?_) (fun c70 => ?_)
                          · refine absurd (fOK_iff.mpr ⟨isN_of hZ (by decide), ⟨isN_of hN (by decide), by rw [nI_clamp (by omega)]; exact hN2⟩, by rw [nI_clamp (by omega)]; exact isN_of hO (by omega), ⟨isN_of hM (by decide), by rw [nI_clamp (by omega)]; exact hM2⟩, isN_of hH (by decide), ?_⟩) hok
                            exact isN_in (by decide) c64 (fun q => by rw [Int32.le_iff_toInt_le, nI_toInt (by decide)] at q c70; omega)
                          · refine v_iconst (x := (-1)) dX4_found_73 rfl ?_
                            exact v_iret rfl dX4_found_74 ⟨congrArg (fun z => some (Value.int z)) (by rw [q_found, if_neg hok]), hr, FC.rf σ⟩
              · refine v_iconst (x := (-1)) dX4_found_35 rfl ?_
                exact v_iret rfl dX4_found_36 ⟨congrArg (fun z => some (Value.int z)) (by rw [q_found, if_neg hok]), hr, FC.rf σ⟩
