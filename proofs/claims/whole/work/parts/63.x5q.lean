theorem in_X5_found_X5 : ∀ w ∈ u_ws RX5 TX5 29, w ∈ mWs M_X5_found := by decide +kernel
theorem fl_X5_found_41 : Cond.fieldLink (mOwn M_X5_found) 41 (TX5 14).1 (TX5 14).2.1 (TX5 14).2.2.1 ∈ mWs M_X5_found := by decide +kernel
theorem fl_X5_found_44 : Cond.fieldLink (mOwn M_X5_found) 44 (TX5 16).1 (TX5 16).2.1 (TX5 16).2.2.1 ∈ mWs M_X5_found := by decide +kernel
theorem fl_X5_found_47 : Cond.fieldLink (mOwn M_X5_found) 47 (TX5 17).1 (TX5 17).2.1 (TX5 17).2.2.1 ∈ mWs M_X5_found := by decide +kernel
theorem fl_X5_found_50 : Cond.fieldLink (mOwn M_X5_found) 50 (TX5 18).1 (TX5 18).2.1 (TX5 18).2.2.1 ∈ mWs M_X5_found := by decide +kernel
theorem fl_X5_found_53 : Cond.fieldLink (mOwn M_X5_found) 53 (TX5 19).1 (TX5 19).2.1 (TX5 19).2.2.1 ∈ mWs M_X5_found := by decide +kernel
theorem fl_X5_found_186 : Cond.fieldLink (mOwn M_X5_found) 186 (TX5 13).1 (TX5 13).2.1 (TX5 13).2.2.1 ∈ mWs M_X5_found := by decide +kernel
theorem fl_X5_found_189 : Cond.fieldLink (mOwn M_X5_found) 189 (TX5 15).1 (TX5 15).2.1 (TX5 15).2.2.1 ∈ mWs M_X5_found := by decide +kernel
theorem fl_X5_found_192 : Cond.fieldLink (mOwn M_X5_found) 192 (TX5 21).1 (TX5 21).2.1 (TX5 21).2.2.1 ∈ mWs M_X5_found := by decide +kernel
theorem fl_X5_found_195 : Cond.fieldLink (mOwn M_X5_found) 195 (TX5 22).1 (TX5 22).2.1 (TX5 22).2.2.1 ∈ mWs M_X5_found := by decide +kernel
theorem nn_X5_draw : (mY M_X5_draw).cls ≠ "java/lang/invoke/MethodHandle" ∧ (mY M_X5_draw).cls ≠ "java/lang/invoke/VarHandle" ∧ (parseMethodDescriptor (mY M_X5_draw).desc).map (fun d => d.parameters.length) = some 3 := by decide +kernel
theorem nn_X5_factorial : (mY M_X5_factorial).cls ≠ "java/lang/invoke/MethodHandle" ∧ (mY M_X5_factorial).cls ≠ "java/lang/invoke/VarHandle" ∧ (parseMethodDescriptor (mY M_X5_factorial).desc).map (fun d => d.parameters.length) = some 1 := by decide +kernel
theorem btw_lo {k : Int32} {a b : Int64} (lo n : Nat) (ha : a.toInt = (lo : Int)) (hb : b.toInt = (n : Int) - 1) : btw k.toInt64 a b = (isN k n && decide (lo ≤ k.toNatClampNeg ∧ 0 ≤ k.toInt)) := by
  simp only [btw, isN, Int64.le_iff_toInt_le, Int32.toInt_toInt64, ha, hb]
  have e : k.toNatClampNeg = k.toInt.toNat := rfl
  rw [e]
  apply Bool.eq_iff_iff.mpr
  simp only [Bool.and_eq_true, decide_eq_true_eq]
  omega
theorem btw_lo' {k : Int32} {a b : Int64} (lo n : Nat) (ha : a.toInt = (lo : Int)) (hb : b.toInt = (n : Int) - 1) : btw k.toInt64 a b = (isN k n && decide (lo ≤ k.toNatClampNeg)) := by
  rw [btw_lo lo n ha hb]
  apply Bool.eq_iff_iff.mpr
  simp only [Bool.and_eq_true, decide_eq_true_eq, isN_iff]
  constructor
  · rintro ⟨⟨h1, h2⟩, h3, h4⟩; exact ⟨⟨h1, h2⟩, h3⟩
  · rintro ⟨⟨h1, h2⟩, h3⟩; exact ⟨⟨h1, h2⟩, h3, h1⟩
theorem pr_fc {n : Nat} (hn : n < 7) : (pr (2 ^ n - 1) 64 0).length = fc n := by rw [← plan_all n hn]; simp
theorem lgP_0 : ∀ n, n < 7 → lgP n 0 = List.range n := by decide +kernel
theorem bits_n : ∀ n, n < 7 → bits (2 ^ n - 1) = List.range n := by decide
theorem ofL_range {n i : Nat} (h : i < n) : ofL (List.range n) i = i := by simp [ofL, h]
theorem fl_step {N i : Nat} {τ : SS} (hN : N < 7) (hi : i + 1 < fc N) (h : ∀ r', nxt (ofL (lgP N i)) N = some r' → RWf N r' τ) : RW (lgP N (i + 1)) τ := by
  obtain ⟨r', e1, e2⟩ := nxt_lg (o := fOD 0 N 0 0 0) (fOD_ov hN (fc_pos _) (by decide)) (i := i) (by show i + 1 < (pr (2 ^ N - 1) 64 0).length; rw [pr_fc hN]; exact hi)
  have hl : (lg (fOD 0 N 0 0 0) i).length = N := lgP_len hN (by omega)
  rw [hl] at e1 e2
  exact rw_toL (h r' e1) e2
def gzA (N M : Nat) (σ : SS) (p : Nat) (τ : SS) : Prop := (τ.1 40 13 = nI N ∧ τ.1 40 15 = nI M) ∧ (∀ j, j < p → τ.1 51 j = nI j ∧ τ.1 54 j = nI 0) ∧ FNo σ τ
theorem gzA_0 {N M : Nat} (σ : SS) : gzA N M σ 0 (sI (sI σ 40 13 (nI N)) 40 15 (nI M)) := ⟨⟨(sI_ne _ _ (Or.inr (by decide))).trans (sI_at _ _ _ _), sI_at _ _ _ _⟩, fun j hj => by omega, ((FNo.rf σ).u4 (by decide) _).u4 (by decide) _⟩
theorem gzA_s {N M p : Nat} {σ τ : SS} (h : gzA N M σ p τ) : gzA N M σ (p + 1) (sI (sI τ 51 p (nI p)) 54 p (nI 0)) := by
  refine ⟨⟨(sI_ne _ _ (Or.inl (by decide))).trans ((sI_ne _ _ (Or.inl (by decide))).trans h.1.1), (sI_ne _ _ (Or.inl (by decide))).trans ((sI_ne _ _ (Or.inl (by decide))).trans h.1.2)⟩, fun j hj => ?_, (h.2.2.up (by decide) _ _).up (by decide) _ _⟩
  by_cases q : j = p
  · subst q
    exact ⟨(sI_ne _ _ (Or.inl (by decide))).trans (sI_at _ _ _ _), sI_at _ _ _ _⟩
  · obtain ⟨a, b⟩ := h.2.1 j (by omega)
    exact ⟨(sI_ne _ _ (Or.inl (by decide))).trans ((sI_ne _ _ (Or.inr q)).trans a), (sI_ne _ _ (Or.inr q)).trans ((sI_ne _ _ (Or.inl (by decide))).trans b)⟩
def gzF (σ τ : SS) : Prop := (∀ a, a ≠ 52 → a ≠ 53 → τ.1 a = σ.1 a) ∧ τ.2 = σ.2
theorem gzF.up {σ τ : SS} (h : gzF σ τ) {b : Nat} (hb : b = 52 ∨ b = 53) (j : Nat) (x : Int32) : gzF σ (sI τ b j x) := ⟨fun a h1 h2 => (sI_row _ _ (by omega)).trans (h.1 a h1 h2), h.2⟩
theorem gzF.fn {σ τ : SS} (h : gzF σ τ) : FNo σ τ := ⟨fun a h1 h2 => h.1 a (by omega) (by omega), fun j h1 => by rw [h.1 40 (by decide) (by decide)], h.2⟩
def gzC (l : List Nat) (n z h : Nat) (σ : SS) (i : Nat) (τ : SS) : Prop := (∀ k, k < i → τ.1 52 k = nI (fW l n z h k) ∧ τ.1 53 k = nI (fT z k)) ∧ gzF σ τ
def gzD (l : List Nat) (n z h i : Nat) (σ : SS) (t : Nat) (τ : SS) : Prop := (∀ k, k < i → τ.1 52 k = nI (fW l n z h k) ∧ τ.1 53 k = nI (fT z k)) ∧ (τ.1 52 i = nI (om (fWf l n z h i) t) ∧ τ.1 53 i = nI (fT z i)) ∧ gzF σ τ
theorem gzD_0 {l : List Nat} {n z h i : Nat} {σ τ : SS} (g : gzC l n z h σ i τ) : gzD l n z h i σ 0 (sI (sI τ 53 i (nI (fT z i))) 52 i (nI 0)) := by
  refine ⟨fun k hk => ?_, ⟨sI_at _ _ _ _, (sI_ne _ _ (Or.inl (by decide))).trans (sI_at _ _ _ _)⟩, (g.2.up (Or.inr rfl) _ _).up (Or.inl rfl) _ _⟩
  obtain ⟨a, b⟩ := g.1 k hk
  exact ⟨(sI_ne _ _ (Or.inr (by omega))).trans ((sI_ne _ _ (Or.inr (by omega))).trans a), (sI_ne _ _ (Or.inr (by omega))).trans ((sI_ne _ _ (Or.inr (by omega))).trans b)⟩
theorem gzD_s {l : List Nat} {n z h i t x : Nat} {σ τ : SS} (g : gzD l n z h i σ t τ) (hx : fWf l n z h i t = x) : gzD l n z h i σ (t + 1) (sI τ 52 i (nI (om (fWf l n z h i) t ||| x))) := by
  subst hx
  refine ⟨fun k hk => ?_, ⟨sI_at _ _ _ _, (sI_ne _ _ (Or.inl (by decide))).trans g.2.1.2⟩, g.2.2.up (Or.inl rfl) _ _⟩
  obtain ⟨a, b⟩ := g.1 k hk
  exact ⟨(sI_ne _ _ (Or.inr (by omega))).trans a, (sI_ne _ _ (Or.inr (by omega))).trans b⟩
theorem gzD_e {l : List Nat} {n z h i : Nat} {σ τ : SS} (g : gzD l n z h i σ (fCn n z i) τ) : gzC l n z h σ (i + 1) τ := by
  refine ⟨fun k hk => ?_, g.2.2⟩
  by_cases q : k = i
  · subst q; exact g.2.1
  · exact g.1 k (by omega)
theorem gzOM {z n o m h : Nat} (hn : n < 7) {σ τ : SS} (h1 : σ.1 40 13 = nI n ∧ σ.1 40 15 = nI m) (h2 : ∀ j, j < 6 → σ.1 51 j = nI j ∧ σ.1 54 j = nI 0) (g : gzC (lgP n o) n z h σ m τ) : OM (fOD z n o m h) τ := by
  have e : bits (oP (fOD z n o m h)) = List.range n := bits_n n hn
  have f := g.2.1
  refine ⟨by rw [e, List.length_range, f 40 (by decide) (by decide)]; exact h1.1, by rw [f 40 (by decide) (by decide)]; exact h1.2, g.1, fun p hp => by rw [f 54 (by decide) (by decide)]; exact (h2 p hp).2, fun i hi => ?_⟩
  rw [e, List.length_range] at hi
  rw [e, f 51 (by decide) (by decide), ofL_range hi]
  exact (h2 i (by omega)).1
theorem BM_g {o : OD} {σ : SS} (h : BM o (TL o 0) σ) (hn : TL o 0 ≠ []) : σ.1 40 22 = nI (few o 0) := by
  rw [h.2.1, few]
  cases e : TL o 0 with
  | nil => exact absurd e hn
  | cons x t => rfl
set_option maxRecDepth 100000 in
set_option maxHeartbeats 4000000 in
theorem s_X5_factorial {v : EE} {σ : SS} {n : Nat} (hn2 : 2 ≤ n) (hn : n < 7) : S1 v M_X5_factorial [.int (nI n)] σ (some (.int (nI (fc n)))) (σ) := by
  refine Sp.of rfl (by decide) rfl (Nat.le_of_ble_eq_true rfl) ?_
  show V v M_X5_factorial _ 0 [(0, .int (nI n))] [] σ
  refine v_iconst (x := nI 1) dX5_factorial_0 (by decide +kernel) ?_
  refine v_istore_n (L' := [(1, _), (0, _)]) dX5_factorial_1 rfl (by decide) rfl ?_
  refine v_iconst (x := nI 2) dX5_factorial_2 (by decide +kernel) ?_
  refine v_istore_n (L' := [(2, _), (1, _), (0, _)]) dX5_factorial_3 rfl (by decide) rfl ?_
  refine v_sub [2, 1, 0] rfl ?_
  refine loopN (fun i => V v M_X5_factorial (zR v M_X5_factorial (fun r' σ' => r' = (some (.int (nI (fc n)))) ∧ σ' = (σ))) 4 [(0, .int (nI n)), (1, .int (nI (fc (i + 1)))), (2, .int (nI (i + 2)))] [] (σ)) (n - 1) ?_ ?_
  · intro i hi ih
    have hfb := fc_b (i + 1) (by omega)
    refine v_iload_n dX5_factorial_4 rfl ?_
    refine v_iload_n dX5_factorial_5 rfl ?_
    refine n_icmp_gt (tgt := 19) dX5_factorial_6 (by decide) (by omega) (by omega) (fun c6 => absurd c6 (by omega)) (fun c6 => ?_)
    refine v_iload_n dX5_factorial_9 rfl ?_
    refine v_iload_n dX5_factorial_10 rfl ?_
    refine n_imul dX5_factorial_11 ?_
    refine v_top (congrArg nI (Nat.mul_comm _ _)) ?_
    refine v_istore_n (L' := [(1, _), (0, _), (2, _)]) dX5_factorial_12 rfl (by decide) rfl ?_
    refine n_iinc (n := 1) (L' := [(2, _), (1, _), (0, _)]) dX5_factorial_13 rfl (by decide) rfl ?_
    refine v_goto (tgt := 4) dX5_factorial_16 (by decide) ?_
    refine v_sub [2, 1, 0] rfl ?_
    exact ih
  · refine v_iload_n dX5_factorial_4 rfl ?_
    refine v_iload_n dX5_factorial_5 rfl ?_
    refine n_icmp_gt (tgt := 19) dX5_factorial_6 (by decide) (by omega) (by omega) (fun c6 => ?_) (fun c6 => absurd c6 (by omega))
    refine v_iload_n dX5_factorial_19 rfl ?_
    exact v_iret rfl dX5_factorial_20 ⟨congrArg (fun z => some (Value.int z)) (by rw [show n - 1 + 1 = n by omega]), rfl⟩
set_option maxRecDepth 100000 in
set_option maxHeartbeats 4000000 in
theorem s_X5_begins_w {v : EE} {l : List Nat} {σ : SS} (hm : σ.1 40 13 = nI l.length) (h6 : l.length ≤ 6) (hc : ∀ i, i < l.length → σ.1 51 i = nI (ofL l i)) : SR v M_X5_begins [.ref (v.1 40)] σ none (fun σ' => RW l σ' ∧ FB σ σ') := by
  refine Sp.of rfl (by decide) rfl (Nat.le_of_ble_eq_true rfl) ?_
  show V v M_X5_begins _ 0 [(0, .ref (v.1 40))] [] σ
  refine v_iconst (x := nI 0) dX5_begins_0 (by decide +kernel) ?_
  refine v_istore_n (L' := [(1, _), (0, _)]) dX5_begins_1 rfl (by decide) rfl ?_
  refine v_sub [1, 0] rfl ?_
  refine loopN (fun i => ∀ τ : SS, ((∀ j, j < i → τ.1 55 j = nI (ofL l j)) ∧ FB σ τ) → V v M_X5_begins (zR v M_X5_begins (fun r' σ' => r' = none ∧ (RW l σ' ∧ FB σ σ'))) 2 [(0, .ref (v.1 40)), (1, .int (nI i))] [] τ) l.length ?_ ?_ _ ⟨fun j hj => by omega, FB.rf σ⟩
  · intro i hi ih τ hinv
    refine v_iload_n dX5_begins_2 rfl ?_
    refine v_aload_n dX5_begins_3 rfl ?_
    refine v_get (j := 13) iO40 rfl dX5_begins_4 (by decide) in_X5_begins_X5 fl_X5_begins_186 rfl ?_
    refine v_top ((congrFun (hinv.2.1 40 (by decide)) 13).trans hm) ?_
    refine n_icmp_ge (tgt := 28) dX5_begins_7 (by decide) (by omega) (by omega) (fun c7 => absurd c7 (by omega)) (fun c7 => ?_)
    refine v_aload_n dX5_begins_10 rfl ?_
    refine v_get (j := 19) iO40 rfl dX5_begins_11 (by decide) in_X5_begins_X5 fl_X5_begins_53 rfl ?_
    refine v_iload_n dX5_begins_14 rfl ?_
    refine v_aload_n dX5_begins_15 rfl ?_
    refine v_get (j := 14) iO40 rfl dX5_begins_16 (by decide) in_X5_begins_X5 fl_X5_begins_41 rfl ?_
    refine v_iload_n dX5_begins_19 rfl ?_
    refine v_ialdN i iI51 dX5_begins_20 rfl (by omega) (by decide) ?_
    refine v_top ((congrFun (hinv.2.1 51 (by decide)) i).trans (hc i hi)) ?_
    refine v_iastN i iI55 dX5_begins_21 rfl (by omega) (by decide) ?_
    refine n_iinc (n := 1) (L' := [(1, _), (0, _)]) dX5_begins_22 rfl (by decide) rfl ?_
    refine v_goto (tgt := 2) dX5_begins_25 (by decide) ?_
    refine v_sub [1, 0] rfl ?_
    exact ih _ ⟨rwI_s hinv.1, hinv.2.up _ _⟩
  · intro τ hinv
    refine v_iload_n dX5_begins_2 rfl ?_
    refine v_aload_n dX5_begins_3 rfl ?_
    refine v_get (j := 13) iO40 rfl dX5_begins_4 (by decide) in_X5_begins_X5 fl_X5_begins_186 rfl ?_
    refine v_top ((congrFun (hinv.2.1 40 (by decide)) 13).trans hm) ?_
    refine n_icmp_ge (tgt := 28) dX5_begins_7 (by decide) (by omega) (by omega) (fun c7 => ?_) (fun c7 => absurd c7 (by omega))
    exact v_vret rfl dX5_begins_28 ⟨rfl, hinv⟩
set_option maxRecDepth 100000 in
set_option maxHeartbeats 4000000 in
theorem s_X5_found {v : EE} {s : AS} {σ : SS} (hr : RM s σ) (z n o m h what : Int32) : SR v M_X5_found [.ref (v.1 40), .int z, .int n, .int o, .int m, .int h, .int what] σ (some (.int (q_found z n o m h what))) (fun σ' => RM s σ' ∧ FM σ σ') := by
  refine Sp.of rfl (by decide) rfl (Nat.le_of_ble_eq_true rfl) ?_
  show V v M_X5_found _ 0 [(0, .ref (v.1 40)), (1, .int z), (2, .int n), (3, .int o), (4, .int m), (5, .int h), (6, .int what)] [] σ
  by_cases hok : fOKb z n o m h what = true
  · obtain ⟨hz1, ⟨hn1, hn2⟩, ho1, ⟨hm1, hm2⟩, hh1, hw1⟩ := fOK_iff.mp hok
    have hn0 : (isN n 7 && decide (2 ≤ n.toNatClampNeg)) = true := by rw [hn1, decide_eq_true hn2]; rfl
    have hm0 : (isN m 13 && decide (1 ≤ m.toNatClampNeg)) = true := by rw [hm1, decide_eq_true hm2]; rfl
    obtain ⟨Z, hZ, hZ2, rfl⟩ := isN_nI hz1
    obtain ⟨N, hN, hN2, rfl⟩ := isN_nI hn1
    rw [nI_clamp hN2] at hn2 ho1
    obtain ⟨O, hO, hO2, rfl⟩ := isN_nI ho1
    obtain ⟨Mm, hM, hM2, rfl⟩ := isN_nI hm1
    rw [nI_clamp hM2] at hm2
    obtain ⟨Hh, hH, hH2, rfl⟩ := isN_nI hh1
    have hq : q_found (nI Z) (nI N) (nI O) (nI Mm) (nI Hh) what = fA Z N O Mm Hh what := by rw [q_found, if_pos hok, nI_clamp hZ2, nI_clamp hN2, nI_clamp hO2, nI_clamp hM2, nI_clamp hH2]
    have hfb := fc_b N hN
    have hov := fOD_ov (z := Z) (h := Hh) hN hO hM
    have hne := fOD_ne (z := Z) (m := Mm) (h := Hh) hN hO
    rcases sw3 what with rfl | rfl | rfl | hsw
    · refine v_iload_n dX5_found_0 rfl ?_
      refine v_i2l dX5_found_1 ?_
      refine v_lconst (x := 0) dX5_found_2 rfl ?_
      refine v_ldc2 (x := (9999)) (by decide +kernel) dX5_found_3 ?_
      refine v_callSi (M' := M_X5_between) (As := [_, _, _]) (s_X5_between) dX5_found_6 gX5_found_X5_between rfl nn_X5_between ⟨rfl, rfl⟩ ⟨by decide, by decide⟩ rfl rfl (Nat.le_of_ble_eq_true rfl) ?_
      refine v_top (congrArg bI ((btw_lit 10000 (by decide)).trans hz1)) ?_
      refine b_if_eq (tgt := 81) dX5_found_9 (by decide) (fun c9 => absurd c9 (by decide)) (fun c9 => ?_)
      refine v_iload_n dX5_found_12 rfl ?_
      refine v_i2l dX5_found_13 ?_
      refine v_ldc2 (x := (2)) (by decide +kernel) dX5_found_14 ?_
      refine v_ldc2 (x := (6)) (by decide +kernel) dX5_found_17 ?_
      refine v_callSi (M' := M_X5_between) (As := [_, _, _]) (s_X5_between) dX5_found_20 gX5_found_X5_between rfl nn_X5_between ⟨rfl, rfl⟩ ⟨by decide, by decide⟩ rfl rfl (Nat.le_of_ble_eq_true rfl) ?_
      refine v_top (congrArg bI ((btw_lo' 2 7 (by decide) (by decide)).trans hn0)) ?_
      refine b_if_eq (tgt := 81) dX5_found_23 (by decide) (fun c23 => absurd c23 (by decide)) (fun c23 => ?_)
      refine v_iload_n dX5_found_26 rfl ?_
      refine v_i2l dX5_found_27 ?_
      refine v_lconst (x := 0) dX5_found_28 rfl ?_
      refine v_iload_n dX5_found_29 rfl ?_
      refine v_callSi (M' := M_X5_factorial) (As := [_]) (s_X5_factorial hn2 hN) dX5_found_30 gX5_found_X5_factorial rfl nn_X5_factorial ⟨rfl, rfl⟩ ⟨by decide, by decide⟩ rfl rfl (Nat.le_of_ble_eq_true rfl) ?_
      refine v_iconst (x := 1) dX5_found_33 rfl ?_
      refine v_isub dX5_found_34 ?_
      refine v_i2l dX5_found_35 ?_
      refine v_callSi (M' := M_X5_between) (As := [_, _, _]) (s_X5_between) dX5_found_36 gX5_found_X5_between rfl nn_X5_between ⟨rfl, rfl⟩ ⟨by decide, by decide⟩ rfl rfl (Nat.le_of_ble_eq_true rfl) ?_
      refine v_top (congrArg bI ((btw_isN (by omega)).trans ho1)) ?_
      refine b_if_eq (tgt := 81) dX5_found_39 (by decide) (fun c39 => absurd c39 (by decide)) (fun c39 => ?_)
      refine v_iload dX5_found_42 rfl ?_
      refine v_i2l dX5_found_44 ?_
      refine v_lconst (x := 1) dX5_found_45 rfl ?_
      refine v_ldc2 (x := (12)) (by decide +kernel) dX5_found_46 ?_
      refine v_callSi (M' := M_X5_between) (As := [_, _, _]) (s_X5_between) dX5_found_49 gX5_found_X5_between rfl nn_X5_between ⟨rfl, rfl⟩ ⟨by decide, by decide⟩ rfl rfl (Nat.le_of_ble_eq_true rfl) ?_
      refine v_top (congrArg bI ((btw_lo' 1 13 (by decide) (by decide)).trans hm0)) ?_
      refine b_if_eq (tgt := 81) dX5_found_52 (by decide) (fun c52 => absurd c52 (by decide)) (fun c52 => ?_)
      refine v_iload dX5_found_55 rfl ?_
      refine v_i2l dX5_found_57 ?_
      refine v_lconst (x := 0) dX5_found_58 rfl ?_
      refine v_ldc2 (x := (100)) (by decide +kernel) dX5_found_59 ?_
      refine v_callSi (M' := M_X5_between) (As := [_, _, _]) (s_X5_between) dX5_found_62 gX5_found_X5_between rfl nn_X5_between ⟨rfl, rfl⟩ ⟨by decide, by decide⟩ rfl rfl (Nat.le_of_ble_eq_true rfl) ?_
      refine v_top (congrArg bI ((btw_lit 101 (by decide)).trans hh1)) ?_
      refine b_if_eq (tgt := 81) dX5_found_65 (by decide) (fun c65 => absurd c65 (by decide)) (fun c65 => ?_)
      refine v_iload dX5_found_68 rfl ?_
      refine v_i2l dX5_found_70 ?_
      refine v_lconst (x := 0) dX5_found_71 rfl ?_
      refine v_ldc2 (x := (2)) (by decide +kernel) dX5_found_72 ?_
      refine v_callSi (M' := M_X5_between) (As := [_, _, _]) (s_X5_between) dX5_found_75 gX5_found_X5_between rfl nn_X5_between ⟨rfl, rfl⟩ ⟨by decide, by decide⟩ rfl rfl (Nat.le_of_ble_eq_true rfl) ?_
      refine v_top (congrArg bI ((btw_lit 3 (by decide)).trans hw1)) ?_
      refine b_if_ne (tgt := 83) dX5_found_78 (by decide) (fun c78 => ?_) (fun c78 => absurd c78 (by decide))
      refine v_aload_n dX5_found_83 rfl ?_
      refine v_iload_n dX5_found_84 rfl ?_
      refine pX5_13 dX5_found_85 in_X5_found_X5 fl_X5_found_186 ?_
      refine v_aload_n dX5_found_88 rfl ?_
      refine v_iload dX5_found_89 rfl ?_
      refine pX5_15 dX5_found_91 in_X5_found_X5 fl_X5_found_189 ?_
      refine v_iconst (x := nI 0) dX5_found_94 (by decide +kernel) ?_
      refine v_istore (L' := [(7, _), (0, _), (1, _), (2, _), (3, _), (4, _), (5, _), (6, _)]) dX5_found_95 (by decide) rfl ?_
      refine v_sub [1, 2, 3, 4, 5, 6, 7, 0] rfl ?_
      refine loopN (fun p => ∀ τ : SS, gzA N Mm σ p τ → V v M_X5_found (zR v M_X5_found (fun r' σ' => r' = (some (.int (q_found (nI Z) (nI N) (nI O) (nI Mm) (nI Hh) 0))) ∧ (RM s σ' ∧ FM σ σ'))) 97 [(0, .ref (v.1 40)), (1, .int (nI Z)), (2, .int (nI N)), (3, .int (nI O)), (4, .int (nI Mm)), (5, .int (nI Hh)), (6, .int 0), (7, .int (nI p))] [] τ) 6 ?_ ?_ _ (gzA_0 σ)
      · intro p hi ih τ hinv
        refine v_iload dX5_found_97 rfl ?_
        refine v_bipush (x := nI 6) dX5_found_99 (by decide +kernel) ?_
        refine n_icmp_ge (tgt := 127) dX5_found_101 (by decide) (by omega) (by omega) (fun c101 => absurd c101 (by omega)) (fun c101 => ?_)
        refine v_aload_n dX5_found_104 rfl ?_
        refine v_get (j := 14) iO40 rfl dX5_found_105 (by decide) in_X5_found_X5 fl_X5_found_41 rfl ?_
        refine v_iload dX5_found_108 rfl ?_
        refine v_iload dX5_found_110 rfl ?_
        refine v_iastN p iI51 dX5_found_112 rfl (by omega) (by decide) ?_
        refine v_aload_n dX5_found_113 rfl ?_
        refine v_get (j := 18) iO40 rfl dX5_found_114 (by decide) in_X5_found_X5 fl_X5_found_50 rfl ?_
        refine v_iload dX5_found_117 rfl ?_
        refine v_iconst (x := nI 0) dX5_found_119 (by decide +kernel) ?_
        refine v_iastN p iI54 dX5_found_120 rfl (by omega) (by decide) ?_
        refine n_iinc (n := 1) (L' := [(7, _), (0, _), (1, _), (2, _), (3, _), (4, _), (5, _), (6, _)]) dX5_found_121 rfl (by decide) rfl ?_
        refine v_goto (tgt := 97) dX5_found_124 (by decide) ?_
        refine v_sub [1, 2, 3, 4, 5, 6, 7, 0] rfl ?_
        exact ih _ (gzA_s hinv)
      · intro τ hinv
        refine v_iload dX5_found_97 rfl ?_
        refine v_bipush (x := nI 6) dX5_found_99 (by decide +kernel) ?_
        refine n_icmp_ge (tgt := 127) dX5_found_101 (by decide) (by omega) (by omega) (fun c101 => ?_) (fun c101 => absurd c101 (by omega))
        refine v_aload_n dX5_found_127 rfl ?_
        refine v_callVRv (M' := M_X5_begins) (As := []) iO40 (s_X5_begins_w (l := lgP N 0) (by rw [lgP_len hN (fc_pos _)]; exact hinv.1.1) (by rw [lgP_len hN (fc_pos _)]; omega) (fun j hj => by rw [lgP_0 N hN] at hj ⊢; rw [List.length_range] at hj; rw [ofL_range hj]; exact (hinv.2.1 j (by omega)).1)) dX5_found_128 gX5_found_X5_begins rfl rfl nn_X5_begins ⟨rfl, rfl⟩ ⟨by decide, by decide⟩ rfl rfl (Nat.le_of_ble_eq_true rfl) (fun s1 h1 => ?_)
        have hm1 : s1.1 40 13 = nI N := (congrFun (h1.2.1 40 (by decide)) 13).trans hinv.1.1
        have hA1 : (s1.1 40 13 = nI N ∧ s1.1 40 15 = nI Mm) ∧ ∀ j, j < 6 → s1.1 51 j = nI j ∧ s1.1 54 j = nI 0 := by rw [(h1.2.1 40 (by decide)), (h1.2.1 51 (by decide)), (h1.2.1 54 (by decide))]; exact ⟨hinv.1, hinv.2.1⟩
        have hFN1 := hinv.2.2.tr h1.2.fq.fn
        refine v_iconst (x := nI 0) dX5_found_131 (by decide +kernel) ?_
        refine v_istore (L' := [(7, _), (0, _), (1, _), (2, _), (3, _), (4, _), (5, _), (6, _)]) dX5_found_132 (by decide) rfl ?_
        refine v_sub [1, 2, 3, 4, 5, 6, 7, 0] rfl ?_
        refine loopN (fun i => ∀ τ : SS, (RW (lgP N i) τ ∧ FB s1 τ) → V v M_X5_found (zR v M_X5_found (fun r' σ' => r' = (some (.int (q_found (nI Z) (nI N) (nI O) (nI Mm) (nI Hh) 0))) ∧ (RM s σ' ∧ FM σ σ'))) 134 [(0, .ref (v.1 40)), (1, .int (nI Z)), (2, .int (nI N)), (3, .int (nI O)), (4, .int (nI Mm)), (5, .int (nI Hh)), (6, .int 0), (7, .int (nI i))] [] τ) O ?_ ?_ _ ⟨h1.1, FB.rf s1⟩
        · intro i hi ih τ hinv
          have hRW : RWf N (ofL (lgP N i)) τ := by have := hinv.1; rw [RW, lgP_len hN (by omega)] at this; exact this
          refine v_iload dX5_found_134 rfl ?_
          refine v_iload_n dX5_found_136 rfl ?_
          refine n_icmp_ge (tgt := 151) dX5_found_137 (by decide) (by omega) (by omega) (fun c137 => absurd c137 (by omega)) (fun c137 => ?_)
          refine v_aload_n dX5_found_140 rfl ?_
          refine v_callVRi (M' := M_X5_follows) (As := []) iO40 (s_X5_follows ((congrFun (hinv.2.1 40 (by decide)) 13).trans hm1) (by omega) hRW (fun j hj => Nat.lt_trans (lgP_el hN (by omega) hj) (by decide))) dX5_found_141 gX5_found_X5_follows rfl rfl nn_X5_follows ⟨rfl, rfl⟩ ⟨by decide, by decide⟩ rfl rfl (Nat.le_of_ble_eq_true rfl) (fun s3 h3 => ?_)
          refine v_pop dX5_found_144 rfl ?_
          refine n_iinc (n := 1) (L' := [(7, _), (0, _), (1, _), (2, _), (3, _), (4, _), (5, _), (6, _)]) dX5_found_145 rfl (by decide) rfl ?_
          refine v_goto (tgt := 134) dX5_found_148 (by decide) ?_
          refine v_sub [1, 2, 3, 4, 5, 6, 7, 0] rfl ?_
          exact ih _ ⟨fl_step hN (by omega) h3.1, hinv.2.tr h3.2.2⟩
        · intro τ hinv
          have hrw2 := hinv.1
          have hFB2 := hinv.2
          clear hinv
          revert hrw2 hFB2
          generalize τ = s2
          intro hrw2 hFB2
          have hA : (s2.1 40 13 = nI N ∧ s2.1 40 15 = nI Mm) ∧ ∀ j, j < 6 → s2.1 51 j = nI j ∧ s2.1 54 j = nI 0 := by rw [(hFB2.1 40 (by decide)), (hFB2.1 51 (by decide)), (hFB2.1 54 (by decide))]; exact hA1
          have hFN2 := hFN1.tr hFB2.fq.fn
          have hrow : ∀ j, j < N → s2.1 55 j = nI (ofL (lgP N O) j) := fun j hj => hrw2 j (by rw [lgP_len hN hO]; exact hj)
          refine v_iload dX5_found_134 rfl ?_
          refine v_iload_n dX5_found_136 rfl ?_
          refine n_icmp_ge (tgt := 151) dX5_found_137 (by decide) (by omega) (by omega) (fun c137 => ?_) (fun c137 => absurd c137 (by omega))
          refine v_iconst (x := nI 0) dX5_found_151 (by decide +kernel) ?_
          refine v_istore (L' := [(7, _), (0, _), (1, _), (2, _), (3, _), (4, _), (5, _), (6, _)]) dX5_found_152 (by decide) rfl ?_
          refine v_sub [1, 2, 3, 4, 5, 6, 7, 0] rfl ?_
          refine loopN (fun i => ∀ τ : SS, gzC (lgP N O) N Z Hh s2 i τ → V v M_X5_found (zR v M_X5_found (fun r' σ' => r' = (some (.int (q_found (nI Z) (nI N) (nI O) (nI Mm) (nI Hh) 0))) ∧ (RM s σ' ∧ FM σ σ'))) 154 [(0, .ref (v.1 40)), (1, .int (nI Z)), (2, .int (nI N)), (3, .int (nI O)), (4, .int (nI Mm)), (5, .int (nI Hh)), (6, .int 0), (7, .int (nI i))] [] τ) Mm ?_ ?_ _ ⟨fun j hj => by omega, fun _ _ _ => rfl, rfl⟩
          · intro i hi ih τ hinv
            refine v_iload dX5_found_154 rfl ?_
            refine v_iload dX5_found_156 rfl ?_
            refine n_icmp_ge (tgt := 285) dX5_found_158 (by decide) (by omega) (by omega) (fun c158 => absurd c158 (by omega)) (fun c158 => ?_)
            refine v_iload_n dX5_found_161 rfl ?_
            refine v_iload dX5_found_162 rfl ?_
            refine v_iconst (x := nI 0) dX5_found_164 (by decide +kernel) ?_
            refine v_callSi (M' := M_X5_draw) (As := [_, _, _]) (s_X5_draw hZ (by omega) (by decide)) dX5_found_165 gX5_found_X5_draw rfl nn_X5_draw ⟨rfl, rfl⟩ ⟨by decide, by decide⟩ rfl rfl (Nat.le_of_ble_eq_true rfl) ?_
            refine v_iload_n dX5_found_168 rfl ?_
            refine n_irem dX5_found_169 (by have := dr_lt Z i 0; omega) (by omega) (by omega) ?_
            refine v_istore (L' := [(8, _), (0, _), (1, _), (2, _), (3, _), (4, _), (5, _), (6, _), (7, _)]) dX5_found_170 (by decide) rfl ?_
            refine v_iconst (x := nI 1) dX5_found_172 (by decide +kernel) ?_
            refine v_iload_n dX5_found_173 rfl ?_
            refine v_iload dX5_found_174 rfl ?_
            refine v_iconst (x := nI 1) dX5_found_176 (by decide +kernel) ?_
            refine v_callSi (M' := M_X5_draw) (As := [_, _, _]) (s_X5_draw hZ (by omega) (by decide)) dX5_found_177 gX5_found_X5_draw rfl nn_X5_draw ⟨rfl, rfl⟩ ⟨by decide, by decide⟩ rfl rfl (Nat.le_of_ble_eq_true rfl) ?_
            refine v_iconst (x := nI 3) dX5_found_180 (by decide +kernel) ?_
            refine n_irem dX5_found_181 (by have := dr_lt Z i 1; omega) (by decide) (by decide) ?_
            refine n_iadd dX5_found_182 ?_
            refine v_istore (L' := [(9, _), (8, _), (0, _), (1, _), (2, _), (3, _), (4, _), (5, _), (6, _), (7, _)]) dX5_found_183 (by decide) rfl ?_
            refine v_aload_n dX5_found_185 rfl ?_
            refine v_get (j := 17) iO40 rfl dX5_found_186 (by decide) in_X5_found_X5 fl_X5_found_47 rfl ?_
            refine v_iload dX5_found_189 rfl ?_
            refine v_iconst (x := nI 1) dX5_found_191 (by decide +kernel) ?_
            refine v_iload_n dX5_found_192 rfl ?_
            refine v_iload dX5_found_193 rfl ?_
            refine v_iconst (x := nI 2) dX5_found_195 (by decide +kernel) ?_
            refine v_callSi (M' := M_X5_draw) (As := [_, _, _]) (s_X5_draw hZ (by omega) (by decide)) dX5_found_196 gX5_found_X5_draw rfl nn_X5_draw ⟨rfl, rfl⟩ ⟨by decide, by decide⟩ rfl rfl (Nat.le_of_ble_eq_true rfl) ?_
            refine v_iconst (x := nI 5) dX5_found_199 (by decide +kernel) ?_
            refine n_irem dX5_found_200 (by have := dr_lt Z i 2; omega) (by decide) (by decide) ?_
            refine n_iadd dX5_found_201 ?_
            refine v_iastN i iI53 dX5_found_202 rfl (by omega) (by decide) ?_
            refine v_aload_n dX5_found_203 rfl ?_
            refine v_get (j := 16) iO40 rfl dX5_found_204 (by decide) in_X5_found_X5 fl_X5_found_44 rfl ?_
            refine v_iload dX5_found_207 rfl ?_
            refine v_iconst (x := nI 0) dX5_found_209 (by decide +kernel) ?_
            refine v_iastN i iI52 dX5_found_210 rfl (by omega) (by decide) ?_
            refine v_iload dX5_found_211 rfl ?_
            refine v_istore (L' := [(10, _), (9, _), (8, _), (0, _), (1, _), (2, _), (3, _), (4, _), (5, _), (6, _), (7, _)]) dX5_found_213 (by decide) rfl ?_
            have ihO := ih
            have hfr : fFr N Z i < N := Nat.mod_lt _ (by omega)
            have hst : 1 ≤ fSt Z i ∧ fSt Z i ≤ 3 := by rw [fSt]; omega
            have hiM := hi
            refine v_sub [3, 4, 5, 6, 7, 8, 9, 10, 2, 1, 0] rfl ?_
            refine loopN (fun t => ∀ υ : SS, gzD (lgP N O) N Z Hh i s2 t υ → V v M_X5_found (zR v M_X5_found (fun r' σ' => r' = (some (.int (q_found (nI Z) (nI N) (nI O) (nI Mm) (nI Hh) 0))) ∧ (RM s σ' ∧ FM σ σ'))) 215 [(0, .ref (v.1 40)), (1, .int (nI Z)), (2, .int (nI N)), (3, .int (nI O)), (4, .int (nI Mm)), (5, .int (nI Hh)), (6, .int 0), (7, .int (nI i)), (8, .int (nI (fFr N Z i))), (9, .int (nI (fSt Z i))), (10, .int (nI (fFr N Z i + t)))] [] υ) (fCn N Z i) ?_ ?_ _ (gzD_0 hinv)
            · intro t hi ih υ hinv
              have hi2 : fFr N Z i + t < N ∧ fFr N Z i + t < fFr N Z i + fSt Z i := by rw [fCn] at hi; omega
              have hel := lgP_el hN hO hi2.1
              refine v_iload dX5_found_215 rfl ?_
              refine v_iload_n dX5_found_217 rfl ?_
              refine n_icmp_ge (tgt := 279) dX5_found_218 (by decide) (by omega) (by omega) (fun c218 => absurd c218 (by omega)) (fun c218 => ?_)
              refine v_iload dX5_found_221 rfl ?_
              refine v_iload dX5_found_223 rfl ?_
              refine v_iload dX5_found_225 rfl ?_
              refine n_iadd dX5_found_227 ?_
              refine n_icmp_ge (tgt := 279) dX5_found_228 (by decide) (by omega) (by omega) (fun c228 => absurd c228 (by omega)) (fun c228 => ?_)
              refine v_aload_n dX5_found_231 rfl ?_
              refine v_get (j := 16) iO40 rfl dX5_found_232 (by decide) in_X5_found_X5 fl_X5_found_44 rfl ?_
              refine v_iload dX5_found_235 rfl ?_
              refine v_dup2 dX5_found_237 rfl rfl ?_
              refine v_ialdN i iI52 dX5_found_238 rfl (by omega) (by decide) ?_
              refine v_top hinv.2.1.1 ?_
              refine v_iload_n dX5_found_239 rfl ?_
              refine v_iload dX5_found_240 rfl ?_
              refine v_bipush (x := nI 10) dX5_found_242 (by decide +kernel) ?_
              refine v_iload dX5_found_244 rfl ?_
              refine n_iadd dX5_found_246 ?_
              refine v_callSi (M' := M_X5_draw) (As := [_, _, _]) (s_X5_draw hZ (by omega) (by omega)) dX5_found_247 gX5_found_X5_draw rfl nn_X5_draw ⟨rfl, rfl⟩ ⟨by decide, by decide⟩ rfl rfl (Nat.le_of_ble_eq_true rfl) ?_
              refine v_bipush (x := nI 100) dX5_found_250 (by decide +kernel) ?_
              refine n_irem dX5_found_252 (by have := dr_lt Z i (10 + (fFr N Z i + t)); omega) (by omega) (by omega) ?_
              refine v_iload dX5_found_253 rfl ?_
              refine n_icmp_ge (tgt := 270) dX5_found_255 (by decide) (by omega) (by omega) (fun c255 => ?_) (fun c255 => ?_)
              · refine v_iconst (x := nI 0) dX5_found_270 (by decide +kernel) ?_
                have hnx := gzD_s hinv (x := 0) (if_neg (by omega))
                refine n_ior dX5_found_271 ?_
                refine v_iastN i iI52 dX5_found_272 rfl (by omega) (by decide) ?_
                refine n_iinc (n := 1) (L' := [(10, _), (0, _), (1, _), (2, _), (3, _), (4, _), (5, _), (6, _), (7, _), (8, _), (9, _)]) dX5_found_273 rfl (by decide) rfl ?_
                refine v_goto (tgt := 215) dX5_found_276 (by decide) ?_
                refine v_sub [1, 2, 3, 4, 5, 6, 7, 8, 9, 10, 0] rfl ?_
                exact ih _ hnx
              · have hnx := gzD_s hinv (if_pos c255)
                refine v_iconst (x := nI 1) dX5_found_258 (by decide +kernel) ?_
                refine v_aload_n dX5_found_259 rfl ?_
                refine v_get (j := 19) iO40 rfl dX5_found_260 (by decide) in_X5_found_X5 fl_X5_found_53 rfl ?_
                refine v_iload dX5_found_263 rfl ?_
                refine v_ialdN (fFr N Z i + t) iI55 dX5_found_265 rfl (by omega) (by decide) ?_
                refine v_top ((congrFun (hinv.2.2.1 55 (by decide) (by decide)) _).trans (hrow _ hi2.1)) ?_
                refine n_shl1 dX5_found_266 (by omega) ?_
                refine v_goto (tgt := 271) dX5_found_267 (by decide) ?_
                refine n_ior dX5_found_271 ?_
                refine v_iastN i iI52 dX5_found_272 rfl (by omega) (by decide) ?_
                refine n_iinc (n := 1) (L' := [(10, _), (0, _), (1, _), (2, _), (3, _), (4, _), (5, _), (6, _), (7, _), (8, _), (9, _)]) dX5_found_273 rfl (by decide) rfl ?_
                refine v_goto (tgt := 215) dX5_found_276 (by decide) ?_
                refine v_sub [1, 2, 3, 4, 5, 6, 7, 8, 9, 10, 0] rfl ?_
                exact ih _ hnx
            · intro υ hinv
              have hi2 : fFr N Z i + fCn N Z i = N ∨ fFr N Z i + fCn N Z i = fFr N Z i + fSt Z i := by rw [fCn]; omega
              refine v_iload dX5_found_215 rfl ?_
              refine v_iload_n dX5_found_217 rfl ?_
              refine n_icmp_ge (tgt := 279) dX5_found_218 (by decide) (by omega) (by omega) (fun c218 => ?_) (fun c218 => ?_)
              · refine n_iinc (n := 1) (L' := [(7, _), (0, _), (1, _), (2, _), (3, _), (4, _), (5, _), (6, _), (8, _), (9, _), (10, _)]) dX5_found_279 rfl (by decide) rfl ?_
                refine v_goto (tgt := 154) dX5_found_282 (by decide) ?_
                refine v_sub [1, 2, 3, 4, 5, 6, 7, 0] rfl ?_
                exact ihO _ (gzD_e hinv)
              · refine v_iload dX5_found_221 rfl ?_
                refine v_iload dX5_found_223 rfl ?_
                refine v_iload dX5_found_225 rfl ?_
                refine n_iadd dX5_found_227 ?_
                refine n_icmp_ge (tgt := 279) dX5_found_228 (by decide) (by omega) (by omega) (fun c228 => ?_) (fun c228 => absurd c228 (by omega))
                refine n_iinc (n := 1) (L' := [(7, _), (0, _), (1, _), (2, _), (3, _), (4, _), (5, _), (6, _), (8, _), (9, _), (10, _)]) dX5_found_279 rfl (by decide) rfl ?_
                refine v_goto (tgt := 154) dX5_found_282 (by decide) ?_
                refine v_sub [1, 2, 3, 4, 5, 6, 7, 0] rfl ?_
                exact ihO _ (gzD_e hinv)
          · intro τ hinv
            refine v_iload dX5_found_154 rfl ?_
            refine v_iload dX5_found_156 rfl ?_
            refine n_icmp_ge (tgt := 285) dX5_found_158 (by decide) (by omega) (by omega) (fun c158 => ?_) (fun c158 => absurd c158 (by omega))
            refine v_aload_n dX5_found_285 rfl ?_
            have hOM := gzOM (z := Z) (o := O) (m := Mm) (h := Hh) hN hA.1 hA.2 hinv
            have hRW9 : RW (lgP N O) τ := fun j hj => by rw [hinv.2.1 55 (by decide) (by decide)]; exact hrw2 j hj
            refine v_callVi (M' := M_X5_gaps) (As := []) iO40 (s_X5_gaps hov hOM (fOD_good hN hO) hRW9) dX5_found_286 gX5_found_X5_gaps rfl rfl nn_X5_gaps ⟨rfl, rfl⟩ ⟨by decide, by decide⟩ rfl rfl (Nat.le_of_ble_eq_true rfl) ?_
            refine v_istore (L' := [(7, _), (0, _), (1, _), (2, _), (3, _), (4, _), (5, _), (6, _)]) dX5_found_289 (by decide) rfl ?_
            refine v_aload_n dX5_found_291 rfl ?_
            refine v_callVRv (M' := M_X5_orders) (As := []) iO40 (s_X5_orders hov hOM) dX5_found_292 gX5_found_X5_orders rfl rfl nn_X5_orders ⟨rfl, rfl⟩ ⟨by decide, by decide⟩ rfl rfl (Nat.le_of_ble_eq_true rfl) (fun s4 h4 => ?_)
            have hFN := (hFN2.tr hinv.2.fn).tr h4.2.fn
            have hg9 := BM_g h4.1 hne
            have hn9 := h4.1.1
            refine v_iload dX5_found_295 rfl ?_
            refine v_if_ne (tgt := 307) dX5_found_297 (by decide) (fun c297 => absurd rfl c297) (fun c297 => ?_)
            refine v_aload_n dX5_found_300 rfl ?_
            refine v_get (j := 22) iO40 rfl dX5_found_301 (by decide) in_X5_found_X5 fl_X5_found_195 rfl ?_
            refine v_top hg9 ?_
            refine v_goto (tgt := 334) dX5_found_304 (by decide) ?_
            exact v_iret rfl dX5_found_334 ⟨congrArg (fun z => some (Value.int z)) (by rw [hq, fA, if_pos rfl]), hFN.rm hr, hFN.fm⟩
    · refine v_iload_n dX5_found_0 rfl ?_
      refine v_i2l dX5_found_1 ?_
      refine v_lconst (x := 0) dX5_found_2 rfl ?_
      refine v_ldc2 (x := (9999)) (by decide +kernel) dX5_found_3 ?_
      refine v_callSi (M' := M_X5_between) (As := [_, _, _]) (s_X5_between) dX5_found_6 gX5_found_X5_between rfl nn_X5_between ⟨rfl, rfl⟩ ⟨by decide, by decide⟩ rfl rfl (Nat.le_of_ble_eq_true rfl) ?_
      refine v_top (congrArg bI ((btw_lit 10000 (by decide)).trans hz1)) ?_
      refine b_if_eq (tgt := 81) dX5_found_9 (by decide) (fun c9 => absurd c9 (by decide)) (fun c9 => ?_)
      refine v_iload_n dX5_found_12 rfl ?_
      refine v_i2l dX5_found_13 ?_
      refine v_ldc2 (x := (2)) (by decide +kernel) dX5_found_14 ?_
      refine v_ldc2 (x := (6)) (by decide +kernel) dX5_found_17 ?_
      refine v_callSi (M' := M_X5_between) (As := [_, _, _]) (s_X5_between) dX5_found_20 gX5_found_X5_between rfl nn_X5_between ⟨rfl, rfl⟩ ⟨by decide, by decide⟩ rfl rfl (Nat.le_of_ble_eq_true rfl) ?_
      refine v_top (congrArg bI ((btw_lo' 2 7 (by decide) (by decide)).trans hn0)) ?_
      refine b_if_eq (tgt := 81) dX5_found_23 (by decide) (fun c23 => absurd c23 (by decide)) (fun c23 => ?_)
      refine v_iload_n dX5_found_26 rfl ?_
      refine v_i2l dX5_found_27 ?_
      refine v_lconst (x := 0) dX5_found_28 rfl ?_
      refine v_iload_n dX5_found_29 rfl ?_
      refine v_callSi (M' := M_X5_factorial) (As := [_]) (s_X5_factorial hn2 hN) dX5_found_30 gX5_found_X5_factorial rfl nn_X5_factorial ⟨rfl, rfl⟩ ⟨by decide, by decide⟩ rfl rfl (Nat.le_of_ble_eq_true rfl) ?_
      refine v_iconst (x := 1) dX5_found_33 rfl ?_
      refine v_isub dX5_found_34 ?_
      refine v_i2l dX5_found_35 ?_
      refine v_callSi (M' := M_X5_between) (As := [_, _, _]) (s_X5_between) dX5_found_36 gX5_found_X5_between rfl nn_X5_between ⟨rfl, rfl⟩ ⟨by decide, by decide⟩ rfl rfl (Nat.le_of_ble_eq_true rfl) ?_
      refine v_top (congrArg bI ((btw_isN (by omega)).trans ho1)) ?_
      refine b_if_eq (tgt := 81) dX5_found_39 (by decide) (fun c39 => absurd c39 (by decide)) (fun c39 => ?_)
      refine v_iload dX5_found_42 rfl ?_
      refine v_i2l dX5_found_44 ?_
      refine v_lconst (x := 1) dX5_found_45 rfl ?_
      refine v_ldc2 (x := (12)) (by decide +kernel) dX5_found_46 ?_
      refine v_callSi (M' := M_X5_between) (As := [_, _, _]) (s_X5_between) dX5_found_49 gX5_found_X5_between rfl nn_X5_between ⟨rfl, rfl⟩ ⟨by decide, by decide⟩ rfl rfl (Nat.le_of_ble_eq_true rfl) ?_
      refine v_top (congrArg bI ((btw_lo' 1 13 (by decide) (by decide)).trans hm0)) ?_
      refine b_if_eq (tgt := 81) dX5_found_52 (by decide) (fun c52 => absurd c52 (by decide)) (fun c52 => ?_)
      refine v_iload dX5_found_55 rfl ?_
      refine v_i2l dX5_found_57 ?_
      refine v_lconst (x := 0) dX5_found_58 rfl ?_
      refine v_ldc2 (x := (100)) (by decide +kernel) dX5_found_59 ?_
      refine v_callSi (M' := M_X5_between) (As := [_, _, _]) (s_X5_between) dX5_found_62 gX5_found_X5_between rfl nn_X5_between ⟨rfl, rfl⟩ ⟨by decide, by decide⟩ rfl rfl (Nat.le_of_ble_eq_true rfl) ?_
      refine v_top (congrArg bI ((btw_lit 101 (by decide)).trans hh1)) ?_
      refine b_if_eq (tgt := 81) dX5_found_65 (by decide) (fun c65 => absurd c65 (by decide)) (fun c65 => ?_)
      refine v_iload dX5_found_68 rfl ?_
      refine v_i2l dX5_found_70 ?_
      refine v_lconst (x := 0) dX5_found_71 rfl ?_
      refine v_ldc2 (x := (2)) (by decide +kernel) dX5_found_72 ?_
      refine v_callSi (M' := M_X5_between) (As := [_, _, _]) (s_X5_between) dX5_found_75 gX5_found_X5_between rfl nn_X5_between ⟨rfl, rfl⟩ ⟨by decide, by decide⟩ rfl rfl (Nat.le_of_ble_eq_true rfl) ?_
      refine v_top (congrArg bI ((btw_lit 3 (by decide)).trans hw1)) ?_
      refine b_if_ne (tgt := 83) dX5_found_78 (by decide) (fun c78 => ?_) (fun c78 => absurd c78 (by decide))
      refine v_aload_n dX5_found_83 rfl ?_
      refine v_iload_n dX5_found_84 rfl ?_
      refine pX5_13 dX5_found_85 in_X5_found_X5 fl_X5_found_186 ?_
      refine v_aload_n dX5_found_88 rfl ?_
      refine v_iload dX5_found_89 rfl ?_
      refine pX5_15 dX5_found_91 in_X5_found_X5 fl_X5_found_189 ?_
      refine v_iconst (x := nI 0) dX5_found_94 (by decide +kernel) ?_
      refine v_istore (L' := [(7, _), (0, _), (1, _), (2, _), (3, _), (4, _), (5, _), (6, _)]) dX5_found_95 (by decide) rfl ?_
      refine v_sub [1, 2, 3, 4, 5, 6, 7, 0] rfl ?_
      refine loopN (fun p => ∀ τ : SS, gzA N Mm σ p τ → V v M_X5_found (zR v M_X5_found (fun r' σ' => r' = (some (.int (q_found (nI Z) (nI N) (nI O) (nI Mm) (nI Hh) 1))) ∧ (RM s σ' ∧ FM σ σ'))) 97 [(0, .ref (v.1 40)), (1, .int (nI Z)), (2, .int (nI N)), (3, .int (nI O)), (4, .int (nI Mm)), (5, .int (nI Hh)), (6, .int 1), (7, .int (nI p))] [] τ) 6 ?_ ?_ _ (gzA_0 σ)
      · intro p hi ih τ hinv
        refine v_iload dX5_found_97 rfl ?_
        refine v_bipush (x := nI 6) dX5_found_99 (by decide +kernel) ?_
        refine n_icmp_ge (tgt := 127) dX5_found_101 (by decide) (by omega) (by omega) (fun c101 => absurd c101 (by omega)) (fun c101 => ?_)
        refine v_aload_n dX5_found_104 rfl ?_
        refine v_get (j := 14) iO40 rfl dX5_found_105 (by decide) in_X5_found_X5 fl_X5_found_41 rfl ?_
        refine v_iload dX5_found_108 rfl ?_
        refine v_iload dX5_found_110 rfl ?_
        refine v_iastN p iI51 dX5_found_112 rfl (by omega) (by decide) ?_
        refine v_aload_n dX5_found_113 rfl ?_
        refine v_get (j := 18) iO40 rfl dX5_found_114 (by decide) in_X5_found_X5 fl_X5_found_50 rfl ?_
        refine v_iload dX5_found_117 rfl ?_
        refine v_iconst (x := nI 0) dX5_found_119 (by decide +kernel) ?_
        refine v_iastN p iI54 dX5_found_120 rfl (by omega) (by decide) ?_
        refine n_iinc (n := 1) (L' := [(7, _), (0, _), (1, _), (2, _), (3, _), (4, _), (5, _), (6, _)]) dX5_found_121 rfl (by decide) rfl ?_
        refine v_goto (tgt := 97) dX5_found_124 (by decide) ?_
        refine v_sub [1, 2, 3, 4, 5, 6, 7, 0] rfl ?_
        exact ih _ (gzA_s hinv)
      · intro τ hinv
        refine v_iload dX5_found_97 rfl ?_
        refine v_bipush (x := nI 6) dX5_found_99 (by decide +kernel) ?_
        refine n_icmp_ge (tgt := 127) dX5_found_101 (by decide) (by omega) (by omega) (fun c101 => ?_) (fun c101 => absurd c101 (by omega))
        refine v_aload_n dX5_found_127 rfl ?_
        refine v_callVRv (M' := M_X5_begins) (As := []) iO40 (s_X5_begins_w (l := lgP N 0) (by rw [lgP_len hN (fc_pos _)]; exact hinv.1.1) (by rw [lgP_len hN (fc_pos _)]; omega) (fun j hj => by rw [lgP_0 N hN] at hj ⊢; rw [List.length_range] at hj; rw [ofL_range hj]; exact (hinv.2.1 j (by omega)).1)) dX5_found_128 gX5_found_X5_begins rfl rfl nn_X5_begins ⟨rfl, rfl⟩ ⟨by decide, by decide⟩ rfl rfl (Nat.le_of_ble_eq_true rfl) (fun s1 h1 => ?_)
        have hm1 : s1.1 40 13 = nI N := (congrFun (h1.2.1 40 (by decide)) 13).trans hinv.1.1
        have hA1 : (s1.1 40 13 = nI N ∧ s1.1 40 15 = nI Mm) ∧ ∀ j, j < 6 → s1.1 51 j = nI j ∧ s1.1 54 j = nI 0 := by rw [(h1.2.1 40 (by decide)), (h1.2.1 51 (by decide)), (h1.2.1 54 (by decide))]; exact ⟨hinv.1, hinv.2.1⟩
        have hFN1 := hinv.2.2.tr h1.2.fq.fn
        refine v_iconst (x := nI 0) dX5_found_131 (by decide +kernel) ?_
        refine v_istore (L' := [(7, _), (0, _), (1, _), (2, _), (3, _), (4, _), (5, _), (6, _)]) dX5_found_132 (by decide) rfl ?_
        refine v_sub [1, 2, 3, 4, 5, 6, 7, 0] rfl ?_
        refine loopN (fun i => ∀ τ : SS, (RW (lgP N i) τ ∧ FB s1 τ) → V v M_X5_found (zR v M_X5_found (fun r' σ' => r' = (some (.int (q_found (nI Z) (nI N) (nI O) (nI Mm) (nI Hh) 1))) ∧ (RM s σ' ∧ FM σ σ'))) 134 [(0, .ref (v.1 40)), (1, .int (nI Z)), (2, .int (nI N)), (3, .int (nI O)), (4, .int (nI Mm)), (5, .int (nI Hh)), (6, .int 1), (7, .int (nI i))] [] τ) O ?_ ?_ _ ⟨h1.1, FB.rf s1⟩
        · intro i hi ih τ hinv
          have hRW : RWf N (ofL (lgP N i)) τ := by have := hinv.1; rw [RW, lgP_len hN (by omega)] at this; exact this
          refine v_iload dX5_found_134 rfl ?_
          refine v_iload_n dX5_found_136 rfl ?_
          refine n_icmp_ge (tgt := 151) dX5_found_137 (by decide) (by omega) (by omega) (fun c137 => absurd c137 (by omega)) (fun c137 => ?_)
          refine v_aload_n dX5_found_140 rfl ?_
          refine v_callVRi (M' := M_X5_follows) (As := []) iO40 (s_X5_follows ((congrFun (hinv.2.1 40 (by decide)) 13).trans hm1) (by omega) hRW (fun j hj => Nat.lt_trans (lgP_el hN (by omega) hj) (by decide))) dX5_found_141 gX5_found_X5_follows rfl rfl nn_X5_follows ⟨rfl, rfl⟩ ⟨by decide, by decide⟩ rfl rfl (Nat.le_of_ble_eq_true rfl) (fun s3 h3 => ?_)
          refine v_pop dX5_found_144 rfl ?_
          refine n_iinc (n := 1) (L' := [(7, _), (0, _), (1, _), (2, _), (3, _), (4, _), (5, _), (6, _)]) dX5_found_145 rfl (by decide) rfl ?_
          refine v_goto (tgt := 134) dX5_found_148 (by decide) ?_
          refine v_sub [1, 2, 3, 4, 5, 6, 7, 0] rfl ?_
          exact ih _ ⟨fl_step hN (by omega) h3.1, hinv.2.tr h3.2.2⟩
        · intro τ hinv
          have hrw2 := hinv.1
          have hFB2 := hinv.2
          clear hinv
          revert hrw2 hFB2
          generalize τ = s2
          intro hrw2 hFB2
          have hA : (s2.1 40 13 = nI N ∧ s2.1 40 15 = nI Mm) ∧ ∀ j, j < 6 → s2.1 51 j = nI j ∧ s2.1 54 j = nI 0 := by rw [(hFB2.1 40 (by decide)), (hFB2.1 51 (by decide)), (hFB2.1 54 (by decide))]; exact hA1
          have hFN2 := hFN1.tr hFB2.fq.fn
          have hrow : ∀ j, j < N → s2.1 55 j = nI (ofL (lgP N O) j) := fun j hj => hrw2 j (by rw [lgP_len hN hO]; exact hj)
          refine v_iload dX5_found_134 rfl ?_
          refine v_iload_n dX5_found_136 rfl ?_
          refine n_icmp_ge (tgt := 151) dX5_found_137 (by decide) (by omega) (by omega) (fun c137 => ?_) (fun c137 => absurd c137 (by omega))
          refine v_iconst (x := nI 0) dX5_found_151 (by decide +kernel) ?_
          refine v_istore (L' := [(7, _), (0, _), (1, _), (2, _), (3, _), (4, _), (5, _), (6, _)]) dX5_found_152 (by decide) rfl ?_
          refine v_sub [1, 2, 3, 4, 5, 6, 7, 0] rfl ?_
          refine loopN (fun i => ∀ τ : SS, gzC (lgP N O) N Z Hh s2 i τ → V v M_X5_found (zR v M_X5_found (fun r' σ' => r' = (some (.int (q_found (nI Z) (nI N) (nI O) (nI Mm) (nI Hh) 1))) ∧ (RM s σ' ∧ FM σ σ'))) 154 [(0, .ref (v.1 40)), (1, .int (nI Z)), (2, .int (nI N)), (3, .int (nI O)), (4, .int (nI Mm)), (5, .int (nI Hh)), (6, .int 1), (7, .int (nI i))] [] τ) Mm ?_ ?_ _ ⟨fun j hj => by omega, fun _ _ _ => rfl, rfl⟩
          · intro i hi ih τ hinv
            refine v_iload dX5_found_154 rfl ?_
            refine v_iload dX5_found_156 rfl ?_
            refine n_icmp_ge (tgt := 285) dX5_found_158 (by decide) (by omega) (by omega) (fun c158 => absurd c158 (by omega)) (fun c158 => ?_)
            refine v_iload_n dX5_found_161 rfl ?_
            refine v_iload dX5_found_162 rfl ?_
            refine v_iconst (x := nI 0) dX5_found_164 (by decide +kernel) ?_
            refine v_callSi (M' := M_X5_draw) (As := [_, _, _]) (s_X5_draw hZ (by omega) (by decide)) dX5_found_165 gX5_found_X5_draw rfl nn_X5_draw ⟨rfl, rfl⟩ ⟨by decide, by decide⟩ rfl rfl (Nat.le_of_ble_eq_true rfl) ?_
            refine v_iload_n dX5_found_168 rfl ?_
            refine n_irem dX5_found_169 (by have := dr_lt Z i 0; omega) (by omega) (by omega) ?_
            refine v_istore (L' := [(8, _), (0, _), (1, _), (2, _), (3, _), (4, _), (5, _), (6, _), (7, _)]) dX5_found_170 (by decide) rfl ?_
            refine v_iconst (x := nI 1) dX5_found_172 (by decide +kernel) ?_
            refine v_iload_n dX5_found_173 rfl ?_
            refine v_iload dX5_found_174 rfl ?_
            refine v_iconst (x := nI 1) dX5_found_176 (by decide +kernel) ?_
            refine v_callSi (M' := M_X5_draw) (As := [_, _, _]) (s_X5_draw hZ (by omega) (by decide)) dX5_found_177 gX5_found_X5_draw rfl nn_X5_draw ⟨rfl, rfl⟩ ⟨by decide, by decide⟩ rfl rfl (Nat.le_of_ble_eq_true rfl) ?_
            refine v_iconst (x := nI 3) dX5_found_180 (by decide +kernel) ?_
            refine n_irem dX5_found_181 (by have := dr_lt Z i 1; omega) (by decide) (by decide) ?_
            refine n_iadd dX5_found_182 ?_
            refine v_istore (L' := [(9, _), (8, _), (0, _), (1, _), (2, _), (3, _), (4, _), (5, _), (6, _), (7, _)]) dX5_found_183 (by decide) rfl ?_
            refine v_aload_n dX5_found_185 rfl ?_
            refine v_get (j := 17) iO40 rfl dX5_found_186 (by decide) in_X5_found_X5 fl_X5_found_47 rfl ?_
            refine v_iload dX5_found_189 rfl ?_
            refine v_iconst (x := nI 1) dX5_found_191 (by decide +kernel) ?_
            refine v_iload_n dX5_found_192 rfl ?_
            refine v_iload dX5_found_193 rfl ?_
            refine v_iconst (x := nI 2) dX5_found_195 (by decide +kernel) ?_
            refine v_callSi (M' := M_X5_draw) (As := [_, _, _]) (s_X5_draw hZ (by omega) (by decide)) dX5_found_196 gX5_found_X5_draw rfl nn_X5_draw ⟨rfl, rfl⟩ ⟨by decide, by decide⟩ rfl rfl (Nat.le_of_ble_eq_true rfl) ?_
            refine v_iconst (x := nI 5) dX5_found_199 (by decide +kernel) ?_
            refine n_irem dX5_found_200 (by have := dr_lt Z i 2; omega) (by decide) (by decide) ?_
            refine n_iadd dX5_found_201 ?_
            refine v_iastN i iI53 dX5_found_202 rfl (by omega) (by decide) ?_
            refine v_aload_n dX5_found_203 rfl ?_
            refine v_get (j := 16) iO40 rfl dX5_found_204 (by decide) in_X5_found_X5 fl_X5_found_44 rfl ?_
            refine v_iload dX5_found_207 rfl ?_
            refine v_iconst (x := nI 0) dX5_found_209 (by decide +kernel) ?_
            refine v_iastN i iI52 dX5_found_210 rfl (by omega) (by decide) ?_
            refine v_iload dX5_found_211 rfl ?_
            refine v_istore (L' := [(10, _), (9, _), (8, _), (0, _), (1, _), (2, _), (3, _), (4, _), (5, _), (6, _), (7, _)]) dX5_found_213 (by decide) rfl ?_
            have ihO := ih
            have hfr : fFr N Z i < N := Nat.mod_lt _ (by omega)
            have hst : 1 ≤ fSt Z i ∧ fSt Z i ≤ 3 := by rw [fSt]; omega
            have hiM := hi
            refine v_sub [3, 4, 5, 6, 7, 8, 9, 10, 2, 1, 0] rfl ?_
            refine loopN (fun t => ∀ υ : SS, gzD (lgP N O) N Z Hh i s2 t υ → V v M_X5_found (zR v M_X5_found (fun r' σ' => r' = (some (.int (q_found (nI Z) (nI N) (nI O) (nI Mm) (nI Hh) 1))) ∧ (RM s σ' ∧ FM σ σ'))) 215 [(0, .ref (v.1 40)), (1, .int (nI Z)), (2, .int (nI N)), (3, .int (nI O)), (4, .int (nI Mm)), (5, .int (nI Hh)), (6, .int 1), (7, .int (nI i)), (8, .int (nI (fFr N Z i))), (9, .int (nI (fSt Z i))), (10, .int (nI (fFr N Z i + t)))] [] υ) (fCn N Z i) ?_ ?_ _ (gzD_0 hinv)
            · intro t hi ih υ hinv
              have hi2 : fFr N Z i + t < N ∧ fFr N Z i + t < fFr N Z i + fSt Z i := by rw [fCn] at hi; omega
              have hel := lgP_el hN hO hi2.1
              refine v_iload dX5_found_215 rfl ?_
              refine v_iload_n dX5_found_217 rfl ?_
              refine n_icmp_ge (tgt := 279) dX5_found_218 (by decide) (by omega) (by omega) (fun c218 => absurd c218 (by omega)) (fun c218 => ?_)
              refine v_iload dX5_found_221 rfl ?_
              refine v_iload dX5_found_223 rfl ?_
              refine v_iload dX5_found_225 rfl ?_
              refine n_iadd dX5_found_227 ?_
              refine n_icmp_ge (tgt := 279) dX5_found_228 (by decide) (by omega) (by omega) (fun c228 => absurd c228 (by omega)) (fun c228 => ?_)
              refine v_aload_n dX5_found_231 rfl ?_
              refine v_get (j := 16) iO40 rfl dX5_found_232 (by decide) in_X5_found_X5 fl_X5_found_44 rfl ?_
              refine v_iload dX5_found_235 rfl ?_
              refine v_dup2 dX5_found_237 rfl rfl ?_
              refine v_ialdN i iI52 dX5_found_238 rfl (by omega) (by decide) ?_
              refine v_top hinv.2.1.1 ?_
              refine v_iload_n dX5_found_239 rfl ?_
              refine v_iload dX5_found_240 rfl ?_
              refine v_bipush (x := nI 10) dX5_found_242 (by decide +kernel) ?_
              refine v_iload dX5_found_244 rfl ?_
              refine n_iadd dX5_found_246 ?_
              refine v_callSi (M' := M_X5_draw) (As := [_, _, _]) (s_X5_draw hZ (by omega) (by omega)) dX5_found_247 gX5_found_X5_draw rfl nn_X5_draw ⟨rfl, rfl⟩ ⟨by decide, by decide⟩ rfl rfl (Nat.le_of_ble_eq_true rfl) ?_
              refine v_bipush (x := nI 100) dX5_found_250 (by decide +kernel) ?_
              refine n_irem dX5_found_252 (by have := dr_lt Z i (10 + (fFr N Z i + t)); omega) (by omega) (by omega) ?_
              refine v_iload dX5_found_253 rfl ?_
              refine n_icmp_ge (tgt := 270) dX5_found_255 (by decide) (by omega) (by omega) (fun c255 => ?_) (fun c255 => ?_)
              · refine v_iconst (x := nI 0) dX5_found_270 (by decide +kernel) ?_
                have hnx := gzD_s hinv (x := 0) (if_neg (by omega))
                refine n_ior dX5_found_271 ?_
                refine v_iastN i iI52 dX5_found_272 rfl (by omega) (by decide) ?_
                refine n_iinc (n := 1) (L' := [(10, _), (0, _), (1, _), (2, _), (3, _), (4, _), (5, _), (6, _), (7, _), (8, _), (9, _)]) dX5_found_273 rfl (by decide) rfl ?_
                refine v_goto (tgt := 215) dX5_found_276 (by decide) ?_
                refine v_sub [1, 2, 3, 4, 5, 6, 7, 8, 9, 10, 0] rfl ?_
                exact ih _ hnx
              · have hnx := gzD_s hinv (if_pos c255)
                refine v_iconst (x := nI 1) dX5_found_258 (by decide +kernel) ?_
                refine v_aload_n dX5_found_259 rfl ?_
                refine v_get (j := 19) iO40 rfl dX5_found_260 (by decide) in_X5_found_X5 fl_X5_found_53 rfl ?_
                refine v_iload dX5_found_263 rfl ?_
                refine v_ialdN (fFr N Z i + t) iI55 dX5_found_265 rfl (by omega) (by decide) ?_
                refine v_top ((congrFun (hinv.2.2.1 55 (by decide) (by decide)) _).trans (hrow _ hi2.1)) ?_
                refine n_shl1 dX5_found_266 (by omega) ?_
                refine v_goto (tgt := 271) dX5_found_267 (by decide) ?_
                refine n_ior dX5_found_271 ?_
                refine v_iastN i iI52 dX5_found_272 rfl (by omega) (by decide) ?_
                refine n_iinc (n := 1) (L' := [(10, _), (0, _), (1, _), (2, _), (3, _), (4, _), (5, _), (6, _), (7, _), (8, _), (9, _)]) dX5_found_273 rfl (by decide) rfl ?_
                refine v_goto (tgt := 215) dX5_found_276 (by decide) ?_
                refine v_sub [1, 2, 3, 4, 5, 6, 7, 8, 9, 10, 0] rfl ?_
                exact ih _ hnx
            · intro υ hinv
              have hi2 : fFr N Z i + fCn N Z i = N ∨ fFr N Z i + fCn N Z i = fFr N Z i + fSt Z i := by rw [fCn]; omega
              refine v_iload dX5_found_215 rfl ?_
              refine v_iload_n dX5_found_217 rfl ?_
              refine n_icmp_ge (tgt := 279) dX5_found_218 (by decide) (by omega) (by omega) (fun c218 => ?_) (fun c218 => ?_)
              · refine n_iinc (n := 1) (L' := [(7, _), (0, _), (1, _), (2, _), (3, _), (4, _), (5, _), (6, _), (8, _), (9, _), (10, _)]) dX5_found_279 rfl (by decide) rfl ?_
                refine v_goto (tgt := 154) dX5_found_282 (by decide) ?_
                refine v_sub [1, 2, 3, 4, 5, 6, 7, 0] rfl ?_
                exact ihO _ (gzD_e hinv)
              · refine v_iload dX5_found_221 rfl ?_
                refine v_iload dX5_found_223 rfl ?_
                refine v_iload dX5_found_225 rfl ?_
                refine n_iadd dX5_found_227 ?_
                refine n_icmp_ge (tgt := 279) dX5_found_228 (by decide) (by omega) (by omega) (fun c228 => ?_) (fun c228 => absurd c228 (by omega))
                refine n_iinc (n := 1) (L' := [(7, _), (0, _), (1, _), (2, _), (3, _), (4, _), (5, _), (6, _), (8, _), (9, _), (10, _)]) dX5_found_279 rfl (by decide) rfl ?_
                refine v_goto (tgt := 154) dX5_found_282 (by decide) ?_
                refine v_sub [1, 2, 3, 4, 5, 6, 7, 0] rfl ?_
                exact ihO _ (gzD_e hinv)
          · intro τ hinv
            refine v_iload dX5_found_154 rfl ?_
            refine v_iload dX5_found_156 rfl ?_
            refine n_icmp_ge (tgt := 285) dX5_found_158 (by decide) (by omega) (by omega) (fun c158 => ?_) (fun c158 => absurd c158 (by omega))
            refine v_aload_n dX5_found_285 rfl ?_
            have hOM := gzOM (z := Z) (o := O) (m := Mm) (h := Hh) hN hA.1 hA.2 hinv
            have hRW9 : RW (lgP N O) τ := fun j hj => by rw [hinv.2.1 55 (by decide) (by decide)]; exact hrw2 j hj
            refine v_callVi (M' := M_X5_gaps) (As := []) iO40 (s_X5_gaps hov hOM (fOD_good hN hO) hRW9) dX5_found_286 gX5_found_X5_gaps rfl rfl nn_X5_gaps ⟨rfl, rfl⟩ ⟨by decide, by decide⟩ rfl rfl (Nat.le_of_ble_eq_true rfl) ?_
            refine v_istore (L' := [(7, _), (0, _), (1, _), (2, _), (3, _), (4, _), (5, _), (6, _)]) dX5_found_289 (by decide) rfl ?_
            refine v_aload_n dX5_found_291 rfl ?_
            refine v_callVRv (M' := M_X5_orders) (As := []) iO40 (s_X5_orders hov hOM) dX5_found_292 gX5_found_X5_orders rfl rfl nn_X5_orders ⟨rfl, rfl⟩ ⟨by decide, by decide⟩ rfl rfl (Nat.le_of_ble_eq_true rfl) (fun s4 h4 => ?_)
            have hFN := (hFN2.tr hinv.2.fn).tr h4.2.fn
            have hg9 := BM_g h4.1 hne
            have hn9 := h4.1.1
            refine v_iload dX5_found_295 rfl ?_
            refine v_if_ne (tgt := 307) dX5_found_297 (by decide) (fun c297 => ?_) (fun c297 => absurd c297 (by decide))
            refine v_iload dX5_found_307 rfl ?_
            refine v_iconst (x := nI 1) dX5_found_309 (by decide +kernel) ?_
            refine v_icmp_ne (tgt := 320) dX5_found_310 (by decide) (fun c310 => absurd rfl c310) (fun c310 => ?_)
            refine v_aload_n dX5_found_313 rfl ?_
            refine v_get (j := 21) iO40 rfl dX5_found_314 (by decide) in_X5_found_X5 fl_X5_found_192 rfl ?_
            refine v_top hn9 ?_
            refine v_goto (tgt := 334) dX5_found_317 (by decide) ?_
            exact v_iret rfl dX5_found_334 ⟨congrArg (fun z => some (Value.int z)) (by rw [hq, fA, if_neg (by decide), if_pos rfl]), hFN.rm hr, hFN.fm⟩
    · refine v_iload_n dX5_found_0 rfl ?_
      refine v_i2l dX5_found_1 ?_
      refine v_lconst (x := 0) dX5_found_2 rfl ?_
      refine v_ldc2 (x := (9999)) (by decide +kernel) dX5_found_3 ?_
      refine v_callSi (M' := M_X5_between) (As := [_, _, _]) (s_X5_between) dX5_found_6 gX5_found_X5_between rfl nn_X5_between ⟨rfl, rfl⟩ ⟨by decide, by decide⟩ rfl rfl (Nat.le_of_ble_eq_true rfl) ?_
      refine v_top (congrArg bI ((btw_lit 10000 (by decide)).trans hz1)) ?_
      refine b_if_eq (tgt := 81) dX5_found_9 (by decide) (fun c9 => absurd c9 (by decide)) (fun c9 => ?_)
      refine v_iload_n dX5_found_12 rfl ?_
      refine v_i2l dX5_found_13 ?_
      refine v_ldc2 (x := (2)) (by decide +kernel) dX5_found_14 ?_
      refine v_ldc2 (x := (6)) (by decide +kernel) dX5_found_17 ?_
      refine v_callSi (M' := M_X5_between) (As := [_, _, _]) (s_X5_between) dX5_found_20 gX5_found_X5_between rfl nn_X5_between ⟨rfl, rfl⟩ ⟨by decide, by decide⟩ rfl rfl (Nat.le_of_ble_eq_true rfl) ?_
      refine v_top (congrArg bI ((btw_lo' 2 7 (by decide) (by decide)).trans hn0)) ?_
      refine b_if_eq (tgt := 81) dX5_found_23 (by decide) (fun c23 => absurd c23 (by decide)) (fun c23 => ?_)
      refine v_iload_n dX5_found_26 rfl ?_
      refine v_i2l dX5_found_27 ?_
      refine v_lconst (x := 0) dX5_found_28 rfl ?_
      refine v_iload_n dX5_found_29 rfl ?_
      refine v_callSi (M' := M_X5_factorial) (As := [_]) (s_X5_factorial hn2 hN) dX5_found_30 gX5_found_X5_factorial rfl nn_X5_factorial ⟨rfl, rfl⟩ ⟨by decide, by decide⟩ rfl rfl (Nat.le_of_ble_eq_true rfl) ?_
      refine v_iconst (x := 1) dX5_found_33 rfl ?_
      refine v_isub dX5_found_34 ?_
      refine v_i2l dX5_found_35 ?_
      refine v_callSi (M' := M_X5_between) (As := [_, _, _]) (s_X5_between) dX5_found_36 gX5_found_X5_between rfl nn_X5_between ⟨rfl, rfl⟩ ⟨by decide, by decide⟩ rfl rfl (Nat.le_of_ble_eq_true rfl) ?_
      refine v_top (congrArg bI ((btw_isN (by omega)).trans ho1)) ?_
      refine b_if_eq (tgt := 81) dX5_found_39 (by decide) (fun c39 => absurd c39 (by decide)) (fun c39 => ?_)
      refine v_iload dX5_found_42 rfl ?_
      refine v_i2l dX5_found_44 ?_
      refine v_lconst (x := 1) dX5_found_45 rfl ?_
      refine v_ldc2 (x := (12)) (by decide +kernel) dX5_found_46 ?_
      refine v_callSi (M' := M_X5_between) (As := [_, _, _]) (s_X5_between) dX5_found_49 gX5_found_X5_between rfl nn_X5_between ⟨rfl, rfl⟩ ⟨by decide, by decide⟩ rfl rfl (Nat.le_of_ble_eq_true rfl) ?_
      refine v_top (congrArg bI ((btw_lo' 1 13 (by decide) (by decide)).trans hm0)) ?_
      refine b_if_eq (tgt := 81) dX5_found_52 (by decide) (fun c52 => absurd c52 (by decide)) (fun c52 => ?_)
      refine v_iload dX5_found_55 rfl ?_
      refine v_i2l dX5_found_57 ?_
      refine v_lconst (x := 0) dX5_found_58 rfl ?_
      refine v_ldc2 (x := (100)) (by decide +kernel) dX5_found_59 ?_
      refine v_callSi (M' := M_X5_between) (As := [_, _, _]) (s_X5_between) dX5_found_62 gX5_found_X5_between rfl nn_X5_between ⟨rfl, rfl⟩ ⟨by decide, by decide⟩ rfl rfl (Nat.le_of_ble_eq_true rfl) ?_
      refine v_top (congrArg bI ((btw_lit 101 (by decide)).trans hh1)) ?_
      refine b_if_eq (tgt := 81) dX5_found_65 (by decide) (fun c65 => absurd c65 (by decide)) (fun c65 => ?_)
      refine v_iload dX5_found_68 rfl ?_
      refine v_i2l dX5_found_70 ?_
      refine v_lconst (x := 0) dX5_found_71 rfl ?_
      refine v_ldc2 (x := (2)) (by decide +kernel) dX5_found_72 ?_
      refine v_callSi (M' := M_X5_between) (As := [_, _, _]) (s_X5_between) dX5_found_75 gX5_found_X5_between rfl nn_X5_between ⟨rfl, rfl⟩ ⟨by decide, by decide⟩ rfl rfl (Nat.le_of_ble_eq_true rfl) ?_
      refine v_top (congrArg bI ((btw_lit 3 (by decide)).trans hw1)) ?_
      refine b_if_ne (tgt := 83) dX5_found_78 (by decide) (fun c78 => ?_) (fun c78 => absurd c78 (by decide))
      refine v_aload_n dX5_found_83 rfl ?_
      refine v_iload_n dX5_found_84 rfl ?_
      refine pX5_13 dX5_found_85 in_X5_found_X5 fl_X5_found_186 ?_
      refine v_aload_n dX5_found_88 rfl ?_
      refine v_iload dX5_found_89 rfl ?_
      refine pX5_15 dX5_found_91 in_X5_found_X5 fl_X5_found_189 ?_
      refine v_iconst (x := nI 0) dX5_found_94 (by decide +kernel) ?_
      refine v_istore (L' := [(7, _), (0, _), (1, _), (2, _), (3, _), (4, _), (5, _), (6, _)]) dX5_found_95 (by decide) rfl ?_
      refine v_sub [1, 2, 3, 4, 5, 6, 7, 0] rfl ?_
      refine loopN (fun p => ∀ τ : SS, gzA N Mm σ p τ → V v M_X5_found (zR v M_X5_found (fun r' σ' => r' = (some (.int (q_found (nI Z) (nI N) (nI O) (nI Mm) (nI Hh) 2))) ∧ (RM s σ' ∧ FM σ σ'))) 97 [(0, .ref (v.1 40)), (1, .int (nI Z)), (2, .int (nI N)), (3, .int (nI O)), (4, .int (nI Mm)), (5, .int (nI Hh)), (6, .int 2), (7, .int (nI p))] [] τ) 6 ?_ ?_ _ (gzA_0 σ)
      · intro p hi ih τ hinv
        refine v_iload dX5_found_97 rfl ?_
        refine v_bipush (x := nI 6) dX5_found_99 (by decide +kernel) ?_
        refine n_icmp_ge (tgt := 127) dX5_found_101 (by decide) (by omega) (by omega) (fun c101 => absurd c101 (by omega)) (fun c101 => ?_)
        refine v_aload_n dX5_found_104 rfl ?_
        refine v_get (j := 14) iO40 rfl dX5_found_105 (by decide) in_X5_found_X5 fl_X5_found_41 rfl ?_
        refine v_iload dX5_found_108 rfl ?_
        refine v_iload dX5_found_110 rfl ?_
        refine v_iastN p iI51 dX5_found_112 rfl (by omega) (by decide) ?_
        refine v_aload_n dX5_found_113 rfl ?_
        refine v_get (j := 18) iO40 rfl dX5_found_114 (by decide) in_X5_found_X5 fl_X5_found_50 rfl ?_
        refine v_iload dX5_found_117 rfl ?_
        refine v_iconst (x := nI 0) dX5_found_119 (by decide +kernel) ?_
        refine v_iastN p iI54 dX5_found_120 rfl (by omega) (by decide) ?_
        refine n_iinc (n := 1) (L' := [(7, _), (0, _), (1, _), (2, _), (3, _), (4, _), (5, _), (6, _)]) dX5_found_121 rfl (by decide) rfl ?_
        refine v_goto (tgt := 97) dX5_found_124 (by decide) ?_
        refine v_sub [1, 2, 3, 4, 5, 6, 7, 0] rfl ?_
        exact ih _ (gzA_s hinv)
      · intro τ hinv
        refine v_iload dX5_found_97 rfl ?_
        refine v_bipush (x := nI 6) dX5_found_99 (by decide +kernel) ?_
        refine n_icmp_ge (tgt := 127) dX5_found_101 (by decide) (by omega) (by omega) (fun c101 => ?_) (fun c101 => absurd c101 (by omega))
        refine v_aload_n dX5_found_127 rfl ?_
        refine v_callVRv (M' := M_X5_begins) (As := []) iO40 (s_X5_begins_w (l := lgP N 0) (by rw [lgP_len hN (fc_pos _)]; exact hinv.1.1) (by rw [lgP_len hN (fc_pos _)]; omega) (fun j hj => by rw [lgP_0 N hN] at hj ⊢; rw [List.length_range] at hj; rw [ofL_range hj]; exact (hinv.2.1 j (by omega)).1)) dX5_found_128 gX5_found_X5_begins rfl rfl nn_X5_begins ⟨rfl, rfl⟩ ⟨by decide, by decide⟩ rfl rfl (Nat.le_of_ble_eq_true rfl) (fun s1 h1 => ?_)
        have hm1 : s1.1 40 13 = nI N := (congrFun (h1.2.1 40 (by decide)) 13).trans hinv.1.1
        have hA1 : (s1.1 40 13 = nI N ∧ s1.1 40 15 = nI Mm) ∧ ∀ j, j < 6 → s1.1 51 j = nI j ∧ s1.1 54 j = nI 0 := by rw [(h1.2.1 40 (by decide)), (h1.2.1 51 (by decide)), (h1.2.1 54 (by decide))]; exact ⟨hinv.1, hinv.2.1⟩
        have hFN1 := hinv.2.2.tr h1.2.fq.fn
        refine v_iconst (x := nI 0) dX5_found_131 (by decide +kernel) ?_
        refine v_istore (L' := [(7, _), (0, _), (1, _), (2, _), (3, _), (4, _), (5, _), (6, _)]) dX5_found_132 (by decide) rfl ?_
        refine v_sub [1, 2, 3, 4, 5, 6, 7, 0] rfl ?_
        refine loopN (fun i => ∀ τ : SS, (RW (lgP N i) τ ∧ FB s1 τ) → V v M_X5_found (zR v M_X5_found (fun r' σ' => r' = (some (.int (q_found (nI Z) (nI N) (nI O) (nI Mm) (nI Hh) 2))) ∧ (RM s σ' ∧ FM σ σ'))) 134 [(0, .ref (v.1 40)), (1, .int (nI Z)), (2, .int (nI N)), (3, .int (nI O)), (4, .int (nI Mm)), (5, .int (nI Hh)), (6, .int 2), (7, .int (nI i))] [] τ) O ?_ ?_ _ ⟨h1.1, FB.rf s1⟩
        · intro i hi ih τ hinv
          have hRW : RWf N (ofL (lgP N i)) τ := by have := hinv.1; rw [RW, lgP_len hN (by omega)] at this; exact this
          refine v_iload dX5_found_134 rfl ?_
          refine v_iload_n dX5_found_136 rfl ?_
          refine n_icmp_ge (tgt := 151) dX5_found_137 (by decide) (by omega) (by omega) (fun c137 => absurd c137 (by omega)) (fun c137 => ?_)
          refine v_aload_n dX5_found_140 rfl ?_
          refine v_callVRi (M' := M_X5_follows) (As := []) iO40 (s_X5_follows ((congrFun (hinv.2.1 40 (by decide)) 13).trans hm1) (by omega) hRW (fun j hj => Nat.lt_trans (lgP_el hN (by omega) hj) (by decide))) dX5_found_141 gX5_found_X5_follows rfl rfl nn_X5_follows ⟨rfl, rfl⟩ ⟨by decide, by decide⟩ rfl rfl (Nat.le_of_ble_eq_true rfl) (fun s3 h3 => ?_)
          refine v_pop dX5_found_144 rfl ?_
          refine n_iinc (n := 1) (L' := [(7, _), (0, _), (1, _), (2, _), (3, _), (4, _), (5, _), (6, _)]) dX5_found_145 rfl (by decide) rfl ?_
          refine v_goto (tgt := 134) dX5_found_148 (by decide) ?_
          refine v_sub [1, 2, 3, 4, 5, 6, 7, 0] rfl ?_
          exact ih _ ⟨fl_step hN (by omega) h3.1, hinv.2.tr h3.2.2⟩
        · intro τ hinv
          have hrw2 := hinv.1
          have hFB2 := hinv.2
          clear hinv
          revert hrw2 hFB2
          generalize τ = s2
          intro hrw2 hFB2
          have hA : (s2.1 40 13 = nI N ∧ s2.1 40 15 = nI Mm) ∧ ∀ j, j < 6 → s2.1 51 j = nI j ∧ s2.1 54 j = nI 0 := by rw [(hFB2.1 40 (by decide)), (hFB2.1 51 (by decide)), (hFB2.1 54 (by decide))]; exact hA1
          have hFN2 := hFN1.tr hFB2.fq.fn
          have hrow : ∀ j, j < N → s2.1 55 j = nI (ofL (lgP N O) j) := fun j hj => hrw2 j (by rw [lgP_len hN hO]; exact hj)
          refine v_iload dX5_found_134 rfl ?_
          refine v_iload_n dX5_found_136 rfl ?_
          refine n_icmp_ge (tgt := 151) dX5_found_137 (by decide) (by omega) (by omega) (fun c137 => ?_) (fun c137 => absurd c137 (by omega))
          refine v_iconst (x := nI 0) dX5_found_151 (by decide +kernel) ?_
          refine v_istore (L' := [(7, _), (0, _), (1, _), (2, _), (3, _), (4, _), (5, _), (6, _)]) dX5_found_152 (by decide) rfl ?_
          refine v_sub [1, 2, 3, 4, 5, 6, 7, 0] rfl ?_
          refine loopN (fun i => ∀ τ : SS, gzC (lgP N O) N Z Hh s2 i τ → V v M_X5_found (zR v M_X5_found (fun r' σ' => r' = (some (.int (q_found (nI Z) (nI N) (nI O) (nI Mm) (nI Hh) 2))) ∧ (RM s σ' ∧ FM σ σ'))) 154 [(0, .ref (v.1 40)), (1, .int (nI Z)), (2, .int (nI N)), (3, .int (nI O)), (4, .int (nI Mm)), (5, .int (nI Hh)), (6, .int 2), (7, .int (nI i))] [] τ) Mm ?_ ?_ _ ⟨fun j hj => by omega, fun _ _ _ => rfl, rfl⟩
          · intro i hi ih τ hinv
            refine v_iload dX5_found_154 rfl ?_
            refine v_iload dX5_found_156 rfl ?_
            refine n_icmp_ge (tgt := 285) dX5_found_158 (by decide) (by omega) (by omega) (fun c158 => absurd c158 (by omega)) (fun c158 => ?_)
            refine v_iload_n dX5_found_161 rfl ?_
            refine v_iload dX5_found_162 rfl ?_
            refine v_iconst (x := nI 0) dX5_found_164 (by decide +kernel) ?_
            refine v_callSi (M' := M_X5_draw) (As := [_, _, _]) (s_X5_draw hZ (by omega) (by decide)) dX5_found_165 gX5_found_X5_draw rfl nn_X5_draw ⟨rfl, rfl⟩ ⟨by decide, by decide⟩ rfl rfl (Nat.le_of_ble_eq_true rfl) ?_
            refine v_iload_n dX5_found_168 rfl ?_
            refine n_irem dX5_found_169 (by have := dr_lt Z i 0; omega) (by omega) (by omega) ?_
            refine v_istore (L' := [(8, _), (0, _), (1, _), (2, _), (3, _), (4, _), (5, _), (6, _), (7, _)]) dX5_found_170 (by decide) rfl ?_
            refine v_iconst (x := nI 1) dX5_found_172 (by decide +kernel) ?_
            refine v_iload_n dX5_found_173 rfl ?_
            refine v_iload dX5_found_174 rfl ?_
            refine v_iconst (x := nI 1) dX5_found_176 (by decide +kernel) ?_
            refine v_callSi (M' := M_X5_draw) (As := [_, _, _]) (s_X5_draw hZ (by omega) (by decide)) dX5_found_177 gX5_found_X5_draw rfl nn_X5_draw ⟨rfl, rfl⟩ ⟨by decide, by decide⟩ rfl rfl (Nat.le_of_ble_eq_true rfl) ?_
            refine v_iconst (x := nI 3) dX5_found_180 (by decide +kernel) ?_
            refine n_irem dX5_found_181 (by have := dr_lt Z i 1; omega) (by decide) (by decide) ?_
            refine n_iadd dX5_found_182 ?_
            refine v_istore (L' := [(9, _), (8, _), (0, _), (1, _), (2, _), (3, _), (4, _), (5, _), (6, _), (7, _)]) dX5_found_183 (by decide) rfl ?_
            refine v_aload_n dX5_found_185 rfl ?_
            refine v_get (j := 17) iO40 rfl dX5_found_186 (by decide) in_X5_found_X5 fl_X5_found_47 rfl ?_
            refine v_iload dX5_found_189 rfl ?_
            refine v_iconst (x := nI 1) dX5_found_191 (by decide +kernel) ?_
            refine v_iload_n dX5_found_192 rfl ?_
            refine v_iload dX5_found_193 rfl ?_
            refine v_iconst (x := nI 2) dX5_found_195 (by decide +kernel) ?_
            refine v_callSi (M' := M_X5_draw) (As := [_, _, _]) (s_X5_draw hZ (by omega) (by decide)) dX5_found_196 gX5_found_X5_draw rfl nn_X5_draw ⟨rfl, rfl⟩ ⟨by decide, by decide⟩ rfl rfl (Nat.le_of_ble_eq_true rfl) ?_
            refine v_iconst (x := nI 5) dX5_found_199 (by decide +kernel) ?_
            refine n_irem dX5_found_200 (by have := dr_lt Z i 2; omega) (by decide) (by decide) ?_
            refine n_iadd dX5_found_201 ?_
            refine v_iastN i iI53 dX5_found_202 rfl (by omega) (by decide) ?_
            refine v_aload_n dX5_found_203 rfl ?_
            refine v_get (j := 16) iO40 rfl dX5_found_204 (by decide) in_X5_found_X5 fl_X5_found_44 rfl ?_
            refine v_iload dX5_found_207 rfl ?_
            refine v_iconst (x := nI 0) dX5_found_209 (by decide +kernel) ?_
            refine v_iastN i iI52 dX5_found_210 rfl (by omega) (by decide) ?_
            refine v_iload dX5_found_211 rfl ?_
            refine v_istore (L' := [(10, _), (9, _), (8, _), (0, _), (1, _), (2, _), (3, _), (4, _), (5, _), (6, _), (7, _)]) dX5_found_213 (by decide) rfl ?_
            have ihO := ih
            have hfr : fFr N Z i < N := Nat.mod_lt _ (by omega)
            have hst : 1 ≤ fSt Z i ∧ fSt Z i ≤ 3 := by rw [fSt]; omega
            have hiM := hi
            refine v_sub [3, 4, 5, 6, 7, 8, 9, 10, 2, 1, 0] rfl ?_
            refine loopN (fun t => ∀ υ : SS, gzD (lgP N O) N Z Hh i s2 t υ → V v M_X5_found (zR v M_X5_found (fun r' σ' => r' = (some (.int (q_found (nI Z) (nI N) (nI O) (nI Mm) (nI Hh) 2))) ∧ (RM s σ' ∧ FM σ σ'))) 215 [(0, .ref (v.1 40)), (1, .int (nI Z)), (2, .int (nI N)), (3, .int (nI O)), (4, .int (nI Mm)), (5, .int (nI Hh)), (6, .int 2), (7, .int (nI i)), (8, .int (nI (fFr N Z i))), (9, .int (nI (fSt Z i))), (10, .int (nI (fFr N Z i + t)))] [] υ) (fCn N Z i) ?_ ?_ _ (gzD_0 hinv)
            · intro t hi ih υ hinv
              have hi2 : fFr N Z i + t < N ∧ fFr N Z i + t < fFr N Z i + fSt Z i := by rw [fCn] at hi; omega
              have hel := lgP_el hN hO hi2.1
              refine v_iload dX5_found_215 rfl ?_
              refine v_iload_n dX5_found_217 rfl ?_
              refine n_icmp_ge (tgt := 279) dX5_found_218 (by decide) (by omega) (by omega) (fun c218 => absurd c218 (by omega)) (fun c218 => ?_)
              refine v_iload dX5_found_221 rfl ?_
              refine v_iload dX5_found_223 rfl ?_
              refine v_iload dX5_found_225 rfl ?_
              refine n_iadd dX5_found_227 ?_
              refine n_icmp_ge (tgt := 279) dX5_found_228 (by decide) (by omega) (by omega) (fun c228 => absurd c228 (by omega)) (fun c228 => ?_)
              refine v_aload_n dX5_found_231 rfl ?_
              refine v_get (j := 16) iO40 rfl dX5_found_232 (by decide) in_X5_found_X5 fl_X5_found_44 rfl ?_
              refine v_iload dX5_found_235 rfl ?_
              refine v_dup2 dX5_found_237 rfl rfl ?_
              refine v_ialdN i iI52 dX5_found_238 rfl (by omega) (by decide) ?_
              refine v_top hinv.2.1.1 ?_
              refine v_iload_n dX5_found_239 rfl ?_
              refine v_iload dX5_found_240 rfl ?_
              refine v_bipush (x := nI 10) dX5_found_242 (by decide +kernel) ?_
              refine v_iload dX5_found_244 rfl ?_
              refine n_iadd dX5_found_246 ?_
              refine v_callSi (M' := M_X5_draw) (As := [_, _, _]) (s_X5_draw hZ (by omega) (by omega)) dX5_found_247 gX5_found_X5_draw rfl nn_X5_draw ⟨rfl, rfl⟩ ⟨by decide, by decide⟩ rfl rfl (Nat.le_of_ble_eq_true rfl) ?_
              refine v_bipush (x := nI 100) dX5_found_250 (by decide +kernel) ?_
              refine n_irem dX5_found_252 (by have := dr_lt Z i (10 + (fFr N Z i + t)); omega) (by omega) (by omega) ?_
              refine v_iload dX5_found_253 rfl ?_
              refine n_icmp_ge (tgt := 270) dX5_found_255 (by decide) (by omega) (by omega) (fun c255 => ?_) (fun c255 => ?_)
              · refine v_iconst (x := nI 0) dX5_found_270 (by decide +kernel) ?_
                have hnx := gzD_s hinv (x := 0) (if_neg (by omega))
                refine n_ior dX5_found_271 ?_
                refine v_iastN i iI52 dX5_found_272 rfl (by omega) (by decide) ?_
                refine n_iinc (n := 1) (L' := [(10, _), (0, _), (1, _), (2, _), (3, _), (4, _), (5, _), (6, _), (7, _), (8, _), (9, _)]) dX5_found_273 rfl (by decide) rfl ?_
                refine v_goto (tgt := 215) dX5_found_276 (by decide) ?_
                refine v_sub [1, 2, 3, 4, 5, 6, 7, 8, 9, 10, 0] rfl ?_
                exact ih _ hnx
              · have hnx := gzD_s hinv (if_pos c255)
                refine v_iconst (x := nI 1) dX5_found_258 (by decide +kernel) ?_
                refine v_aload_n dX5_found_259 rfl ?_
                refine v_get (j := 19) iO40 rfl dX5_found_260 (by decide) in_X5_found_X5 fl_X5_found_53 rfl ?_
                refine v_iload dX5_found_263 rfl ?_
                refine v_ialdN (fFr N Z i + t) iI55 dX5_found_265 rfl (by omega) (by decide) ?_
                refine v_top ((congrFun (hinv.2.2.1 55 (by decide) (by decide)) _).trans (hrow _ hi2.1)) ?_
                refine n_shl1 dX5_found_266 (by omega) ?_
                refine v_goto (tgt := 271) dX5_found_267 (by decide) ?_
                refine n_ior dX5_found_271 ?_
                refine v_iastN i iI52 dX5_found_272 rfl (by omega) (by decide) ?_
                refine n_iinc (n := 1) (L' := [(10, _), (0, _), (1, _), (2, _), (3, _), (4, _), (5, _), (6, _), (7, _), (8, _), (9, _)]) dX5_found_273 rfl (by decide) rfl ?_
                refine v_goto (tgt := 215) dX5_found_276 (by decide) ?_
                refine v_sub [1, 2, 3, 4, 5, 6, 7, 8, 9, 10, 0] rfl ?_
                exact ih _ hnx
            · intro υ hinv
              have hi2 : fFr N Z i + fCn N Z i = N ∨ fFr N Z i + fCn N Z i = fFr N Z i + fSt Z i := by rw [fCn]; omega
              refine v_iload dX5_found_215 rfl ?_
              refine v_iload_n dX5_found_217 rfl ?_
              refine n_icmp_ge (tgt := 279) dX5_found_218 (by decide) (by omega) (by omega) (fun c218 => ?_) (fun c218 => ?_)
              · refine n_iinc (n := 1) (L' := [(7, _), (0, _), (1, _), (2, _), (3, _), (4, _), (5, _), (6, _), (8, _), (9, _), (10, _)]) dX5_found_279 rfl (by decide) rfl ?_
                refine v_goto (tgt := 154) dX5_found_282 (by decide) ?_
                refine v_sub [1, 2, 3, 4, 5, 6, 7, 0] rfl ?_
                exact ihO _ (gzD_e hinv)
              · refine v_iload dX5_found_221 rfl ?_
                refine v_iload dX5_found_223 rfl ?_
                refine v_iload dX5_found_225 rfl ?_
                refine n_iadd dX5_found_227 ?_
                refine n_icmp_ge (tgt := 279) dX5_found_228 (by decide) (by omega) (by omega) (fun c228 => ?_) (fun c228 => absurd c228 (by omega))
                refine n_iinc (n := 1) (L' := [(7, _), (0, _), (1, _), (2, _), (3, _), (4, _), (5, _), (6, _), (8, _), (9, _), (10, _)]) dX5_found_279 rfl (by decide) rfl ?_
                refine v_goto (tgt := 154) dX5_found_282 (by decide) ?_
                refine v_sub [1, 2, 3, 4, 5, 6, 7, 0] rfl ?_
                exact ihO _ (gzD_e hinv)
          · intro τ hinv
            refine v_iload dX5_found_154 rfl ?_
            refine v_iload dX5_found_156 rfl ?_
            refine n_icmp_ge (tgt := 285) dX5_found_158 (by decide) (by omega) (by omega) (fun c158 => ?_) (fun c158 => absurd c158 (by omega))
            refine v_aload_n dX5_found_285 rfl ?_
            have hOM := gzOM (z := Z) (o := O) (m := Mm) (h := Hh) hN hA.1 hA.2 hinv
            have hRW9 : RW (lgP N O) τ := fun j hj => by rw [hinv.2.1 55 (by decide) (by decide)]; exact hrw2 j hj
            refine v_callVi (M' := M_X5_gaps) (As := []) iO40 (s_X5_gaps hov hOM (fOD_good hN hO) hRW9) dX5_found_286 gX5_found_X5_gaps rfl rfl nn_X5_gaps ⟨rfl, rfl⟩ ⟨by decide, by decide⟩ rfl rfl (Nat.le_of_ble_eq_true rfl) ?_
            refine v_istore (L' := [(7, _), (0, _), (1, _), (2, _), (3, _), (4, _), (5, _), (6, _)]) dX5_found_289 (by decide) rfl ?_
            refine v_aload_n dX5_found_291 rfl ?_
            refine v_callVRv (M' := M_X5_orders) (As := []) iO40 (s_X5_orders hov hOM) dX5_found_292 gX5_found_X5_orders rfl rfl nn_X5_orders ⟨rfl, rfl⟩ ⟨by decide, by decide⟩ rfl rfl (Nat.le_of_ble_eq_true rfl) (fun s4 h4 => ?_)
            have hFN := (hFN2.tr hinv.2.fn).tr h4.2.fn
            have hg9 := BM_g h4.1 hne
            have hn9 := h4.1.1
            refine v_iload dX5_found_295 rfl ?_
            refine v_if_ne (tgt := 307) dX5_found_297 (by decide) (fun c297 => ?_) (fun c297 => absurd c297 (by decide))
            refine v_iload dX5_found_307 rfl ?_
            refine v_iconst (x := nI 1) dX5_found_309 (by decide +kernel) ?_
            refine v_icmp_ne (tgt := 320) dX5_found_310 (by decide) (fun c310 => ?_) (fun c310 => absurd c310 (by decide))
            refine v_iload dX5_found_320 rfl ?_
            refine v_aload_n dX5_found_322 rfl ?_
            refine v_get (j := 22) iO40 rfl dX5_found_323 (by decide) in_X5_found_X5 fl_X5_found_195 rfl ?_
            refine v_top hg9 ?_
            have hwb := good.w hov (fOD_good (z := Z) (m := Mm) (h := Hh) hN hO)
            have hfb2 := (TL_b hov (show 0 < 64 by decide)).2
            refine n_icmp_ne (tgt := 333) dX5_found_326 (by decide) (by omega) (by omega) (fun c326 => ?_) (fun c326 => ?_)
            · refine v_iconst (x := nI 0) dX5_found_333 (by decide +kernel) ?_
              exact v_iret rfl dX5_found_334 ⟨congrArg (fun z => some (Value.int z)) (by rw [hq, fA, if_neg (by decide), if_neg (by decide), if_neg c326]; rfl), hFN.rm hr, hFN.fm⟩
            · refine v_iconst (x := nI 1) dX5_found_329 (by decide +kernel) ?_
              refine v_goto (tgt := 334) dX5_found_330 (by decide) ?_
              exact v_iret rfl dX5_found_334 ⟨congrArg (fun z => some (Value.int z)) (by rw [hq, fA, if_neg (by decide), if_neg (by decide), if_pos c326]; rfl), hFN.rm hr, hFN.fm⟩
    · rw [hsw] at hw1; cases hw1
  · refine v_iload_n dX5_found_0 rfl ?_
    refine v_i2l dX5_found_1 ?_
    refine v_lconst (x := 0) dX5_found_2 rfl ?_
    refine v_ldc2 (x := (9999)) (by decide +kernel) dX5_found_3 ?_
    refine v_callSi (M' := M_X5_between) (As := [_, _, _]) (s_X5_between) dX5_found_6 gX5_found_X5_between rfl nn_X5_between ⟨rfl, rfl⟩ ⟨by decide, by decide⟩ rfl rfl (Nat.le_of_ble_eq_true rfl) ?_
    refine v_top (congrArg bI (btw_lit 10000 (by decide))) ?_
    refine b_if_eq (tgt := 81) dX5_found_9 (by decide) (fun c9 => ?_) (fun c9 => ?_)
    · refine v_iconst (x := (-1)) dX5_found_81 rfl ?_
      exact v_iret rfl dX5_found_82 ⟨congrArg (fun z => some (Value.int z)) (by rw [q_found, if_neg hok]), hr, FM.rf σ⟩
    · refine v_iload_n dX5_found_12 rfl ?_
      refine v_i2l dX5_found_13 ?_
      refine v_ldc2 (x := (2)) (by decide +kernel) dX5_found_14 ?_
      refine v_ldc2 (x := (6)) (by decide +kernel) dX5_found_17 ?_
      refine v_callSi (M' := M_X5_between) (As := [_, _, _]) (s_X5_between) dX5_found_20 gX5_found_X5_between rfl nn_X5_between ⟨rfl, rfl⟩ ⟨by decide, by decide⟩ rfl rfl (Nat.le_of_ble_eq_true rfl) ?_
      refine v_top (congrArg bI (btw_lo' 2 7 (by decide) (by decide))) ?_
      refine b_if_eq (tgt := 81) dX5_found_23 (by decide) (fun c23 => ?_) (fun c23 => ?_)
      · refine v_iconst (x := (-1)) dX5_found_81 rfl ?_
        exact v_iret rfl dX5_found_82 ⟨congrArg (fun z => some (Value.int z)) (by rw [q_found, if_neg hok]), hr, FM.rf σ⟩
      · have c23q := c23
        rw [Bool.and_eq_true, decide_eq_true_eq] at c23q
        obtain ⟨N, hN, hN2, rfl⟩ := isN_nI c23q.1
        have hn2 := c23q.2
        rw [nI_clamp hN2] at hn2
        have hfb := fc_b N hN
        refine v_iload_n dX5_found_26 rfl ?_
        refine v_i2l dX5_found_27 ?_
        refine v_lconst (x := 0) dX5_found_28 rfl ?_
        refine v_iload_n dX5_found_29 rfl ?_
        refine v_callSi (M' := M_X5_factorial) (As := [_]) (s_X5_factorial hn2 hN) dX5_found_30 gX5_found_X5_factorial rfl nn_X5_factorial ⟨rfl, rfl⟩ ⟨by decide, by decide⟩ rfl rfl (Nat.le_of_ble_eq_true rfl) ?_
        refine v_iconst (x := 1) dX5_found_33 rfl ?_
        refine v_isub dX5_found_34 ?_
        refine v_i2l dX5_found_35 ?_
        refine v_callSi (M' := M_X5_between) (As := [_, _, _]) (s_X5_between) dX5_found_36 gX5_found_X5_between rfl nn_X5_between ⟨rfl, rfl⟩ ⟨by decide, by decide⟩ rfl rfl (Nat.le_of_ble_eq_true rfl) ?_
        refine v_top (congrArg bI (btw_isN (by omega))) ?_
        refine b_if_eq (tgt := 81) dX5_found_39 (by decide) (fun c39 => ?_) (fun c39 => ?_)
        · refine v_iconst (x := (-1)) dX5_found_81 rfl ?_
          exact v_iret rfl dX5_found_82 ⟨congrArg (fun z => some (Value.int z)) (by rw [q_found, if_neg hok]), hr, FM.rf σ⟩
        · refine v_iload dX5_found_42 rfl ?_
          refine v_i2l dX5_found_44 ?_
          refine v_lconst (x := 1) dX5_found_45 rfl ?_
          refine v_ldc2 (x := (12)) (by decide +kernel) dX5_found_46 ?_
          refine v_callSi (M' := M_X5_between) (As := [_, _, _]) (s_X5_between) dX5_found_49 gX5_found_X5_between rfl nn_X5_between ⟨rfl, rfl⟩ ⟨by decide, by decide⟩ rfl rfl (Nat.le_of_ble_eq_true rfl) ?_
          refine v_top (congrArg bI (btw_lo' 1 13 (by decide) (by decide))) ?_
          refine b_if_eq (tgt := 81) dX5_found_52 (by decide) (fun c52 => ?_) (fun c52 => ?_)
          · refine v_iconst (x := (-1)) dX5_found_81 rfl ?_
            exact v_iret rfl dX5_found_82 ⟨congrArg (fun z => some (Value.int z)) (by rw [q_found, if_neg hok]), hr, FM.rf σ⟩
          · refine v_iload dX5_found_55 rfl ?_
            refine v_i2l dX5_found_57 ?_
            refine v_lconst (x := 0) dX5_found_58 rfl ?_
            refine v_ldc2 (x := (100)) (by decide +kernel) dX5_found_59 ?_
            refine v_callSi (M' := M_X5_between) (As := [_, _, _]) (s_X5_between) dX5_found_62 gX5_found_X5_between rfl nn_X5_between ⟨rfl, rfl⟩ ⟨by decide, by decide⟩ rfl rfl (Nat.le_of_ble_eq_true rfl) ?_
            refine v_top (congrArg bI (btw_lit 101 (by decide))) ?_
            refine b_if_eq (tgt := 81) dX5_found_65 (by decide) (fun c65 => ?_) (fun c65 => ?_)
            · refine v_iconst (x := (-1)) dX5_found_81 rfl ?_
              exact v_iret rfl dX5_found_82 ⟨congrArg (fun z => some (Value.int z)) (by rw [q_found, if_neg hok]), hr, FM.rf σ⟩
            · refine v_iload dX5_found_68 rfl ?_
              refine v_i2l dX5_found_70 ?_
              refine v_lconst (x := 0) dX5_found_71 rfl ?_
              refine v_ldc2 (x := (2)) (by decide +kernel) dX5_found_72 ?_
              refine v_callSi (M' := M_X5_between) (As := [_, _, _]) (s_X5_between) dX5_found_75 gX5_found_X5_between rfl nn_X5_between ⟨rfl, rfl⟩ ⟨by decide, by decide⟩ rfl rfl (Nat.le_of_ble_eq_true rfl) ?_
              refine v_top (congrArg bI (btw_lit 3 (by decide))) ?_
              refine b_if_ne (tgt := 83) dX5_found_78 (by decide) (fun c78 => ?_) (fun c78 => ?_)
              · exact absurd (show fOKb z (nI N) o m h what = true by rw [fOKb, nI_clamp hN2, c9, c39, c52, c65, c78, c23q.1, decide_eq_true hn2]; rfl) hok
              · refine v_iconst (x := (-1)) dX5_found_81 rfl ?_
                exact v_iret rfl dX5_found_82 ⟨congrArg (fun z => some (Value.int z)) (by rw [q_found, if_neg hok]), hr, FM.rf σ⟩
