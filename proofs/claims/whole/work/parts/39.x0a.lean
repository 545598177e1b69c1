theorem in_X0_gapsAdded_X0 : ∀ w ∈ u_ws RX0 TX0 10, w ∈ mWs M_X0_gapsAdded := by decide +kernel
theorem in_X0_strokesOf_X0 : ∀ w ∈ u_ws RX0 TX0 10, w ∈ mWs M_X0_strokesOf := by decide +kernel
theorem fl_X0_gapsAdded_9 : Cond.fieldLink (mOwn M_X0_gapsAdded) 9 (TX0 0).1 (TX0 0).2.1 (TX0 0).2.2.1 ∈ mWs M_X0_gapsAdded := by decide +kernel
theorem fl_X0_gapsAdded_30 : Cond.fieldLink (mOwn M_X0_gapsAdded) 30 (TX0 6).1 (TX0 6).2.1 (TX0 6).2.2.1 ∈ mWs M_X0_gapsAdded := by decide +kernel
theorem fl_X0_gapsAdded_36 : Cond.fieldLink (mOwn M_X0_gapsAdded) 36 (TX0 9).1 (TX0 9).2.1 (TX0 9).2.2.1 ∈ mWs M_X0_gapsAdded := by decide +kernel
theorem fl_X0_strokesOf_15 : Cond.fieldLink (mOwn M_X0_strokesOf) 15 (TX0 1).1 (TX0 1).2.1 (TX0 1).2.2.1 ∈ mWs M_X0_strokesOf := by decide +kernel
theorem nn_X0_strokesOf : (mY M_X0_strokesOf).cls = mOwn M_X0_strokesOf ∧ (mY M_X0_strokesOf).cls ≠ "java/lang/invoke/MethodHandle" ∧ (mY M_X0_strokesOf).cls ≠ "java/lang/invoke/VarHandle" ∧ (parseMethodDescriptor (mY M_X0_strokesOf).desc).map (fun d => d.parameters.length) = some 1 := by decide +kernel
variable {v : EE} {M : MT} {Z : ZT} {pc : Nat} {L : List (Nat × Value)} {st : List Value} {σ : SS}
theorem n_dif {a b : Nat} (hd : decode (mCode M) pc = .ok (.iand, 1)) (k : V v M Z (pc + 1) L (.int (nI (dif a b)) :: st) σ) : V v M Z pc L (.int (nI b ^^^ (-1)) :: .int (nI a) :: st) σ := v_iand hd (v_top (nI_dif a b) k)
def sgo (o : OD) (p : Nat) : Nat := om (fun k => if (oW o k).testBit p then 2 ^ k else 0) (oS o)
theorem tb_sgo (o : OD) (p k : Nat) : (sgo o p).testBit k = (decide (k < oS o) && (oW o k).testBit p) := by
  apply Bool.eq_iff_iff.mpr
  rw [sgo, om_bit, Bool.and_eq_true, decide_eq_true_eq]
  constructor
  · rintro ⟨j, hj, h⟩
    by_cases c : (oW o j).testBit p = true
    · rw [if_pos c, tb_pow, decide_eq_true_eq] at h
      subst h; exact ⟨hj, c⟩
    · rw [if_neg c, Nat.zero_testBit] at h; cases h
  · rintro ⟨h1, h2⟩
    exact ⟨k, h1, by rw [if_pos h2, tb_pow]; simp⟩
theorem sgo_lt {o : OD} (ho : OV o) (p : Nat) : sgo o p < 2 ^ 16 := om_lt (fun k hk => by
  have := ho.2.2.1
  by_cases c : (oW o k).testBit p = true
  · rw [if_pos c]; exact Nat.pow_lt_pow_right (by decide) (by omega)
  · rw [if_neg c]; decide)
def sgs (o : OD) (S : Nat) : Nat := om (fun p => if S.testBit p then sgo o p else 0) 6
theorem sgs_lt {o : OD} (ho : OV o) (S : Nat) : sgs o S < 2 ^ 16 := om_lt (fun p _ => by
  by_cases c : S.testBit p = true
  · rw [if_pos c]; exact sgo_lt ho p
  · rw [if_neg c]; decide)
theorem tb_sgs {o : OD} (ho : OV o) (S k : Nat) : (sgs o S).testBit k = (decide (k < oS o) && decide (oW o k &&& S ≠ 0)) := by
  apply Bool.eq_iff_iff.mpr
  rw [sgs, om_bit, Bool.and_eq_true, decide_eq_true_eq, decide_eq_true_eq, and_nz]
  constructor
  · rintro ⟨p, hp, h⟩
    by_cases c : S.testBit p = true
    · rw [if_pos c, tb_sgo, Bool.and_eq_true, decide_eq_true_eq] at h
      exact ⟨h.1, p, h.2, c⟩
    · rw [if_neg c, Nat.zero_testBit] at h; cases h
  · rintro ⟨h1, p, h2, h3⟩
    exact ⟨p, tb_64i (ho.2.2.2 k h1).1 h2, by rw [if_pos h3, tb_sgo, h2]; simp [h1]⟩
def stv (o : OD) (k : Nat) : Nat := if k < oS o then oT o k else 0
def skO (o : OD) (b : Nat) : Nat := sm (fun k => b / 2 ^ k % 2 * stv o k) 16
theorem skO_eq {o : OD} (ho : OV o) (b : Nat) : skO o b = sm (fun k => if b.testBit k then oT o k else 0) (oS o) := by
  rw [skO, show 16 = oS o + (16 - oS o) by have := ho.2.2.1; omega, sm_split]
  have : sm (fun k => b / 2 ^ (oS o + k) % 2 * stv o (oS o + k)) (16 - oS o) = 0 := sm_zero.mpr (fun k _ => by rw [stv, if_neg (by omega), Nat.mul_zero])
  rw [this, Nat.add_zero]
  refine sm_cong (fun k hk => ?_)
  rw [bit01, stv, if_pos hk]
  by_cases c : b.testBit k = true
  · rw [if_pos c, if_pos c, Nat.one_mul]
  · rw [if_neg c, if_neg c, Nat.zero_mul]
theorem ga_sk {o : OD} (ho : OV o) (A p : Nat) : skO o (dif (sgs o A &&& sgs o (dif (dif (oP o) A) (2 ^ p))) (sgo o p)) = ga o A p := by
  rw [skO_eq ho, ga]
  refine sm_cong (fun k hk => ?_)
  rw [tb_dif, Nat.testBit_and, tb_sgs ho, tb_sgs ho, tb_sgo, gb]
  simp only [hk, decide_true, Bool.true_and]
  rw [Bool.and_comm]
theorem sm_le_sub {f : Nat → Nat} {c n : Nat} (h : ∀ k, k < n → f k ≤ c) (N : Nat) (hn : n ≤ N) : sm f n ≤ N * c := Nat.le_trans (sm_le h) (Nat.mul_le_mul_right _ hn)
theorem ga_le {o : OD} (ho : OV o) (A p : Nat) : ga o A p ≤ 144 := sm_le_sub (c := 9) (fun k hk => by
  by_cases c : gb o A p k = true
  · rw [if_pos c]; exact (ho.2.2.2 k hk).2
  · rw [if_neg c]; omega) 16 ho.2.2.1
theorem stv_le {o : OD} (ho : OV o) (k : Nat) : stv o k ≤ 9 := by
  rw [stv]
  by_cases c : k < oS o
  · rw [if_pos c]; exact (ho.2.2.2 k c).2
  · rw [if_neg c]; omega
theorem skO_le {o : OD} (ho : OV o) (b : Nat) : skO o b ≤ 144 := sm_le_sub (c := 9) (n := 16) (fun k _ => by
  have := stv_le ho k
  have h2 : b / 2 ^ k % 2 < 2 := Nat.mod_lt _ (by decide)
  have : b / 2 ^ k % 2 * stv o k ≤ 1 * stv o k := Nat.mul_le_mul_right _ (by omega)
  omega) 16 (Nat.le_refl _)
theorem dif_le (a b : Nat) : dif a b ≤ a := by
  have h : dif a b = a &&& dif a b := Nat.eq_of_testBit_eq (fun i => by
    rw [Nat.testBit_and, tb_dif]
    cases a.testBit i <;> simp)
  rw [h]; exact Nat.and_le_left
def OC0 (o : OD) (σ : SS) : Prop := σ.1 10 9 = nI (oP o) ∧ (∀ p, p < 6 → σ.1 11 p = nI (sgo o p)) ∧ (∀ k, k < 16 → σ.1 12 k = nI (stv o k)) ∧ (∀ p, p < 6 → σ.1 13 p = nI (oM o p))
/-- and the signs of every set are gathered -/
def OC (o : OD) (σ : SS) : Prop := σ.1 10 9 = nI (oP o) ∧ (∀ p, p < 6 → σ.1 11 p = nI (sgo o p)) ∧ (∀ k, k < 16 → σ.1 12 k = nI (stv o k)) ∧ (∀ p, p < 6 → σ.1 13 p = nI (oM o p)) ∧ ∀ S, S < 64 → σ.1 17 S = nI (sgs o S)
theorem OC.o0 {o : OD} {σ : SS} (h : OC o σ) : OC0 o σ := ⟨h.1, h.2.1, h.2.2.1, h.2.2.2.1⟩
theorem OC0.g {o : OD} {σ : SS} (h : OC0 o σ) (g : ∀ S, S < 64 → σ.1 17 S = nI (sgs o S)) : OC o σ := ⟨h.1, h.2.1, h.2.2.1, h.2.2.2, g⟩
theorem sgs_0 (o : OD) : sgs o 0 = 0 := Nat.eq_of_testBit_eq (fun k => by
  rw [Nat.zero_testBit]
  apply Bool.eq_false_iff.mpr
  intro h
  rw [sgs, om_bit] at h
  obtain ⟨p, -, h2⟩ := h
  rw [if_neg (by rw [Nat.zero_testBit]; decide), Nat.zero_testBit] at h2
  cases h2)
theorem sgs_or (o : OD) {p : Nat} (hp : p < 6) (S : Nat) : sgs o (S ||| 2 ^ p) = sgs o S ||| sgo o p := Nat.eq_of_testBit_eq (fun k => by
  apply Bool.eq_iff_iff.mpr
  rw [Nat.testBit_or, Bool.or_eq_true, sgs, om_bit, sgs, om_bit]
  constructor
  · rintro ⟨j, hj, h⟩
    by_cases c : (S ||| 2 ^ p).testBit j = true
    · rw [if_pos c] at h
      rw [tb_or2, Bool.or_eq_true, decide_eq_true_eq] at c
      rcases c with c | c
      · exact Or.inl ⟨j, hj, by rw [if_pos c]; exact h⟩
      · subst c; exact Or.inr h
    · rw [if_neg c, Nat.zero_testBit] at h; cases h
  · rintro (⟨j, hj, h⟩ | h)
    · by_cases c : S.testBit j = true
      · rw [if_pos c] at h
        exact ⟨j, hj, by rw [if_pos (by rw [tb_or2, c]; rfl)]; exact h⟩
      · rw [if_neg c, Nat.zero_testBit] at h; cases h
    · exact ⟨p, hp, by rw [if_pos (by rw [tb_or2]; simp)]; exact h⟩)
theorem or_two {p S : Nat} (h : S < 2 ^ p) : S ||| 2 ^ p = 2 ^ p + S := by
  rw [Nat.or_comm]
  have := Nat.two_pow_add_eq_or_of_lt h 1
  rw [Nat.mul_one] at this
  exact this.symm
def OTb (o : OD) (σ : SS) (B : Nat) : Prop := σ.1 14 B = nI (few o B) ∧ σ.1 15 B = nI (TL o B).length
def sub (A P : Nat) : Prop := A < 64 ∧ ∀ i, A.testBit i = true → P.testBit i = true
theorem sub_dif {A P : Nat} (hA : A < 64) : dif A P = 0 ↔ sub A P := by
  rw [tb_z]
  constructor
  · intro h
    refine ⟨hA, fun i hi => ?_⟩
    have := h i
    rw [tb_dif, hi] at this
    simpa using this
  · rintro ⟨_, h⟩ i
    rw [tb_dif]
    cases e : A.testBit i with
    | false => rfl
    | true => rw [h i e]; rfl
theorem sub_or {A P j : Nat} (h : sub A P) (hj : j < 6) (hP : P.testBit j = true) : sub (A ||| 2 ^ j) P := ⟨or_64 h.1 hj, fun i hi => by
  rw [tb_or2, Bool.or_eq_true, decide_eq_true_eq] at hi
  rcases hi with hi | rfl
  · exact h.2 i hi
  · exact hP⟩
theorem TL_len_le {o : OD} (hP : oP o < 64) : (TL o 0).length ≤ 720 := by
  have key : ∀ (L : List (List Nat)) (w : List Nat → Nat), (bestf w L).length ≤ L.length := by
    intro L w
    induction L with
    | nil => exact Nat.le_refl _
    | cons y L ih =>
      rw [show y :: L = [y] ++ L from rfl, bestf_app]
      have : ∀ a b : List (List Nat), (mg w a b).length ≤ a.length + b.length := by
        intro a b
        cases b with
        | nil => rw [mg_nil]; exact Nat.le_refl _
        | cons y b =>
          cases a with
          | nil => rw [nil_mg]; exact Nat.le_of_eq (Nat.zero_add _).symm
          | cons x a =>
            rw [mg]
            split
            · exact Nat.le_add_right _ _
            · split
              · exact Nat.le_add_left _ _
              · rw [List.length_append]; exact Nat.le_refl _
      refine Nat.le_trans (this _ _) ?_
      rw [List.length_append]
      exact Nat.add_le_add (Nat.le_refl _) ih
  rw [← bestf_TL]
  refine Nat.le_trans (key _ _) (Nat.le_trans (List.length_filter_le _ _) (chain_all _ hP).2.2.2)
theorem sm_stop {f : Nat → Nat} {i n : Nat} (hi : i ≤ n) (h : ∀ k, i ≤ k → k < n → f k = 0) : sm f n = sm f i := by
  rw [show n = i + (n - i) by omega, sm_split]
  have : sm (fun k => f (i + k)) (n - i) = 0 := sm_zero.mpr (fun k hk => h (i + k) (by omega) (by omega))
  rw [this, Nat.add_zero]
theorem div0 {b i k : Nat} (h : b / 2 ^ i = 0) (hk : i ≤ k) : b / 2 ^ k % 2 = 0 := by
  rw [show k = i + (k - i) by omega, Nat.pow_add, ← Nat.div_div_eq_div_mul, h, Nat.zero_div]
set_option maxRecDepth 100000 in
set_option maxHeartbeats 4000000 in
theorem s_X0_strokesOf {v : EE} {o : OD} {σ : SS} (ho : OV o) (hc : OC o σ) {b : Nat} (hb : b < 2 ^ 16) : S1 v M_X0_strokesOf [.ref (v.1 10), .int (nI b)] σ (some (.int (nI (skO o b)))) (σ) := by
  refine Sp.of rfl (by decide) rfl (Nat.le_of_ble_eq_true rfl) ?_
  show V v M_X0_strokesOf _ 0 [(0, .ref (v.1 10)), (1, .int (nI b))] [] σ
  refine v_iconst (x := nI 0) dX0_strokesOf_0 (by decide +kernel) ?_
  refine v_istore_n (L' := [(2, _), (0, _), (1, _)]) dX0_strokesOf_1 rfl (by decide) rfl ?_
  refine v_iconst (x := nI 0) dX0_strokesOf_2 (by decide +kernel) ?_
  refine v_istore_n (L' := [(3, _), (2, _), (0, _), (1, _)]) dX0_strokesOf_3 rfl (by decide) rfl ?_
  refine v_sub [2, 3, 1, 0] rfl ?_
  refine loopN (fun i => V v M_X0_strokesOf (zR v M_X0_strokesOf (fun r' σ' => r' = (some (.int (nI (skO o b)))) ∧ σ' = (σ))) 4 [(0, .ref (v.1 10)), (1, .int (nI b)), (2, .int (nI (sm (fun k => b / 2 ^ k % 2 * stv o k) i))), (3, .int (nI i))] [] (σ)) 16 ?_ ?_
  · intro i hi ih
    refine v_iload_n dX0_strokesOf_4 rfl ?_
    refine v_bipush (x := nI 16) dX0_strokesOf_5 (by decide +kernel) ?_
    refine n_icmp_ge (tgt := 37) dX0_strokesOf_7 (by decide) (by omega) (by omega) (fun c7 => absurd c7 (by omega)) (fun c7 => ?_)
    refine v_iload_n dX0_strokesOf_10 rfl ?_
    refine v_iload_n dX0_strokesOf_11 rfl ?_
    refine n_ishr dX0_strokesOf_12 (by omega) (by omega) ?_
    refine n_if_eq (tgt := 37) dX0_strokesOf_13 (by decide) (Nat.lt_of_le_of_lt (Nat.div_le_self _ _) (by omega)) (fun c13 => ?_) (fun c13 => ?_)
    · refine v_iload_n dX0_strokesOf_37 rfl ?_
      exact v_iret rfl dX0_strokesOf_38 ⟨congrArg (fun z => some (Value.int z)) (by rw [show skO o b = sm (fun k => b / 2 ^ k % 2 * stv o k) i from sm_stop (by omega) (fun k h1 h2 => by rw [div0 c13 h1, Nat.zero_mul])]), rfl⟩
    · refine v_iload_n dX0_strokesOf_16 rfl ?_
      refine v_iload_n dX0_strokesOf_17 rfl ?_
      refine v_iload_n dX0_strokesOf_18 rfl ?_
      refine n_ishr dX0_strokesOf_19 (by omega) (by omega) ?_
      refine v_iconst (x := nI 1) dX0_strokesOf_20 (by decide +kernel) ?_
      refine n_and1 dX0_strokesOf_21 ?_
      refine v_aload_n dX0_strokesOf_22 rfl ?_
      refine v_get (j := 1) iO10 rfl dX0_strokesOf_23 (by decide) in_X0_strokesOf_X0 fl_X0_strokesOf_15 rfl ?_
      refine v_iload_n dX0_strokesOf_26 rfl ?_
      refine v_ialdN i iI12 dX0_strokesOf_27 rfl (by omega) (by decide) ?_
      refine v_top (hc.2.2.1 i (by omega)) ?_
      refine n_imul dX0_strokesOf_28 ?_
      refine n_iadd dX0_strokesOf_29 ?_
      refine v_istore_n (L' := [(2, _), (0, _), (1, _), (3, _)]) dX0_strokesOf_30 rfl (by decide) rfl ?_
      refine n_iinc (n := 1) (L' := [(3, _), (2, _), (0, _), (1, _)]) dX0_strokesOf_31 rfl (by decide) rfl ?_
      refine v_goto (tgt := 4) dX0_strokesOf_34 (by decide) ?_
      refine v_sub [2, 3, 1, 0] rfl ?_
      exact ih
  · refine v_iload_n dX0_strokesOf_4 rfl ?_
    refine v_bipush (x := nI 16) dX0_strokesOf_5 (by decide +kernel) ?_
    refine n_icmp_ge (tgt := 37) dX0_strokesOf_7 (by decide) (by omega) (by omega) (fun c7 => ?_) (fun c7 => absurd c7 (by omega))
    refine v_iload_n dX0_strokesOf_37 rfl ?_
    exact v_iret rfl dX0_strokesOf_38 ⟨rfl, rfl⟩
set_option maxRecDepth 100000 in
set_option maxHeartbeats 4000000 in
theorem s_X0_gapsAdded {v : EE} {o : OD} {σ : SS} (ho : OV o) (hc : OC o σ) {A p : Nat} (hA : A < 64) (hp : p < 6) : S1 v M_X0_gapsAdded [.ref (v.1 10), .int (nI A), .int (nI p)] σ (some (.int (nI (ga o A p)))) (σ) := by
  refine Sp.of rfl (by decide) rfl (Nat.le_of_ble_eq_true rfl) ?_
  show V v M_X0_gapsAdded _ 0 [(0, .ref (v.1 10)), (1, .int (nI A)), (2, .int (nI p))] [] σ
  refine v_aload_n dX0_gapsAdded_0 rfl ?_
  refine v_get (j := 9) iO10 rfl dX0_gapsAdded_1 (by decide) in_X0_gapsAdded_X0 fl_X0_gapsAdded_36 rfl ?_
  refine v_top hc.1 ?_
  refine v_iload_n dX0_gapsAdded_4 rfl ?_
  refine v_iconst (x := (-1)) dX0_gapsAdded_5 rfl ?_
  refine v_ixor dX0_gapsAdded_6 ?_
  refine n_dif dX0_gapsAdded_7 ?_
  refine v_iconst (x := nI 1) dX0_gapsAdded_8 (by decide +kernel) ?_
  refine v_iload_n dX0_gapsAdded_9 rfl ?_
  refine n_shl1 dX0_gapsAdded_10 (by omega) ?_
  refine v_iconst (x := (-1)) dX0_gapsAdded_11 rfl ?_
  refine v_ixor dX0_gapsAdded_12 ?_
  refine n_dif dX0_gapsAdded_13 ?_
  refine v_istore_n (L' := [(3, _), (0, _), (1, _), (2, _)]) dX0_gapsAdded_14 rfl (by decide) rfl ?_
  refine v_aload_n dX0_gapsAdded_15 rfl ?_
  refine v_aload_n dX0_gapsAdded_16 rfl ?_
  refine v_get (j := 6) iO10 rfl dX0_gapsAdded_17 (by decide) in_X0_gapsAdded_X0 fl_X0_gapsAdded_30 rfl ?_
  refine v_iload_n dX0_gapsAdded_20 rfl ?_
  refine v_ialdN A iI17 dX0_gapsAdded_21 rfl hA (by decide) ?_
  refine v_top (hc.2.2.2.2 A hA) ?_
  refine v_aload_n dX0_gapsAdded_22 rfl ?_
  refine v_get (j := 6) iO10 rfl dX0_gapsAdded_23 (by decide) in_X0_gapsAdded_X0 fl_X0_gapsAdded_30 rfl ?_
  refine v_iload_n dX0_gapsAdded_26 rfl ?_
  refine v_ialdN (dif (dif (oP o) A) (2 ^ p)) iI17 dX0_gapsAdded_27 rfl (by have := dif_le (dif (oP o) A) (2 ^ p); have := dif_le (oP o) A; have := ho.1; omega) (by decide) ?_
  refine v_top (hc.2.2.2.2 _ (by have := dif_le (dif (oP o) A) (2 ^ p); have := dif_le (oP o) A; have := ho.1; omega)) ?_
  refine n_iand dX0_gapsAdded_28 ?_
  refine v_aload_n dX0_gapsAdded_29 rfl ?_
  refine v_get (j := 0) iO10 rfl dX0_gapsAdded_30 (by decide) in_X0_gapsAdded_X0 fl_X0_gapsAdded_9 rfl ?_
  refine v_iload_n dX0_gapsAdded_33 rfl ?_
  refine v_ialdN p iI11 dX0_gapsAdded_34 rfl (by omega) (by decide) ?_
  refine v_top (hc.2.1 p hp) ?_
  refine v_iconst (x := (-1)) dX0_gapsAdded_35 rfl ?_
  refine v_ixor dX0_gapsAdded_36 ?_
  refine n_dif dX0_gapsAdded_37 ?_
  refine v_callVi (M' := M_X0_strokesOf) (As := [_]) iO10 (s_X0_strokesOf ho hc (by have := dif_le (sgs o A &&& sgs o (dif (dif (oP o) A) (2 ^ p))) (sgo o p); have : sgs o A &&& sgs o (dif (dif (oP o) A) (2 ^ p)) ≤ sgs o A := Nat.and_le_left; have := sgs_lt ho A; omega)) dX0_gapsAdded_38 gX0_gapsAdded_X0_strokesOf rfl rfl nn_X0_strokesOf ⟨rfl, rfl⟩ ⟨by decide, by decide⟩ rfl rfl (Nat.le_of_ble_eq_true rfl) ?_
  exact v_iret rfl dX0_gapsAdded_41 ⟨congrArg (fun z => some (Value.int z)) (by rw [ga_sk ho]), rfl⟩
