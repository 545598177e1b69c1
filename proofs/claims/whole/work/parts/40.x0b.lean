theorem in_X0_isBestStep_X0 : ∀ w ∈ u_ws RX0 TX0 10, w ∈ mWs M_X0_isBestStep := by decide +kernel
theorem in_X0_mayFollow_X0 : ∀ w ∈ u_ws RX0 TX0 10, w ∈ mWs M_X0_mayFollow := by decide +kernel
theorem in_X0_weighSet_X0 : ∀ w ∈ u_ws RX0 TX0 10, w ∈ mWs M_X0_weighSet := by decide +kernel
theorem fl_X0_isBestStep_21 : Cond.fieldLink (mOwn M_X0_isBestStep) 21 (TX0 3).1 (TX0 3).2.1 (TX0 3).2.2.1 ∈ mWs M_X0_isBestStep := by decide +kernel
theorem fl_X0_mayFollow_18 : Cond.fieldLink (mOwn M_X0_mayFollow) 18 (TX0 2).1 (TX0 2).2.1 (TX0 2).2.2.1 ∈ mWs M_X0_mayFollow := by decide +kernel
theorem fl_X0_mayFollow_24 : Cond.fieldLink (mOwn M_X0_mayFollow) 24 (TX0 4).1 (TX0 4).2.1 (TX0 4).2.2.1 ∈ mWs M_X0_mayFollow := by decide +kernel
theorem fl_X0_mayFollow_36 : Cond.fieldLink (mOwn M_X0_mayFollow) 36 (TX0 9).1 (TX0 9).2.1 (TX0 9).2.2.1 ∈ mWs M_X0_mayFollow := by decide +kernel
theorem fl_X0_weighSet_21 : Cond.fieldLink (mOwn M_X0_weighSet) 21 (TX0 3).1 (TX0 3).2.1 (TX0 3).2.2.1 ∈ mWs M_X0_weighSet := by decide +kernel
theorem fl_X0_weighSet_24 : Cond.fieldLink (mOwn M_X0_weighSet) 24 (TX0 4).1 (TX0 4).2.1 (TX0 4).2.2.1 ∈ mWs M_X0_weighSet := by decide +kernel
theorem fl_X0_weighSet_36 : Cond.fieldLink (mOwn M_X0_weighSet) 36 (TX0 9).1 (TX0 9).2.1 (TX0 9).2.2.1 ∈ mWs M_X0_weighSet := by decide +kernel
theorem nn_X0_gapsAdded : (mY M_X0_gapsAdded).cls = mOwn M_X0_gapsAdded ∧ (mY M_X0_gapsAdded).cls ≠ "java/lang/invoke/MethodHandle" ∧ (mY M_X0_gapsAdded).cls ≠ "java/lang/invoke/VarHandle" ∧ (parseMethodDescriptor (mY M_X0_gapsAdded).desc).map (fun d => d.parameters.length) = some 2 := by decide +kernel
theorem nn_X0_mayFollow : (mY M_X0_mayFollow).cls = mOwn M_X0_mayFollow ∧ (mY M_X0_mayFollow).cls ≠ "java/lang/invoke/MethodHandle" ∧ (mY M_X0_mayFollow).cls ≠ "java/lang/invoke/VarHandle" ∧ (parseMethodDescriptor (mY M_X0_mayFollow).desc).map (fun d => d.parameters.length) = some 2 := by decide +kernel
def c6 (x : Nat) : Nat := sm (fun i => if x.testBit i then 1 else 0) 6
theorem c6_le (x : Nat) : c6 x ≤ 6 := sm_le_sub (c := 1) (n := 6) (fun k _ => by by_cases c : x.testBit k = true <;> simp [c]) 6 (Nat.le_refl _)
theorem sm_mono' {f g : Nat → Nat} : ∀ {n : Nat}, (∀ k, k < n → f k ≤ g k) → sm f n ≤ sm g n := sm_mono
theorem c6_lt {P A j : Nat} (hj : j < 6) (h1 : P.testBit j = true) (h2 : A.testBit j = false) : c6 (dif P (A ||| 2 ^ j)) + 1 ≤ c6 (dif P A) := by
  have h3 : sm (fun i => if j = i then 1 else 0) 6 = 1 := (by decide : ∀ j, j < 6 → sm (fun i => if j = i then 1 else 0) 6 = 1) j hj
  refine Nat.le_trans (Nat.le_of_eq (show _ = sm (fun i => (if (dif P (A ||| 2 ^ j)).testBit i then 1 else 0) + (if j = i then 1 else 0)) 6 by rw [sm_add, h3]; rfl)) ?_
  rw [c6]
  refine sm_mono (fun k _ => ?_)
  rw [tb_dif, tb_dif, tb_or2]
  by_cases c : j = k
  · subst c; simp [h1, h2]
  · simp [c]
theorem bst_sub {o : OD} {A x : Nat} (h : bst o A x = true) : (oP o).testBit x = true ∧ A.testBit x = false := ⟨(ok_nb (bst_ok h).1).1, (ok_nb (bst_ok h).1).2.1⟩
theorem TL_bd {o : OD} (ho : OV o) : ∀ (n A : Nat), A < 64 → c6 (dif (oP o) A) ≤ n → (TL o A).length ≤ 6 ^ n ∧ few o A ≤ 144 * n := by
  intro n
  induction n with
  | zero =>
    intro A hA hn
    by_cases c : A = oP o
    · rw [few, c, TL_P ho.1]; exact ⟨by decide, Nat.le_refl 0⟩
    · have hno : ∀ x, x < 6 → bst o A x = false := fun x hx => by
        cases q : bst o A x with
        | false => rfl
        | true => have := c6_lt hx (bst_sub q).1 (bst_sub q).2; omega
      have : TL o A = [] := by rw [TL_cat hA c]; exact fm_nil (fun x hx => by rw [hno x hx]; rfl)
      rw [few, this]; exact ⟨by decide, Nat.le_refl 0⟩
  | succ n ih =>
    intro A hA hn
    by_cases c : A = oP o
    · rw [few, c, TL_P ho.1]; exact ⟨Nat.pow_pos (by decide), by simp [hw, wt]⟩
    · refine ⟨?_, ?_⟩
      · rw [TL_len hA c]
        have := sm_le_sub (f := fun x => if bst o A x then (TL o (A ||| 2 ^ x)).length else 0) (c := 6 ^ n) (n := 6) (fun x hx => by
          by_cases q : bst o A x = true
          · simp only [q, if_true]
            have := c6_lt hx (bst_sub q).1 (bst_sub q).2
            exact (ih _ (or_64 hA hx) (by omega)).1
          · simp only [q]; exact Nat.zero_le _) 6 (Nat.le_refl _)
        rw [Nat.pow_succ, Nat.mul_comm]
        exact this
      · by_cases q : TL o A = []
        · rw [few, q]; exact Nat.zero_le _
        · obtain ⟨p, hp, hb, _, _⟩ := fr_step hA c q
          have := c6_lt hp (bst_sub hb).1 (bst_sub hb).2
          have h1 := (ih _ (or_64 hA hp) (by omega)).2
          have h2 := (bst_iff.mp hb).2
          have h3 := ga_le ho A p
          rw [wx] at h2
          omega
theorem TL_b {o : OD} (ho : OV o) {A : Nat} (hA : A < 64) : (TL o A).length ≤ 46656 ∧ few o A ≤ 864 := TL_bd ho 6 A hA (c6_le _)
theorem st1_no {o : OD} {A j : Nat} (h : mf o A j = false) : st1 o (TL o) A (j + 1) = st1 o (TL o) A j := by
  rw [st1]
  by_cases q : ok o A j = true
  · rw [if_pos q]
    have : TL o (A ||| 2 ^ j) = [] := Classical.byContradiction (fun z => by rw [mf_iff.mpr ⟨q, z⟩] at h; cases h)
    rw [this]; exact mg_nil _ _
  · rw [if_neg q]
theorem st1_yes {o : OD} {A j : Nat} (h : mf o A j = true) : st1 o (TL o) A (j + 1) = mg (wt o A) (st1 o (TL o) A j) (tx o A j) := by
  rw [st1, if_pos (mf_iff.mp h).1]; rfl
theorem st1_lo {o : OD} {A j : Nat} (h : mf o A j = true) (hl : (st1 o (TL o) A j).length = 0 ∨ wx o A j < hw (wt o A) (st1 o (TL o) A j)) : hw (wt o A) (st1 o (TL o) A (j + 1)) = wx o A j ∧ (st1 o (TL o) A (j + 1)).length = (TL o (A ||| 2 ^ j)).length := by
  have c := (mf_iff.mp h).2
  have e : st1 o (TL o) A (j + 1) = tx o A j := by
    rw [st1_yes h]
    have ht := hw_tx c
    cases ea : st1 o (TL o) A j with
    | nil => rw [nil_mg]
    | cons u a =>
      cases eb : tx o A j with
      | nil => exact absurd eb (tx_ne c)
      | cons y b =>
        rw [eb] at ht
        rw [ea] at hl
        have ht' : wt o A y = wx o A j := ht
        have hl' : wx o A j < wt o A u := by
          rcases hl with hl | hl
          · simp at hl
          · exact hl
        rw [mg, if_neg (by omega), if_pos (by omega)]
  rw [e]
  exact ⟨hw_tx c, by rw [tx, List.length_map]⟩
theorem st1_eq {o : OD} {A j : Nat} (h : mf o A j = true) (hl : (st1 o (TL o) A j).length ≠ 0) (hw' : wx o A j = hw (wt o A) (st1 o (TL o) A j)) : hw (wt o A) (st1 o (TL o) A (j + 1)) = hw (wt o A) (st1 o (TL o) A j) ∧ (st1 o (TL o) A (j + 1)).length = (st1 o (TL o) A j).length + (TL o (A ||| 2 ^ j)).length := by
  have c := (mf_iff.mp h).2
  rw [st1_yes h]
  have ht := hw_tx c
  have hx : (tx o A j).length = (TL o (A ||| 2 ^ j)).length := by rw [tx, List.length_map]
  cases ea : st1 o (TL o) A j with
  | nil => rw [ea] at hl; simp at hl
  | cons u a =>
    cases eb : tx o A j with
    | nil => exact absurd eb (tx_ne c)
    | cons y b =>
      rw [eb] at ht hx
      rw [ea] at hw'
      have ht' : wt o A y = wx o A j := ht
      have hl' : wx o A j = wt o A u := hw'
      rw [mg, if_neg (by omega), if_neg (by omega)]
      exact ⟨rfl, by rw [List.length_append, hx]⟩
theorem st1_hi {o : OD} {A j : Nat} (h : mf o A j = true) (hl : (st1 o (TL o) A j).length ≠ 0) (hw' : hw (wt o A) (st1 o (TL o) A j) < wx o A j) : st1 o (TL o) A (j + 1) = st1 o (TL o) A j := by
  have c := (mf_iff.mp h).2
  rw [st1_yes h]
  have ht := hw_tx c
  cases ea : st1 o (TL o) A j with
  | nil => rw [ea] at hl; simp at hl
  | cons u a =>
    cases eb : tx o A j with
    | nil => exact absurd eb (tx_ne c)
    | cons y b =>
      rw [eb] at ht
      rw [ea] at hw'
      have ht' : wt o A y = wx o A j := ht
      have hl' : wt o A u < wx o A j := hw'
      rw [mg, if_pos (by omega)]
theorem st1_bd {o : OD} (ho : OV o) {A : Nat} (hA : A < 64) : ∀ j, j ≤ 6 → (st1 o (TL o) A j).length ≤ 1 + j * 46656 ∧ hw (wt o A) (st1 o (TL o) A j) ≤ 1008
  | 0, _ => by
    rw [st1]
    by_cases c : A = oP o
    · rw [if_pos c]; exact ⟨by simp, by simp [hw, wt]⟩
    · rw [if_neg c]; exact ⟨by simp, by simp [hw]⟩
  | j + 1, hj => by
    have ih := st1_bd ho hA j (by omega)
    have hb := TL_b ho (or_64 hA (j := j) (by omega))
    have hg := ga_le ho A j
    have hx : wx o A j ≤ 1008 := by rw [wx]; omega
    cases q : mf o A j with
    | false => rw [st1_no q]; exact ⟨Nat.le_trans ih.1 (by omega), ih.2⟩
    | true =>
      by_cases h1 : (st1 o (TL o) A j).length = 0 ∨ wx o A j < hw (wt o A) (st1 o (TL o) A j)
      · have := st1_lo q h1; omega
      · by_cases h2 : wx o A j = hw (wt o A) (st1 o (TL o) A j)
        · have := st1_eq q (fun z => h1 (Or.inl z)) h2; omega
        · rw [st1_hi q (fun z => h1 (Or.inl z)) (by have := fun z => h1 (Or.inr z); omega)]; exact ⟨Nat.le_trans ih.1 (by omega), ih.2⟩
theorem wait_iff {P A p : Nat} : dif P A &&& 2 ^ p = 0 ↔ ¬ (P.testBit p = true ∧ A.testBit p = false) := by
  rw [tb_z]
  constructor
  · rintro h ⟨h1, h2⟩
    have := h p
    rw [Nat.testBit_and, tb_dif, h1, h2, tb_pow] at this
    simp at this
  · intro h i
    rw [Nat.testBit_and, tb_dif, tb_pow]
    by_cases c : p = i
    · subst c
      cases e1 : P.testBit p <;> cases e2 : A.testBit p <;> simp_all
    · simp [c]
theorem mf_0 {o : OD} {A p : Nat} (h : ¬ ((oP o).testBit p = true ∧ A.testBit p = false)) : mf o A p = false := by
  cases q : mf o A p with
  | false => rfl
  | true => have := ok_nb (mf_iff.mp q).1; exact absurd ⟨this.1, this.2.1⟩ h
theorem mf_1 {o : OD} {A p : Nat} (h : dif (oM o p) A ≠ 0) : mf o A p = false := by
  cases q : mf o A p with
  | false => rfl
  | true => exact absurd (ok_nb (mf_iff.mp q).1).2.2 h
theorem mf_2 {o : OD} {A p : Nat} (h : (TL o (A ||| 2 ^ p)).length = 0) : mf o A p = false := by
  cases q : mf o A p with
  | false => rfl
  | true => exact absurd (List.length_eq_zero_iff.mp h) (mf_iff.mp q).2
theorem mf_3 {o : OD} {A p : Nat} (h : (oP o).testBit p = true ∧ A.testBit p = false) (h1 : dif (oM o p) A = 0) (h2 : 0 < (TL o (A ||| 2 ^ p)).length) : mf o A p = true := by
  refine mf_iff.mpr ⟨?_, fun e => by rw [e] at h2; cases h2⟩
  rw [ok, h.1, h.2, h1]; rfl
set_option maxRecDepth 100000 in
set_option maxHeartbeats 4000000 in
theorem s_X0_mayFollow {v : EE} {o : OD} {σ : SS} (ho : OV o) (hc : OC o σ) {A p : Nat} (hA : A < 64) (hp : p < 6) (ht : (oP o).testBit p = true → A.testBit p = false → σ.1 15 (A ||| 2 ^ p) = nI (TL o (A ||| 2 ^ p)).length) : S1 v M_X0_mayFollow [.ref (v.1 10), .int (nI A), .int (nI p)] σ (some (.int (bI (mf o A p)))) (σ) := by
  refine Sp.of rfl (by decide) rfl (Nat.le_of_ble_eq_true rfl) ?_
  show V v M_X0_mayFollow _ 0 [(0, .ref (v.1 10)), (1, .int (nI A)), (2, .int (nI p))] [] σ
  refine v_aload_n dX0_mayFollow_0 rfl ?_
  refine v_get (j := 9) iO10 rfl dX0_mayFollow_1 (by decide) in_X0_mayFollow_X0 fl_X0_mayFollow_36 rfl ?_
  refine v_top hc.1 ?_
  refine v_iload_n dX0_mayFollow_4 rfl ?_
  refine v_iconst (x := (-1)) dX0_mayFollow_5 rfl ?_
  refine v_ixor dX0_mayFollow_6 ?_
  refine n_dif dX0_mayFollow_7 ?_
  refine v_iconst (x := nI 1) dX0_mayFollow_8 (by decide +kernel) ?_
  refine v_iload_n dX0_mayFollow_9 rfl ?_
  refine n_shl1 dX0_mayFollow_10 (by omega) ?_
  refine n_iand dX0_mayFollow_11 ?_
  refine n_if_eq (tgt := 19) dX0_mayFollow_12 (by decide) (Nat.lt_of_le_of_lt (Nat.and_le_left) (by have := dif_le (oP o) A; have := ho.1; omega)) (fun c12 => ?_) (fun c12 => ?_)
  · refine v_iconst (x := nI 0) dX0_mayFollow_19 (by decide +kernel) ?_
    refine v_istore_n (L' := [(3, _), (0, _), (1, _), (2, _)]) dX0_mayFollow_20 rfl (by decide) rfl ?_
    refine v_iload_n dX0_mayFollow_21 rfl ?_
    refine v_if_eq (tgt := 55) dX0_mayFollow_22 (by decide) (fun c22 => ?_) (fun c22 => absurd rfl c22)
    refine v_iconst (x := nI 0) dX0_mayFollow_55 (by decide +kernel) ?_
    exact v_zret rfl (by decide) dX0_mayFollow_56 ⟨congrArg (fun z => some (Value.int z)) (by rw [mf_0 (wait_iff.mp c12)]; rfl), rfl⟩
  · have hh := Classical.not_not.mp (fun q => c12 (wait_iff.mpr q))
    refine v_iconst (x := nI 1) dX0_mayFollow_15 (by decide +kernel) ?_
    refine v_goto (tgt := 20) dX0_mayFollow_16 (by decide) ?_
    refine v_istore_n (L' := [(3, _), (0, _), (1, _), (2, _)]) dX0_mayFollow_20 rfl (by decide) rfl ?_
    refine v_iload_n dX0_mayFollow_21 rfl ?_
    refine v_if_eq (tgt := 55) dX0_mayFollow_22 (by decide) (fun c22 => absurd c22 (by decide)) (fun c22 => ?_)
    refine v_aload_n dX0_mayFollow_25 rfl ?_
    refine v_get (j := 2) iO10 rfl dX0_mayFollow_26 (by decide) in_X0_mayFollow_X0 fl_X0_mayFollow_18 rfl ?_
    refine v_iload_n dX0_mayFollow_29 rfl ?_
    refine v_ialdN p iI13 dX0_mayFollow_30 rfl (by omega) (by decide) ?_
    refine v_top (hc.2.2.2.1 p hp) ?_
    refine v_iload_n dX0_mayFollow_31 rfl ?_
    refine v_iconst (x := (-1)) dX0_mayFollow_32 rfl ?_
    refine v_ixor dX0_mayFollow_33 ?_
    refine n_dif dX0_mayFollow_34 ?_
    refine n_if_ne (tgt := 55) dX0_mayFollow_35 (by decide) (by have := dif_le (oM o p) A; have := ho.2.1 p hp; omega) (fun c35 => ?_) (fun c35 => ?_)
    · refine v_iconst (x := nI 0) dX0_mayFollow_55 (by decide +kernel) ?_
      exact v_zret rfl (by decide) dX0_mayFollow_56 ⟨congrArg (fun z => some (Value.int z)) (by rw [mf_1 c35]; rfl), rfl⟩
    · refine v_aload_n dX0_mayFollow_38 rfl ?_
      refine v_get (j := 4) iO10 rfl dX0_mayFollow_39 (by decide) in_X0_mayFollow_X0 fl_X0_mayFollow_24 rfl ?_
      refine v_iload_n dX0_mayFollow_42 rfl ?_
      refine v_iconst (x := nI 1) dX0_mayFollow_43 (by decide +kernel) ?_
      refine v_iload_n dX0_mayFollow_44 rfl ?_
      refine n_shl1 dX0_mayFollow_45 (by omega) ?_
      refine n_ior dX0_mayFollow_46 ?_
      refine v_ialdN (A ||| 2 ^ p) iI15 dX0_mayFollow_47 rfl (by have := or_64 hA hp; omega) (by decide) ?_
      refine v_top (ht hh.1 hh.2) ?_
      have hb := TL_b ho (or_64 hA hp)
      refine n_if_le (tgt := 55) dX0_mayFollow_48 (by decide) (by omega) (fun c48 => ?_) (fun c48 => ?_)
      · refine v_iconst (x := nI 0) dX0_mayFollow_55 (by decide +kernel) ?_
        exact v_zret rfl (by decide) dX0_mayFollow_56 ⟨congrArg (fun z => some (Value.int z)) (by rw [mf_2 c48]; rfl), rfl⟩
      · refine v_iconst (x := nI 1) dX0_mayFollow_51 (by decide +kernel) ?_
        refine v_goto (tgt := 56) dX0_mayFollow_52 (by decide) ?_
        exact v_zret rfl (by decide) dX0_mayFollow_56 ⟨congrArg (fun z => some (Value.int z)) (by rw [mf_3 hh c35 c48]; rfl), rfl⟩
set_option maxRecDepth 100000 in
set_option maxHeartbeats 4000000 in
theorem s_X0_isBestStep {v : EE} {o : OD} {σ : SS} (ho : OV o) (hc : OC o σ) {A p : Nat} (hA : A < 64) (hp : p < 6) (h0 : OTb o σ A) (ht : (oP o).testBit p = true → A.testBit p = false → OTb o σ (A ||| 2 ^ p)) : S1 v M_X0_isBestStep [.ref (v.1 10), .int (nI A), .int (nI p)] σ (some (.int (bI (bst o A p)))) (σ) := by
  refine Sp.of rfl (by decide) rfl (Nat.le_of_ble_eq_true rfl) ?_
  show V v M_X0_isBestStep _ 0 [(0, .ref (v.1 10)), (1, .int (nI A)), (2, .int (nI p))] [] σ
  refine v_aload_n dX0_isBestStep_0 rfl ?_
  refine v_iload_n dX0_isBestStep_1 rfl ?_
  refine v_iload_n dX0_isBestStep_2 rfl ?_
  refine v_callVi (M' := M_X0_mayFollow) (As := [_, _]) iO10 (s_X0_mayFollow ho hc hA hp (fun h1 h2 => (ht h1 h2).2)) dX0_isBestStep_3 gX0_isBestStep_X0_mayFollow rfl rfl nn_X0_mayFollow ⟨rfl, rfl⟩ ⟨by decide, by decide⟩ rfl rfl (Nat.le_of_ble_eq_true rfl) ?_
  refine b_if_eq (tgt := 39) dX0_isBestStep_6 (by decide) (fun c6 => ?_) (fun c6 => ?_)
  · refine v_iconst (x := nI 0) dX0_isBestStep_39 (by decide +kernel) ?_
    exact v_zret rfl (by decide) dX0_isBestStep_40 ⟨congrArg (fun z => some (Value.int z)) (by rw [show bst o A p = false by rw [bst, c6]; rfl]; rfl), rfl⟩
  · have hk := ok_nb (mf_iff.mp c6).1
    have hb := TL_b ho hA
    have hb2 := TL_b ho (or_64 hA hp)
    have hg := ga_le ho A p
    refine v_aload_n dX0_isBestStep_9 rfl ?_
    refine v_iload_n dX0_isBestStep_10 rfl ?_
    refine v_iload_n dX0_isBestStep_11 rfl ?_
    refine v_callVi (M' := M_X0_gapsAdded) (As := [_, _]) iO10 (s_X0_gapsAdded ho hc hA hp) dX0_isBestStep_12 gX0_isBestStep_X0_gapsAdded rfl rfl nn_X0_gapsAdded ⟨rfl, rfl⟩ ⟨by decide, by decide⟩ rfl rfl (Nat.le_of_ble_eq_true rfl) ?_
    refine v_aload_n dX0_isBestStep_15 rfl ?_
    refine v_get (j := 3) iO10 rfl dX0_isBestStep_16 (by decide) in_X0_isBestStep_X0 fl_X0_isBestStep_21 rfl ?_
    refine v_iload_n dX0_isBestStep_19 rfl ?_
    refine v_iconst (x := nI 1) dX0_isBestStep_20 (by decide +kernel) ?_
    refine v_iload_n dX0_isBestStep_21 rfl ?_
    refine n_shl1 dX0_isBestStep_22 (by omega) ?_
    refine n_ior dX0_isBestStep_23 ?_
    refine v_ialdN (A ||| 2 ^ p) iI14 dX0_isBestStep_24 rfl (by have := or_64 hA hp; omega) (by decide) ?_
    refine v_top (ht hk.1 hk.2.1).1 ?_
    refine n_iadd dX0_isBestStep_25 ?_
    refine v_aload_n dX0_isBestStep_26 rfl ?_
    refine v_get (j := 3) iO10 rfl dX0_isBestStep_27 (by decide) in_X0_isBestStep_X0 fl_X0_isBestStep_21 rfl ?_
    refine v_iload_n dX0_isBestStep_30 rfl ?_
    refine v_ialdN A iI14 dX0_isBestStep_31 rfl hA (by decide) ?_
    refine v_top h0.1 ?_
    refine n_icmp_ne (tgt := 39) dX0_isBestStep_32 (by decide) (by omega) (by omega) (fun c32 => ?_) (fun c32 => ?_)
    · refine v_iconst (x := nI 0) dX0_isBestStep_39 (by decide +kernel) ?_
      exact v_zret rfl (by decide) dX0_isBestStep_40 ⟨congrArg (fun z => some (Value.int z)) (by rw [show bst o A p = false by rw [bst, c6, wx, decide_eq_false c32]; rfl]; rfl), rfl⟩
    · refine v_iconst (x := nI 1) dX0_isBestStep_35 (by decide +kernel) ?_
      refine v_goto (tgt := 40) dX0_isBestStep_36 (by decide) ?_
      exact v_zret rfl (by decide) dX0_isBestStep_40 ⟨congrArg (fun z => some (Value.int z)) (by rw [show bst o A p = true by rw [bst, c6, wx, decide_eq_true c32]; rfl]; rfl), rfl⟩
def sw (σ : SS) (A : Nat) (x y : Int32) : SS := sI (sI σ 14 A x) 15 A y
theorem upd_upd (f : Nat → Int32) (j : Nat) (x y : Int32) : upd (upd f j x) j y = upd f j y := by
  funext k; simp only [upd]; split <;> rfl
theorem sw_1 (σ : SS) (A : Nat) (x y x' : Int32) : sI (sw σ A x y) 14 A x' = sw σ A x' y := by
  refine Prod.ext ?_ rfl
  funext a
  simp only [sw, sI]
  by_cases h : a = 14
  · subst h; simp [upd_upd]
  · simp [h]
theorem sw_2 (σ : SS) (A : Nat) (x y y' : Int32) : sI (sw σ A x y) 15 A y' = sw σ A x y' := by
  refine Prod.ext ?_ rfl
  funext a
  simp only [sw, sI]
  by_cases h : a = 15
  · subst h; simp [upd_upd]
  · simp [h]
theorem sw_row (σ : SS) (A : Nat) (x y : Int32) {a : Nat} (h : a ≠ 14) (h' : a ≠ 15) : (sw σ A x y).1 a = σ.1 a := by simp [sw, sI, h, h']
theorem sw_oc {o : OD} {σ : SS} (hc : OC o σ) (A : Nat) (x y : Int32) : OC o (sw σ A x y) := hc
theorem sw_a (σ : SS) (A : Nat) (x y : Int32) : (sw σ A x y).1 14 A = x := by simp [sw, sI, upd]
theorem sw_b (σ : SS) (A : Nat) (x y : Int32) : (sw σ A x y).1 15 A = y := by simp [sw, sI, upd]
theorem sw_n (σ : SS) {A B : Nat} (x y : Int32) (h : B ≠ A) : (sw σ A x y).1 14 B = σ.1 14 B ∧ (sw σ A x y).1 15 B = σ.1 15 B := by simp [sw, sI, upd, h]
theorem sw_tb {o : OD} {σ : SS} {A B : Nat} (x y : Int32) (h : B ≠ A) (hb : OTb o σ B) : OTb o (sw σ A x y) B := by
  have := sw_n σ x y h
  exact ⟨by rw [this.1, hb.1], by rw [this.2, hb.2]⟩
theorem sw_self {o : OD} (σ : SS) (A : Nat) : OTb o (sw σ A (nI (few o A)) (nI (TL o A).length)) A := ⟨sw_a _ _ _ _, sw_b _ _ _ _⟩
set_option maxRecDepth 100000 in
set_option maxHeartbeats 4000000 in
theorem s_X0_weighSet {v : EE} {o : OD} {σ : SS} (ho : OV o) (hc : OC o σ) {A : Nat} (hA : A < 64) (ht : ∀ p, p < 6 → (oP o).testBit p = true → A.testBit p = false → OTb o σ (A ||| 2 ^ p)) : S1 v M_X0_weighSet [.ref (v.1 10), .int (nI A)] σ none (sw σ A (nI (few o A)) (nI (TL o A).length)) := by
  refine Sp.of rfl (by decide) rfl (Nat.le_of_ble_eq_true rfl) ?_
  show V v M_X0_weighSet _ 0 [(0, .ref (v.1 10)), (1, .int (nI A))] [] σ
  refine v_aload_n dX0_weighSet_0 rfl ?_
  refine v_get (j := 3) iO10 rfl dX0_weighSet_1 (by decide) in_X0_weighSet_X0 fl_X0_weighSet_21 rfl ?_
  refine v_iload_n dX0_weighSet_4 rfl ?_
  refine v_iconst (x := nI 0) dX0_weighSet_5 (by decide +kernel) ?_
  refine v_iastN A iI14 dX0_weighSet_6 rfl hA (by decide) ?_
  refine v_aload_n dX0_weighSet_7 rfl ?_
  refine v_get (j := 4) iO10 rfl dX0_weighSet_8 (by decide) in_X0_weighSet_X0 fl_X0_weighSet_24 rfl ?_
  refine v_iload_n dX0_weighSet_11 rfl ?_
  refine v_iload_n dX0_weighSet_12 rfl ?_
  refine v_aload_n dX0_weighSet_13 rfl ?_
  refine v_get (j := 9) iO10 rfl dX0_weighSet_14 (by decide) in_X0_weighSet_X0 fl_X0_weighSet_36 rfl ?_
  refine v_top hc.1 ?_
  refine n_icmp_ne (tgt := 24) dX0_weighSet_17 (by decide) (by omega) (by have := ho.1; omega) (fun c17 => ?_) (fun c17 => ?_)
  · refine v_iconst (x := nI 0) dX0_weighSet_24 (by decide +kernel) ?_
    refine v_iastN A iI15 dX0_weighSet_25 rfl hA (by decide) ?_
    refine v_iconst (x := nI 0) dX0_weighSet_26 (by decide +kernel) ?_
    refine v_istore_n (L' := [(2, _), (0, _), (1, _)]) dX0_weighSet_27 rfl (by decide) rfl ?_
    have e : sw σ A (nI (hw (wt o A) (st1 o (TL o) A 0))) (nI (st1 o (TL o) A 0).length) = sw σ A (nI 0) (nI 0) := by rw [st1, if_neg c17]; rfl
    refine v_st e.symm ?_
    refine v_sub [1, 2, 0] rfl ?_
    refine loopN (fun i => V v M_X0_weighSet (zR v M_X0_weighSet (fun r' σ' => r' = none ∧ σ' = (sw σ A (nI (few o A)) (nI (TL o A).length)))) 28 [(0, .ref (v.1 10)), (1, .int (nI A)), (2, .int (nI i))] [] (sw σ A (nI (hw (wt o A) (st1 o (TL o) A i))) (nI (st1 o (TL o) A i).length))) 6 ?_ ?_
    · intro i hi ih
      refine v_iload_n dX0_weighSet_28 rfl ?_
      refine v_bipush (x := nI 6) dX0_weighSet_29 (by decide +kernel) ?_
      refine n_icmp_ge (tgt := 139) dX0_weighSet_31 (by decide) (by omega) (by omega) (fun c31 => absurd c31 (by omega)) (fun c31 => ?_)
      refine v_aload_n dX0_weighSet_34 rfl ?_
      refine v_iload_n dX0_weighSet_35 rfl ?_
      refine v_iload_n dX0_weighSet_36 rfl ?_
      refine v_callVi (M' := M_X0_mayFollow) (As := [_, _]) iO10 (s_X0_mayFollow ho (sw_oc hc A _ _) hA hi (fun h1 h2 => (sw_tb _ _ (by have := or_gt h2; omega) (ht i (by omega) h1 h2)).2)) dX0_weighSet_37 gX0_weighSet_X0_mayFollow rfl rfl nn_X0_mayFollow ⟨rfl, rfl⟩ ⟨by decide, by decide⟩ rfl rfl (Nat.le_of_ble_eq_true rfl) ?_
      refine b_if_eq (tgt := 133) dX0_weighSet_40 (by decide) (fun c40 => ?_) (fun c40 => ?_)
      · rw [st1_no c40] at ih
        refine n_iinc (n := 1) (L' := [(2, _), (0, _), (1, _)]) dX0_weighSet_133 rfl (by decide) rfl ?_
        refine v_goto (tgt := 28) dX0_weighSet_136 (by decide) ?_
        refine v_sub [1, 2, 0] rfl ?_
        exact ih
      · have hk := ok_nb (mf_iff.mp c40).1
        have hb := TL_b ho hA
        have hb2 := TL_b ho (or_64 hA hi)
        have hg := ga_le ho A i
        have hs := st1_bd ho hA i (by omega)
        have hT := ht i hi hk.1 hk.2.1
        have hBA : A ||| 2 ^ i ≠ A := by have := or_gt hk.2.1; omega
        have hB := or_64 hA hi
        refine v_iload_n dX0_weighSet_43 rfl ?_
        refine v_iconst (x := nI 1) dX0_weighSet_44 (by decide +kernel) ?_
        refine v_iload_n dX0_weighSet_45 rfl ?_
        refine n_shl1 dX0_weighSet_46 (by omega) ?_
        refine n_ior dX0_weighSet_47 ?_
        refine v_istore_n (L' := [(3, _), (0, _), (1, _), (2, _)]) dX0_weighSet_48 rfl (by decide) rfl ?_
        refine v_aload_n dX0_weighSet_49 rfl ?_
        refine v_iload_n dX0_weighSet_50 rfl ?_
        refine v_iload_n dX0_weighSet_51 rfl ?_
        refine v_callVi (M' := M_X0_gapsAdded) (As := [_, _]) iO10 (s_X0_gapsAdded ho (sw_oc hc A _ _) hA hi) dX0_weighSet_52 gX0_weighSet_X0_gapsAdded rfl rfl nn_X0_gapsAdded ⟨rfl, rfl⟩ ⟨by decide, by decide⟩ rfl rfl (Nat.le_of_ble_eq_true rfl) ?_
        refine v_aload_n dX0_weighSet_55 rfl ?_
        refine v_get (j := 3) iO10 rfl dX0_weighSet_56 (by decide) in_X0_weighSet_X0 fl_X0_weighSet_21 rfl ?_
        refine v_iload_n dX0_weighSet_59 rfl ?_
        refine v_ialdN (A ||| 2 ^ i) iI14 dX0_weighSet_60 rfl hB (by decide) ?_
        refine v_top (sw_tb _ _ hBA hT).1 ?_
        refine n_iadd dX0_weighSet_61 ?_
        refine v_istore (L' := [(4, _), (3, _), (0, _), (1, _), (2, _)]) dX0_weighSet_62 (by decide) rfl ?_
        refine v_aload_n dX0_weighSet_64 rfl ?_
        refine v_get (j := 4) iO10 rfl dX0_weighSet_65 (by decide) in_X0_weighSet_X0 fl_X0_weighSet_24 rfl ?_
        refine v_iload_n dX0_weighSet_68 rfl ?_
        refine v_ialdN A iI15 dX0_weighSet_69 rfl hA (by decide) ?_
        refine v_top (sw_b _ _ _ _) ?_
        refine n_if_eq (tgt := 84) dX0_weighSet_70 (by decide) (by omega) (fun c70 => ?_) (fun c70 => ?_)
        · refine v_aload_n dX0_weighSet_84 rfl ?_
          refine v_get (j := 3) iO10 rfl dX0_weighSet_85 (by decide) in_X0_weighSet_X0 fl_X0_weighSet_21 rfl ?_
          refine v_iload_n dX0_weighSet_88 rfl ?_
          refine v_iload dX0_weighSet_89 rfl ?_
          refine v_iastN A iI14 dX0_weighSet_91 rfl hA (by decide) ?_
          refine v_st (sw_1 _ _ _ _ _) ?_
          refine v_aload_n dX0_weighSet_92 rfl ?_
          refine v_get (j := 4) iO10 rfl dX0_weighSet_93 (by decide) in_X0_weighSet_X0 fl_X0_weighSet_24 rfl ?_
          refine v_iload_n dX0_weighSet_96 rfl ?_
          refine v_aload_n dX0_weighSet_97 rfl ?_
          refine v_get (j := 4) iO10 rfl dX0_weighSet_98 (by decide) in_X0_weighSet_X0 fl_X0_weighSet_24 rfl ?_
          refine v_iload_n dX0_weighSet_101 rfl ?_
          refine v_ialdN (A ||| 2 ^ i) iI15 dX0_weighSet_102 rfl hB (by decide) ?_
          refine v_top (sw_tb _ _ hBA hT).2 ?_
          refine v_iastN A iI15 dX0_weighSet_103 rfl hA (by decide) ?_
          refine v_st (sw_2 _ _ _ _ _) ?_
          refine v_goto (tgt := 133) dX0_weighSet_104 (by decide) ?_
          have e := st1_lo c40 (Or.inl c70)
          rw [e.1, e.2] at ih
          refine n_iinc (n := 1) (L' := [(2, _), (4, _), (3, _), (0, _), (1, _)]) dX0_weighSet_133 rfl (by decide) rfl ?_
          refine v_goto (tgt := 28) dX0_weighSet_136 (by decide) ?_
          refine v_sub [3, 4, 0] rfl ?_
          exact ih
        · refine v_iload dX0_weighSet_73 rfl ?_
          refine v_aload_n dX0_weighSet_75 rfl ?_
          refine v_get (j := 3) iO10 rfl dX0_weighSet_76 (by decide) in_X0_weighSet_X0 fl_X0_weighSet_21 rfl ?_
          refine v_iload_n dX0_weighSet_79 rfl ?_
          refine v_ialdN A iI14 dX0_weighSet_80 rfl hA (by decide) ?_
          refine v_top (sw_a _ _ _ _) ?_
          refine n_icmp_ge (tgt := 107) dX0_weighSet_81 (by decide) (by omega) (by omega) (fun c81 => ?_) (fun c81 => ?_)
          · refine v_iload dX0_weighSet_107 rfl ?_
            refine v_aload_n dX0_weighSet_109 rfl ?_
            refine v_get (j := 3) iO10 rfl dX0_weighSet_110 (by decide) in_X0_weighSet_X0 fl_X0_weighSet_21 rfl ?_
            refine v_iload_n dX0_weighSet_113 rfl ?_
            refine v_ialdN A iI14 dX0_weighSet_114 rfl hA (by decide) ?_
            refine v_top (sw_a _ _ _ _) ?_
            refine n_icmp_ne (tgt := 133) dX0_weighSet_115 (by decide) (by omega) (by omega) (fun c115 => ?_) (fun c115 => ?_)
            · rw [st1_hi c40 c70 (by have : wx o A i ≠ _ := c115; have : _ ≤ wx o A i := c81; omega)] at ih
              refine n_iinc (n := 1) (L' := [(2, _), (4, _), (3, _), (0, _), (1, _)]) dX0_weighSet_133 rfl (by decide) rfl ?_
              refine v_goto (tgt := 28) dX0_weighSet_136 (by decide) ?_
              refine v_sub [3, 4, 0] rfl ?_
              exact ih
            · refine v_aload_n dX0_weighSet_118 rfl ?_
              refine v_get (j := 4) iO10 rfl dX0_weighSet_119 (by decide) in_X0_weighSet_X0 fl_X0_weighSet_24 rfl ?_
              refine v_iload_n dX0_weighSet_122 rfl ?_
              refine v_dup2 dX0_weighSet_123 rfl rfl ?_
              refine v_ialdN A iI15 dX0_weighSet_124 rfl hA (by decide) ?_
              refine v_top (sw_b _ _ _ _) ?_
              refine v_aload_n dX0_weighSet_125 rfl ?_
              refine v_get (j := 4) iO10 rfl dX0_weighSet_126 (by decide) in_X0_weighSet_X0 fl_X0_weighSet_24 rfl ?_
              refine v_iload_n dX0_weighSet_129 rfl ?_
              refine v_ialdN (A ||| 2 ^ i) iI15 dX0_weighSet_130 rfl hB (by decide) ?_
              refine v_top (sw_tb _ _ hBA hT).2 ?_
              refine n_iadd dX0_weighSet_131 ?_
              refine v_iastN A iI15 dX0_weighSet_132 rfl hA (by decide) ?_
              refine v_st (sw_2 _ _ _ _ _) ?_
              have e := st1_eq c40 c70 c115
              rw [e.1, e.2] at ih
              refine n_iinc (n := 1) (L' := [(2, _), (4, _), (3, _), (0, _), (1, _)]) dX0_weighSet_133 rfl (by decide) rfl ?_
              refine v_goto (tgt := 28) dX0_weighSet_136 (by decide) ?_
              refine v_sub [3, 4, 0] rfl ?_
              exact ih
          · refine v_aload_n dX0_weighSet_84 rfl ?_
            refine v_get (j := 3) iO10 rfl dX0_weighSet_85 (by decide) in_X0_weighSet_X0 fl_X0_weighSet_21 rfl ?_
            refine v_iload_n dX0_weighSet_88 rfl ?_
            refine v_iload dX0_weighSet_89 rfl ?_
            refine v_iastN A iI14 dX0_weighSet_91 rfl hA (by decide) ?_
            refine v_st (sw_1 _ _ _ _ _) ?_
            refine v_aload_n dX0_weighSet_92 rfl ?_
            refine v_get (j := 4) iO10 rfl dX0_weighSet_93 (by decide) in_X0_weighSet_X0 fl_X0_weighSet_24 rfl ?_
            refine v_iload_n dX0_weighSet_96 rfl ?_
            refine v_aload_n dX0_weighSet_97 rfl ?_
            refine v_get (j := 4) iO10 rfl dX0_weighSet_98 (by decide) in_X0_weighSet_X0 fl_X0_weighSet_24 rfl ?_
            refine v_iload_n dX0_weighSet_101 rfl ?_
            refine v_ialdN (A ||| 2 ^ i) iI15 dX0_weighSet_102 rfl hB (by decide) ?_
            refine v_top (sw_tb _ _ hBA hT).2 ?_
            refine v_iastN A iI15 dX0_weighSet_103 rfl hA (by decide) ?_
            refine v_st (sw_2 _ _ _ _ _) ?_
            refine v_goto (tgt := 133) dX0_weighSet_104 (by decide) ?_
            have e := st1_lo c40 (Or.inr c81)
            rw [e.1, e.2] at ih
            refine n_iinc (n := 1) (L' := [(2, _), (4, _), (3, _), (0, _), (1, _)]) dX0_weighSet_133 rfl (by decide) rfl ?_
            refine v_goto (tgt := 28) dX0_weighSet_136 (by decide) ?_
            refine v_sub [3, 4, 0] rfl ?_
            exact ih
    · refine v_iload_n dX0_weighSet_28 rfl ?_
      refine v_bipush (x := nI 6) dX0_weighSet_29 (by decide +kernel) ?_
      refine n_icmp_ge (tgt := 139) dX0_weighSet_31 (by decide) (by omega) (by omega) (fun c31 => ?_) (fun c31 => absurd c31 (by omega))
      exact v_vret rfl dX0_weighSet_139 ⟨rfl, by rw [few, TL_eq hA]⟩
  · refine v_iconst (x := nI 1) dX0_weighSet_20 (by decide +kernel) ?_
    refine v_goto (tgt := 25) dX0_weighSet_21 (by decide) ?_
    refine v_iastN A iI15 dX0_weighSet_25 rfl hA (by decide) ?_
    refine v_iconst (x := nI 0) dX0_weighSet_26 (by decide +kernel) ?_
    refine v_istore_n (L' := [(2, _), (0, _), (1, _)]) dX0_weighSet_27 rfl (by decide) rfl ?_
    have e : sw σ A (nI (hw (wt o A) (st1 o (TL o) A 0))) (nI (st1 o (TL o) A 0).length) = sw σ A (nI 0) (nI 1) := by rw [st1, if_pos c17]; rfl
    refine v_st e.symm ?_
    refine v_sub [1, 2, 0] rfl ?_
    refine loopN (fun i => V v M_X0_weighSet (zR v M_X0_weighSet (fun r' σ' => r' = none ∧ σ' = (sw σ A (nI (few o A)) (nI (TL o A).length)))) 28 [(0, .ref (v.1 10)), (1, .int (nI A)), (2, .int (nI i))] [] (sw σ A (nI (hw (wt o A) (st1 o (TL o) A i))) (nI (st1 o (TL o) A i).length))) 6 ?_ ?_
    · intro i hi ih
      refine v_iload_n dX0_weighSet_28 rfl ?_
      refine v_bipush (x := nI 6) dX0_weighSet_29 (by decide +kernel) ?_
      refine n_icmp_ge (tgt := 139) dX0_weighSet_31 (by decide) (by omega) (by omega) (fun c31 => absurd c31 (by omega)) (fun c31 => ?_)
      refine v_aload_n dX0_weighSet_34 rfl ?_
      refine v_iload_n dX0_weighSet_35 rfl ?_
      refine v_iload_n dX0_weighSet_36 rfl ?_
      refine v_callVi (M' := M_X0_mayFollow) (As := [_, _]) iO10 (s_X0_mayFollow ho (sw_oc hc A _ _) hA hi (fun h1 h2 => (sw_tb _ _ (by have := or_gt h2; omega) (ht i (by omega) h1 h2)).2)) dX0_weighSet_37 gX0_weighSet_X0_mayFollow rfl rfl nn_X0_mayFollow ⟨rfl, rfl⟩ ⟨by decide, by decide⟩ rfl rfl (Nat.le_of_ble_eq_true rfl) ?_
      refine b_if_eq (tgt := 133) dX0_weighSet_40 (by decide) (fun c40 => ?_) (fun c40 => ?_)
      · rw [st1_no c40] at ih
        refine n_iinc (n := 1) (L' := [(2, _), (0, _), (1, _)]) dX0_weighSet_133 rfl (by decide) rfl ?_
        refine v_goto (tgt := 28) dX0_weighSet_136 (by decide) ?_
        refine v_sub [1, 2, 0] rfl ?_
        exact ih
      · have hk := ok_nb (mf_iff.mp c40).1
        have hb := TL_b ho hA
        have hb2 := TL_b ho (or_64 hA hi)
        have hg := ga_le ho A i
        have hs := st1_bd ho hA i (by omega)
        have hT := ht i hi hk.1 hk.2.1
        have hBA : A ||| 2 ^ i ≠ A := by have := or_gt hk.2.1; omega
        have hB := or_64 hA hi
        refine v_iload_n dX0_weighSet_43 rfl ?_
        refine v_iconst (x := nI 1) dX0_weighSet_44 (by decide +kernel) ?_
        refine v_iload_n dX0_weighSet_45 rfl ?_
        refine n_shl1 dX0_weighSet_46 (by omega) ?_
        refine n_ior dX0_weighSet_47 ?_
        refine v_istore_n (L' := [(3, _), (0, _), (1, _), (2, _)]) dX0_weighSet_48 rfl (by decide) rfl ?_
        refine v_aload_n dX0_weighSet_49 rfl ?_
        refine v_iload_n dX0_weighSet_50 rfl ?_
        refine v_iload_n dX0_weighSet_51 rfl ?_
        refine v_callVi (M' := M_X0_gapsAdded) (As := [_, _]) iO10 (s_X0_gapsAdded ho (sw_oc hc A _ _) hA hi) dX0_weighSet_52 gX0_weighSet_X0_gapsAdded rfl rfl nn_X0_gapsAdded ⟨rfl, rfl⟩ ⟨by decide, by decide⟩ rfl rfl (Nat.le_of_ble_eq_true rfl) ?_
        refine v_aload_n dX0_weighSet_55 rfl ?_
        refine v_get (j := 3) iO10 rfl dX0_weighSet_56 (by decide) in_X0_weighSet_X0 fl_X0_weighSet_21 rfl ?_
        refine v_iload_n dX0_weighSet_59 rfl ?_
        refine v_ialdN (A ||| 2 ^ i) iI14 dX0_weighSet_60 rfl hB (by decide) ?_
        refine v_top (sw_tb _ _ hBA hT).1 ?_
        refine n_iadd dX0_weighSet_61 ?_
        refine v_istore (L' := [(4, _), (3, _), (0, _), (1, _), (2, _)]) dX0_weighSet_62 (by decide) rfl ?_
        refine v_aload_n dX0_weighSet_64 rfl ?_
        refine v_get (j := 4) iO10 rfl dX0_weighSet_65 (by decide) in_X0_weighSet_X0 fl_X0_weighSet_24 rfl ?_
        refine v_iload_n dX0_weighSet_68 rfl ?_
        refine v_ialdN A iI15 dX0_weighSet_69 rfl hA (by decide) ?_
        refine v_top (sw_b _ _ _ _) ?_
        refine n_if_eq (tgt := 84) dX0_weighSet_70 (by decide) (by omega) (fun c70 => ?_) (fun c70 => ?_)
        · refine v_aload_n dX0_weighSet_84 rfl ?_
          refine v_get (j := 3) iO10 rfl dX0_weighSet_85 (by decide) in_X0_weighSet_X0 fl_X0_weighSet_21 rfl ?_
          refine v_iload_n dX0_weighSet_88 rfl ?_
          refine v_iload dX0_weighSet_89 rfl ?_
          refine v_iastN A iI14 dX0_weighSet_91 rfl hA (by decide) ?_
          refine v_st (sw_1 _ _ _ _ _) ?_
          refine v_aload_n dX0_weighSet_92 rfl ?_
          refine v_get (j := 4) iO10 rfl dX0_weighSet_93 (by decide) in_X0_weighSet_X0 fl_X0_weighSet_24 rfl ?_
          refine v_iload_n dX0_weighSet_96 rfl ?_
          refine v_aload_n dX0_weighSet_97 rfl ?_
          refine v_get (j := 4) iO10 rfl dX0_weighSet_98 (by decide) in_X0_weighSet_X0 fl_X0_weighSet_24 rfl ?_
          refine v_iload_n dX0_weighSet_101 rfl ?_
          refine v_ialdN (A ||| 2 ^ i) iI15 dX0_weighSet_102 rfl hB (by decide) ?_
          refine v_top (sw_tb _ _ hBA hT).2 ?_
          refine v_iastN A iI15 dX0_weighSet_103 rfl hA (by decide) ?_
          refine v_st (sw_2 _ _ _ _ _) ?_
          refine v_goto (tgt := 133) dX0_weighSet_104 (by decide) ?_
          have e := st1_lo c40 (Or.inl c70)
          rw [e.1, e.2] at ih
          refine n_iinc (n := 1) (L' := [(2, _), (4, _), (3, _), (0, _), (1, _)]) dX0_weighSet_133 rfl (by decide) rfl ?_
          refine v_goto (tgt := 28) dX0_weighSet_136 (by decide) ?_
          refine v_sub [3, 4, 0] rfl ?_
          exact ih
        · refine v_iload dX0_weighSet_73 rfl ?_
          refine v_aload_n dX0_weighSet_75 rfl ?_
          refine v_get (j := 3) iO10 rfl dX0_weighSet_76 (by decide) in_X0_weighSet_X0 fl_X0_weighSet_21 rfl ?_
          refine v_iload_n dX0_weighSet_79 rfl ?_
          refine v_ialdN A iI14 dX0_weighSet_80 rfl hA (by decide) ?_
          refine v_top (sw_a _ _ _ _) ?_
          refine n_icmp_ge (tgt := 107) dX0_weighSet_81 (by decide) (by omega) (by omega) (fun c81 => ?_) (fun c81 => ?_)
          · refine v_iload dX0_weighSet_107 rfl ?_
            refine v_aload_n dX0_weighSet_109 rfl ?_
            refine v_get (j := 3) iO10 rfl dX0_weighSet_110 (by decide) in_X0_weighSet_X0 fl_X0_weighSet_21 rfl ?_
            refine v_iload_n dX0_weighSet_113 rfl ?_
            refine v_ialdN A iI14 dX0_weighSet_114 rfl hA (by decide) ?_
            refine v_top (sw_a _ _ _ _) ?_
            refine n_icmp_ne (tgt := 133) dX0_weighSet_115 (by decide) (by omega) (by omega) (fun c115 => ?_) (fun c115 => ?_)
            · rw [st1_hi c40 c70 (by have : wx o A i ≠ _ := c115; have : _ ≤ wx o A i := c81; omega)] at ih
              refine n_iinc (n := 1) (L' := [(2, _), (4, _), (3, _), (0, _), (1, _)]) dX0_weighSet_133 rfl (by decide) rfl ?_
              refine v_goto (tgt := 28) dX0_weighSet_136 (by decide) ?_
              refine v_sub [3, 4, 0] rfl ?_
              exact ih
            · refine v_aload_n dX0_weighSet_118 rfl ?_
              refine v_get (j := 4) iO10 rfl dX0_weighSet_119 (by decide) in_X0_weighSet_X0 fl_X0_weighSet_24 rfl ?_
              refine v_iload_n dX0_weighSet_122 rfl ?_
              refine v_dup2 dX0_weighSet_123 rfl rfl ?_
              refine v_ialdN A iI15 dX0_weighSet_124 rfl hA (by decide) ?_
              refine v_top (sw_b _ _ _ _) ?_
              refine v_aload_n dX0_weighSet_125 rfl ?_
              refine v_get (j := 4) iO10 rfl dX0_weighSet_126 (by decide) in_X0_weighSet_X0 fl_X0_weighSet_24 rfl ?_
              refine v_iload_n dX0_weighSet_129 rfl ?_
              refine v_ialdN (A ||| 2 ^ i) iI15 dX0_weighSet_130 rfl hB (by decide) ?_
              refine v_top (sw_tb _ _ hBA hT).2 ?_
              refine n_iadd dX0_weighSet_131 ?_
              refine v_iastN A iI15 dX0_weighSet_132 rfl hA (by decide) ?_
              refine v_st (sw_2 _ _ _ _ _) ?_
              have e := st1_eq c40 c70 c115
              rw [e.1, e.2] at ih
              refine n_iinc (n := 1) (L' := [(2, _), (4, _), (3, _), (0, _), (1, _)]) dX0_weighSet_133 rfl (by decide) rfl ?_
              refine v_goto (tgt := 28) dX0_weighSet_136 (by decide) ?_
              refine v_sub [3, 4, 0] rfl ?_
              exact ih
          · refine v_aload_n dX0_weighSet_84 rfl ?_
            refine v_get (j := 3) iO10 rfl dX0_weighSet_85 (by decide) in_X0_weighSet_X0 fl_X0_weighSet_21 rfl ?_
            refine v_iload_n dX0_weighSet_88 rfl ?_
            refine v_iload dX0_weighSet_89 rfl ?_
            refine v_iastN A iI14 dX0_weighSet_91 rfl hA (by decide) ?_
            refine v_st (sw_1 _ _ _ _ _) ?_
            refine v_aload_n dX0_weighSet_92 rfl ?_
            refine v_get (j := 4) iO10 rfl dX0_weighSet_93 (by decide) in_X0_weighSet_X0 fl_X0_weighSet_24 rfl ?_
            refine v_iload_n dX0_weighSet_96 rfl ?_
            refine v_aload_n dX0_weighSet_97 rfl ?_
            refine v_get (j := 4) iO10 rfl dX0_weighSet_98 (by decide) in_X0_weighSet_X0 fl_X0_weighSet_24 rfl ?_
            refine v_iload_n dX0_weighSet_101 rfl ?_
            refine v_ialdN (A ||| 2 ^ i) iI15 dX0_weighSet_102 rfl hB (by decide) ?_
            refine v_top (sw_tb _ _ hBA hT).2 ?_
            refine v_iastN A iI15 dX0_weighSet_103 rfl hA (by decide) ?_
            refine v_st (sw_2 _ _ _ _ _) ?_
            refine v_goto (tgt := 133) dX0_weighSet_104 (by decide) ?_
            have e := st1_lo c40 (Or.inr c81)
            rw [e.1, e.2] at ih
            refine n_iinc (n := 1) (L' := [(2, _), (4, _), (3, _), (0, _), (1, _)]) dX0_weighSet_133 rfl (by decide) rfl ?_
            refine v_goto (tgt := 28) dX0_weighSet_136 (by decide) ?_
            refine v_sub [3, 4, 0] rfl ?_
            exact ih
    · refine v_iload_n dX0_weighSet_28 rfl ?_
      refine v_bipush (x := nI 6) dX0_weighSet_29 (by decide +kernel) ?_
      refine n_icmp_ge (tgt := 139) dX0_weighSet_31 (by decide) (by omega) (by omega) (fun c31 => ?_) (fun c31 => absurd c31 (by omega))
      exact v_vret rfl dX0_weighSet_139 ⟨rfl, by rw [few, TL_eq hA]⟩
