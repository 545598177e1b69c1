theorem in_X0_howManyAhead_X0 : ∀ w ∈ u_ws RX0 TX0 10, w ∈ mWs M_X0_howManyAhead := by decide +kernel
theorem in_X0_reachFrom_X0 : ∀ w ∈ u_ws RX0 TX0 10, w ∈ mWs M_X0_reachFrom := by decide +kernel
theorem fl_X0_howManyAhead_24 : Cond.fieldLink (mOwn M_X0_howManyAhead) 24 (TX0 4).1 (TX0 4).2.1 (TX0 4).2.2.1 ∈ mWs M_X0_howManyAhead := by decide +kernel
theorem fl_X0_howManyAhead_27 : Cond.fieldLink (mOwn M_X0_howManyAhead) 27 (TX0 5).1 (TX0 5).2.1 (TX0 5).2.2.1 ∈ mWs M_X0_howManyAhead := by decide +kernel
theorem fl_X0_howManyAhead_36 : Cond.fieldLink (mOwn M_X0_howManyAhead) 36 (TX0 9).1 (TX0 9).2.1 (TX0 9).2.2.1 ∈ mWs M_X0_howManyAhead := by decide +kernel
theorem fl_X0_reachFrom_27 : Cond.fieldLink (mOwn M_X0_reachFrom) 27 (TX0 5).1 (TX0 5).2.1 (TX0 5).2.2.1 ∈ mWs M_X0_reachFrom := by decide +kernel
theorem nn_X0_reachFrom : (mY M_X0_reachFrom).cls = mOwn M_X0_reachFrom ∧ (mY M_X0_reachFrom).cls ≠ "java/lang/invoke/MethodHandle" ∧ (mY M_X0_reachFrom).cls ≠ "java/lang/invoke/VarHandle" ∧ (parseMethodDescriptor (mY M_X0_reachFrom).desc).map (fun d => d.parameters.length) = some 1 := by decide +kernel
def bef (p q : Nat) : List Nat → Bool
  | [] => false
  | x :: l => if x = q then false else if x = p then true else bef p q l
def cB (o : OD) (p q A : Nat) : Nat := if A.testBit p || A.testBit q then 0 else (TL o A).countP (bef p q)
def eB (o : OD) (p q A : Nat) : Nat := if !A.testBit q && bst o A p then (TL o (A ||| 2 ^ p)).length else 0
theorem sm_one {p d : Nat} : ∀ {n : Nat}, p < n → sm (fun x => if x = p then d else 0) n = d
  | 0, h => by omega
  | n + 1, h => by
    rw [sm]
    by_cases c : p = n
    · subst c
      rw [if_pos rfl]
      have : sm (fun x => if x = p then d else 0) p = 0 := sm_zero.mpr (fun k hk => if_neg (by omega))
      omega
    · rw [sm_one (by omega), if_neg (by omega)]; rfl
theorem cB_rec {o : OD} {p q A : Nat} (hp : p < 6) (hpq : p ≠ q) (hA : A < 64) (h : A ≠ oP o) : cB o p q A = eB o p q A + sm (fun x => if bst o A x then cB o p q (A ||| 2 ^ x) else 0) 6 := by
  by_cases c : (A.testBit p || A.testBit q) = true
  · have h0 : ∀ x, cB o p q (A ||| 2 ^ x) = 0 := fun x => by
      rw [cB, if_pos]
      rw [tb_or2, tb_or2]
      cases e1 : A.testBit p <;> cases e2 : A.testBit q <;> simp_all
    have h1 : eB o p q A = 0 := by
      rw [eB]
      apply if_neg
      intro z
      rw [Bool.and_eq_true, Bool.not_eq_true'] at z
      have := (bst_sub z.2).2
      rw [this, z.1] at c
      cases c
    rw [h1, sm_zero.mpr (fun x _ => by rw [h0]; simp)]
    rw [cB, if_pos c]
  · have c' := c
    rw [Bool.not_eq_true, Bool.or_eq_false_iff] at c'
    rw [cB, if_neg c, TL_cat hA h, fm_cnt]
    have e2 : eB o p q A = sm (fun x => if x = p then eB o p q A else 0) 6 := (sm_one hp).symm
    rw [e2, ← sm_add]
    refine sm_cong (fun x _ => ?_)
    by_cases b : bst o A x = true
    · rw [if_pos b, if_pos b, tx, List.countP_map]
      by_cases x1 : x = p
      · subst x1
        rw [if_pos rfl, eB, c'.2, b, if_pos (by decide), cB, if_pos (by rw [tb_or2]; simp)]
        rw [show ((bef x q) ∘ fun l => x :: l) = fun _ => true from funext (fun l => by simp [bef, hpq])]
        simp
      · rw [if_neg x1]
        by_cases x2 : x = q
        · subst x2
          rw [cB, if_pos (by rw [tb_or2, tb_or2]; simp)]
          rw [show ((bef p x) ∘ fun l => x :: l) = fun _ => false from funext (fun l => by simp [bef])]
          simp
        · rw [cB, if_neg (by rw [tb_or2, tb_or2, c'.1, c'.2]; simp [x1, x2])]
          rw [show ((bef p q) ∘ fun l => x :: l) = bef p q from funext (fun l => by simp [bef, x1, x2])]
          omega
    · rw [if_neg b, if_neg b]
      by_cases x1 : x = p
      · subst x1
        rw [if_pos rfl, eB, if_neg (by simp [b])]; rfl
      · rw [if_neg x1]; rfl
def rfN (o : OD) (R : Nat → Nat) (A : Nat) : Nat → (Nat → Nat)
  | 0 => R
  | j + 1 => if bst o A j then updN (rfN o R A j) (A ||| 2 ^ j) (rfN o R A j (A ||| 2 ^ j) + rfN o R A j A) else rfN o R A j
theorem rfN_A {o : OD} {R : Nat → Nat} {A : Nat} : ∀ j, rfN o R A j A = R A
  | 0 => rfl
  | j + 1 => by
    rw [rfN]
    by_cases b : bst o A j = true
    · rw [if_pos b, updN, if_neg (by have := or_gt (bst_sub b).2; omega), rfN_A j]
    · rw [if_neg b, rfN_A j]
theorem sm_upd {c R : Nat → Nat} {a b d : Nat} : ∀ {n : Nat}, a ≤ b → b < a + n → sm (fun k => updN R b (R b + d) (a + k) * c (a + k)) n = sm (fun k => R (a + k) * c (a + k)) n + d * c b
  | 0, h1, h2 => by omega
  | n + 1, h1, h2 => by
    rw [sm, sm]
    by_cases e : b = a + n
    · rw [updN, if_pos e.symm, ← e]
      have : sm (fun k => updN R b (R b + d) (a + k) * c (a + k)) n = sm (fun k => R (a + k) * c (a + k)) n := sm_cong (fun k hk => by rw [updN, if_neg (by omega)])
      rw [this, Nat.add_mul]; omega
    · rw [sm_upd h1 (by omega), updN, if_neg (by omega)]; omega
theorem rf_sum {o : OD} {R c : Nat → Nat} {A : Nat} (hA : A < 64) : ∀ j, j ≤ 6 → sm (fun k => rfN o R A j (A + 1 + k) * c (A + 1 + k)) (63 - A) = sm (fun k => R (A + 1 + k) * c (A + 1 + k)) (63 - A) + R A * sm (fun x => if bst o A x then c (A ||| 2 ^ x) else 0) j
  | 0, _ => rfl
  | j + 1, hj => by
    rw [rfN, sm, Nat.mul_add]
    by_cases b : bst o A j = true
    · have h1 := or_gt (bst_sub b).2
      have h2 := or_64 hA (j := j) (by omega)
      rw [if_pos b, if_pos b, sm_upd (by omega) (by omega), rf_sum hA j (by omega), rfN_A]; omega
    · rw [if_neg b, if_neg b, rf_sum hA j (by omega)]; omega
def ph (c R : Nat → Nat) (i : Nat) : Nat := sm (fun k => R (i + k) * c (i + k)) (64 - i)
theorem sm_first (f : Nat → Nat) (n : Nat) : sm f (n + 1) = f 0 + sm (fun k => f (k + 1)) n := by
  rw [show n + 1 = 1 + n by omega, sm_split]
  have : sm f 1 = f 0 := by simp [sm]
  rw [this]
  exact congrArg _ (sm_cong (fun k _ => by rw [Nat.add_comm]))
theorem ph_first (c R : Nat → Nat) {i : Nat} (h : i < 64) : ph c R i = R i * c i + ph c R (i + 1) := by
  rw [ph, show 64 - i = (63 - i) + 1 by omega, sm_first, ph, show 64 - (i + 1) = 63 - i by omega]
  exact congrArg _ (sm_cong (fun k _ => by rw [show i + (k + 1) = i + 1 + k by omega]))
theorem ph_step {o : OD} {c R : Nat → Nat} {i e : Nat} (h : i < 64) (hc : c i = e + sm (fun x => if bst o i x then c (i ||| 2 ^ x) else 0) 6) : ph c R i = R i * e + ph c (rfN o R i 6) (i + 1) := by
  rw [ph_first c R h, ph, ph, show 64 - (i + 1) = 63 - i by omega, rf_sum h 6 (Nat.le_refl _), hc, Nat.mul_add]; omega
def hmN (o : OD) (p q : Nat) : Nat → (Nat → Nat) × Nat
  | 0 => (updN (fun _ => 0) 0 1, 0)
  | i + 1 => if 0 < (hmN o p q i).1 i then (rfN o (hmN o p q i).1 i 6, (hmN o p q i).2 + (hmN o p q i).1 i * eB o p q i) else hmN o p q i
theorem rfN_pos {o : OD} {R : Nat → Nat} {A : Nat} (hA : sub A (oP o)) (hR : ∀ B, 0 < R B → sub B (oP o) ∧ TL o B ≠ []) : ∀ j, j ≤ 6 → ∀ B, 0 < rfN o R A j B → sub B (oP o) ∧ TL o B ≠ []
  | 0, _, B, h => hR B h
  | j + 1, hj, B, h => by
    rw [rfN] at h
    by_cases b : bst o A j = true
    · rw [if_pos b, updN] at h
      by_cases e : B = A ||| 2 ^ j
      · rw [e]; exact ⟨sub_or hA (by omega) (bst_sub b).1, (bst_ok b).2⟩
      · rw [if_neg e] at h; exact rfN_pos hA hR j (by omega) B h
    · rw [if_neg b] at h; exact rfN_pos hA hR j (by omega) B h
theorem hm_pos {o : OD} {p q : Nat} (hn : TL o 0 ≠ []) : ∀ i, ∀ B, 0 < (hmN o p q i).1 B → sub B (oP o) ∧ TL o B ≠ []
  | 0, B, h => by
    rw [hmN] at h
    simp only [updN] at h
    by_cases e : B = 0
    · rw [e]; exact ⟨sub_0 _, hn⟩
    · rw [if_neg e] at h; omega
  | i + 1, B, h => by
    rw [hmN] at h
    by_cases c : 0 < (hmN o p q i).1 i
    · rw [if_pos c] at h
      exact rfN_pos (hm_pos hn i i c).1 (hm_pos hn i) 6 (Nat.le_refl _) B h
    · rw [if_neg c] at h; exact hm_pos hn i B h
theorem hm_ph {o : OD} {p q : Nat} (hP : oP o < 64) (hn : TL o 0 ≠ []) (hp : p < 6) (hpq : p ≠ q) : ∀ i, i ≤ oP o → (hmN o p q i).2 + ph (cB o p q) (hmN o p q i).1 i = cB o p q 0 ∧ ph (fun B => (TL o B).length) (hmN o p q i).1 i = (TL o 0).length
  | 0, _ => by
    have : ∀ c : Nat → Nat, ph c (updN (fun _ => 0) 0 1) 0 = c 0 := fun c => by
      rw [ph_first _ _ (by decide), ph, sm_zero.mpr (fun k _ => by rw [updN, if_neg (by omega), Nat.zero_mul])]
      simp [updN]
    rw [hmN]
    exact ⟨by simp only [this]; omega, this _⟩
  | i + 1, h => by
    have ih := hm_ph hP hn hp hpq i (by omega)
    rw [hmN]
    by_cases c : 0 < (hmN o p q i).1 i
    · rw [if_pos c]
      have hs := (hm_pos hn i i c).1
      have h1 := ph_step (R := (hmN o p q i).1) (by omega) (cB_rec hp hpq (A := i) (o := o) (by omega) (by omega))
      have h2 := ph_step (o := o) (i := i) (R := (hmN o p q i).1) (c := fun B => (TL o B).length) (e := 0) (by omega) (by rw [TL_len (A := i) (o := o) (by omega) (by omega)]; omega)
      constructor
      · rw [← ih.1, h1]; simp only; omega
      · rw [← ih.2, h2]; simp only; omega
    · rw [if_neg c]
      have z : (hmN o p q i).1 i = 0 := by omega
      have h1 := ph_first (cB o p q) (hmN o p q i).1 (i := i) (by omega)
      have h2 := ph_first (fun B => (TL o B).length) (hmN o p q i).1 (i := i) (by omega)
      rw [z, Nat.zero_mul] at h1 h2
      constructor
      · rw [← ih.1, h1]; omega
      · rw [← ih.2, h2]; omega
theorem ph_ge {c R : Nat → Nat} {i : Nat} : ∀ {n k : Nat}, k < n → R (i + k) * c (i + k) ≤ sm (fun k => R (i + k) * c (i + k)) n
  | 0, k, h => by omega
  | n + 1, k, h => by
    rw [sm]
    by_cases e : k = n
    · subst e; omega
    · have := ph_ge (c := c) (R := R) (i := i) (n := n) (k := k) (by omega); omega
theorem hm_le {o : OD} {p q : Nat} (ho : OV o) (hn : TL o 0 ≠ []) (hp : p < 6) (hpq : p ≠ q) {i B : Nat} (hi : i ≤ oP o) (hB : i ≤ B) (h64 : B < 64) : (hmN o p q i).1 B ≤ 46656 := by
  have h1 := (hm_ph ho.1 hn hp hpq i hi).2
  have h2 := (TL_b ho (A := 0) (by decide)).1
  by_cases c : (hmN o p q i).1 B = 0
  · omega
  · have h3 := (hm_pos (p := p) (q := q) hn i B (by omega)).2
    have h4 : 0 < (TL o B).length := List.length_pos_iff.mpr h3
    have h5 := ph_ge (c := fun B => (TL o B).length) (R := (hmN o p q i).1) (i := i) (n := 64 - i) (k := B - i) (by omega)
    rw [show i + (B - i) = B by omega] at h5
    rw [ph] at h1
    rw [h1] at h5
    have h6 : (hmN o p q i).1 B * 1 ≤ (hmN o p q i).1 B * (TL o B).length := Nat.mul_le_mul_left _ h4
    omega
theorem hm_end {o : OD} {p q : Nat} (ho : OV o) (hn : TL o 0 ≠ []) (hp : p < 6) (hpq : p ≠ q) : (hmN o p q (oP o)).2 = (TL o 0).countP (bef p q) := by
  have h := (hm_ph ho.1 hn hp hpq (oP o) (Nat.le_refl _)).1
  have h0 : ph (cB o p q) (hmN o p q (oP o)).1 (oP o) = 0 := sm_zero.mpr (fun k hk => by
    by_cases e : k = 0
    · subst e
      have : cB o p q (oP o) = 0 := by
        rw [cB, TL_P ho.1]
        split <;> rfl
      rw [Nat.add_zero, this, Nat.mul_zero]
    · have : (hmN o p q (oP o)).1 (oP o + k) = 0 := by
        apply Classical.byContradiction
        intro z
        have := sub_lt (hm_pos hn _ _ (Nat.pos_of_ne_zero z)).1
        omega
      rw [this, Nat.zero_mul])
  rw [h0] at h
  rw [cB] at h
  simpa using h
def RF (R : Nat → Nat) (σ : SS) : Prop := ∀ B, B < 64 → σ.1 16 B = nI (R B)
def FR (σ τ : SS) : Prop := (∀ a, a ≠ 16 → τ.1 a = σ.1 a) ∧ τ.2 = σ.2
theorem FR.rf (σ : SS) : FR σ σ := ⟨fun _ _ => rfl, rfl⟩
theorem FR.tr {σ τ υ : SS} (h : FR σ τ) (g : FR τ υ) : FR σ υ := ⟨fun a h1 => (g.1 a h1).trans (h.1 a h1), g.2.trans h.2⟩
theorem FR.fo {σ τ : SS} (h : FR σ τ) : FO σ τ := ⟨fun a h1 => h.1 a (by omega), h.2, by rw [h.1 17 (by decide)]⟩
theorem FR.oc {o : OD} {σ τ : SS} (h : FR σ τ) (hc : OC o σ) : OC o τ := hc.of (by rw [h.1 10 (by decide)]) (h.1 11 (by decide)) (h.1 12 (by decide)) (h.1 13 (by decide)) (h.1 17 (by decide))
theorem FR.ot {o : OD} {σ τ : SS} (h : FR σ τ) (hc : OT o σ) : OT o τ := hc.of (h.1 14 (by decide)) (h.1 15 (by decide))
theorem RF.up {R : Nat → Nat} {σ : SS} (h : RF R σ) (b x : Nat) : RF (updN R b x) (sI σ 16 b (nI x)) := fun B hB => by
  rw [updN]
  by_cases e : B = b
  · subst e; rw [if_pos rfl, sI_at]
  · rw [if_neg e, sI_ne _ _ (Or.inr e)]; exact h B hB
theorem FR.up {σ τ : SS} (h : FR σ τ) (b : Nat) (x : Int32) : FR σ (sI τ 16 b x) := ⟨fun a ha => (sI_row _ _ ha).trans (h.1 a ha), h.2⟩
set_option maxRecDepth 100000 in
set_option maxHeartbeats 4000000 in
theorem s_X0_reachFrom {v : EE} {o : OD} {σ : SS} (ho : OV o) (hc : OC o σ) (hot : OT o σ) {A : Nat} (hA : sub A (oP o)) {R : Nat → Nat} (hR : RF R σ) : SR v M_X0_reachFrom [.ref (v.1 10), .int (nI A)] σ none (fun σ' => RF (rfN o R A 6) σ' ∧ FR σ σ') := by
  refine Sp.of rfl (by decide) rfl (Nat.le_of_ble_eq_true rfl) ?_
  show V v M_X0_reachFrom _ 0 [(0, .ref (v.1 10)), (1, .int (nI A))] [] σ
  refine v_iconst (x := nI 0) dX0_reachFrom_0 (by decide +kernel) ?_
  refine v_istore_n (L' := [(2, _), (0, _), (1, _)]) dX0_reachFrom_1 rfl (by decide) rfl ?_
  refine v_sub [1, 2, 0] rfl ?_
  refine loopN (fun i => ∀ τ : SS, (RF (rfN o R A i) τ ∧ FR σ τ) → V v M_X0_reachFrom (zR v M_X0_reachFrom (fun r' σ' => r' = none ∧ (RF (rfN o R A 6) σ' ∧ FR σ σ'))) 2 [(0, .ref (v.1 10)), (1, .int (nI A)), (2, .int (nI i))] [] τ) 6 ?_ ?_ _ ⟨hR, FR.rf σ⟩
  · intro i hi ih τ hinv
    refine v_iload_n dX0_reachFrom_2 rfl ?_
    refine v_bipush (x := nI 6) dX0_reachFrom_3 (by decide +kernel) ?_
    refine n_icmp_ge (tgt := 42) dX0_reachFrom_5 (by decide) (by omega) (by omega) (fun c5 => absurd c5 (by omega)) (fun c5 => ?_)
    refine v_aload_n dX0_reachFrom_8 rfl ?_
    refine v_iload_n dX0_reachFrom_9 rfl ?_
    refine v_iload_n dX0_reachFrom_10 rfl ?_
    refine v_callVi (M' := M_X0_isBestStep) (As := [_, _]) iO10 (s_X0_isBestStep ho (hinv.2.oc hc) hA.1 hi (hinv.2.ot hot _ hA) (fun h1 h2 => hinv.2.ot hot _ (sub_or hA hi h1))) dX0_reachFrom_11 gX0_reachFrom_X0_isBestStep rfl rfl nn_X0_isBestStep ⟨rfl, rfl⟩ ⟨by decide, by decide⟩ rfl rfl (Nat.le_of_ble_eq_true rfl) ?_
    refine b_if_eq (tgt := 36) dX0_reachFrom_14 (by decide) (fun c14 => ?_) (fun c14 => ?_)
    · have e : rfN o R A (i + 1) = rfN o R A i := if_neg (by rw [c14]; decide)
      rw [e] at ih
      refine n_iinc (n := 1) (L' := [(2, _), (0, _), (1, _)]) dX0_reachFrom_36 rfl (by decide) rfl ?_
      refine v_goto (tgt := 2) dX0_reachFrom_39 (by decide) ?_
      refine v_sub [1, 2, 0] rfl ?_
      first | exact ih _ ⟨hinv.1.up _ _, hinv.2.up _ _⟩ | exact ih _ hinv
    · have e : rfN o R A (i + 1) = updN (rfN o R A i) (A ||| 2 ^ i) (rfN o R A i (A ||| 2 ^ i) + rfN o R A i A) := if_pos c14
      rw [e] at ih
      have hB := or_64 hA.1 hi
      refine v_aload_n dX0_reachFrom_17 rfl ?_
      refine v_get (j := 5) iO10 rfl dX0_reachFrom_18 (by decide) in_X0_reachFrom_X0 fl_X0_reachFrom_27 rfl ?_
      refine v_iload_n dX0_reachFrom_21 rfl ?_
      refine v_iconst (x := nI 1) dX0_reachFrom_22 (by decide +kernel) ?_
      refine v_iload_n dX0_reachFrom_23 rfl ?_
      refine n_shl1 dX0_reachFrom_24 (by omega) ?_
      refine n_ior dX0_reachFrom_25 ?_
      refine v_dup2 dX0_reachFrom_26 rfl rfl ?_
      refine v_ialdN (A ||| 2 ^ i) iI16 dX0_reachFrom_27 rfl hB (by decide) ?_
      refine v_top (hinv.1 _ hB) ?_
      refine v_aload_n dX0_reachFrom_28 rfl ?_
      refine v_get (j := 5) iO10 rfl dX0_reachFrom_29 (by decide) in_X0_reachFrom_X0 fl_X0_reachFrom_27 rfl ?_
      refine v_iload_n dX0_reachFrom_32 rfl ?_
      refine v_ialdN A iI16 dX0_reachFrom_33 rfl hA.1 (by decide) ?_
      refine v_top (hinv.1 _ hA.1) ?_
      refine n_iadd dX0_reachFrom_34 ?_
      refine v_iastN (A ||| 2 ^ i) iI16 dX0_reachFrom_35 rfl hB (by decide) ?_
      refine n_iinc (n := 1) (L' := [(2, _), (0, _), (1, _)]) dX0_reachFrom_36 rfl (by decide) rfl ?_
      refine v_goto (tgt := 2) dX0_reachFrom_39 (by decide) ?_
      refine v_sub [1, 2, 0] rfl ?_
      first | exact ih _ ⟨hinv.1.up _ _, hinv.2.up _ _⟩ | exact ih _ hinv
  · intro τ hinv
    refine v_iload_n dX0_reachFrom_2 rfl ?_
    refine v_bipush (x := nI 6) dX0_reachFrom_3 (by decide +kernel) ?_
    refine n_icmp_ge (tgt := 42) dX0_reachFrom_5 (by decide) (by omega) (by omega) (fun c5 => ?_) (fun c5 => absurd c5 (by omega))
    exact v_vret rfl dX0_reachFrom_42 ⟨rfl, hinv⟩
theorem RF_0 (σ : SS) : RF (updN (fun _ => 0) 0 1) (sI (sF σ 16 (filled (σ.1 16) 64 0)) 16 0 (nI 1)) ∧ FR σ (sI (sF σ 16 (filled (σ.1 16) 64 0)) 16 0 (nI 1)) := by
  refine ⟨RF.up (fun B hB => ?_) 0 1, fun a ha => ?_, rfl⟩
  · simp [sF, filled, hB]; rfl
  · rw [sI_row _ _ ha]; simp [sF, ha]
theorem hm_no {o : OD} {p q i : Nat} (h : (hmN o p q i).1 i = 0) : hmN o p q (i + 1) = hmN o p q i := if_neg (by omega)
theorem hm_yes {o : OD} {p q i : Nat} (h : 0 < (hmN o p q i).1 i) : hmN o p q (i + 1) = (rfN o (hmN o p q i).1 i 6, (hmN o p q i).2 + (hmN o p q i).1 i * eB o p q i) := if_pos h
theorem eB_no {o : OD} {p q i : Nat} (h : i / 2 ^ q % 2 ≠ 0) : eB o p q i = 0 := if_neg (by
  have : i.testBit q = true := by rw [tb_div]; simp; omega
  rw [this]; simp)
theorem eB_no2 {o : OD} {p q i : Nat} (h : bst o i p = false) : eB o p q i = 0 := if_neg (by rw [h]; simp)
theorem eB_yes {o : OD} {p q i : Nat} (h : i / 2 ^ q % 2 = 0) (h2 : bst o i p = true) : eB o p q i = (TL o (i ||| 2 ^ p)).length := if_pos (by
  have : i.testBit q = false := by rw [tb_div]; simp; omega
  rw [this, h2]; rfl)
set_option maxRecDepth 100000 in
set_option maxHeartbeats 4000000 in
theorem s_X0_howManyAhead {v : EE} {o : OD} {σ : SS} (ho : OV o) (hc : OC o σ) (hot : OT o σ) {p q : Nat} (hp : p < 6) (hq : q < 6) (hpq : p ≠ q) (hn : TL o 0 ≠ []) : SR v M_X0_howManyAhead [.ref (v.1 10), .int (nI p), .int (nI q)] σ (some (.int (nI ((TL o 0).countP (bef p q))))) (fun σ' => FR σ σ') := by
  refine Sp.of rfl (by decide) rfl (Nat.le_of_ble_eq_true rfl) ?_
  show V v M_X0_howManyAhead _ 0 [(0, .ref (v.1 10)), (1, .int (nI p)), (2, .int (nI q))] [] σ
  refine v_aload_n dX0_howManyAhead_0 rfl ?_
  refine v_get (j := 5) iO10 rfl dX0_howManyAhead_1 (by decide) in_X0_howManyAhead_X0 fl_X0_howManyAhead_27 rfl ?_
  refine v_iconst (x := 0) dX0_howManyAhead_4 rfl ?_
  refine v_callSv (M' := M_J7_fill_53178) (As := [_, _]) (s_J7_fill_53178 iI16 (by decide)) dX0_howManyAhead_5 gX0_howManyAhead_J7_fill_53178 rfl nn_J7_fill_53178 ⟨rfl, rfl⟩ ⟨by decide, by decide⟩ rfl rfl (Nat.le_of_ble_eq_true rfl) ?_
  refine v_aload_n dX0_howManyAhead_8 rfl ?_
  refine v_get (j := 5) iO10 rfl dX0_howManyAhead_9 (by decide) in_X0_howManyAhead_X0 fl_X0_howManyAhead_27 rfl ?_
  refine v_iconst (x := nI 0) dX0_howManyAhead_12 (by decide +kernel) ?_
  refine v_iconst (x := nI 1) dX0_howManyAhead_13 (by decide +kernel) ?_
  refine v_iastN 0 iI16 dX0_howManyAhead_14 rfl (by decide) (by decide) ?_
  refine v_iconst (x := nI 0) dX0_howManyAhead_15 (by decide +kernel) ?_
  refine v_istore_n (L' := [(3, _), (0, _), (1, _), (2, _)]) dX0_howManyAhead_16 rfl (by decide) rfl ?_
  refine v_iconst (x := nI 0) dX0_howManyAhead_17 (by decide +kernel) ?_
  refine v_istore (L' := [(4, _), (3, _), (0, _), (1, _), (2, _)]) dX0_howManyAhead_18 (by decide) rfl ?_
  refine v_sub [2, 3, 4, 1, 0] rfl ?_
  refine loopN (fun i => ∀ τ : SS, (RF (hmN o p q i).1 τ ∧ FR σ τ) → V v M_X0_howManyAhead (zR v M_X0_howManyAhead (fun r' σ' => r' = (some (.int (nI ((TL o 0).countP (bef p q))))) ∧ (FR σ σ'))) 20 [(0, .ref (v.1 10)), (1, .int (nI p)), (2, .int (nI q)), (3, .int (nI (hmN o p q i).2)), (4, .int (nI i))] [] τ) (oP o) ?_ ?_ _ (RF_0 σ)
  · intro i hi ih τ hinv
    have hP := ho.1
    have hle := hm_le ho hn hp hpq (i := i) (B := i) (by omega) (by omega) (by omega)
    refine v_iload dX0_howManyAhead_20 rfl ?_
    refine v_aload_n dX0_howManyAhead_22 rfl ?_
    refine v_get (j := 9) iO10 rfl dX0_howManyAhead_23 (by decide) in_X0_howManyAhead_X0 fl_X0_howManyAhead_36 rfl ?_
    refine v_top (hinv.2.oc hc).1 ?_
    refine n_icmp_ge (tgt := 92) dX0_howManyAhead_26 (by decide) (by omega) (by omega) (fun c26 => absurd c26 (by omega)) (fun c26 => ?_)
    refine v_aload_n dX0_howManyAhead_29 rfl ?_
    refine v_get (j := 5) iO10 rfl dX0_howManyAhead_30 (by decide) in_X0_howManyAhead_X0 fl_X0_howManyAhead_27 rfl ?_
    refine v_iload dX0_howManyAhead_33 rfl ?_
    refine v_ialdN i iI16 dX0_howManyAhead_35 rfl (by omega) (by decide) ?_
    refine v_top (hinv.1 _ (by omega)) ?_
    refine n_if_le (tgt := 86) dX0_howManyAhead_36 (by decide) (by omega) (fun c36 => ?_) (fun c36 => ?_)
    · rw [hm_no c36] at ih
      refine n_iinc (n := 1) (L' := [(4, _), (0, _), (1, _), (2, _), (3, _)]) dX0_howManyAhead_86 rfl (by decide) rfl ?_
      refine v_goto (tgt := 20) dX0_howManyAhead_89 (by decide) ?_
      refine v_sub [1, 2, 3, 4, 0] rfl ?_
      first | exact ih _ ⟨h1.1, hf⟩ | exact ih _ hinv
    · have hs := (hm_pos hn i i c36).1
      refine v_aload_n dX0_howManyAhead_39 rfl ?_
      refine v_iload dX0_howManyAhead_40 rfl ?_
      refine v_callVRv (M' := M_X0_reachFrom) (As := [_]) iO10 (s_X0_reachFrom ho (hinv.2.oc hc) (hinv.2.ot hot) hs hinv.1) dX0_howManyAhead_42 gX0_howManyAhead_X0_reachFrom rfl rfl nn_X0_reachFrom ⟨rfl, rfl⟩ ⟨by decide, by decide⟩ rfl rfl (Nat.le_of_ble_eq_true rfl) (fun s1 h1 => ?_)
      have hf := hinv.2.tr h1.2
      refine v_iload dX0_howManyAhead_45 rfl ?_
      refine v_iload_n dX0_howManyAhead_47 rfl ?_
      refine n_ishr dX0_howManyAhead_48 (by omega) (by omega) ?_
      refine v_iconst (x := nI 1) dX0_howManyAhead_49 (by decide +kernel) ?_
      refine n_and1 dX0_howManyAhead_50 ?_
      refine n_if_ne (tgt := 86) dX0_howManyAhead_51 (by decide) (by omega) (fun c51 => ?_) (fun c51 => ?_)
      · rw [hm_yes c36, eB_no c51, Nat.mul_zero, Nat.add_zero] at ih
        dsimp only at ih
        refine n_iinc (n := 1) (L' := [(4, _), (0, _), (1, _), (2, _), (3, _)]) dX0_howManyAhead_86 rfl (by decide) rfl ?_
        refine v_goto (tgt := 20) dX0_howManyAhead_89 (by decide) ?_
        refine v_sub [1, 2, 3, 4, 0] rfl ?_
        first | exact ih _ ⟨h1.1, hf⟩ | exact ih _ hinv
      · refine v_aload_n dX0_howManyAhead_54 rfl ?_
        refine v_iload dX0_howManyAhead_55 rfl ?_
        refine v_iload_n dX0_howManyAhead_57 rfl ?_
        refine v_callVi (M' := M_X0_isBestStep) (As := [_, _]) iO10 (s_X0_isBestStep ho (hf.oc hc) hs.1 hp (hf.ot hot _ hs) (fun q1 q2 => hf.ot hot _ (sub_or hs hp q1))) dX0_howManyAhead_58 gX0_howManyAhead_X0_isBestStep rfl rfl nn_X0_isBestStep ⟨rfl, rfl⟩ ⟨by decide, by decide⟩ rfl rfl (Nat.le_of_ble_eq_true rfl) ?_
        refine b_if_eq (tgt := 86) dX0_howManyAhead_61 (by decide) (fun c61 => ?_) (fun c61 => ?_)
        · rw [hm_yes c36, eB_no2 c61, Nat.mul_zero, Nat.add_zero] at ih
          dsimp only at ih
          refine n_iinc (n := 1) (L' := [(4, _), (0, _), (1, _), (2, _), (3, _)]) dX0_howManyAhead_86 rfl (by decide) rfl ?_
          refine v_goto (tgt := 20) dX0_howManyAhead_89 (by decide) ?_
          refine v_sub [1, 2, 3, 4, 0] rfl ?_
          first | exact ih _ ⟨h1.1, hf⟩ | exact ih _ hinv
        · have hB := or_64 hs.1 hp
          refine v_iload_n dX0_howManyAhead_64 rfl ?_
          refine v_aload_n dX0_howManyAhead_65 rfl ?_
          refine v_get (j := 5) iO10 rfl dX0_howManyAhead_66 (by decide) in_X0_howManyAhead_X0 fl_X0_howManyAhead_27 rfl ?_
          refine v_iload dX0_howManyAhead_69 rfl ?_
          refine v_ialdN i iI16 dX0_howManyAhead_71 rfl (by omega) (by decide) ?_
          refine v_top ((h1.1 _ (by omega)).trans (by rw [rfN_A])) ?_
          refine v_aload_n dX0_howManyAhead_72 rfl ?_
          refine v_get (j := 4) iO10 rfl dX0_howManyAhead_73 (by decide) in_X0_howManyAhead_X0 fl_X0_howManyAhead_24 rfl ?_
          refine v_iload dX0_howManyAhead_76 rfl ?_
          refine v_iconst (x := nI 1) dX0_howManyAhead_78 (by decide +kernel) ?_
          refine v_iload_n dX0_howManyAhead_79 rfl ?_
          refine n_shl1 dX0_howManyAhead_80 (by omega) ?_
          refine n_ior dX0_howManyAhead_81 ?_
          refine v_ialdN (i ||| 2 ^ p) iI15 dX0_howManyAhead_82 rfl hB (by decide) ?_
          refine v_top (hf.ot hot _ (sub_or hs hp (bst_sub c61).1)).2 ?_
          refine n_imul dX0_howManyAhead_83 ?_
          refine n_iadd dX0_howManyAhead_84 ?_
          refine v_istore_n (L' := [(3, _), (0, _), (1, _), (2, _), (4, _)]) dX0_howManyAhead_85 rfl (by decide) rfl ?_
          rw [hm_yes c36, eB_yes c51 c61] at ih
          dsimp only at ih
          refine n_iinc (n := 1) (L' := [(4, _), (3, _), (0, _), (1, _), (2, _)]) dX0_howManyAhead_86 rfl (by decide) rfl ?_
          refine v_goto (tgt := 20) dX0_howManyAhead_89 (by decide) ?_
          refine v_sub [2, 3, 4, 1, 0] rfl ?_
          first | exact ih _ ⟨h1.1, hf⟩ | exact ih _ hinv
  · intro τ hinv
    have hP := ho.1
    refine v_iload dX0_howManyAhead_20 rfl ?_
    refine v_aload_n dX0_howManyAhead_22 rfl ?_
    refine v_get (j := 9) iO10 rfl dX0_howManyAhead_23 (by decide) in_X0_howManyAhead_X0 fl_X0_howManyAhead_36 rfl ?_
    refine v_top (hinv.2.oc hc).1 ?_
    refine n_icmp_ge (tgt := 92) dX0_howManyAhead_26 (by decide) (by omega) (by omega) (fun c26 => ?_) (fun c26 => absurd c26 (by omega))
    refine v_iload_n dX0_howManyAhead_92 rfl ?_
    exact v_iret rfl dX0_howManyAhead_93 ⟨congrArg (fun z => some (Value.int z)) (by rw [hm_end ho hn hp hpq]), hinv.2⟩
