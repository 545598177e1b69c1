theorem in_X5_lowest_X5 : ∀ w ∈ u_ws RX5 TX5 29, w ∈ mWs M_X5_lowest := by decide +kernel
theorem fl_X5_lowest_167 : Cond.fieldLink (mOwn M_X5_lowest) 167 (TX5 26).1 (TX5 26).2.1 (TX5 26).2.2.1 ∈ mWs M_X5_lowest := by decide +kernel
theorem fl_X5_lowest_171 : Cond.fieldLink (mOwn M_X5_lowest) 171 (TX5 27).1 (TX5 27).2.1 (TX5 27).2.2.1 ∈ mWs M_X5_lowest := by decide +kernel
/-- v * (n - k + i) / i, and on -/
def chf (n k : Nat) : Nat → Nat
  | 0 => 1
  | i + 1 => chf n k i * (n - k + (i + 1)) / (i + 1)
theorem chf_le : ∀ n, n < 17 → ∀ k, k < n + 1 → ∀ i, i < k + 1 → chf n k i ≤ 20000 ∧ 0 < chf n k i := by decide +kernel
def chz (n : Nat) (x : Int32) : Nat := if x < 0 ∨ nI n < x then 0 else chf n x.toNatClampNeg x.toNatClampNeg
theorem chz_in {n k : Nat} (hn : n < 17) (h : k ≤ n) : chz n (nI k) = chf n k k := by
  rw [chz, if_neg, nI_clamp (by omega)]
  rintro (q | q)
  · exact nI_pos (by omega) q
  · exact nI_nlt h (by omega) q
theorem chz_hi {n k : Nat} (hk : k < 2 ^ 31) (h : n < k) : chz n (nI k) = 0 := by
  rw [chz, if_pos (Or.inr (nI_lt h hk))]
theorem chz_neg {n b j : Nat} (hj : j < 2 ^ 30) (h : b < j) : chz n (nI b - nI j) = 0 := by
  rw [chz, if_pos (Or.inl (pk_sneg hj h))]
theorem lN_mulN (a b : Nat) : lN a * lN b = lN (a * b) := lN_mul a b
set_option maxRecDepth 100000 in
set_option maxHeartbeats 4000000 in
theorem s_X4_choices {v : EE} {σ : SS} {n : Nat} (hn : n < 17) (x : Int32) : S1 v M_X4_choices [.int (nI n), .int x] σ (some (.long (lN (chz n x)))) (σ) := by
  refine Sp.of rfl (by decide) rfl (Nat.le_of_ble_eq_true rfl) ?_
  show V v M_X4_choices _ 0 [(0, .int (nI n)), (1, .int x)] [] σ
  refine v_iload_n dX4_choices_0 rfl ?_
  refine v_if_lt (tgt := 9) dX4_choices_1 (by decide) (fun c1 => ?_) (fun c1 => ?_)
  · refine v_lconst (x := 0) dX4_choices_9 rfl ?_
    exact v_lret rfl dX4_choices_10 ⟨congrArg (fun z => some (Value.long z)) (by rw [chz, if_pos (Or.inl c1)]; rfl), rfl⟩
  · refine v_iload_n dX4_choices_4 rfl ?_
    refine v_iload_n dX4_choices_5 rfl ?_
    refine v_icmp_le (tgt := 11) dX4_choices_6 (by decide) (fun c6 => ?_) (fun c6 => ?_)
    · obtain ⟨k, hk2, rfl⟩ := nI_of c1
      have hk : k ≤ n := (nI_leI hk2 (by omega)).mp c6
      refine v_lconst (x := 1) dX4_choices_11 rfl ?_
      refine v_lstore_n (L' := [(2, _), (0, _), (1, _)]) dX4_choices_12 rfl (by decide) rfl ?_
      refine v_iconst (x := 1) dX4_choices_13 rfl ?_
      refine v_istore (L' := [(4, _), (2, _), (0, _), (1, _)]) dX4_choices_14 (by decide) rfl ?_
      refine v_sub [2, 3, 1, 0] rfl ?_
      refine loopN (fun i => V v M_X4_choices (zR v M_X4_choices (fun r' σ' => r' = (some (.long (lN (chz n (nI k))))) ∧ σ' = (σ))) 16 [(0, .int (nI n)), (1, .int (nI k)), (2, .long (lN (chf n k i))), (4, .int (nI (i + 1)))] [] (σ)) k ?_ ?_
      · intro i hi ih
        have hb9 := chf_le n (by omega) k (by omega) i (by omega)
        refine v_iload dX4_choices_16 rfl ?_
        refine v_iload_n dX4_choices_18 rfl ?_
        refine v_icmp_gt (tgt := 42) dX4_choices_19 (by decide) (fun c19 => absurd c19 (nI_nlt (show i + 1 ≤ k by omega) (by omega))) (fun c19 => ?_)
        refine v_lload_n dX4_choices_22 rfl ?_
        refine v_iload_n dX4_choices_23 rfl ?_
        refine v_iload_n dX4_choices_24 rfl ?_
        refine v_isub dX4_choices_25 ?_
        refine v_iload dX4_choices_26 rfl ?_
        refine v_iadd dX4_choices_28 ?_
        refine v_i2l dX4_choices_29 ?_
        refine v_topl (y := lN (n - k + (i + 1))) (by rw [pk_sub hk, nI_add, nI_l (by omega)]) ?_
        refine v_lmul dX4_choices_30 ?_
        refine v_topl (lN_mulN _ _) ?_
        refine v_iload dX4_choices_31 rfl ?_
        refine v_i2l dX4_choices_33 ?_
        refine v_topl (y := lN (i + 1)) (nI_l (by omega)) ?_
        refine v_ldiv dX4_choices_34 (fun q => by have := (pk_lEQ (a := i + 1) (b := 0) (by omega) (by decide)).mp q; omega) ?_
        refine v_topl (y := lN (chf n k (i + 1))) (pk_lDiv (by have : chf n k i * (n - k + (i + 1)) ≤ 20000 * 17 := Nat.mul_le_mul hb9.1 (by omega); omega) (by omega) (by omega)) ?_
        refine v_lstore_n (L' := [(2, _), (0, _), (1, _), (4, _)]) dX4_choices_35 rfl (by decide) rfl ?_
        refine v_iinc (y := nI (i + 1 + 1)) (L' := [(4, .int (nI (i + 1 + 1))), (2, _), (0, _), (1, _)]) dX4_choices_36 rfl (nI_1 (i + 1)) (by decide) rfl ?_
        refine v_goto (tgt := 16) dX4_choices_39 (by decide) ?_
        refine v_sub [2, 3, 1, 0] rfl ?_
        exact ih
      · refine v_iload dX4_choices_16 rfl ?_
        refine v_iload_n dX4_choices_18 rfl ?_
        refine v_icmp_gt (tgt := 42) dX4_choices_19 (by decide) (fun c19 => ?_) (fun c19 => absurd (nI_lt (show k < k + 1 by omega) (by omega)) c19)
        refine v_lload_n dX4_choices_42 rfl ?_
        exact v_lret rfl dX4_choices_43 ⟨congrArg (fun z => some (Value.long z)) (by rw [chz_in hn hk]), rfl⟩
    · refine v_lconst (x := 0) dX4_choices_9 rfl ?_
      exact v_lret rfl dX4_choices_10 ⟨congrArg (fun z => some (Value.long z)) (by rw [chz, if_pos (Or.inr (fa_of_nle c6))]; rfl), rfl⟩
set_option maxRecDepth 100000 in
set_option maxHeartbeats 4000000 in
theorem s_X5_choose {v : EE} {σ : SS} {n : Nat} (hn : n < 17) (x : Int32) : S1 v M_X5_choose [.int (nI n), .int x] σ (some (.long (lN (chz n x)))) (σ) := by
  refine Sp.of rfl (by decide) rfl (Nat.le_of_ble_eq_true rfl) ?_
  show V v M_X5_choose _ 0 [(0, .int (nI n)), (1, .int x)] [] σ
  refine v_iload_n dX5_choose_0 rfl ?_
  refine v_if_lt (tgt := 9) dX5_choose_1 (by decide) (fun c1 => ?_) (fun c1 => ?_)
  · refine v_lconst (x := 0) dX5_choose_9 rfl ?_
    exact v_lret rfl dX5_choose_10 ⟨congrArg (fun z => some (Value.long z)) (by rw [chz, if_pos (Or.inl c1)]; rfl), rfl⟩
  · refine v_iload_n dX5_choose_4 rfl ?_
    refine v_iload_n dX5_choose_5 rfl ?_
    refine v_icmp_le (tgt := 11) dX5_choose_6 (by decide) (fun c6 => ?_) (fun c6 => ?_)
    · obtain ⟨k, hk2, rfl⟩ := nI_of c1
      have hk : k ≤ n := (nI_leI hk2 (by omega)).mp c6
      refine v_lconst (x := 1) dX5_choose_11 rfl ?_
      refine v_lstore_n (L' := [(2, _), (0, _), (1, _)]) dX5_choose_12 rfl (by decide) rfl ?_
      refine v_iconst (x := 1) dX5_choose_13 rfl ?_
      refine v_istore (L' := [(4, _), (2, _), (0, _), (1, _)]) dX5_choose_14 (by decide) rfl ?_
      refine v_sub [2, 3, 1, 0] rfl ?_
      refine loopN (fun i => V v M_X5_choose (zR v M_X5_choose (fun r' σ' => r' = (some (.long (lN (chz n (nI k))))) ∧ σ' = (σ))) 16 [(0, .int (nI n)), (1, .int (nI k)), (2, .long (lN (chf n k i))), (4, .int (nI (i + 1)))] [] (σ)) k ?_ ?_
      · intro i hi ih
        have hb9 := chf_le n (by omega) k (by omega) i (by omega)
        refine v_iload dX5_choose_16 rfl ?_
        refine v_iload_n dX5_choose_18 rfl ?_
        refine v_icmp_gt (tgt := 42) dX5_choose_19 (by decide) (fun c19 => absurd c19 (nI_nlt (show i + 1 ≤ k by omega) (by omega))) (fun c19 => ?_)
        refine v_lload_n dX5_choose_22 rfl ?_
        refine v_iload_n dX5_choose_23 rfl ?_
        refine v_iload_n dX5_choose_24 rfl ?_
        refine v_isub dX5_choose_25 ?_
        refine v_iload dX5_choose_26 rfl ?_
        refine v_iadd dX5_choose_28 ?_
        refine v_i2l dX5_choose_29 ?_
        refine v_topl (y := lN (n - k + (i + 1))) (by rw [pk_sub hk, nI_add, nI_l (by omega)]) ?_
        refine v_lmul dX5_choose_30 ?_
        refine v_topl (lN_mulN _ _) ?_
        refine v_iload dX5_choose_31 rfl ?_
        refine v_i2l dX5_choose_33 ?_
        refine v_topl (y := lN (i + 1)) (nI_l (by omega)) ?_
        refine v_ldiv dX5_choose_34 (fun q => by have := (pk_lEQ (a := i + 1) (b := 0) (by omega) (by decide)).mp q; omega) ?_
        refine v_topl (y := lN (chf n k (i + 1))) (pk_lDiv (by have : chf n k i * (n - k + (i + 1)) ≤ 20000 * 17 := Nat.mul_le_mul hb9.1 (by omega); omega) (by omega) (by omega)) ?_
        refine v_lstore_n (L' := [(2, _), (0, _), (1, _), (4, _)]) dX5_choose_35 rfl (by decide) rfl ?_
        refine v_iinc (y := nI (i + 1 + 1)) (L' := [(4, .int (nI (i + 1 + 1))), (2, _), (0, _), (1, _)]) dX5_choose_36 rfl (nI_1 (i + 1)) (by decide) rfl ?_
        refine v_goto (tgt := 16) dX5_choose_39 (by decide) ?_
        refine v_sub [2, 3, 1, 0] rfl ?_
        exact ih
      · refine v_iload dX5_choose_16 rfl ?_
        refine v_iload_n dX5_choose_18 rfl ?_
        refine v_icmp_gt (tgt := 42) dX5_choose_19 (by decide) (fun c19 => ?_) (fun c19 => absurd (nI_lt (show k < k + 1 by omega) (by omega)) c19)
        refine v_lload_n dX5_choose_42 rfl ?_
        exact v_lret rfl dX5_choose_43 ⟨congrArg (fun z => some (Value.long z)) (by rw [chz_in hn hk]), rfl⟩
    · refine v_lconst (x := 0) dX5_choose_9 rfl ?_
      exact v_lret rfl dX5_choose_10 ⟨congrArg (fun z => some (Value.long z)) (by rw [chz, if_pos (Or.inr (fa_of_nle c6))]; rfl), rfl⟩
/-- Euclid, i steps done -/
def eu (G i x y : Nat) : Prop := Nat.gcd x y = G ∧ x < 2 ^ 62 ∧ y < 2 ^ 62 ∧ y < 2 ^ (64 - i / 2) ∧ (i % 2 = 1 → x < 2 ^ (64 - (i - 1) / 2) ∧ y < x)
theorem eu_0 {x y : Nat} (hx : x < 2 ^ 62) (hy : y < 2 ^ 62) : eu (Nat.gcd x y) 0 x y := ⟨rfl, hx, hy, Nat.lt_of_lt_of_le hy (by decide), fun h => by omega⟩
theorem eu_s {G i x y : Nat} (h : eu G i x y) (h0 : y ≠ 0) (hi : i < 128) : eu G (i + 1) y (x % y) := by
  obtain ⟨h1, hx, hy, h2, h3⟩ := h
  have hlt := Nat.mod_lt x (Nat.pos_of_ne_zero h0)
  refine ⟨by rw [← h1, Nat.gcd_comm x y, Nat.gcd_rec y x, Nat.gcd_comm], hy, by omega, ?_, fun q => ?_⟩
  · by_cases e : i % 2 = 1
    · obtain ⟨h4, h5⟩ := h3 e
      have e1 : (i + 1) / 2 = (i - 1) / 2 + 1 := by omega
      rw [e1]
      have e2 : 2 ^ (64 - (i - 1) / 2) = 2 * 2 ^ (64 - ((i - 1) / 2 + 1)) := by
        rw [show 64 - (i - 1) / 2 = (64 - ((i - 1) / 2 + 1)) + 1 by omega, Nat.pow_succ, Nat.mul_comm]
      have e3 : 2 * (x % y) < x := by
        have := Nat.div_add_mod x y
        have hq : 1 ≤ x / y := Nat.div_pos (Nat.le_of_lt h5) (Nat.pos_of_ne_zero h0)
        have : y ≤ y * (x / y) := Nat.le_mul_of_pos_right y hq
        omega
      omega
    · have e1 : (i + 1) / 2 = i / 2 := by omega
      rw [e1]
      omega
  · have e1 : (i + 1 - 1) / 2 = i / 2 := by omega
    rw [e1]
    exact ⟨h2, hlt⟩
theorem eu_128 {G x y : Nat} (h : eu G 128 x y) : y = 0 := by
  have := h.2.2.2.1
  simp at this
  exact this
theorem eu_end {G i x : Nat} (h : eu G i x 0) : x = G := by rw [← h.1, Nat.gcd_zero_right]
theorem lN0 {a : Nat} (h : a < 2 ^ 63) : lg_cmp (lN a) 0 = 0 ↔ a = 0 := by
  rw [lg_cmp_eq]
  exact pk_lEQ (b := 0) h (by decide)
theorem lNz {a : Nat} (h : a < 2 ^ 63) (h0 : a ≠ 0) : ¬ lN a = 0 := fun q => h0 ((pk_lEQ (b := 0) h (by decide)).mp q)
set_option maxRecDepth 100000 in
set_option maxHeartbeats 4000000 in
theorem x4_low {v : EE} {σ : SS} {a b p : Nat} (ha : a < 2 ^ 62) (hb : b < 2 ^ 62) (h0 : 0 < b) (hp : p < 2) : ∀ (f i x y : Nat), i + f = 128 → eu (Nat.gcd a b) i x y → V v M_X4_lowest (zR v M_X4_lowest (fun r' σ' => r' = (some (.long (lN ((if p = 0 then a else b) / Nat.gcd a b)))) ∧ σ' = σ)) 9 [(0, .long (lN a)), (2, .long (lN b)), (4, .int (nI p)), (5, .long (lN x)), (7, .long (lN y)), (9, .int (nI i))] [] σ := by
  have hg0 : Nat.gcd a b ≠ 0 := fun h => by have := (Nat.gcd_eq_zero_iff.mp h).2; omega
  have hgl : Nat.gcd a b < 2 ^ 62 := Nat.lt_of_le_of_lt (Nat.gcd_le_right a h0) hb
  have fin : ∀ (x y i : Nat), y = 0 → eu (Nat.gcd a b) i x y → V v M_X4_lowest (zR v M_X4_lowest (fun r' σ' => r' = (some (.long (lN ((if p = 0 then a else b) / Nat.gcd a b)))) ∧ σ' = σ)) 45 [(0, .long (lN a)), (2, .long (lN b)), (4, .int (nI p)), (5, .long (lN x)), (7, .long (lN y)), (9, .int (nI i))] [] σ := by
    intro x y i hy he
    subst hy
    have hx := eu_end he
    subst hx
    refine v_lload dX4_lowest_45 rfl ?_
    refine v_lconst (x := 0) dX4_lowest_47 rfl ?_
    refine v_lcmp dX4_lowest_48 ?_
    refine v_if_ne (tgt := 54) dX4_lowest_49 (by decide) (fun c49 => ?_) (fun c49 => absurd c49 (fun q => hg0 ((lN0 (by omega)).mp q)))
    refine v_iload dX4_lowest_54 rfl ?_
    refine v_if_ne (tgt := 63) dX4_lowest_56 (by decide) (fun c56 => ?_) (fun c56 => ?_)
    · refine v_lload_n dX4_lowest_63 rfl ?_
      refine v_lload dX4_lowest_64 rfl ?_
      refine v_ldiv dX4_lowest_66 (lNz (by omega) hg0) ?_
      exact v_lret rfl dX4_lowest_67 ⟨congrArg (fun z => some (Value.long z)) (by rw [if_neg (fun q => c56 (by rw [q]; rfl)), pk_lDiv (by omega) (by omega) (by omega)]), rfl⟩
    · refine v_lload_n dX4_lowest_59 rfl ?_
      refine v_goto (tgt := 64) dX4_lowest_60 (by decide) ?_
      refine v_lload dX4_lowest_64 rfl ?_
      refine v_ldiv dX4_lowest_66 (lNz (by omega) hg0) ?_
      exact v_lret rfl dX4_lowest_67 ⟨congrArg (fun z => some (Value.long z)) (by rw [if_pos ((nI_eq (b := 0) (by omega) (by decide)).mp c56), pk_lDiv (by omega) (by omega) (by omega)]), rfl⟩
  intro f
  induction f with
  | zero =>
    intro i x y hi he
    have e128 : i = 128 := by omega
    subst e128
    have hy := eu_128 he
    refine v_iload dX4_lowest_9 rfl ?_
    refine v_sipush (x := 200) dX4_lowest_11 (by decide +kernel) ?_
    refine v_icmp_ge (tgt := 45) dX4_lowest_14 (by decide) (fun c14 => absurd c14 (nI_ge (show 128 < 200 by decide) (by decide))) (fun c14 => ?_)
    refine v_lload dX4_lowest_17 rfl ?_
    refine v_lconst (x := 0) dX4_lowest_19 rfl ?_
    refine v_lcmp dX4_lowest_20 ?_
    refine v_if_eq (tgt := 45) dX4_lowest_21 (by decide) (fun c21 => ?_) (fun c21 => absurd ((lN0 (by omega)).mpr hy) c21)
    exact fin x y 128 hy he
  | succ f ih =>
    intro i x y hi he
    have hx := he.2.1
    have hy := he.2.2.1
    refine v_iload dX4_lowest_9 rfl ?_
    refine v_sipush (x := 200) dX4_lowest_11 (by decide +kernel) ?_
    refine v_icmp_ge (tgt := 45) dX4_lowest_14 (by decide) (fun c14 => absurd c14 (nI_ge (show i < 200 by omega) (by decide))) (fun c14 => ?_)
    refine v_lload dX4_lowest_17 rfl ?_
    refine v_lconst (x := 0) dX4_lowest_19 rfl ?_
    refine v_lcmp dX4_lowest_20 ?_
    refine v_if_eq (tgt := 45) dX4_lowest_21 (by decide) (fun c21 => ?_) (fun c21 => ?_)
    · exact fin x y i ((lN0 (by omega)).mp c21) he
    · have hy0 : y ≠ 0 := fun q => c21 ((lN0 (by omega)).mpr q)
      refine v_lload dX4_lowest_24 rfl ?_
      refine v_lload dX4_lowest_26 rfl ?_
      refine v_lrem dX4_lowest_28 (lNz (by omega) hy0) ?_
      refine v_topl (pk_lRem (by omega) (by omega) (by omega)) ?_
      refine v_lstore (L' := [(10, _), (0, _), (2, _), (4, _), (5, _), (7, _), (9, _)]) dX4_lowest_29 (by decide) rfl ?_
      refine v_lload dX4_lowest_31 rfl ?_
      refine v_lstore (L' := [(5, _), (10, _), (0, _), (2, _), (4, _), (7, _), (9, _)]) dX4_lowest_33 (by decide) rfl ?_
      refine v_lload dX4_lowest_35 rfl ?_
      refine v_lstore (L' := [(7, _), (5, _), (10, _), (0, _), (2, _), (4, _), (9, _)]) dX4_lowest_37 (by decide) rfl ?_
      refine v_iinc (y := nI (i + 1)) (L' := [(9, .int (nI (i + 1))), (7, _), (5, _), (10, _), (0, _), (2, _), (4, _)]) dX4_lowest_39 rfl (nI_1 i) (by decide) rfl ?_
      refine v_goto (tgt := 9) dX4_lowest_42 (by decide) ?_
      refine v_sub [4, 5, 6, 2, 1, 0] rfl ?_
      exact ih (i + 1) y (x % y) (by omega) (eu_s he hy0 (by omega))
set_option maxRecDepth 100000 in
set_option maxHeartbeats 4000000 in
theorem s_X4_lowest {v : EE} {σ : SS} {a b p : Nat} (ha : a < 2 ^ 62) (hb : b < 2 ^ 62) (h0 : 0 < b) (hp : p < 2) : S1 v M_X4_lowest [.long (lN a), .long (lN b), .int (nI p)] σ (some (.long (lN ((if p = 0 then a else b) / Nat.gcd a b)))) (σ) := by
  refine Sp.of rfl (by decide) rfl (Nat.le_of_ble_eq_true rfl) ?_
  show V v M_X4_lowest _ 0 [(0, .long (lN a)), (2, .long (lN b)), (4, .int (nI p))] [] σ
  refine v_lload_n dX4_lowest_0 rfl ?_
  refine v_lstore (L' := [(5, _), (0, _), (2, _), (4, _)]) dX4_lowest_1 (by decide) rfl ?_
  refine v_lload_n dX4_lowest_3 rfl ?_
  refine v_lstore (L' := [(7, _), (5, _), (0, _), (2, _), (4, _)]) dX4_lowest_4 (by decide) rfl ?_
  refine v_iconst (x := 0) dX4_lowest_6 rfl ?_
  refine v_istore (L' := [(9, _), (7, _), (5, _), (0, _), (2, _), (4, _)]) dX4_lowest_7 (by decide) rfl ?_
  refine v_sub [3, 4, 5, 2, 1, 0] rfl ?_
  exact x4_low ha hb h0 hp 128 0 a b rfl (eu_0 ha hb)
set_option maxRecDepth 100000 in
set_option maxHeartbeats 4000000 in
theorem x5_low {v : EE} {σ : SS} {a b : Nat} (ha : a < 2 ^ 62) (hb : b < 2 ^ 62) (h0 : 0 < b) : ∀ (f y x : Nat), y < f → Nat.gcd x y = Nat.gcd a b → x < 2 ^ 62 → y < 2 ^ 62 → V v M_X5_lowest (zR v M_X5_lowest (fun r' σ' => r' = none ∧ σ' = (sJ (sJ σ 40 26 (lN (a / Nat.gcd a b))) 40 27 (lN (b / Nat.gcd a b))))) 6 [(0, .ref (v.1 40)), (1, .long (lN a)), (3, .long (lN b)), (5, .long (lN x)), (7, .long (lN y))] [] σ := by
  have hg0 : Nat.gcd a b ≠ 0 := fun h => by have := (Nat.gcd_eq_zero_iff.mp h).2; omega
  have hgl : Nat.gcd a b < 2 ^ 62 := Nat.lt_of_le_of_lt (Nat.gcd_le_right a h0) hb
  intro f
  induction f with
  | zero => intro y x h; omega
  | succ f ih =>
    intro y x hf hg hx hy
    refine v_lload dX5_lowest_6 rfl ?_
    refine v_lconst (x := 0) dX5_lowest_8 rfl ?_
    refine v_lcmp dX5_lowest_9 ?_
    refine v_if_eq (tgt := 31) dX5_lowest_10 (by decide) (fun c10 => ?_) (fun c10 => ?_)
    · have hy0 : y = 0 := (lN0 (by omega)).mp c10
      subst hy0
      rw [Nat.gcd_zero_right] at hg
      subst hg
      refine v_aload_n dX5_lowest_31 rfl ?_
      refine v_lload_n dX5_lowest_32 rfl ?_
      refine v_lload dX5_lowest_33 rfl ?_
      refine v_ldiv dX5_lowest_35 (lNz (by omega) hg0) ?_
      refine v_topl (pk_lDiv (by omega) (by omega) (by omega)) ?_
      refine pX5_26 dX5_lowest_36 in_X5_lowest_X5 fl_X5_lowest_167 ?_
      refine v_aload_n dX5_lowest_39 rfl ?_
      refine v_lload_n dX5_lowest_40 rfl ?_
      refine v_lload dX5_lowest_41 rfl ?_
      refine v_ldiv dX5_lowest_43 (lNz (by omega) hg0) ?_
      refine v_topl (pk_lDiv (by omega) (by omega) (by omega)) ?_
      refine pX5_27 dX5_lowest_44 in_X5_lowest_X5 fl_X5_lowest_171 ?_
      exact v_vret rfl dX5_lowest_47 ⟨rfl, rfl⟩
    · have hy0 : y ≠ 0 := fun q => c10 ((lN0 (by omega)).mpr q)
      have hlt := Nat.mod_lt x (Nat.pos_of_ne_zero hy0)
      refine v_lload dX5_lowest_13 rfl ?_
      refine v_lload dX5_lowest_15 rfl ?_
      refine v_lrem dX5_lowest_17 (lNz (by omega) hy0) ?_
      refine v_topl (pk_lRem (by omega) (by omega) (by omega)) ?_
      refine v_lstore (L' := [(9, _), (0, _), (1, _), (3, _), (5, _), (7, _)]) dX5_lowest_18 (by decide) rfl ?_
      refine v_lload dX5_lowest_20 rfl ?_
      refine v_lstore (L' := [(5, _), (9, _), (0, _), (1, _), (3, _), (7, _)]) dX5_lowest_22 (by decide) rfl ?_
      refine v_lload dX5_lowest_24 rfl ?_
      refine v_lstore (L' := [(7, _), (5, _), (9, _), (0, _), (1, _), (3, _)]) dX5_lowest_26 (by decide) rfl ?_
      refine v_goto (tgt := 6) dX5_lowest_28 (by decide) ?_
      refine v_sub [3, 4, 5, 1, 0] rfl ?_
      exact ih (x % y) y (by omega) (by rw [← hg, Nat.gcd_comm x y, Nat.gcd_rec y x, Nat.gcd_comm]) hy (by omega)
set_option maxRecDepth 100000 in
set_option maxHeartbeats 4000000 in
theorem s_X5_lowest {v : EE} {σ : SS} {a b : Nat} (ha : a < 2 ^ 62) (hb : b < 2 ^ 62) (h0 : 0 < b) : S1 v M_X5_lowest [.ref (v.1 40), .long (lN a), .long (lN b)] σ none (sJ (sJ σ 40 26 (lN (a / Nat.gcd a b))) 40 27 (lN (b / Nat.gcd a b))) := by
  refine Sp.of rfl (by decide) rfl (Nat.le_of_ble_eq_true rfl) ?_
  show V v M_X5_lowest _ 0 [(0, .ref (v.1 40)), (1, .long (lN a)), (3, .long (lN b))] [] σ
  refine v_lload_n dX5_lowest_0 rfl ?_
  refine v_lstore (L' := [(5, _), (0, _), (1, _), (3, _)]) dX5_lowest_1 (by decide) rfl ?_
  refine v_lload_n dX5_lowest_3 rfl ?_
  refine v_lstore (L' := [(7, _), (5, _), (0, _), (1, _), (3, _)]) dX5_lowest_4 (by decide) rfl ?_
  refine v_sub [2, 3, 4, 1, 0] rfl ?_
  exact x5_low ha hb h0 (b + 1) b a (by omega) rfl ha hb
