/-- how many bits -/
def pc (a : Nat) : Nat := sm (fun i => a / 2 ^ i % 2) 24
theorem and256 {a b c d : Nat} (ha : a < 256) (hc : c < 256) : (a + 256 * b) &&& (c + 256 * d) = (a &&& c) + 256 * (b &&& d) := by
  have hac : a &&& c < 2 ^ 8 := Nat.lt_of_le_of_lt Nat.and_le_left ha
  apply Nat.eq_of_testBit_eq
  intro i
  rw [show a + 256 * b = 2 ^ 8 * b + a by omega, show c + 256 * d = 2 ^ 8 * d + c by omega, show (a &&& c) + 256 * (b &&& d) = 2 ^ 8 * (b &&& d) + (a &&& c) by omega]
  rw [Nat.testBit_and, Nat.testBit_two_pow_mul_add _ ha, Nat.testBit_two_pow_mul_add _ hc, Nat.testBit_two_pow_mul_add _ hac]
  by_cases h : i < 8
  · simp [h]
  · simp [h]
def bu (b : Nat) : Nat := b - (b / 2 &&& 0x55)
def bv (b : Nat) : Nat := (b &&& 0x33) + (b / 4 &&& 0x33)
def bw (b : Nat) : Nat := (b + b / 16) &&& 0x0f
theorem bu_a : ∀ b, b < 256 → ∀ e, e < 2 → (b / 2 + 128 * e) &&& 0x55 = b / 2 &&& 0x55 := by decide +kernel
theorem bu_b : ∀ b, b < 256 → (b / 2 &&& 0x55) ≤ b ∧ bu b < 256 := by decide +kernel
theorem bu_c : ∀ b, b < 256 → b / 2 &&& 0x5555 = b / 2 &&& 0x55 := by decide +kernel
theorem bv_a : ∀ b, b < 256 → ∀ e, e < 4 → (b / 4 + 64 * e) &&& 0x33 = b / 4 &&& 0x33 := by decide +kernel
theorem bv_b : ∀ b, b < 256 → bv b < 256 := by decide +kernel
theorem bv_c : ∀ b, b < 256 → b / 4 &&& 0x3333 = b / 4 &&& 0x33 ∧ b &&& 0x3333 = b &&& 0x33 := by decide +kernel
theorem bw_a : ∀ b, b < 256 → ∀ e, e < 16 → (bv (bu b) + bv (bu b) / 16 + 16 * e) &&& 0x0f = bw (bv (bu b)) := by decide +kernel
theorem bw_b : ∀ b, b < 256 → bv (bu b) ≤ 0x44 ∧ bw (bv (bu b)) ≤ 8 ∧ bv (bu b) % 16 ≤ 4 ∧ (bv (bu b) + bv (bu b) / 16) &&& 0x0f0f = bw (bv (bu b)) := by decide +kernel
theorem bw_p : ∀ b, b < 256 → bw (bv (bu b)) = sm (fun i => b / 2 ^ i % 2) 8 := by decide +kernel
def bc1 (a : Nat) : Nat := a - (a / 2 &&& 0x55555555)
def bc2 (a : Nat) : Nat := (a &&& 0x33333333) + (a / 4 &&& 0x33333333)
def bc3 (a : Nat) : Nat := (a + a / 16) &&& 0x0f0f0f0f
theorem bc1_eq {a b c : Nat} (ha : a < 256) (hb : b < 256) (hc : c < 256) : bc1 (a + 256 * (b + 256 * c)) = bu a + 256 * (bu b + 256 * bu c) ∧ ((a + 256 * (b + 256 * c)) / 2 &&& 0x55555555) ≤ a + 256 * (b + 256 * c) := by
  have e1 : (a + 256 * (b + 256 * c)) / 2 = (a / 2 + 128 * (b % 2)) + 256 * ((b / 2 + 128 * (c % 2)) + 256 * (c / 2)) := by omega
  have e2 : (a + 256 * (b + 256 * c)) / 2 &&& 0x55555555 = (a / 2 &&& 0x55) + 256 * ((b / 2 &&& 0x55) + 256 * (c / 2 &&& 0x55)) := by
    rw [e1, show (0x55555555 : Nat) = 0x55 + 256 * (0x55 + 256 * 0x5555) from rfl, and256 (by omega) (by decide), and256 (by omega) (by decide), bu_a a ha _ (by omega), bu_a b hb _ (by omega), bu_c c hc]
  have h1 := (bu_b a ha).1
  have h2 := (bu_b b hb).1
  have h3 := (bu_b c hc).1
  refine ⟨?_, by rw [e2]; omega⟩
  rw [bc1, e2, bu, bu, bu]
  omega
theorem bc2_eq {a b c : Nat} (ha : a < 256) (hb : b < 256) (hc : c < 256) : bc2 (a + 256 * (b + 256 * c)) = bv a + 256 * (bv b + 256 * bv c) := by
  have e1 : (a + 256 * (b + 256 * c)) / 4 = (a / 4 + 64 * (b % 4)) + 256 * ((b / 4 + 64 * (c % 4)) + 256 * (c / 4)) := by omega
  rw [bc2, e1, show (0x33333333 : Nat) = 0x33 + 256 * (0x33 + 256 * 0x3333) from rfl, and256 ha (by decide), and256 hb (by decide), and256 (by omega) (by decide), and256 (by omega) (by decide), bv_a a ha _ (by omega), bv_a b hb _ (by omega), (bv_c c hc).1, (bv_c c hc).2, bv, bv, bv]
  omega
theorem sm_split (f : Nat → Nat) (m : Nat) : ∀ n, sm f (m + n) = sm f m + sm (fun k => f (m + k)) n
  | 0 => rfl
  | n + 1 => by
    have h := sm_split f m n
    rw [show m + (n + 1) = (m + n) + 1 by omega, sm, sm, h]
    omega
theorem bitlow (lo hi : Nat) : ∀ i, i < 8 → (lo + 256 * hi) / 2 ^ i % 2 = lo / 2 ^ i % 2 := by
  intro i h
  have : i = 0 ∨ i = 1 ∨ i = 2 ∨ i = 3 ∨ i = 4 ∨ i = 5 ∨ i = 6 ∨ i = 7 := by omega
  rcases this with rfl | rfl | rfl | rfl | rfl | rfl | rfl | rfl <;> omega
theorem bithigh {lo : Nat} (hlo : lo < 256) (hi i : Nat) : (lo + 256 * hi) / 2 ^ (8 + i) % 2 = hi / 2 ^ i % 2 := by
  rw [Nat.pow_add, ← Nat.div_div_eq_div_mul, show (lo + 256 * hi) / 2 ^ 8 = hi by omega]
theorem pc_bytes {b0 b1 b2 : Nat} (h0 : b0 < 256) (h1 : b1 < 256) : pc (b0 + 256 * (b1 + 256 * b2)) = sm (fun i => b0 / 2 ^ i % 2) 8 + sm (fun i => b1 / 2 ^ i % 2) 8 + sm (fun i => b2 / 2 ^ i % 2) 8 := by
  rw [pc, show 24 = 8 + (8 + 8) from rfl, sm_split, sm_split, Nat.add_assoc]
  congr 1
  · exact sm_cong (fun k hk => bitlow b0 _ k hk)
  · congr 1
    · exact sm_cong (fun k hk => by rw [bithigh h0]; exact bitlow b1 _ k hk)
    · exact sm_cong (fun k hk => by rw [bithigh h0, bithigh h1])
theorem bc_eq {a : Nat} (h : a < 2 ^ 24) : (let x := bc3 (bc2 (bc1 a)); let y := x + x / 256; (y + y / 65536) &&& 63) = pc a ∧ bc2 (bc1 a) < 2 ^ 24 ∧ bc3 (bc2 (bc1 a)) < 2 ^ 24 ∧ bc1 a < 2 ^ 24 ∧ (a / 2 &&& 0x55555555) ≤ a := by
  obtain ⟨b0, b1, b2, h0, h1, h2, e⟩ : ∃ b0 b1 b2, b0 < 256 ∧ b1 < 256 ∧ b2 < 256 ∧ a = b0 + 256 * (b1 + 256 * b2) := ⟨a % 256, a / 256 % 256, a / 65536, by omega, by omega, by omega, by omega⟩
  subst e
  have p0 := bw_p b0 h0
  have p1 := bw_p b1 h1
  have p2 := bw_p b2 h2
  obtain ⟨q0, r0, s0, -⟩ := bw_b b0 h0
  obtain ⟨q1, r1, s1, -⟩ := bw_b b1 h1
  obtain ⟨q2, r2, s2, t2⟩ := bw_b b2 h2
  have u0 := (bu_b b0 h0).2
  have u1 := (bu_b b1 h1).2
  have u2 := (bu_b b2 h2).2
  rw [(bc1_eq h0 h1 h2).1, bc2_eq u0 u1 u2]
  have e3 : bc3 (bv (bu b0) + 256 * (bv (bu b1) + 256 * bv (bu b2))) = bw (bv (bu b0)) + 256 * (bw (bv (bu b1)) + 256 * bw (bv (bu b2))) := by
    have e1 : (bv (bu b0) + 256 * (bv (bu b1) + 256 * bv (bu b2))) + (bv (bu b0) + 256 * (bv (bu b1) + 256 * bv (bu b2))) / 16 = (bv (bu b0) + bv (bu b0) / 16 + 16 * (bv (bu b1) % 16)) + 256 * ((bv (bu b1) + bv (bu b1) / 16 + 16 * (bv (bu b2) % 16)) + 256 * (bv (bu b2) + bv (bu b2) / 16)) := by omega
    rw [bc3, e1, show (0x0f0f0f0f : Nat) = 0x0f + 256 * (0x0f + 256 * 0x0f0f) from rfl, and256 (by omega) (by decide), and256 (by omega) (by decide), bw_a b0 h0 _ (by omega), bw_a b1 h1 _ (by omega), t2]
  rw [e3]
  refine ⟨?_, by omega, by omega, by omega, (bc1_eq h0 h1 h2).2⟩
  rw [pc_bytes h0 h1, ← p0, ← p1, ← p2]
  show _ &&& (2 ^ 6 - 1) = _
  rw [Nat.and_two_pow_sub_one_eq_mod]
  clear e3 p0 p1 p2 t2 s0 s1 s2 q0 q1 q2
  revert r0 r1 r2
  generalize bw (bv (bu b0)) = t0
  generalize bw (bv (bu b1)) = t1
  generalize bw (bv (bu b2)) = t3
  intro r0 r1 r2
  have k1 : (t0 + 256 * (t1 + 256 * t3)) / 256 = t1 + 256 * t3 := by omega
  rw [k1]
  have l1 : (t0 + 256 * (t1 + 256 * t3) + (t1 + 256 * t3)) / 65536 = t3 := by omega
  rw [l1]
  omega
theorem nI_ush {n k : Nat} (hn : n < 2 ^ 32) (hk : k < 32) (h : (((nI k).toUInt32 &&& Int32.toUInt32 31).toBitVec % 32).toNat = k) : ((nI n).toUInt32 >>> ((nI k).toUInt32 &&& Int32.toUInt32 31)).toInt32 = nI (n / 2 ^ k) := pk_ushrN hn _ k h
set_option maxRecDepth 100000 in
set_option maxHeartbeats 4000000 in
theorem s_J6_bitCount_0f7a4 {v : EE} {σ : SS} {a : Nat} (h : a < 2 ^ 24) : S1 v M_J6_bitCount_0f7a4 [.int (nI a)] σ (some (.int (nI (pc a)))) (σ) := by
  refine Sp.of rfl (by decide) rfl (Nat.le_of_ble_eq_true rfl) ?_
  show V v M_J6_bitCount_0f7a4 _ 0 [(0, .int (nI a))] [] σ
  obtain ⟨hq, h2, h3, h1, hle⟩ := bc_eq h
  refine v_iload_n dJ6_bitCount_0f7a4_0 rfl ?_
  refine v_iload_n dJ6_bitCount_0f7a4_1 rfl ?_
  refine v_iconst (x := 1) dJ6_bitCount_0f7a4_2 rfl ?_
  refine v_iushr dJ6_bitCount_0f7a4_3 rfl ?_
  refine v_top (nI_ush (n := a) (k := 1) (by omega) (by decide) (by decide +kernel)) ?_
  refine v_ldcw (x := (1431655765)) (by decide +kernel) dJ6_bitCount_0f7a4_4 ?_
  refine v_iand dJ6_bitCount_0f7a4_7 ?_
  refine v_top (y := nI (a / 2 ^ 1 &&& 0x55555555)) (fa_and _ 0x55555555) ?_
  refine v_isub dJ6_bitCount_0f7a4_8 ?_
  refine v_top (y := nI (bc1 a)) (pk_sub hle) ?_
  refine v_istore_n (L' := [(0, _)]) dJ6_bitCount_0f7a4_9 rfl (by decide) rfl ?_
  refine v_iload_n dJ6_bitCount_0f7a4_10 rfl ?_
  refine v_ldcw (x := (858993459)) (by decide +kernel) dJ6_bitCount_0f7a4_11 ?_
  refine v_iand dJ6_bitCount_0f7a4_14 ?_
  refine v_top (y := nI (bc1 a &&& 0x33333333)) (fa_and _ 0x33333333) ?_
  refine v_iload_n dJ6_bitCount_0f7a4_15 rfl ?_
  refine v_iconst (x := 2) dJ6_bitCount_0f7a4_16 rfl ?_
  refine v_iushr dJ6_bitCount_0f7a4_17 rfl ?_
  refine v_top (nI_ush (n := bc1 a) (k := 2) (by omega) (by decide) (by decide +kernel)) ?_
  refine v_ldcw (x := (858993459)) (by decide +kernel) dJ6_bitCount_0f7a4_18 ?_
  refine v_iand dJ6_bitCount_0f7a4_21 ?_
  refine v_top (y := nI (bc1 a / 2 ^ 2 &&& 0x33333333)) (fa_and _ 0x33333333) ?_
  refine v_iadd dJ6_bitCount_0f7a4_22 ?_
  refine v_top (y := nI (bc2 (bc1 a))) (nI_add _ _) ?_
  refine v_istore_n (L' := [(0, _)]) dJ6_bitCount_0f7a4_23 rfl (by decide) rfl ?_
  refine v_iload_n dJ6_bitCount_0f7a4_24 rfl ?_
  refine v_iload_n dJ6_bitCount_0f7a4_25 rfl ?_
  refine v_iconst (x := 4) dJ6_bitCount_0f7a4_26 rfl ?_
  refine v_iushr dJ6_bitCount_0f7a4_27 rfl ?_
  refine v_top (nI_ush (n := bc2 (bc1 a)) (k := 4) (by omega) (by decide) (by decide +kernel)) ?_
  refine v_iadd dJ6_bitCount_0f7a4_28 ?_
  refine v_top (y := nI (bc2 (bc1 a) + bc2 (bc1 a) / 2 ^ 4)) (nI_add _ _) ?_
  refine v_ldcw (x := (252645135)) (by decide +kernel) dJ6_bitCount_0f7a4_29 ?_
  refine v_iand dJ6_bitCount_0f7a4_32 ?_
  refine v_top (y := nI (bc3 (bc2 (bc1 a)))) (fa_and _ 0x0f0f0f0f) ?_
  refine v_istore_n (L' := [(0, _)]) dJ6_bitCount_0f7a4_33 rfl (by decide) rfl ?_
  refine v_iload_n dJ6_bitCount_0f7a4_34 rfl ?_
  refine v_iload_n dJ6_bitCount_0f7a4_35 rfl ?_
  refine v_bipush (x := 8) dJ6_bitCount_0f7a4_36 (by decide +kernel) ?_
  refine v_iushr dJ6_bitCount_0f7a4_38 rfl ?_
  refine v_top (nI_ush (n := bc3 (bc2 (bc1 a))) (k := 8) (by omega) (by decide) (by decide +kernel)) ?_
  refine v_iadd dJ6_bitCount_0f7a4_39 ?_
  refine v_top (y := nI (bc3 (bc2 (bc1 a)) + bc3 (bc2 (bc1 a)) / 256)) (nI_add _ _) ?_
  refine v_istore_n (L' := [(0, _)]) dJ6_bitCount_0f7a4_40 rfl (by decide) rfl ?_
  refine v_iload_n dJ6_bitCount_0f7a4_41 rfl ?_
  refine v_iload_n dJ6_bitCount_0f7a4_42 rfl ?_
  refine v_bipush (x := 16) dJ6_bitCount_0f7a4_43 (by decide +kernel) ?_
  refine v_iushr dJ6_bitCount_0f7a4_45 rfl ?_
  refine v_top (nI_ush (n := bc3 (bc2 (bc1 a)) + bc3 (bc2 (bc1 a)) / 256) (k := 16) (by omega) (by decide) (by decide +kernel)) ?_
  refine v_iadd dJ6_bitCount_0f7a4_46 ?_
  refine v_top (nI_add _ _) ?_
  refine v_istore_n (L' := [(0, _)]) dJ6_bitCount_0f7a4_47 rfl (by decide) rfl ?_
  refine v_iload_n dJ6_bitCount_0f7a4_48 rfl ?_
  refine v_bipush (x := 63) dJ6_bitCount_0f7a4_49 (by decide +kernel) ?_
  refine v_iand dJ6_bitCount_0f7a4_51 ?_
  refine v_top (fa_and _ 63) ?_
  exact v_iret rfl dJ6_bitCount_0f7a4_52 ⟨congrArg (fun z => some (Value.int (nI z))) hq, rfl⟩
theorem sF_sF (σ : SS) (q : Nat) (f g : Nat → Int32) : sF (sF σ q f) q g = sF σ q g := by
  simp only [sF]
  congr 1
  funext a
  by_cases h : a = q <;> simp [h]
theorem sF_self (σ : SS) (q : Nat) : sF σ q (σ.1 q) = σ := by
  simp only [sF]
  have : (fun a => if a = q then σ.1 q else σ.1 a) = σ.1 := by
    funext a
    by_cases h : a = q
    · rw [if_pos h, h]
    · rw [if_neg h]
  rw [this]
theorem sI_sF (σ : SS) (q j : Nat) (f : Nat → Int32) (x : Int32) : sI (sF σ q f) q j x = sF σ q (upd f j x) := by
  simp only [sF, sI, if_true]
  congr 1
  funext a
  by_cases h : a = q <;> simp [h]
def filled (f : Nat → Int32) (n : Nat) (x : Int32) : Nat → Int32 := fun j => if j < n then x else f j
theorem filled_succ (f : Nat → Int32) (n : Nat) (x : Int32) : upd (filled f n x) n x = filled f (n + 1) x := by
  funext j
  by_cases h : j = n
  · subst h; simp [upd, filled]
  · by_cases h2 : j < n
    · simp [upd, filled, h, h2, Nat.lt_succ_of_lt h2]
    · simp [upd, filled, h, h2, show ¬ j < n + 1 by omega]
theorem filled_0 (f : Nat → Int32) (x : Int32) : filled f 0 x = f := by funext j; simp [filled]
set_option maxRecDepth 100000 in
set_option maxHeartbeats 4000000 in
theorem s_J7_fill_53178 {v : EE} {σ : SS} {q n : Nat} (hq : isI v q n) (hn : n < 2 ^ 31) {x : Int32} : S1 v M_J7_fill_53178 [.ref (v.1 q), .int x] σ none (sF σ q (filled (σ.1 q) n x)) := by
  refine Sp.of rfl (by decide) rfl (Nat.le_of_ble_eq_true rfl) ?_
  show V v M_J7_fill_53178 _ 0 [(0, .ref (v.1 q)), (1, .int x)] [] σ
  refine v_iconst (x := 0) dJ7_fill_53178_0 rfl ?_
  refine v_istore_n (L' := [(2, _), (0, _), (1, _)]) dJ7_fill_53178_1 rfl (by decide) rfl ?_
  refine v_aload_n dJ7_fill_53178_2 rfl ?_
  refine v_ialen hq dJ7_fill_53178_3 rfl ?_
  refine v_istore_n (L' := [(3, _), (2, _), (0, _), (1, _)]) dJ7_fill_53178_4 rfl (by decide) rfl ?_
  refine v_st (σ' := sF σ q (filled (σ.1 q) 0 x)) (by rw [filled_0, sF_self]) ?_
  refine v_sub [2, 3, 1, 0] rfl ?_
  refine loopN (fun i => V v M_J7_fill_53178 (zR v M_J7_fill_53178 (fun r' σ' => r' = none ∧ σ' = (sF σ q (filled (σ.1 q) n x)))) 5 [(0, .ref (v.1 q)), (1, .int x), (2, .int (nI i)), (3, .int (Int32.ofNat n))] [] (sF σ q (filled (σ.1 q) i x))) n ?_ ?_
  · intro i hi ih
    refine v_iload_n dJ7_fill_53178_5 rfl ?_
    refine v_iload_n dJ7_fill_53178_6 rfl ?_
    refine v_icmp_ge (tgt := 20) dJ7_fill_53178_7 (by decide) (fun c7 => absurd c7 (nI_ge hi hn)) (fun c7 => ?_)
    refine v_aload_n dJ7_fill_53178_10 rfl ?_
    refine v_iload_n dJ7_fill_53178_11 rfl ?_
    refine v_iload_n dJ7_fill_53178_12 rfl ?_
    refine v_iastN i hq dJ7_fill_53178_13 rfl hi hn ?_
    refine v_st (by rw [sI_sF, filled_succ]) ?_
    refine v_iinc (y := nI (i + 1)) (L' := [(2, .int (nI (i + 1))), (0, _), (1, _), (3, _)]) dJ7_fill_53178_14 rfl (nI_1 i) (by decide) rfl ?_
    refine v_goto (tgt := 5) dJ7_fill_53178_17 (by decide) ?_
    refine v_sub [1, 2, 0, 3] rfl ?_
    exact ih
  · refine v_iload_n dJ7_fill_53178_5 rfl ?_
    refine v_iload_n dJ7_fill_53178_6 rfl ?_
    refine v_icmp_ge (tgt := 20) dJ7_fill_53178_7 (by decide) (fun c7 => ?_) (fun c7 => absurd (nI_le (Nat.le_refl _) hn) c7)
    exact v_vret rfl dJ7_fill_53178_20 ⟨rfl, rfl⟩
