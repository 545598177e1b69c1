theorem in_X4_chance_X3 : ∀ w ∈ u_ws RX3 TX3 12, w ∈ mWs M_X4_chance := by decide +kernel
theorem in_X4_chance_X4 : ∀ w ∈ u_ws RX4 TX4 8, w ∈ mWs M_X4_chance := by decide +kernel
theorem in_X5_chance_X5 : ∀ w ∈ u_ws RX5 TX5 29, w ∈ mWs M_X5_chance := by decide +kernel
theorem fl_X4_chance_42 : Cond.fieldLink (mOwn M_X4_chance) 42 (TX4 5).1 (TX4 5).2.1 (TX4 5).2.2.1 ∈ mWs M_X4_chance := by decide +kernel
theorem fl_X4_chance_121 : Cond.fieldLink (mOwn M_X4_chance) 121 (TX3 8).1 (TX3 8).2.1 (TX3 8).2.2.1 ∈ mWs M_X4_chance := by decide +kernel
theorem fl_X5_chance_13 : Cond.fieldLink (mOwn M_X5_chance) 13 (TX5 3).1 (TX5 3).2.1 (TX5 3).2.2.1 ∈ mWs M_X5_chance := by decide +kernel
theorem fl_X5_chance_167 : Cond.fieldLink (mOwn M_X5_chance) 167 (TX5 26).1 (TX5 26).2.1 (TX5 26).2.2.1 ∈ mWs M_X5_chance := by decide +kernel
theorem fl_X5_chance_171 : Cond.fieldLink (mOwn M_X5_chance) 171 (TX5 27).1 (TX5 27).2.1 (TX5 27).2.2.1 ∈ mWs M_X5_chance := by decide +kernel
theorem nn_X4_choices : (mY M_X4_choices).cls ≠ "java/lang/invoke/MethodHandle" ∧ (mY M_X4_choices).cls ≠ "java/lang/invoke/VarHandle" ∧ (parseMethodDescriptor (mY M_X4_choices).desc).map (fun d => d.parameters.length) = some 2 := by decide +kernel
theorem nn_X4_drawsWithShared : (mY M_X4_drawsWithShared).cls ≠ "java/lang/invoke/MethodHandle" ∧ (mY M_X4_drawsWithShared).cls ≠ "java/lang/invoke/VarHandle" ∧ (parseMethodDescriptor (mY M_X4_drawsWithShared).desc).map (fun d => d.parameters.length) = some 4 := by decide +kernel
theorem nn_X4_lowest : (mY M_X4_lowest).cls ≠ "java/lang/invoke/MethodHandle" ∧ (mY M_X4_lowest).cls ≠ "java/lang/invoke/VarHandle" ∧ (parseMethodDescriptor (mY M_X4_lowest).desc).map (fun d => d.parameters.length) = some 3 := by decide +kernel
theorem nn_X5_choose : (mY M_X5_choose).cls ≠ "java/lang/invoke/MethodHandle" ∧ (mY M_X5_choose).cls ≠ "java/lang/invoke/VarHandle" ∧ (parseMethodDescriptor (mY M_X5_choose).desc).map (fun d => d.parameters.length) = some 2 := by decide +kernel
theorem nn_X5_lowest : (mY M_X5_lowest).cls = mOwn M_X5_lowest ∧ (mY M_X5_lowest).cls ≠ "java/lang/invoke/MethodHandle" ∧ (mY M_X5_lowest).cls ≠ "java/lang/invoke/VarHandle" ∧ (parseMethodDescriptor (mY M_X5_lowest).desc).map (fun d => d.parameters.length) = some 2 := by decide +kernel
def tmC (t a b j : Nat) : Nat := chz a (nI j) * chz (t - a) (nI b - nI j)
def smC (t a b c n : Nat) : Nat := sm (fun i => tmC t a b (c + i)) n
theorem chz_le {n : Nat} (hn : n < 17) (x : Int32) : chz n x ≤ 20000 := by
  rw [chz]
  by_cases h : x < 0 ∨ nI n < x
  · rw [if_pos h]; omega
  · rw [if_neg h]
    have h1 : ¬ x < 0 := fun q => h (Or.inl q)
    obtain ⟨k, hk, rfl⟩ := nI_of h1
    have h2 : k ≤ n := Nat.not_lt.mp (fun q => h (Or.inr (nI_lt q hk)))
    rw [nI_clamp hk]
    exact (chf_le n hn k (by omega) k (by omega)).1
theorem tmC_le {t a b : Nat} (ht : t < 17) (ha : a < 17) (j : Nat) : tmC t a b j ≤ 400000000 := by
  have := Nat.mul_le_mul (chz_le ha (nI j)) (chz_le (n := t - a) (by omega) (nI b - nI j))
  exact this
theorem smC_le {t a b : Nat} (ht : t < 17) (ha : a < 17) {c n : Nat} (hn : n < 18) : smC t a b c n < 2 ^ 62 := by
  have h := sm_le (f := fun i => tmC t a b (c + i)) (c := 400000000) (n := n) (fun k _ => tmC_le ht ha _)
  have : n * 400000000 ≤ 17 * 400000000 := Nat.mul_le_mul (by omega) (Nat.le_refl _)
  rw [smC]
  omega
theorem smC_eq {t a b c : Nat} (ha : a < 17) (hb : b < 17) (h1 : c ≤ a) (h2 : c ≤ b) : smC t a b c (a + 1 - c) = smC t a b c (b + 1 - c) := by
  have key : ∀ m n, m ≤ n → (∀ i, m ≤ i → i < n → tmC t a b (c + i) = 0) → smC t a b c n = smC t a b c m := by
    intro m n hmn hz
    rw [smC, smC, show n = m + (n - m) by omega, sm_split]
    have : sm (fun k => tmC t a b (c + (m + k))) (n - m) = 0 := sm_zero.mpr (fun k hk => hz (m + k) (by omega) (by omega))
    rw [this, Nat.add_zero]
  by_cases h : a ≤ b
  · exact (key (a + 1 - c) (b + 1 - c) (by omega) (fun i h3 h4 => by rw [tmC, chz_hi (by omega) (by omega), Nat.zero_mul])).symm
  · exact key (b + 1 - c) (a + 1 - c) (by omega) (fun i h3 h4 => by rw [tmC, chz_neg (by omega) (by omega), Nat.mul_zero])
theorem pc_16 {x S : Nat} (hS : S ≤ 16) (h : ∀ k, S ≤ k → x.testBit k = false) : pc x = sm (fun k => x / 2 ^ k % 2) S := by
  rw [pc, show 24 = S + (24 - S) by omega, sm_split]
  have : sm (fun k => x / 2 ^ (S + k) % 2) (24 - S) = 0 := sm_zero.mpr (fun k hk => by rw [bit01, h _ (by omega)]; rfl)
  rw [this, Nat.add_zero]
theorem tb_sgi_hi {w : WD} {p k : Nat} (hk : wS w ≤ k) : (sgi w p).testBit k = false := by
  cases h : (sgi w p).testBit k with
  | false => rfl
  | true =>
    rw [sgi, om_bit] at h
    obtain ⟨c, hc, e⟩ := h
    by_cases q : wQ w c = p
    · simp only [q, if_true, tb_ssb, Bool.and_eq_true, decide_eq_true_eq] at e
      omega
    · simp [q] at e
def nA (w : WD) (p : Nat) : Nat := sm (fun k => psh w k / 2 ^ p % 2) (wS w)
def nC (w : WD) (p q : Nat) : Nat := sm (fun k => psh w k / 2 ^ p % 2 * (psh w k / 2 ^ q % 2)) (wS w)
theorem pc_sgi {z : Nat} {w : WD} (hv : WV z w) (p : Nat) : pc (sgi w p) = nA w p := by
  rw [pc_16 (wv_S hv) (fun k hk => tb_sgi_hi hk), nA]
  refine sm_cong (fun k hk => ?_)
  rw [bit01, bit01, tb_sgi hk]
theorem pc_sgi2 {z : Nat} {w : WD} (hv : WV z w) (p q : Nat) : pc (sgi w p &&& sgi w q) = nC w p q := by
  rw [pc_16 (wv_S hv) (fun k hk => by rw [Nat.testBit_and, tb_sgi_hi hk]; rfl), nC]
  refine sm_cong (fun k hk => ?_)
  rw [bit01, bit01, bit01, Nat.testBit_and, tb_sgi hk, tb_sgi hk]
  cases (psh w k).testBit p <;> cases (psh w k).testBit q <;> simp
theorem sm_mono {f g : Nat → Nat} : ∀ {n : Nat}, (∀ k, k < n → f k ≤ g k) → sm f n ≤ sm g n
  | 0, _ => Nat.le_refl _
  | n + 1, h => Nat.add_le_add (sm_mono (fun k hk => h k (by omega))) (h n (by omega))
theorem nA_le (w : WD) (p : Nat) : nA w p ≤ wS w := by
  have h := sm_le (f := fun k => psh w k / 2 ^ p % 2) (c := 1) (n := wS w) (fun k _ => by omega)
  rw [nA]; omega
theorem nC_le (w : WD) (p q : Nat) : nC w p q ≤ nA w p ∧ nC w p q ≤ nA w q := by
  refine ⟨sm_mono (fun k _ => ?_), sm_mono (fun k _ => ?_)⟩
  · rcases Nat.mod_two_eq_zero_or_one (psh w k / 2 ^ q) with h | h <;> simp [h]
  · rcases Nat.mod_two_eq_zero_or_one (psh w k / 2 ^ p) with h | h <;> simp [h]
def chA (w : WD) (p q : Nat) : Nat := smC (wS w) (nA w p) (nA w q) (nC w p q) (nA w p + 1 - nC w p q)
def chB (w : WD) (q : Nat) : Nat := chz (wS w) (nI (nA w q))
def q_chance (w : WD) (p q part : Int32) : Int64 := if two w p q = true ∧ isN part 3 = true then (if part = 2 then lN (nC w p.toNatClampNeg q.toNatClampNeg) else if part = 0 then lN (chA w p.toNatClampNeg q.toNatClampNeg / Nat.gcd (chA w p.toNatClampNeg q.toNatClampNeg) (chB w q.toNatClampNeg)) else lN (chB w q.toNatClampNeg / Nat.gcd (chA w p.toNatClampNeg q.toNatClampNeg) (chB w q.toNatClampNeg))) else -1
theorem chB_pos {z : Nat} {w : WD} (hv : WV z w) (q : Nat) : 0 < chB w q ∧ chB w q ≤ 20000 := by
  have hS := wv_S hv
  have h := nA_le w q
  rw [chB, chz_in (by omega) h]
  have := chf_le (wS w) (by omega) (nA w q) (by omega) (nA w q) (by omega)
  exact ⟨this.2, this.1⟩
theorem chA_lt {z : Nat} {w : WD} (hv : WV z w) (p q : Nat) : chA w p q < 2 ^ 62 := by
  have hS := wv_S hv
  have h := nA_le w p
  exact smC_le (by omega) (by omega) (by omega)
set_option maxRecDepth 100000 in
set_option maxHeartbeats 4000000 in
theorem s_X4_drawsWithShared {v : EE} {σ : SS} {t a b c : Nat} (ht : t < 17) (ha : a ≤ t) (hc : c ≤ a) : S1 v M_X4_drawsWithShared [.int (nI t), .int (nI a), .int (nI b), .int (nI c)] σ (some (.long (lN (smC t a b c (a + 1 - c))))) (σ) := by
  refine Sp.of rfl (by decide) rfl (Nat.le_of_ble_eq_true rfl) ?_
  show V v M_X4_drawsWithShared _ 0 [(0, .int (nI t)), (1, .int (nI a)), (2, .int (nI b)), (3, .int (nI c))] [] σ
  refine v_lconst (x := 0) dX4_drawsWithShared_0 rfl ?_
  refine v_lstore (L' := [(4, _), (0, _), (1, _), (2, _), (3, _)]) dX4_drawsWithShared_1 (by decide) rfl ?_
  refine v_iload_n dX4_drawsWithShared_3 rfl ?_
  refine v_istore (L' := [(6, _), (4, _), (0, _), (1, _), (2, _), (3, _)]) dX4_drawsWithShared_4 (by decide) rfl ?_
  refine v_sub [2, 3, 4, 5, 1, 0] rfl ?_
  refine loopN (fun i => V v M_X4_drawsWithShared (zR v M_X4_drawsWithShared (fun r' σ' => r' = (some (.long (lN (smC t a b c (a + 1 - c))))) ∧ σ' = (σ))) 6 [(0, .int (nI t)), (1, .int (nI a)), (2, .int (nI b)), (3, .int (nI c)), (4, .long (lN (smC t a b c i))), (6, .int (nI (c + i)))] [] (σ)) (a + 1 - c) ?_ ?_
  · intro i hi ih
    refine v_iload dX4_drawsWithShared_6 rfl ?_
    refine v_iload_n dX4_drawsWithShared_8 rfl ?_
    refine v_icmp_gt (tgt := 40) dX4_drawsWithShared_9 (by decide) (fun c9 => absurd c9 (nI_nlt (show c + i ≤ a by omega) (by omega))) (fun c9 => ?_)
    refine v_lload dX4_drawsWithShared_12 rfl ?_
    refine v_iload_n dX4_drawsWithShared_14 rfl ?_
    refine v_iload dX4_drawsWithShared_15 rfl ?_
    refine v_callSl (M' := M_X4_choices) (As := [_, _]) (s_X4_choices (n := a) (by omega) _) dX4_drawsWithShared_17 gX4_drawsWithShared_X4_choices rfl nn_X4_choices ⟨rfl, rfl⟩ ⟨by decide, by decide⟩ rfl rfl (Nat.le_of_ble_eq_true rfl) ?_
    refine v_iload_n dX4_drawsWithShared_20 rfl ?_
    refine v_iload_n dX4_drawsWithShared_21 rfl ?_
    refine v_isub dX4_drawsWithShared_22 ?_
    refine v_top (pk_sub (show a ≤ t by omega)) ?_
    refine v_iload_n dX4_drawsWithShared_23 rfl ?_
    refine v_iload dX4_drawsWithShared_24 rfl ?_
    refine v_isub dX4_drawsWithShared_26 ?_
    refine v_callSl (M' := M_X4_choices) (As := [_, _]) (s_X4_choices (n := t - a) (by omega) _) dX4_drawsWithShared_27 gX4_drawsWithShared_X4_choices rfl nn_X4_choices ⟨rfl, rfl⟩ ⟨by decide, by decide⟩ rfl rfl (Nat.le_of_ble_eq_true rfl) ?_
    refine v_lmul dX4_drawsWithShared_30 ?_
    refine v_topl (lN_mulN _ _) ?_
    refine v_ladd dX4_drawsWithShared_31 ?_
    refine v_topl (y := lN (smC t a b c (i + 1))) (lN_add _ _) ?_
    refine v_lstore (L' := [(4, _), (0, _), (1, _), (2, _), (3, _), (6, _)]) dX4_drawsWithShared_32 (by decide) rfl ?_
    refine v_iinc (y := nI (c + (i + 1))) (L' := [(6, .int (nI (c + (i + 1)))), (4, _), (0, _), (1, _), (2, _), (3, _)]) dX4_drawsWithShared_34 rfl (nI_1 (c + i)) (by decide) rfl ?_
    refine v_goto (tgt := 6) dX4_drawsWithShared_37 (by decide) ?_
    refine v_sub [2, 3, 4, 5, 1, 0] rfl ?_
    exact ih
  · refine v_iload dX4_drawsWithShared_6 rfl ?_
    refine v_iload_n dX4_drawsWithShared_8 rfl ?_
    refine v_icmp_gt (tgt := 40) dX4_drawsWithShared_9 (by decide) (fun c9 => ?_) (fun c9 => absurd (nI_lt (show a < c + (a + 1 - c) by omega) (by omega)) c9)
    refine v_lload dX4_drawsWithShared_40 rfl ?_
    exact v_lret rfl dX4_drawsWithShared_42 ⟨rfl, rfl⟩
set_option maxRecDepth 100000 in
set_option maxHeartbeats 4000000 in
theorem s_X4_chance {v : EE} {w : WD} {z : Nat} {σ : SS} (hla : isW σ.2.2.1) (hw : CH σ.2.2.1 w σ) (hv : WV z w) (hz : z ≤ 1000000) (P Q part : Int32) : S1 v M_X4_chance [.ref (v.1 0), .int P, .int Q, .int part] σ (some (.long (q_chance w P Q part))) (σ) := by
  refine Sp.of rfl (by decide) rfl (Nat.le_of_ble_eq_true rfl) ?_
  show V v M_X4_chance _ 0 [(0, .ref (v.1 0)), (1, .int P), (2, .int Q), (3, .int part)] [] σ
  refine v_aload_n dX4_chance_0 rfl ?_
  refine v_iload_n dX4_chance_1 rfl ?_
  refine v_iload_n dX4_chance_2 rfl ?_
  refine v_callVi (M' := M_X4_areTwoParts) (As := [_, _]) iO0 (s_X4_areTwoParts hla hw hv _ _) dX4_chance_3 gX4_chance_X4_areTwoParts rfl rfl nn_X4_areTwoParts ⟨rfl, rfl⟩ ⟨by decide, by decide⟩ rfl rfl (Nat.le_of_ble_eq_true rfl) ?_
  refine v_if_eq (tgt := 18) dX4_chance_6 (by decide) (fun c6 => ?_) (fun c6 => ?_)
  · refine v_ldc2 (x := (-1)) (by decide +kernel) dX4_chance_18 ?_
    exact v_lret rfl dX4_chance_21 ⟨congrArg (fun z => some (Value.long z)) (by rw [q_chance, if_neg (fun h => by exact absurd h.1 (by rw [bI_0.mp c6]; decide))]), rfl⟩
  · have hh := bI_n0.mp c6
    rcases sw3 part with rfl | rfl | rfl | hsw
    · refine v_iload_n dX4_chance_9 rfl ?_
      refine v_if_lt (tgt := 18) dX4_chance_10 (by decide) (fun c10 => absurd c10 (by decide)) (fun c10 => ?_)
      refine v_iload_n dX4_chance_13 rfl ?_
      refine v_iconst (x := 2) dX4_chance_14 rfl ?_
      refine v_icmp_le (tgt := 22) dX4_chance_15 (by decide) (fun c15 => ?_) (fun c15 => absurd (by decide) c15)
      obtain ⟨p, q, hp, hq, rfl, rfl, hpq⟩ := two_nI hh
      have hS := wv_S hv
      have hA1 := nA_le w p
      have hA2 := nA_le w q
      refine v_aload_n dX4_chance_22 rfl ?_
      refine v_get (j := 5) iO0 rfl dX4_chance_23 (by decide) in_X4_chance_X4 fl_X4_chance_42 rfl ?_
      refine v_iload_n dX4_chance_26 rfl ?_
      refine v_callVi (M' := M_X3_signsIn) (As := [_]) (iWO hla) (s_X3_signsIn hla hw hv hz hp) dX4_chance_27 gX4_chance_X3_signsIn rfl rfl nn_X3_signsIn ⟨rfl, rfl⟩ ⟨by decide, by decide⟩ rfl rfl (Nat.le_of_ble_eq_true rfl) ?_
      refine v_istore (L' := [(4, _), (0, _), (1, _), (2, _), (3, _)]) dX4_chance_30 (by decide) rfl ?_
      refine v_aload_n dX4_chance_32 rfl ?_
      refine v_get (j := 5) iO0 rfl dX4_chance_33 (by decide) in_X4_chance_X4 fl_X4_chance_42 rfl ?_
      refine v_iload_n dX4_chance_36 rfl ?_
      refine v_callVi (M' := M_X3_signsIn) (As := [_]) (iWO hla) (s_X3_signsIn hla hw hv hz hq) dX4_chance_37 gX4_chance_X3_signsIn rfl rfl nn_X3_signsIn ⟨rfl, rfl⟩ ⟨by decide, by decide⟩ rfl rfl (Nat.le_of_ble_eq_true rfl) ?_
      refine v_istore (L' := [(5, _), (4, _), (0, _), (1, _), (2, _), (3, _)]) dX4_chance_40 (by decide) rfl ?_
      refine v_iload dX4_chance_42 rfl ?_
      refine v_callSi (M' := M_J6_bitCount_0f7a4) (As := [_]) (s_J6_bitCount_0f7a4 (Nat.lt_of_lt_of_le (sgi_lt hv p) (by decide))) dX4_chance_44 gX4_chance_J6_bitCount_0f7a4 rfl nn_J6_bitCount_0f7a4 ⟨rfl, rfl⟩ ⟨by decide, by decide⟩ rfl rfl (Nat.le_of_ble_eq_true rfl) ?_
      refine v_top (by rw [pc_sgi hv]) ?_
      refine v_istore (L' := [(6, _), (5, _), (4, _), (0, _), (1, _), (2, _), (3, _)]) dX4_chance_47 (by decide) rfl ?_
      refine v_iload dX4_chance_49 rfl ?_
      refine v_callSi (M' := M_J6_bitCount_0f7a4) (As := [_]) (s_J6_bitCount_0f7a4 (Nat.lt_of_lt_of_le (sgi_lt hv q) (by decide))) dX4_chance_51 gX4_chance_J6_bitCount_0f7a4 rfl nn_J6_bitCount_0f7a4 ⟨rfl, rfl⟩ ⟨by decide, by decide⟩ rfl rfl (Nat.le_of_ble_eq_true rfl) ?_
      refine v_top (by rw [pc_sgi hv]) ?_
      refine v_istore (L' := [(7, _), (6, _), (5, _), (4, _), (0, _), (1, _), (2, _), (3, _)]) dX4_chance_54 (by decide) rfl ?_
      refine v_iload dX4_chance_56 rfl ?_
      refine v_iload dX4_chance_58 rfl ?_
      refine v_iand dX4_chance_60 ?_
      refine v_top (fa_and _ _) ?_
      refine v_callSi (M' := M_J6_bitCount_0f7a4) (As := [_]) (s_J6_bitCount_0f7a4 (Nat.lt_of_le_of_lt Nat.and_le_left (Nat.lt_of_lt_of_le (sgi_lt hv p) (by decide)))) dX4_chance_61 gX4_chance_J6_bitCount_0f7a4 rfl nn_J6_bitCount_0f7a4 ⟨rfl, rfl⟩ ⟨by decide, by decide⟩ rfl rfl (Nat.le_of_ble_eq_true rfl) ?_
      refine v_top (by rw [pc_sgi2 hv]) ?_
      refine v_istore (L' := [(8, _), (7, _), (6, _), (5, _), (4, _), (0, _), (1, _), (2, _), (3, _)]) dX4_chance_64 (by decide) rfl ?_
      refine v_iload_n dX4_chance_66 rfl ?_
      refine v_iconst (x := 2) dX4_chance_67 rfl ?_
      refine v_icmp_ne (tgt := 75) dX4_chance_68 (by decide) (fun c68 => ?_) (fun c68 => absurd c68 (by decide))
      refine v_aload_n dX4_chance_75 rfl ?_
      refine v_get (j := 5) iO0 rfl dX4_chance_76 (by decide) in_X4_chance_X4 fl_X4_chance_42 rfl ?_
      refine v_get (j := 8) (iWO hla) rfl dX4_chance_79 (by decide) in_X4_chance_X3 fl_X4_chance_121 rfl ?_
      refine v_top (ch_S hw) ?_
      refine v_iload dX4_chance_82 rfl ?_
      refine v_callSl (M' := M_X4_choices) (As := [_, _]) (s_X4_choices (n := wS w) (by omega) _) dX4_chance_84 gX4_chance_X4_choices rfl nn_X4_choices ⟨rfl, rfl⟩ ⟨by decide, by decide⟩ rfl rfl (Nat.le_of_ble_eq_true rfl) ?_
      refine v_lstore (L' := [(9, _), (8, _), (7, _), (6, _), (5, _), (4, _), (0, _), (1, _), (2, _), (3, _)]) dX4_chance_87 (by decide) rfl ?_
      refine v_aload_n dX4_chance_89 rfl ?_
      refine v_get (j := 5) iO0 rfl dX4_chance_90 (by decide) in_X4_chance_X4 fl_X4_chance_42 rfl ?_
      refine v_get (j := 8) (iWO hla) rfl dX4_chance_93 (by decide) in_X4_chance_X3 fl_X4_chance_121 rfl ?_
      refine v_top (ch_S hw) ?_
      refine v_iload dX4_chance_96 rfl ?_
      refine v_iload dX4_chance_98 rfl ?_
      refine v_iload dX4_chance_100 rfl ?_
      refine v_callSl (M' := M_X4_drawsWithShared) (As := [_, _, _, _]) (s_X4_drawsWithShared (by omega) (nA_le w p) (nC_le w p q).1) dX4_chance_102 gX4_chance_X4_drawsWithShared rfl nn_X4_drawsWithShared ⟨rfl, rfl⟩ ⟨by decide, by decide⟩ rfl rfl (Nat.le_of_ble_eq_true rfl) ?_
      refine v_lload dX4_chance_105 rfl ?_
      refine v_iload_n dX4_chance_107 rfl ?_
      refine v_callSl (M' := M_X4_lowest) (As := [_, _, _]) (s_X4_lowest (a := chA w p q) (b := chB w q) (p := 0) (chA_lt hv p q) (by have := chB_pos hv q; omega) (chB_pos hv q).1 (by decide)) dX4_chance_108 gX4_chance_X4_lowest rfl nn_X4_lowest ⟨rfl, rfl⟩ ⟨by decide, by decide⟩ rfl rfl (Nat.le_of_ble_eq_true rfl) ?_
      refine v_topl (y := lN (chA w p q / Nat.gcd (chA w p q) (chB w q))) rfl ?_
      exact v_lret rfl dX4_chance_111 ⟨congrArg (fun z => some (Value.long z)) (by rw [q_chance, if_pos ⟨hh, by decide⟩, nI_clamp (by omega), nI_clamp (by omega), if_neg (by decide), if_pos rfl]), rfl⟩
    · refine v_iload_n dX4_chance_9 rfl ?_
      refine v_if_lt (tgt := 18) dX4_chance_10 (by decide) (fun c10 => absurd c10 (by decide)) (fun c10 => ?_)
      refine v_iload_n dX4_chance_13 rfl ?_
      refine v_iconst (x := 2) dX4_chance_14 rfl ?_
      refine v_icmp_le (tgt := 22) dX4_chance_15 (by decide) (fun c15 => ?_) (fun c15 => absurd (by decide) c15)
      obtain ⟨p, q, hp, hq, rfl, rfl, hpq⟩ := two_nI hh
      have hS := wv_S hv
      have hA1 := nA_le w p
      have hA2 := nA_le w q
      refine v_aload_n dX4_chance_22 rfl ?_
      refine v_get (j := 5) iO0 rfl dX4_chance_23 (by decide) in_X4_chance_X4 fl_X4_chance_42 rfl ?_
      refine v_iload_n dX4_chance_26 rfl ?_
      refine v_callVi (M' := M_X3_signsIn) (As := [_]) (iWO hla) (s_X3_signsIn hla hw hv hz hp) dX4_chance_27 gX4_chance_X3_signsIn rfl rfl nn_X3_signsIn ⟨rfl, rfl⟩ ⟨by decide, by decide⟩ rfl rfl (Nat.le_of_ble_eq_true rfl) ?_
      refine v_istore (L' := [(4, _), (0, _), (1, _), (2, _), (3, _)]) dX4_chance_30 (by decide) rfl ?_
      refine v_aload_n dX4_chance_32 rfl ?_
      refine v_get (j := 5) iO0 rfl dX4_chance_33 (by decide) in_X4_chance_X4 fl_X4_chance_42 rfl ?_
      refine v_iload_n dX4_chance_36 rfl ?_
      refine v_callVi (M' := M_X3_signsIn) (As := [_]) (iWO hla) (s_X3_signsIn hla hw hv hz hq) dX4_chance_37 gX4_chance_X3_signsIn rfl rfl nn_X3_signsIn ⟨rfl, rfl⟩ ⟨by decide, by decide⟩ rfl rfl (Nat.le_of_ble_eq_true rfl) ?_
      refine v_istore (L' := [(5, _), (4, _), (0, _), (1, _), (2, _), (3, _)]) dX4_chance_40 (by decide) rfl ?_
      refine v_iload dX4_chance_42 rfl ?_
      refine v_callSi (M' := M_J6_bitCount_0f7a4) (As := [_]) (s_J6_bitCount_0f7a4 (Nat.lt_of_lt_of_le (sgi_lt hv p) (by decide))) dX4_chance_44 gX4_chance_J6_bitCount_0f7a4 rfl nn_J6_bitCount_0f7a4 ⟨rfl, rfl⟩ ⟨by decide, by decide⟩ rfl rfl (Nat.le_of_ble_eq_true rfl) ?_
      refine v_top (by rw [pc_sgi hv]) ?_
      refine v_istore (L' := [(6, _), (5, _), (4, _), (0, _), (1, _), (2, _), (3, _)]) dX4_chance_47 (by decide) rfl ?_
      refine v_iload dX4_chance_49 rfl ?_
      refine v_callSi (M' := M_J6_bitCount_0f7a4) (As := [_]) (s_J6_bitCount_0f7a4 (Nat.lt_of_lt_of_le (sgi_lt hv q) (by decide))) dX4_chance_51 gX4_chance_J6_bitCount_0f7a4 rfl nn_J6_bitCount_0f7a4 ⟨rfl, rfl⟩ ⟨by decide, by decide⟩ rfl rfl (Nat.le_of_ble_eq_true rfl) ?_
      refine v_top (by rw [pc_sgi hv]) ?_
      refine v_istore (L' := [(7, _), (6, _), (5, _), (4, _), (0, _), (1, _), (2, _), (3, _)]) dX4_chance_54 (by decide) rfl ?_
      refine v_iload dX4_chance_56 rfl ?_
      refine v_iload dX4_chance_58 rfl ?_
      refine v_iand dX4_chance_60 ?_
      refine v_top (fa_and _ _) ?_
      refine v_callSi (M' := M_J6_bitCount_0f7a4) (As := [_]) (s_J6_bitCount_0f7a4 (Nat.lt_of_le_of_lt Nat.and_le_left (Nat.lt_of_lt_of_le (sgi_lt hv p) (by decide)))) dX4_chance_61 gX4_chance_J6_bitCount_0f7a4 rfl nn_J6_bitCount_0f7a4 ⟨rfl, rfl⟩ ⟨by decide, by decide⟩ rfl rfl (Nat.le_of_ble_eq_true rfl) ?_
      refine v_top (by rw [pc_sgi2 hv]) ?_
      refine v_istore (L' := [(8, _), (7, _), (6, _), (5, _), (4, _), (0, _), (1, _), (2, _), (3, _)]) dX4_chance_64 (by decide) rfl ?_
      refine v_iload_n dX4_chance_66 rfl ?_
      refine v_iconst (x := 2) dX4_chance_67 rfl ?_
      refine v_icmp_ne (tgt := 75) dX4_chance_68 (by decide) (fun c68 => ?_) (fun c68 => absurd c68 (by decide))
      refine v_aload_n dX4_chance_75 rfl ?_
      refine v_get (j := 5) iO0 rfl dX4_chance_76 (by decide) in_X4_chance_X4 fl_X4_chance_42 rfl ?_
      refine v_get (j := 8) (iWO hla) rfl dX4_chance_79 (by decide) in_X4_chance_X3 fl_X4_chance_121 rfl ?_
      refine v_top (ch_S hw) ?_
      refine v_iload dX4_chance_82 rfl ?_
      refine v_callSl (M' := M_X4_choices) (As := [_, _]) (s_X4_choices (n := wS w) (by omega) _) dX4_chance_84 gX4_chance_X4_choices rfl nn_X4_choices ⟨rfl, rfl⟩ ⟨by decide, by decide⟩ rfl rfl (Nat.le_of_ble_eq_true rfl) ?_
      refine v_lstore (L' := [(9, _), (8, _), (7, _), (6, _), (5, _), (4, _), (0, _), (1, _), (2, _), (3, _)]) dX4_chance_87 (by decide) rfl ?_
      refine v_aload_n dX4_chance_89 rfl ?_
      refine v_get (j := 5) iO0 rfl dX4_chance_90 (by decide) in_X4_chance_X4 fl_X4_chance_42 rfl ?_
      refine v_get (j := 8) (iWO hla) rfl dX4_chance_93 (by decide) in_X4_chance_X3 fl_X4_chance_121 rfl ?_
      refine v_top (ch_S hw) ?_
      refine v_iload dX4_chance_96 rfl ?_
      refine v_iload dX4_chance_98 rfl ?_
      refine v_iload dX4_chance_100 rfl ?_
      refine v_callSl (M' := M_X4_drawsWithShared) (As := [_, _, _, _]) (s_X4_drawsWithShared (by omega) (nA_le w p) (nC_le w p q).1) dX4_chance_102 gX4_chance_X4_drawsWithShared rfl nn_X4_drawsWithShared ⟨rfl, rfl⟩ ⟨by decide, by decide⟩ rfl rfl (Nat.le_of_ble_eq_true rfl) ?_
      refine v_lload dX4_chance_105 rfl ?_
      refine v_iload_n dX4_chance_107 rfl ?_
      refine v_callSl (M' := M_X4_lowest) (As := [_, _, _]) (s_X4_lowest (a := chA w p q) (b := chB w q) (p := 1) (chA_lt hv p q) (by have := chB_pos hv q; omega) (chB_pos hv q).1 (by decide)) dX4_chance_108 gX4_chance_X4_lowest rfl nn_X4_lowest ⟨rfl, rfl⟩ ⟨by decide, by decide⟩ rfl rfl (Nat.le_of_ble_eq_true rfl) ?_
      refine v_topl (y := lN (chB w q / Nat.gcd (chA w p q) (chB w q))) rfl ?_
      exact v_lret rfl dX4_chance_111 ⟨congrArg (fun z => some (Value.long z)) (by rw [q_chance, if_pos ⟨hh, by decide⟩, nI_clamp (by omega), nI_clamp (by omega), if_neg (by decide), if_neg (by decide)]), rfl⟩
    · refine v_iload_n dX4_chance_9 rfl ?_
      refine v_if_lt (tgt := 18) dX4_chance_10 (by decide) (fun c10 => absurd c10 (by decide)) (fun c10 => ?_)
      refine v_iload_n dX4_chance_13 rfl ?_
      refine v_iconst (x := 2) dX4_chance_14 rfl ?_
      refine v_icmp_le (tgt := 22) dX4_chance_15 (by decide) (fun c15 => ?_) (fun c15 => absurd (by decide) c15)
      obtain ⟨p, q, hp, hq, rfl, rfl, hpq⟩ := two_nI hh
      have hS := wv_S hv
      have hA1 := nA_le w p
      have hA2 := nA_le w q
      refine v_aload_n dX4_chance_22 rfl ?_
      refine v_get (j := 5) iO0 rfl dX4_chance_23 (by decide) in_X4_chance_X4 fl_X4_chance_42 rfl ?_
      refine v_iload_n dX4_chance_26 rfl ?_
      refine v_callVi (M' := M_X3_signsIn) (As := [_]) (iWO hla) (s_X3_signsIn hla hw hv hz hp) dX4_chance_27 gX4_chance_X3_signsIn rfl rfl nn_X3_signsIn ⟨rfl, rfl⟩ ⟨by decide, by decide⟩ rfl rfl (Nat.le_of_ble_eq_true rfl) ?_
      refine v_istore (L' := [(4, _), (0, _), (1, _), (2, _), (3, _)]) dX4_chance_30 (by decide) rfl ?_
      refine v_aload_n dX4_chance_32 rfl ?_
      refine v_get (j := 5) iO0 rfl dX4_chance_33 (by decide) in_X4_chance_X4 fl_X4_chance_42 rfl ?_
      refine v_iload_n dX4_chance_36 rfl ?_
      refine v_callVi (M' := M_X3_signsIn) (As := [_]) (iWO hla) (s_X3_signsIn hla hw hv hz hq) dX4_chance_37 gX4_chance_X3_signsIn rfl rfl nn_X3_signsIn ⟨rfl, rfl⟩ ⟨by decide, by decide⟩ rfl rfl (Nat.le_of_ble_eq_true rfl) ?_
      refine v_istore (L' := [(5, _), (4, _), (0, _), (1, _), (2, _), (3, _)]) dX4_chance_40 (by decide) rfl ?_
      refine v_iload dX4_chance_42 rfl ?_
      refine v_callSi (M' := M_J6_bitCount_0f7a4) (As := [_]) (s_J6_bitCount_0f7a4 (Nat.lt_of_lt_of_le (sgi_lt hv p) (by decide))) dX4_chance_44 gX4_chance_J6_bitCount_0f7a4 rfl nn_J6_bitCount_0f7a4 ⟨rfl, rfl⟩ ⟨by decide, by decide⟩ rfl rfl (Nat.le_of_ble_eq_true rfl) ?_
      refine v_top (by rw [pc_sgi hv]) ?_
      refine v_istore (L' := [(6, _), (5, _), (4, _), (0, _), (1, _), (2, _), (3, _)]) dX4_chance_47 (by decide) rfl ?_
      refine v_iload dX4_chance_49 rfl ?_
      refine v_callSi (M' := M_J6_bitCount_0f7a4) (As := [_]) (s_J6_bitCount_0f7a4 (Nat.lt_of_lt_of_le (sgi_lt hv q) (by decide))) dX4_chance_51 gX4_chance_J6_bitCount_0f7a4 rfl nn_J6_bitCount_0f7a4 ⟨rfl, rfl⟩ ⟨by decide, by decide⟩ rfl rfl (Nat.le_of_ble_eq_true rfl) ?_
      refine v_top (by rw [pc_sgi hv]) ?_
      refine v_istore (L' := [(7, _), (6, _), (5, _), (4, _), (0, _), (1, _), (2, _), (3, _)]) dX4_chance_54 (by decide) rfl ?_
      refine v_iload dX4_chance_56 rfl ?_
      refine v_iload dX4_chance_58 rfl ?_
      refine v_iand dX4_chance_60 ?_
      refine v_top (fa_and _ _) ?_
      refine v_callSi (M' := M_J6_bitCount_0f7a4) (As := [_]) (s_J6_bitCount_0f7a4 (Nat.lt_of_le_of_lt Nat.and_le_left (Nat.lt_of_lt_of_le (sgi_lt hv p) (by decide)))) dX4_chance_61 gX4_chance_J6_bitCount_0f7a4 rfl nn_J6_bitCount_0f7a4 ⟨rfl, rfl⟩ ⟨by decide, by decide⟩ rfl rfl (Nat.le_of_ble_eq_true rfl) ?_
      refine v_top (by rw [pc_sgi2 hv]) ?_
      refine v_istore (L' := [(8, _), (7, _), (6, _), (5, _), (4, _), (0, _), (1, _), (2, _), (3, _)]) dX4_chance_64 (by decide) rfl ?_
      refine v_iload_n dX4_chance_66 rfl ?_
      refine v_iconst (x := 2) dX4_chance_67 rfl ?_
      refine v_icmp_ne (tgt := 75) dX4_chance_68 (by decide) (fun c68 => absurd rfl c68) (fun c68 => ?_)
      refine v_iload dX4_chance_71 rfl ?_
      refine v_i2l dX4_chance_73 ?_
      refine v_topl (nI_l (by have := (nC_le w p q).1; omega)) ?_
      exact v_lret rfl dX4_chance_74 ⟨congrArg (fun z => some (Value.long z)) (by rw [q_chance, if_pos ⟨hh, by decide⟩, nI_clamp (by omega), nI_clamp (by omega), if_pos rfl]), rfl⟩
    · refine v_iload_n dX4_chance_9 rfl ?_
      refine v_if_lt (tgt := 18) dX4_chance_10 (by decide) (fun c10 => ?_) (fun c10 => ?_)
      · refine v_ldc2 (x := (-1)) (by decide +kernel) dX4_chance_18 ?_
        exact v_lret rfl dX4_chance_21 ⟨congrArg (fun z => some (Value.long z)) (by rw [q_chance, if_neg (fun h => by exact absurd h.2 (by rw [hsw]; decide))]), rfl⟩
      · refine v_iload_n dX4_chance_13 rfl ?_
        refine v_iconst (x := 2) dX4_chance_14 rfl ?_
        refine v_icmp_le (tgt := 22) dX4_chance_15 (by decide) (fun c15 => absurd c15 (fun q => by have h9 := isN_in (n := 3) (by decide) c10 (fun q2 => by rw [Int32.le_iff_toInt_le] at q q2; rw [show (2 : Int32).toInt = 2 by decide] at q; rw [nI_toInt (by decide)] at q2; omega); rw [hsw] at h9; cases h9)) (fun c15 => ?_)
        refine v_ldc2 (x := (-1)) (by decide +kernel) dX4_chance_18 ?_
        exact v_lret rfl dX4_chance_21 ⟨congrArg (fun z => some (Value.long z)) (by rw [q_chance, if_neg (fun h => by exact absurd h.2 (by rw [hsw]; decide))]), rfl⟩
theorem rm_J {s : AS} {σ : SS} (h : RM s σ) (x y : Int64) : RM s (sJ (sJ σ 40 26 x) 40 27 y) ∧ FM σ (sJ (sJ σ 40 26 x) 40 27 y) := ⟨h, fun _ _ => rfl, rfl⟩
theorem nA_s (w : WD) (p i : Nat) : sm (fun k => psh w k / 2 ^ p % 2) (i + 1) = sm (fun k => psh w k / 2 ^ p % 2) i + psh w i / 2 ^ p % 2 := rfl
set_option maxRecDepth 100000 in
set_option maxHeartbeats 4000000 in
theorem s_X5_chance {v : EE} {s : AS} {z : Nat} {σ : SS} (hr : RM s σ) (hv : WV z (aW s)) (hz : z ≤ 1000000) (P Q part : Int32) : SR v M_X5_chance [.ref (v.1 40), .int P, .int Q, .int part] σ (some (.long (q_chance (aW s) P Q part))) (fun σ' => RM s σ' ∧ FM σ σ') := by
  refine Sp.of rfl (by decide) rfl (Nat.le_of_ble_eq_true rfl) ?_
  show V v M_X5_chance _ 0 [(0, .ref (v.1 40)), (1, .int P), (2, .int Q), (3, .int part)] [] σ
  have hw := hr.2.1
  refine v_aload_n dX5_chance_0 rfl ?_
  refine v_iload_n dX5_chance_1 rfl ?_
  refine v_iload_n dX5_chance_2 rfl ?_
  refine v_callVi (M' := M_X5_areTwo) (As := [_, _]) iO40 (s_X5_areTwo hw hv _ _) dX5_chance_3 gX5_chance_X5_areTwo rfl rfl nn_X5_areTwo ⟨rfl, rfl⟩ ⟨by decide, by decide⟩ rfl rfl (Nat.le_of_ble_eq_true rfl) ?_
  refine v_if_eq (tgt := 21) dX5_chance_6 (by decide) (fun c6 => ?_) (fun c6 => ?_)
  · refine v_ldc2 (x := (-1)) (by decide +kernel) dX5_chance_21 ?_
    exact v_lret rfl dX5_chance_24 ⟨congrArg (fun z => some (Value.long z)) (by rw [q_chance, if_neg (fun h => by exact absurd h.1 (by rw [bI_0.mp c6]; decide))]), hr, FM.rf σ⟩
  · have hh := bI_n0.mp c6
    rcases sw3 part with rfl | rfl | rfl | hsw
    · refine v_iload_n dX5_chance_9 rfl ?_
      refine v_i2l dX5_chance_10 ?_
      refine v_lconst (x := 0) dX5_chance_11 rfl ?_
      refine v_ldc2 (x := (2)) (by decide +kernel) dX5_chance_12 ?_
      refine v_callSi (M' := M_X5_between) (As := [_, _, _]) (s_X5_between) dX5_chance_15 gX5_chance_X5_between rfl nn_X5_between ⟨rfl, rfl⟩ ⟨by decide, by decide⟩ rfl rfl (Nat.le_of_ble_eq_true rfl) ?_
      refine v_top (by rw [btw_lit 3 (by decide)]) ?_
      refine v_if_ne (tgt := 25) dX5_chance_18 (by decide) (fun c18 => ?_) (fun c18 => absurd c18 (by decide))
      obtain ⟨p, q, hp, hq, rfl, rfl, hpq⟩ := two_nI hh
      have hS := wv_S hv
      have hA1 := nA_le (aW s) p
      have hA2 := nA_le (aW s) q
      have hC1 := (nC_le (aW s) p q).1
      have hC2 := (nC_le (aW s) p q).2
      refine v_iconst (x := 0) dX5_chance_25 rfl ?_
      refine v_istore (L' := [(4, _), (0, _), (1, _), (2, _), (3, _)]) dX5_chance_26 (by decide) rfl ?_
      refine v_iconst (x := 0) dX5_chance_28 rfl ?_
      refine v_istore (L' := [(5, _), (4, _), (0, _), (1, _), (2, _), (3, _)]) dX5_chance_29 (by decide) rfl ?_
      refine v_iconst (x := 0) dX5_chance_31 rfl ?_
      refine v_istore (L' := [(6, _), (5, _), (4, _), (0, _), (1, _), (2, _), (3, _)]) dX5_chance_32 (by decide) rfl ?_
      refine v_iconst (x := 0) dX5_chance_34 rfl ?_
      refine v_istore (L' := [(7, _), (6, _), (5, _), (4, _), (0, _), (1, _), (2, _), (3, _)]) dX5_chance_35 (by decide) rfl ?_
      refine v_sub [4, 5, 6, 7, 3, 2, 1, 0] rfl ?_
      refine loopN (fun i => V v M_X5_chance (zR v M_X5_chance (fun r' σ' => r' = (some (.long (q_chance (aW s) (nI p) (nI q) 0))) ∧ (RM s σ' ∧ FM σ σ'))) 37 [(0, .ref (v.1 40)), (1, .int (nI p)), (2, .int (nI q)), (3, .int 0), (4, .int (nI (sm (fun k => psh (aW s) k / 2 ^ p % 2) i))), (5, .int (nI (sm (fun k => psh (aW s) k / 2 ^ q % 2) i))), (6, .int (nI (sm (fun k => psh (aW s) k / 2 ^ p % 2 * (psh (aW s) k / 2 ^ q % 2)) i))), (7, .int (nI i))] [] (σ)) (wS (aW s)) ?_ ?_
      · intro i hi ih
        refine v_iload dX5_chance_37 rfl ?_
        refine v_aload_n dX5_chance_39 rfl ?_
        refine v_get (j := 3) iO40 rfl dX5_chance_40 (by decide) in_X5_chance_X5 fl_X5_chance_13 rfl ?_
        refine v_iconst (x := 0) dX5_chance_43 rfl ?_
        refine v_ialdN 0 iI42 dX5_chance_44 rfl (by decide) (by decide) ?_
        refine v_top (mh_S hw) ?_
        refine v_icmp_ge (tgt := 102) dX5_chance_45 (by decide) (fun c45 => absurd c45 (nI_ge hi (by omega))) (fun c45 => ?_)
        refine v_aload_n dX5_chance_48 rfl ?_
        refine v_iload dX5_chance_49 rfl ?_
        refine v_callVi (M' := M_X5_partsOf) (As := [_]) iO40 (s_X5_partsOf hw hv hz (by omega)) dX5_chance_51 gX5_chance_X5_partsOf rfl rfl nn_X5_partsOf ⟨rfl, rfl⟩ ⟨by decide, by decide⟩ rfl rfl (Nat.le_of_ble_eq_true rfl) ?_
        refine v_iload_n dX5_chance_54 rfl ?_
        refine v_ishr dX5_chance_55 ?_
        refine v_iconst (x := 1) dX5_chance_56 rfl ?_
        refine v_iand dX5_chance_57 ?_
        refine v_top (nI_bit (Nat.lt_trans (psh_lt hv i) (by decide)) (by omega)) ?_
        refine v_istore (L' := [(8, _), (0, _), (1, _), (2, _), (3, _), (4, _), (5, _), (6, _), (7, _)]) dX5_chance_58 (by decide) rfl ?_
        refine v_aload_n dX5_chance_60 rfl ?_
        refine v_iload dX5_chance_61 rfl ?_
        refine v_callVi (M' := M_X5_partsOf) (As := [_]) iO40 (s_X5_partsOf hw hv hz (by omega)) dX5_chance_63 gX5_chance_X5_partsOf rfl rfl nn_X5_partsOf ⟨rfl, rfl⟩ ⟨by decide, by decide⟩ rfl rfl (Nat.le_of_ble_eq_true rfl) ?_
        refine v_iload_n dX5_chance_66 rfl ?_
        refine v_ishr dX5_chance_67 ?_
        refine v_iconst (x := 1) dX5_chance_68 rfl ?_
        refine v_iand dX5_chance_69 ?_
        refine v_top (nI_bit (Nat.lt_trans (psh_lt hv i) (by decide)) (by omega)) ?_
        refine v_istore (L' := [(9, _), (8, _), (0, _), (1, _), (2, _), (3, _), (4, _), (5, _), (6, _), (7, _)]) dX5_chance_70 (by decide) rfl ?_
        refine v_iload dX5_chance_72 rfl ?_
        refine v_iload dX5_chance_74 rfl ?_
        refine v_iadd dX5_chance_76 ?_
        refine v_top (nI_add _ _) ?_
        refine v_istore (L' := [(4, _), (9, _), (8, _), (0, _), (1, _), (2, _), (3, _), (5, _), (6, _), (7, _)]) dX5_chance_77 (by decide) rfl ?_
        refine v_iload dX5_chance_79 rfl ?_
        refine v_iload dX5_chance_81 rfl ?_
        refine v_iadd dX5_chance_83 ?_
        refine v_top (nI_add _ _) ?_
        refine v_istore (L' := [(5, _), (4, _), (9, _), (8, _), (0, _), (1, _), (2, _), (3, _), (6, _), (7, _)]) dX5_chance_84 (by decide) rfl ?_
        refine v_iload dX5_chance_86 rfl ?_
        refine v_iload dX5_chance_88 rfl ?_
        refine v_iload dX5_chance_90 rfl ?_
        refine v_imul dX5_chance_92 ?_
        refine v_top (pk_mul _ _) ?_
        refine v_iadd dX5_chance_93 ?_
        refine v_top (nI_add _ _) ?_
        refine v_istore (L' := [(6, _), (5, _), (4, _), (9, _), (8, _), (0, _), (1, _), (2, _), (3, _), (7, _)]) dX5_chance_94 (by decide) rfl ?_
        refine v_iinc (y := nI (i + 1)) (L' := [(7, .int (nI (i + 1))), (6, _), (5, _), (4, _), (9, _), (8, _), (0, _), (1, _), (2, _), (3, _)]) dX5_chance_96 rfl (nI_1 i) (by decide) rfl ?_
        refine v_goto (tgt := 37) dX5_chance_99 (by decide) ?_
        refine v_sub [6, 7, 8, 9, 3, 2, 1, 0] rfl ?_
        exact ih
      · refine v_iload dX5_chance_37 rfl ?_
        refine v_aload_n dX5_chance_39 rfl ?_
        refine v_get (j := 3) iO40 rfl dX5_chance_40 (by decide) in_X5_chance_X5 fl_X5_chance_13 rfl ?_
        refine v_iconst (x := 0) dX5_chance_43 rfl ?_
        refine v_ialdN 0 iI42 dX5_chance_44 rfl (by decide) (by decide) ?_
        refine v_top (mh_S hw) ?_
        refine v_icmp_ge (tgt := 102) dX5_chance_45 (by decide) (fun c45 => ?_) (fun c45 => absurd (nI_le (Nat.le_refl _) (by omega)) c45)
        refine v_lconst (x := 0) dX5_chance_102 rfl ?_
        refine v_lstore (L' := [(7, _), (0, _), (1, _), (2, _), (3, _), (4, _), (5, _), (6, _)]) dX5_chance_103 (by decide) rfl ?_
        refine v_iload dX5_chance_105 rfl ?_
        refine v_istore (L' := [(9, _), (7, _), (0, _), (1, _), (2, _), (3, _), (4, _), (5, _), (6, _)]) dX5_chance_107 (by decide) rfl ?_
        refine v_sub [2, 3, 4, 5, 6, 7, 8, 1, 0] rfl ?_
        refine loopN (fun i => V v M_X5_chance (zR v M_X5_chance (fun r' σ' => r' = (some (.long (q_chance (aW s) (nI p) (nI q) 0))) ∧ (RM s σ' ∧ FM σ σ'))) 109 [(0, .ref (v.1 40)), (1, .int (nI p)), (2, .int (nI q)), (3, .int 0), (4, .int (nI (nA (aW s) p))), (5, .int (nI (nA (aW s) q))), (6, .int (nI (nC (aW s) p q))), (7, .long (lN (smC (wS (aW s)) (nA (aW s) p) (nA (aW s) q) (nC (aW s) p q) i))), (9, .int (nI ((nC (aW s) p q) + i)))] [] (σ)) ((nA (aW s) q) + 1 - (nC (aW s) p q)) ?_ ?_
        · intro i hi ih
          refine v_iload dX5_chance_109 rfl ?_
          refine v_iload dX5_chance_111 rfl ?_
          refine v_icmp_gt (tgt := 152) dX5_chance_113 (by decide) (fun c113 => absurd c113 (nI_nlt (show (nC (aW s) p q) + i ≤ (nA (aW s) q) by omega) (by omega))) (fun c113 => ?_)
          refine v_lload dX5_chance_116 rfl ?_
          refine v_iload dX5_chance_118 rfl ?_
          refine v_iload dX5_chance_120 rfl ?_
          refine v_callSl (M' := M_X5_choose) (As := [_, _]) (s_X5_choose (n := (nA (aW s) p)) (by omega) _) dX5_chance_122 gX5_chance_X5_choose rfl nn_X5_choose ⟨rfl, rfl⟩ ⟨by decide, by decide⟩ rfl rfl (Nat.le_of_ble_eq_true rfl) ?_
          refine v_aload_n dX5_chance_125 rfl ?_
          refine v_get (j := 3) iO40 rfl dX5_chance_126 (by decide) in_X5_chance_X5 fl_X5_chance_13 rfl ?_
          refine v_iconst (x := 0) dX5_chance_129 rfl ?_
          refine v_ialdN 0 iI42 dX5_chance_130 rfl (by decide) (by decide) ?_
          refine v_top (mh_S hw) ?_
          refine v_iload dX5_chance_131 rfl ?_
          refine v_isub dX5_chance_133 ?_
          refine v_top (pk_sub hA1) ?_
          refine v_iload dX5_chance_134 rfl ?_
          refine v_iload dX5_chance_136 rfl ?_
          refine v_isub dX5_chance_138 ?_
          refine v_callSl (M' := M_X5_choose) (As := [_, _]) (s_X5_choose (n := wS (aW s) - (nA (aW s) p)) (by omega) _) dX5_chance_139 gX5_chance_X5_choose rfl nn_X5_choose ⟨rfl, rfl⟩ ⟨by decide, by decide⟩ rfl rfl (Nat.le_of_ble_eq_true rfl) ?_
          refine v_lmul dX5_chance_142 ?_
          refine v_topl (lN_mulN _ _) ?_
          refine v_ladd dX5_chance_143 ?_
          refine v_topl (y := lN (smC (wS (aW s)) (nA (aW s) p) (nA (aW s) q) (nC (aW s) p q) (i + 1))) (lN_add _ _) ?_
          refine v_lstore (L' := [(7, _), (0, _), (1, _), (2, _), (3, _), (4, _), (5, _), (6, _), (9, _)]) dX5_chance_144 (by decide) rfl ?_
          refine v_iinc (y := nI ((nC (aW s) p q) + (i + 1))) (L' := [(9, .int (nI ((nC (aW s) p q) + (i + 1)))), (7, _), (0, _), (1, _), (2, _), (3, _), (4, _), (5, _), (6, _)]) dX5_chance_146 rfl (nI_1 ((nC (aW s) p q) + i)) (by decide) rfl ?_
          refine v_goto (tgt := 109) dX5_chance_149 (by decide) ?_
          refine v_sub [2, 3, 4, 5, 6, 7, 8, 1, 0] rfl ?_
          exact ih
        · refine v_iload dX5_chance_109 rfl ?_
          refine v_iload dX5_chance_111 rfl ?_
          refine v_icmp_gt (tgt := 152) dX5_chance_113 (by decide) (fun c113 => ?_) (fun c113 => absurd (nI_lt (show (nA (aW s) q) < (nC (aW s) p q) + ((nA (aW s) q) + 1 - (nC (aW s) p q)) by omega) (by omega)) c113)
          refine v_aload_n dX5_chance_152 rfl ?_
          refine v_lload dX5_chance_153 rfl ?_
          refine v_topl (y := lN (chA (aW s) p q)) (by rw [chA, smC_eq (by omega) (by omega) hC1 hC2]) ?_
          refine v_aload_n dX5_chance_155 rfl ?_
          refine v_get (j := 3) iO40 rfl dX5_chance_156 (by decide) in_X5_chance_X5 fl_X5_chance_13 rfl ?_
          refine v_iconst (x := 0) dX5_chance_159 rfl ?_
          refine v_ialdN 0 iI42 dX5_chance_160 rfl (by decide) (by decide) ?_
          refine v_top (mh_S hw) ?_
          refine v_iload dX5_chance_161 rfl ?_
          refine v_callSl (M' := M_X5_choose) (As := [_, _]) (s_X5_choose (n := wS (aW s)) (by omega) _) dX5_chance_163 gX5_chance_X5_choose rfl nn_X5_choose ⟨rfl, rfl⟩ ⟨by decide, by decide⟩ rfl rfl (Nat.le_of_ble_eq_true rfl) ?_
          refine v_callVv (M' := M_X5_lowest) (As := [_, _]) iO40 (s_X5_lowest (a := chA (aW s) p q) (b := chB (aW s) q) (chA_lt hv p q) (by have := chB_pos hv q; omega) (chB_pos hv q).1) dX5_chance_166 gX5_chance_X5_lowest rfl rfl nn_X5_lowest ⟨rfl, rfl⟩ ⟨by decide, by decide⟩ rfl rfl (Nat.le_of_ble_eq_true rfl) ?_
          refine v_iload_n dX5_chance_169 rfl ?_
          refine v_if_ne (tgt := 180) dX5_chance_170 (by decide) (fun c170 => absurd rfl c170) (fun c170 => ?_)
          refine v_aload_n dX5_chance_173 rfl ?_
          refine v_get (j := 26) iO40 rfl dX5_chance_174 (by decide) in_X5_chance_X5 fl_X5_chance_167 rfl ?_
          refine v_topl (y := lN (chA (aW s) p q / Nat.gcd (chA (aW s) p q) (chB (aW s) q))) (by simp [sJ, vp_updL]) ?_
          refine v_goto (tgt := 195) dX5_chance_177 (by decide) ?_
          exact v_lret rfl dX5_chance_195 ⟨congrArg (fun z => some (Value.long z)) (by rw [q_chance, if_pos ⟨hh, by decide⟩, nI_clamp (by omega), nI_clamp (by omega), if_neg (by decide), if_pos rfl]), (rm_J hr _ _).1, (rm_J hr _ _).2⟩
    · refine v_iload_n dX5_chance_9 rfl ?_
      refine v_i2l dX5_chance_10 ?_
      refine v_lconst (x := 0) dX5_chance_11 rfl ?_
      refine v_ldc2 (x := (2)) (by decide +kernel) dX5_chance_12 ?_
      refine v_callSi (M' := M_X5_between) (As := [_, _, _]) (s_X5_between) dX5_chance_15 gX5_chance_X5_between rfl nn_X5_between ⟨rfl, rfl⟩ ⟨by decide, by decide⟩ rfl rfl (Nat.le_of_ble_eq_true rfl) ?_
      refine v_top (by rw [btw_lit 3 (by decide)]) ?_
      refine v_if_ne (tgt := 25) dX5_chance_18 (by decide) (fun c18 => ?_) (fun c18 => absurd c18 (by decide))
      obtain ⟨p, q, hp, hq, rfl, rfl, hpq⟩ := two_nI hh
      have hS := wv_S hv
      have hA1 := nA_le (aW s) p
      have hA2 := nA_le (aW s) q
      have hC1 := (nC_le (aW s) p q).1
      have hC2 := (nC_le (aW s) p q).2
      refine v_iconst (x := 0) dX5_chance_25 rfl ?_
      refine v_istore (L' := [(4, _), (0, _), (1, _), (2, _), (3, _)]) dX5_chance_26 (by decide) rfl ?_
      refine v_iconst (x := 0) dX5_chance_28 rfl ?_
      refine v_istore (L' := [(5, _), (4, _), (0, _), (1, _), (2, _), (3, _)]) dX5_chance_29 (by decide) rfl ?_
      refine v_iconst (x := 0) dX5_chance_31 rfl ?_
      refine v_istore (L' := [(6, _), (5, _), (4, _), (0, _), (1, _), (2, _), (3, _)]) dX5_chance_32 (by decide) rfl ?_
      refine v_iconst (x := 0) dX5_chance_34 rfl ?_
      refine v_istore (L' := [(7, _), (6, _), (5, _), (4, _), (0, _), (1, _), (2, _), (3, _)]) dX5_chance_35 (by decide) rfl ?_
      refine v_sub [4, 5, 6, 7, 3, 2, 1, 0] rfl ?_
      refine loopN (fun i => V v M_X5_chance (zR v M_X5_chance (fun r' σ' => r' = (some (.long (q_chance (aW s) (nI p) (nI q) 1))) ∧ (RM s σ' ∧ FM σ σ'))) 37 [(0, .ref (v.1 40)), (1, .int (nI p)), (2, .int (nI q)), (3, .int 1), (4, .int (nI (sm (fun k => psh (aW s) k / 2 ^ p % 2) i))), (5, .int (nI (sm (fun k => psh (aW s) k / 2 ^ q % 2) i))), (6, .int (nI (sm (fun k => psh (aW s) k / 2 ^ p % 2 * (psh (aW s) k / 2 ^ q % 2)) i))), (7, .int (nI i))] [] (σ)) (wS (aW s)) ?_ ?_
      · intro i hi ih
        refine v_iload dX5_chance_37 rfl ?_
        refine v_aload_n dX5_chance_39 rfl ?_
        refine v_get (j := 3) iO40 rfl dX5_chance_40 (by decide) in_X5_chance_X5 fl_X5_chance_13 rfl ?_
        refine v_iconst (x := 0) dX5_chance_43 rfl ?_
        refine v_ialdN 0 iI42 dX5_chance_44 rfl (by decide) (by decide) ?_
        refine v_top (mh_S hw) ?_
        refine v_icmp_ge (tgt := 102) dX5_chance_45 (by decide) (fun c45 => absurd c45 (nI_ge hi (by omega))) (fun c45 => ?_)
        refine v_aload_n dX5_chance_48 rfl ?_
        refine v_iload dX5_chance_49 rfl ?_
        refine v_callVi (M' := M_X5_partsOf) (As := [_]) iO40 (s_X5_partsOf hw hv hz (by omega)) dX5_chance_51 gX5_chance_X5_partsOf rfl rfl nn_X5_partsOf ⟨rfl, rfl⟩ ⟨by decide, by decide⟩ rfl rfl (Nat.le_of_ble_eq_true rfl) ?_
        refine v_iload_n dX5_chance_54 rfl ?_
        refine v_ishr dX5_chance_55 ?_
        refine v_iconst (x := 1) dX5_chance_56 rfl ?_
        refine v_iand dX5_chance_57 ?_
        refine v_top (nI_bit (Nat.lt_trans (psh_lt hv i) (by decide)) (by omega)) ?_
        refine v_istore (L' := [(8, _), (0, _), (1, _), (2, _), (3, _), (4, _), (5, _), (6, _), (7, _)]) dX5_chance_58 (by decide) rfl ?_
        refine v_aload_n dX5_chance_60 rfl ?_
        refine v_iload dX5_chance_61 rfl ?_
        refine v_callVi (M' := M_X5_partsOf) (As := [_]) iO40 (s_X5_partsOf hw hv hz (by omega)) dX5_chance_63 gX5_chance_X5_partsOf rfl rfl nn_X5_partsOf ⟨rfl, rfl⟩ ⟨by decide, by decide⟩ rfl rfl (Nat.le_of_ble_eq_true rfl) ?_
        refine v_iload_n dX5_chance_66 rfl ?_
        refine v_ishr dX5_chance_67 ?_
        refine v_iconst (x := 1) dX5_chance_68 rfl ?_
        refine v_iand dX5_chance_69 ?_
        refine v_top (nI_bit (Nat.lt_trans (psh_lt hv i) (by decide)) (by omega)) ?_
        refine v_istore (L' := [(9, _), (8, _), (0, _), (1, _), (2, _), (3, _), (4, _), (5, _), (6, _), (7, _)]) dX5_chance_70 (by decide) rfl ?_
        refine v_iload dX5_chance_72 rfl ?_
        refine v_iload dX5_chance_74 rfl ?_
        refine v_iadd dX5_chance_76 ?_
        refine v_top (nI_add _ _) ?_
        refine v_istore (L' := [(4, _), (9, _), (8, _), (0, _), (1, _), (2, _), (3, _), (5, _), (6, _), (7, _)]) dX5_chance_77 (by decide) rfl ?_
        refine v_iload dX5_chance_79 rfl ?_
        refine v_iload dX5_chance_81 rfl ?_
        refine v_iadd dX5_chance_83 ?_
        refine v_top (nI_add _ _) ?_
        refine v_istore (L' := [(5, _), (4, _), (9, _), (8, _), (0, _), (1, _), (2, _), (3, _), (6, _), (7, _)]) dX5_chance_84 (by decide) rfl ?_
        refine v_iload dX5_chance_86 rfl ?_
        refine v_iload dX5_chance_88 rfl ?_
        refine v_iload dX5_chance_90 rfl ?_
        refine v_imul dX5_chance_92 ?_
        refine v_top (pk_mul _ _) ?_
        refine v_iadd dX5_chance_93 ?_
        refine v_top (nI_add _ _) ?_
        refine v_istore (L' := [(6, _), (5, _), (4, _), (9, _), (8, _), (0, _), (1, _), (2, _), (3, _), (7, _)]) dX5_chance_94 (by decide) rfl ?_
        refine v_iinc (y := nI (i + 1)) (L' := [(7, .int (nI (i + 1))), (6, _), (5, _), (4, _), (9, _), (8, _), (0, _), (1, _), (2, _), (3, _)]) dX5_chance_96 rfl (nI_1 i) (by decide) rfl ?_
        refine v_goto (tgt := 37) dX5_chance_99 (by decide) ?_
        refine v_sub [6, 7, 8, 9, 3, 2, 1, 0] rfl ?_
        exact ih
      · refine v_iload dX5_chance_37 rfl ?_
        refine v_aload_n dX5_chance_39 rfl ?_
        refine v_get (j := 3) iO40 rfl dX5_chance_40 (by decide) in_X5_chance_X5 fl_X5_chance_13 rfl ?_
        refine v_iconst (x := 0) dX5_chance_43 rfl ?_
        refine v_ialdN 0 iI42 dX5_chance_44 rfl (by decide) (by decide) ?_
        refine v_top (mh_S hw) ?_
        refine v_icmp_ge (tgt := 102) dX5_chance_45 (by decide) (fun c45 => ?_) (fun c45 => absurd (nI_le (Nat.le_refl _) (by omega)) c45)
        refine v_lconst (x := 0) dX5_chance_102 rfl ?_
        refine v_lstore (L' := [(7, _), (0, _), (1, _), (2, _), (3, _), (4, _), (5, _), (6, _)]) dX5_chance_103 (by decide) rfl ?_
        refine v_iload dX5_chance_105 rfl ?_
        refine v_istore (L' := [(9, _), (7, _), (0, _), (1, _), (2, _), (3, _), (4, _), (5, _), (6, _)]) dX5_chance_107 (by decide) rfl ?_
        refine v_sub [2, 3, 4, 5, 6, 7, 8, 1, 0] rfl ?_
        refine loopN (fun i => V v M_X5_chance (zR v M_X5_chance (fun r' σ' => r' = (some (.long (q_chance (aW s) (nI p) (nI q) 1))) ∧ (RM s σ' ∧ FM σ σ'))) 109 [(0, .ref (v.1 40)), (1, .int (nI p)), (2, .int (nI q)), (3, .int 1), (4, .int (nI (nA (aW s) p))), (5, .int (nI (nA (aW s) q))), (6, .int (nI (nC (aW s) p q))), (7, .long (lN (smC (wS (aW s)) (nA (aW s) p) (nA (aW s) q) (nC (aW s) p q) i))), (9, .int (nI ((nC (aW s) p q) + i)))] [] (σ)) ((nA (aW s) q) + 1 - (nC (aW s) p q)) ?_ ?_
        · intro i hi ih
          refine v_iload dX5_chance_109 rfl ?_
          refine v_iload dX5_chance_111 rfl ?_
          refine v_icmp_gt (tgt := 152) dX5_chance_113 (by decide) (fun c113 => absurd c113 (nI_nlt (show (nC (aW s) p q) + i ≤ (nA (aW s) q) by omega) (by omega))) (fun c113 => ?_)
          refine v_lload dX5_chance_116 rfl ?_
          refine v_iload dX5_chance_118 rfl ?_
          refine v_iload dX5_chance_120 rfl ?_
          refine v_callSl (M' := M_X5_choose) (As := [_, _]) (s_X5_choose (n := (nA (aW s) p)) (by omega) _) dX5_chance_122 gX5_chance_X5_choose rfl nn_X5_choose ⟨rfl, rfl⟩ ⟨by decide, by decide⟩ rfl rfl (Nat.le_of_ble_eq_true rfl) ?_
          refine v_aload_n dX5_chance_125 rfl ?_
          refine v_get (j := 3) iO40 rfl dX5_chance_126 (by decide) in_X5_chance_X5 fl_X5_chance_13 rfl ?_
          refine v_iconst (x := 0) dX5_chance_129 rfl ?_
          refine v_ialdN 0 iI42 dX5_chance_130 rfl (by decide) (by decide) ?_
          refine v_top (mh_S hw) ?_
          refine v_iload dX5_chance_131 rfl ?_
          refine v_isub dX5_chance_133 ?_
          refine v_top (pk_sub hA1) ?_
          refine v_iload dX5_chance_134 rfl ?_
          refine v_iload dX5_chance_136 rfl ?_
          refine v_isub dX5_chance_138 ?_
          refine v_callSl (M' := M_X5_choose) (As := [_, _]) (s_X5_choose (n := wS (aW s) - (nA (aW s) p)) (by omega) _) dX5_chance_139 gX5_chance_X5_choose rfl nn_X5_choose ⟨rfl, rfl⟩ ⟨by decide, by decide⟩ rfl rfl (Nat.le_of_ble_eq_true rfl) ?_
          refine v_lmul dX5_chance_142 ?_
          refine v_topl (lN_mulN _ _) ?_
          refine v_ladd dX5_chance_143 ?_
          refine v_topl (y := lN (smC (wS (aW s)) (nA (aW s) p) (nA (aW s) q) (nC (aW s) p q) (i + 1))) (lN_add _ _) ?_
          refine v_lstore (L' := [(7, _), (0, _), (1, _), (2, _), (3, _), (4, _), (5, _), (6, _), (9, _)]) dX5_chance_144 (by decide) rfl ?_
          refine v_iinc (y := nI ((nC (aW s) p q) + (i + 1))) (L' := [(9, .int (nI ((nC (aW s) p q) + (i + 1)))), (7, _), (0, _), (1, _), (2, _), (3, _), (4, _), (5, _), (6, _)]) dX5_chance_146 rfl (nI_1 ((nC (aW s) p q) + i)) (by decide) rfl ?_
          refine v_goto (tgt := 109) dX5_chance_149 (by decide) ?_
          refine v_sub [2, 3, 4, 5, 6, 7, 8, 1, 0] rfl ?_
          exact ih
        · refine v_iload dX5_chance_109 rfl ?_
          refine v_iload dX5_chance_111 rfl ?_
          refine v_icmp_gt (tgt := 152) dX5_chance_113 (by decide) (fun c113 => ?_) (fun c113 => absurd (nI_lt (show (nA (aW s) q) < (nC (aW s) p q) + ((nA (aW s) q) + 1 - (nC (aW s) p q)) by omega) (by omega)) c113)
          refine v_aload_n dX5_chance_152 rfl ?_
          refine v_lload dX5_chance_153 rfl ?_
          refine v_topl (y := lN (chA (aW s) p q)) (by rw [chA, smC_eq (by omega) (by omega) hC1 hC2]) ?_
          refine v_aload_n dX5_chance_155 rfl ?_
          refine v_get (j := 3) iO40 rfl dX5_chance_156 (by decide) in_X5_chance_X5 fl_X5_chance_13 rfl ?_
          refine v_iconst (x := 0) dX5_chance_159 rfl ?_
          refine v_ialdN 0 iI42 dX5_chance_160 rfl (by decide) (by decide) ?_
          refine v_top (mh_S hw) ?_
          refine v_iload dX5_chance_161 rfl ?_
          refine v_callSl (M' := M_X5_choose) (As := [_, _]) (s_X5_choose (n := wS (aW s)) (by omega) _) dX5_chance_163 gX5_chance_X5_choose rfl nn_X5_choose ⟨rfl, rfl⟩ ⟨by decide, by decide⟩ rfl rfl (Nat.le_of_ble_eq_true rfl) ?_
          refine v_callVv (M' := M_X5_lowest) (As := [_, _]) iO40 (s_X5_lowest (a := chA (aW s) p q) (b := chB (aW s) q) (chA_lt hv p q) (by have := chB_pos hv q; omega) (chB_pos hv q).1) dX5_chance_166 gX5_chance_X5_lowest rfl rfl nn_X5_lowest ⟨rfl, rfl⟩ ⟨by decide, by decide⟩ rfl rfl (Nat.le_of_ble_eq_true rfl) ?_
          refine v_iload_n dX5_chance_169 rfl ?_
          refine v_if_ne (tgt := 180) dX5_chance_170 (by decide) (fun c170 => ?_) (fun c170 => absurd c170 (by decide))
          refine v_iload_n dX5_chance_180 rfl ?_
          refine v_iconst (x := 1) dX5_chance_181 rfl ?_
          refine v_icmp_ne (tgt := 192) dX5_chance_182 (by decide) (fun c182 => absurd rfl c182) (fun c182 => ?_)
          refine v_aload_n dX5_chance_185 rfl ?_
          refine v_get (j := 27) iO40 rfl dX5_chance_186 (by decide) in_X5_chance_X5 fl_X5_chance_171 rfl ?_
          refine v_topl (y := lN (chB (aW s) q / Nat.gcd (chA (aW s) p q) (chB (aW s) q))) (by simp [sJ, vp_updL]) ?_
          refine v_goto (tgt := 195) dX5_chance_189 (by decide) ?_
          exact v_lret rfl dX5_chance_195 ⟨congrArg (fun z => some (Value.long z)) (by rw [q_chance, if_pos ⟨hh, by decide⟩, nI_clamp (by omega), nI_clamp (by omega), if_neg (by decide), if_neg (by decide)]), (rm_J hr _ _).1, (rm_J hr _ _).2⟩
    · refine v_iload_n dX5_chance_9 rfl ?_
      refine v_i2l dX5_chance_10 ?_
      refine v_lconst (x := 0) dX5_chance_11 rfl ?_
      refine v_ldc2 (x := (2)) (by decide +kernel) dX5_chance_12 ?_
      refine v_callSi (M' := M_X5_between) (As := [_, _, _]) (s_X5_between) dX5_chance_15 gX5_chance_X5_between rfl nn_X5_between ⟨rfl, rfl⟩ ⟨by decide, by decide⟩ rfl rfl (Nat.le_of_ble_eq_true rfl) ?_
      refine v_top (by rw [btw_lit 3 (by decide)]) ?_
      refine v_if_ne (tgt := 25) dX5_chance_18 (by decide) (fun c18 => ?_) (fun c18 => absurd c18 (by decide))
      obtain ⟨p, q, hp, hq, rfl, rfl, hpq⟩ := two_nI hh
      have hS := wv_S hv
      have hA1 := nA_le (aW s) p
      have hA2 := nA_le (aW s) q
      have hC1 := (nC_le (aW s) p q).1
      have hC2 := (nC_le (aW s) p q).2
      refine v_iconst (x := 0) dX5_chance_25 rfl ?_
      refine v_istore (L' := [(4, _), (0, _), (1, _), (2, _), (3, _)]) dX5_chance_26 (by decide) rfl ?_
      refine v_iconst (x := 0) dX5_chance_28 rfl ?_
      refine v_istore (L' := [(5, _), (4, _), (0, _), (1, _), (2, _), (3, _)]) dX5_chance_29 (by decide) rfl ?_
      refine v_iconst (x := 0) dX5_chance_31 rfl ?_
      refine v_istore (L' := [(6, _), (5, _), (4, _), (0, _), (1, _), (2, _), (3, _)]) dX5_chance_32 (by decide) rfl ?_
      refine v_iconst (x := 0) dX5_chance_34 rfl ?_
      refine v_istore (L' := [(7, _), (6, _), (5, _), (4, _), (0, _), (1, _), (2, _), (3, _)]) dX5_chance_35 (by decide) rfl ?_
      refine v_sub [4, 5, 6, 7, 3, 2, 1, 0] rfl ?_
      refine loopN (fun i => V v M_X5_chance (zR v M_X5_chance (fun r' σ' => r' = (some (.long (q_chance (aW s) (nI p) (nI q) 2))) ∧ (RM s σ' ∧ FM σ σ'))) 37 [(0, .ref (v.1 40)), (1, .int (nI p)), (2, .int (nI q)), (3, .int 2), (4, .int (nI (sm (fun k => psh (aW s) k / 2 ^ p % 2) i))), (5, .int (nI (sm (fun k => psh (aW s) k / 2 ^ q % 2) i))), (6, .int (nI (sm (fun k => psh (aW s) k / 2 ^ p % 2 * (psh (aW s) k / 2 ^ q % 2)) i))), (7, .int (nI i))] [] (σ)) (wS (aW s)) ?_ ?_
      · intro i hi ih
        refine v_iload dX5_chance_37 rfl ?_
        refine v_aload_n dX5_chance_39 rfl ?_
        refine v_get (j := 3) iO40 rfl dX5_chance_40 (by decide) in_X5_chance_X5 fl_X5_chance_13 rfl ?_
        refine v_iconst (x := 0) dX5_chance_43 rfl ?_
        refine v_ialdN 0 iI42 dX5_chance_44 rfl (by decide) (by decide) ?_
        refine v_top (mh_S hw) ?_
        refine v_icmp_ge (tgt := 102) dX5_chance_45 (by decide) (fun c45 => absurd c45 (nI_ge hi (by omega))) (fun c45 => ?_)
        refine v_aload_n dX5_chance_48 rfl ?_
        refine v_iload dX5_chance_49 rfl ?_
        refine v_callVi (M' := M_X5_partsOf) (As := [_]) iO40 (s_X5_partsOf hw hv hz (by omega)) dX5_chance_51 gX5_chance_X5_partsOf rfl rfl nn_X5_partsOf ⟨rfl, rfl⟩ ⟨by decide, by decide⟩ rfl rfl (Nat.le_of_ble_eq_true rfl) ?_
        refine v_iload_n dX5_chance_54 rfl ?_
        refine v_ishr dX5_chance_55 ?_
        refine v_iconst (x := 1) dX5_chance_56 rfl ?_
        refine v_iand dX5_chance_57 ?_
        refine v_top (nI_bit (Nat.lt_trans (psh_lt hv i) (by decide)) (by omega)) ?_
        refine v_istore (L' := [(8, _), (0, _), (1, _), (2, _), (3, _), (4, _), (5, _), (6, _), (7, _)]) dX5_chance_58 (by decide) rfl ?_
        refine v_aload_n dX5_chance_60 rfl ?_
        refine v_iload dX5_chance_61 rfl ?_
        refine v_callVi (M' := M_X5_partsOf) (As := [_]) iO40 (s_X5_partsOf hw hv hz (by omega)) dX5_chance_63 gX5_chance_X5_partsOf rfl rfl nn_X5_partsOf ⟨rfl, rfl⟩ ⟨by decide, by decide⟩ rfl rfl (Nat.le_of_ble_eq_true rfl) ?_
        refine v_iload_n dX5_chance_66 rfl ?_
        refine v_ishr dX5_chance_67 ?_
        refine v_iconst (x := 1) dX5_chance_68 rfl ?_
        refine v_iand dX5_chance_69 ?_
        refine v_top (nI_bit (Nat.lt_trans (psh_lt hv i) (by decide)) (by omega)) ?_
        refine v_istore (L' := [(9, _), (8, _), (0, _), (1, _), (2, _), (3, _), (4, _), (5, _), (6, _), (7, _)]) dX5_chance_70 (by decide) rfl ?_
        refine v_iload dX5_chance_72 rfl ?_
        refine v_iload dX5_chance_74 rfl ?_
        refine v_iadd dX5_chance_76 ?_
        refine v_top (nI_add _ _) ?_
        refine v_istore (L' := [(4, _), (9, _), (8, _), (0, _), (1, _), (2, _), (3, _), (5, _), (6, _), (7, _)]) dX5_chance_77 (by decide) rfl ?_
        refine v_iload dX5_chance_79 rfl ?_
        refine v_iload dX5_chance_81 rfl ?_
        refine v_iadd dX5_chance_83 ?_
        refine v_top (nI_add _ _) ?_
        refine v_istore (L' := [(5, _), (4, _), (9, _), (8, _), (0, _), (1, _), (2, _), (3, _), (6, _), (7, _)]) dX5_chance_84 (by decide) rfl ?_
        refine v_iload dX5_chance_86 rfl ?_
        refine v_iload dX5_chance_88 rfl ?_
        refine v_iload dX5_chance_90 rfl ?_
        refine v_imul dX5_chance_92 ?_
        refine v_top (pk_mul _ _) ?_
        refine v_iadd dX5_chance_93 ?_
        refine v_top (nI_add _ _) ?_
        refine v_istore (L' := [(6, _), (5, _), (4, _), (9, _), (8, _), (0, _), (1, _), (2, _), (3, _), (7, _)]) dX5_chance_94 (by decide) rfl ?_
        refine v_iinc (y := nI (i + 1)) (L' := [(7, .int (nI (i + 1))), (6, _), (5, _), (4, _), (9, _), (8, _), (0, _), (1, _), (2, _), (3, _)]) dX5_chance_96 rfl (nI_1 i) (by decide) rfl ?_
        refine v_goto (tgt := 37) dX5_chance_99 (by decide) ?_
        refine v_sub [6, 7, 8, 9, 3, 2, 1, 0] rfl ?_
        exact ih
      · refine v_iload dX5_chance_37 rfl ?_
        refine v_aload_n dX5_chance_39 rfl ?_
        refine v_get (j := 3) iO40 rfl dX5_chance_40 (by decide) in_X5_chance_X5 fl_X5_chance_13 rfl ?_
        refine v_iconst (x := 0) dX5_chance_43 rfl ?_
        refine v_ialdN 0 iI42 dX5_chance_44 rfl (by decide) (by decide) ?_
        refine v_top (mh_S hw) ?_
        refine v_icmp_ge (tgt := 102) dX5_chance_45 (by decide) (fun c45 => ?_) (fun c45 => absurd (nI_le (Nat.le_refl _) (by omega)) c45)
        refine v_lconst (x := 0) dX5_chance_102 rfl ?_
        refine v_lstore (L' := [(7, _), (0, _), (1, _), (2, _), (3, _), (4, _), (5, _), (6, _)]) dX5_chance_103 (by decide) rfl ?_
        refine v_iload dX5_chance_105 rfl ?_
        refine v_istore (L' := [(9, _), (7, _), (0, _), (1, _), (2, _), (3, _), (4, _), (5, _), (6, _)]) dX5_chance_107 (by decide) rfl ?_
        refine v_sub [2, 3, 4, 5, 6, 7, 8, 1, 0] rfl ?_
        refine loopN (fun i => V v M_X5_chance (zR v M_X5_chance (fun r' σ' => r' = (some (.long (q_chance (aW s) (nI p) (nI q) 2))) ∧ (RM s σ' ∧ FM σ σ'))) 109 [(0, .ref (v.1 40)), (1, .int (nI p)), (2, .int (nI q)), (3, .int 2), (4, .int (nI (nA (aW s) p))), (5, .int (nI (nA (aW s) q))), (6, .int (nI (nC (aW s) p q))), (7, .long (lN (smC (wS (aW s)) (nA (aW s) p) (nA (aW s) q) (nC (aW s) p q) i))), (9, .int (nI ((nC (aW s) p q) + i)))] [] (σ)) ((nA (aW s) q) + 1 - (nC (aW s) p q)) ?_ ?_
        · intro i hi ih
          refine v_iload dX5_chance_109 rfl ?_
          refine v_iload dX5_chance_111 rfl ?_
          refine v_icmp_gt (tgt := 152) dX5_chance_113 (by decide) (fun c113 => absurd c113 (nI_nlt (show (nC (aW s) p q) + i ≤ (nA (aW s) q) by omega) (by omega))) (fun c113 => ?_)
          refine v_lload dX5_chance_116 rfl ?_
          refine v_iload dX5_chance_118 rfl ?_
          refine v_iload dX5_chance_120 rfl ?_
          refine v_callSl (M' := M_X5_choose) (As := [_, _]) (s_X5_choose (n := (nA (aW s) p)) (by omega) _) dX5_chance_122 gX5_chance_X5_choose rfl nn_X5_choose ⟨rfl, rfl⟩ ⟨by decide, by decide⟩ rfl rfl (Nat.le_of_ble_eq_true rfl) ?_
          refine v_aload_n dX5_chance_125 rfl ?_
          refine v_get (j := 3) iO40 rfl dX5_chance_126 (by decide) in_X5_chance_X5 fl_X5_chance_13 rfl ?_
          refine v_iconst (x := 0) dX5_chance_129 rfl ?_
          refine v_ialdN 0 iI42 dX5_chance_130 rfl (by decide) (by decide) ?_
          refine v_top (mh_S hw) ?_
          refine v_iload dX5_chance_131 rfl ?_
          refine v_isub dX5_chance_133 ?_
          refine v_top (pk_sub hA1) ?_
          refine v_iload dX5_chance_134 rfl ?_
          refine v_iload dX5_chance_136 rfl ?_
          refine v_isub dX5_chance_138 ?_
          refine v_callSl (M' := M_X5_choose) (As := [_, _]) (s_X5_choose (n := wS (aW s) - (nA (aW s) p)) (by omega) _) dX5_chance_139 gX5_chance_X5_choose rfl nn_X5_choose ⟨rfl, rfl⟩ ⟨by decide, by decide⟩ rfl rfl (Nat.le_of_ble_eq_true rfl) ?_
          refine v_lmul dX5_chance_142 ?_
          refine v_topl (lN_mulN _ _) ?_
          refine v_ladd dX5_chance_143 ?_
          refine v_topl (y := lN (smC (wS (aW s)) (nA (aW s) p) (nA (aW s) q) (nC (aW s) p q) (i + 1))) (lN_add _ _) ?_
          refine v_lstore (L' := [(7, _), (0, _), (1, _), (2, _), (3, _), (4, _), (5, _), (6, _), (9, _)]) dX5_chance_144 (by decide) rfl ?_
          refine v_iinc (y := nI ((nC (aW s) p q) + (i + 1))) (L' := [(9, .int (nI ((nC (aW s) p q) + (i + 1)))), (7, _), (0, _), (1, _), (2, _), (3, _), (4, _), (5, _), (6, _)]) dX5_chance_146 rfl (nI_1 ((nC (aW s) p q) + i)) (by decide) rfl ?_
          refine v_goto (tgt := 109) dX5_chance_149 (by decide) ?_
          refine v_sub [2, 3, 4, 5, 6, 7, 8, 1, 0] rfl ?_
          exact ih
        · refine v_iload dX5_chance_109 rfl ?_
          refine v_iload dX5_chance_111 rfl ?_
          refine v_icmp_gt (tgt := 152) dX5_chance_113 (by decide) (fun c113 => ?_) (fun c113 => absurd (nI_lt (show (nA (aW s) q) < (nC (aW s) p q) + ((nA (aW s) q) + 1 - (nC (aW s) p q)) by omega) (by omega)) c113)
          refine v_aload_n dX5_chance_152 rfl ?_
          refine v_lload dX5_chance_153 rfl ?_
          refine v_topl (y := lN (chA (aW s) p q)) (by rw [chA, smC_eq (by omega) (by omega) hC1 hC2]) ?_
          refine v_aload_n dX5_chance_155 rfl ?_
          refine v_get (j := 3) iO40 rfl dX5_chance_156 (by decide) in_X5_chance_X5 fl_X5_chance_13 rfl ?_
          refine v_iconst (x := 0) dX5_chance_159 rfl ?_
          refine v_ialdN 0 iI42 dX5_chance_160 rfl (by decide) (by decide) ?_
          refine v_top (mh_S hw) ?_
          refine v_iload dX5_chance_161 rfl ?_
          refine v_callSl (M' := M_X5_choose) (As := [_, _]) (s_X5_choose (n := wS (aW s)) (by omega) _) dX5_chance_163 gX5_chance_X5_choose rfl nn_X5_choose ⟨rfl, rfl⟩ ⟨by decide, by decide⟩ rfl rfl (Nat.le_of_ble_eq_true rfl) ?_
          refine v_callVv (M' := M_X5_lowest) (As := [_, _]) iO40 (s_X5_lowest (a := chA (aW s) p q) (b := chB (aW s) q) (chA_lt hv p q) (by have := chB_pos hv q; omega) (chB_pos hv q).1) dX5_chance_166 gX5_chance_X5_lowest rfl rfl nn_X5_lowest ⟨rfl, rfl⟩ ⟨by decide, by decide⟩ rfl rfl (Nat.le_of_ble_eq_true rfl) ?_
          refine v_iload_n dX5_chance_169 rfl ?_
          refine v_if_ne (tgt := 180) dX5_chance_170 (by decide) (fun c170 => ?_) (fun c170 => absurd c170 (by decide))
          refine v_iload_n dX5_chance_180 rfl ?_
          refine v_iconst (x := 1) dX5_chance_181 rfl ?_
          refine v_icmp_ne (tgt := 192) dX5_chance_182 (by decide) (fun c182 => ?_) (fun c182 => absurd c182 (by decide))
          refine v_iload dX5_chance_192 rfl ?_
          refine v_i2l dX5_chance_194 ?_
          refine v_topl (nI_l (by omega)) ?_
          exact v_lret rfl dX5_chance_195 ⟨congrArg (fun z => some (Value.long z)) (by rw [q_chance, if_pos ⟨hh, by decide⟩, nI_clamp (by omega), nI_clamp (by omega), if_pos rfl]), (rm_J hr _ _).1, (rm_J hr _ _).2⟩
    · refine v_iload_n dX5_chance_9 rfl ?_
      refine v_i2l dX5_chance_10 ?_
      refine v_lconst (x := 0) dX5_chance_11 rfl ?_
      refine v_ldc2 (x := (2)) (by decide +kernel) dX5_chance_12 ?_
      refine v_callSi (M' := M_X5_between) (As := [_, _, _]) (s_X5_between) dX5_chance_15 gX5_chance_X5_between rfl nn_X5_between ⟨rfl, rfl⟩ ⟨by decide, by decide⟩ rfl rfl (Nat.le_of_ble_eq_true rfl) ?_
      refine v_top (by rw [btw_lit 3 (by decide), hsw]) ?_
      refine v_if_ne (tgt := 25) dX5_chance_18 (by decide) (fun c18 => absurd c18 (by decide)) (fun c18 => ?_)
      refine v_ldc2 (x := (-1)) (by decide +kernel) dX5_chance_21 ?_
      exact v_lret rfl dX5_chance_24 ⟨congrArg (fun z => some (Value.long z)) (by rw [q_chance, if_neg (fun h => by exact absurd h.2 (by rw [hsw]; decide))]), hr, FM.rf σ⟩
