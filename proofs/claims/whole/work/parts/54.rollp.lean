theorem pc_lt24 {S : Nat} (h : S < 2 ^ 24) : ∀ i, 24 ≤ i → S.testBit i = false := fun i hi => Nat.testBit_lt_two_pow (Nat.lt_of_lt_of_le h (Nat.pow_le_pow_right (by decide) hi))
theorem pc_or {S m : Nat} (hm : m < 24) (h : S.testBit m = false) : pc (S ||| 2 ^ m) = pc S + 1 := by
  have e : (1 : Nat) = sm (fun x => if x = m then 1 else 0) 24 := (sm_one hm).symm
  rw [pc, pc, e, ← sm_add]
  refine sm_cong (fun i _ => ?_)
  rw [bit01, bit01, tb_or2]
  by_cases c : i = m
  · subst c; simp [h]
  · simp [c, Ne.symm c]
theorem or_dif {S m : Nat} (h : S.testBit m = true) : dif S (2 ^ m) ||| 2 ^ m = S := Nat.eq_of_testBit_eq (fun i => by
  rw [tb_or2, tb_dif, tb_pow]
  by_cases c : m = i
  · subst c; simp [h]
  · simp [c])
theorem tb_difm {S m : Nat} : (dif S (2 ^ m)).testBit m = false := by rw [tb_dif, tb_pow]; simp
theorem pc_dif {S m : Nat} (hm : m < 24) (h : S.testBit m = true) : pc (dif S (2 ^ m)) + 1 = pc S := by
  have := pc_or (S := dif S (2 ^ m)) hm tb_difm
  rw [or_dif h] at this
  exact this.symm
theorem pc_0 : pc 0 = 0 := by decide
theorem pow_le10 {N : Nat} (hN : N ≤ 10) : 2 ^ N ≤ 1024 := by
  have : 2 ^ N ≤ 2 ^ 10 := Nat.pow_le_pow_right (by decide) hN
  exact this
theorem pc_N {N S : Nat} (hN : N ≤ 10) (h : S < 2 ^ N) : pc S = sm (fun m => if S.testBit m then 1 else 0) N := by
  rw [pc, sm_stop (i := N) (by omega) (fun k h1 _ => by
    rw [bit01, Nat.testBit_lt_two_pow (Nat.lt_of_lt_of_le h (Nat.pow_le_pow_right (by decide) h1))]; rfl)]
  exact sm_cong (fun m _ => bit01 S m)
theorem pc_leN {N S : Nat} (hN : N ≤ 10) (h : S < 2 ^ N) : pc S ≤ N := by
  rw [pc_N hN h]
  have := sm_le (f := fun m => if S.testBit m then 1 else 0) (c := 1) (n := N) (fun k _ => by split <;> omega)
  omega
def Fw (N : Nat) (a : Nat → Nat) : Nat → Nat → Nat
  | 0, S => if S = 0 then 1 else 0
  | j + 1, S => sm (fun m => if (a j).testBit m && S.testBit m then Fw N a j (dif S (2 ^ m)) else 0) N
def Bw (N : Nat) (a : Nat → Nat) (n : Nat) : Nat → Nat → Nat
  | 0, _ => 1
  | r + 1, S => sm (fun m => if (a (n - (r + 1))).testBit m && !S.testBit m then Bw N a n r (S ||| 2 ^ m) else 0) N
theorem bij (h : Nat → Nat) : ∀ (N m : Nat), m < N → ∀ (h : Nat → Nat), sm (fun S => if S.testBit m then h S else 0) (2 ^ N) = sm (fun T => if T.testBit m then 0 else h (T ||| 2 ^ m)) (2 ^ N)
  | 0, m, hm, _ => by omega
  | N + 1, m, hm, h => by
    rw [show 2 ^ (N + 1) = 2 ^ N + 2 ^ N by rw [Nat.pow_succ]; omega, sm_split, sm_split]
    have hlow : ∀ x, x < 2 ^ N → x.testBit N = false := fun x hx => Nat.testBit_lt_two_pow hx
    have hhi : ∀ x, x < 2 ^ N → ∀ i, (2 ^ N + x).testBit i = (decide (N = i) || x.testBit i) := fun x hx i => by
      rw [show 2 ^ N + x = 2 ^ N ||| x by
        have := Nat.two_pow_add_eq_or_of_lt hx 1
        rw [Nat.mul_one] at this
        exact this, Nat.testBit_or, tb_pow]
    by_cases c : m = N
    · subst c
      have e1 : sm (fun S => if S.testBit m then h S else 0) (2 ^ m) = 0 := sm_zero.mpr (fun x hx => by rw [hlow x hx]; rfl)
      have e2 : sm (fun x => if (2 ^ m + x).testBit m then 0 else h (2 ^ m + x ||| 2 ^ m)) (2 ^ m) = 0 := sm_zero.mpr (fun x hx => by rw [hhi x hx]; simp)
      rw [e1, e2, Nat.zero_add, Nat.add_zero]
      refine sm_cong (fun x hx => ?_)
      rw [hhi x hx, hlow x hx]
      have : x ||| 2 ^ m = 2 ^ m + x := by
        have := Nat.two_pow_add_eq_or_of_lt hx 1
        rw [Nat.mul_one] at this
        rw [this, Nat.or_comm]
      simp [this]
    · have hm' : m < N := by omega
      rw [bij h N m hm' h]
      · congr 1
        have : sm (fun x => if (2 ^ N + x).testBit m then h (2 ^ N + x) else 0) (2 ^ N) = sm (fun x => if x.testBit m then h (2 ^ N + x) else 0) (2 ^ N) := sm_cong (fun x hx => by rw [hhi x hx]; simp [Ne.symm c])
        rw [this, bij h N m hm' (fun x => h (2 ^ N + x))]
        refine sm_cong (fun x hx => ?_)
        rw [hhi x hx]
        have e : 2 ^ N + (x ||| 2 ^ m) = 2 ^ N + x ||| 2 ^ m := by
          have h1 : x ||| 2 ^ m < 2 ^ N := Nat.or_lt_two_pow hx (Nat.pow_lt_pow_right (by decide) hm')
          have a1 := Nat.two_pow_add_eq_or_of_lt hx 1
          have a2 := Nat.two_pow_add_eq_or_of_lt h1 1
          rw [Nat.mul_one] at a1 a2
          rw [a1, a2, Nat.or_assoc]
        simp [Ne.symm c, e]
theorem sm_mulr (f : Nat → Nat) (c : Nat) : ∀ n, sm f n * c = sm (fun k => f k * c) n
  | 0 => Nat.zero_mul _
  | n + 1 => by rw [sm, Nat.add_mul, sm_mulr f c n, sm]
theorem sm_mull (f : Nat → Nat) (c : Nat) : ∀ n, c * sm f n = sm (fun k => c * f k) n
  | 0 => Nat.mul_zero _
  | n + 1 => by rw [sm, Nat.mul_add, sm_mull f c n, sm]
theorem flow1 {N : Nat} {a : Nat → Nat} {n j : Nat} (hj : j < n) : sm (fun S => Fw N a (j + 1) S * Bw N a n (n - (j + 1)) S) (2 ^ N) = sm (fun S => Fw N a j S * Bw N a n (n - j) S) (2 ^ N) := by
  have e1 : sm (fun S => Fw N a (j + 1) S * Bw N a n (n - (j + 1)) S) (2 ^ N) = sm (fun S => sm (fun m => (if (a j).testBit m && S.testBit m then Fw N a j (dif S (2 ^ m)) else 0) * Bw N a n (n - (j + 1)) S) N) (2 ^ N) := sm_cong (fun S _ => by rw [Fw, sm_mulr])
  have e2 : sm (fun S => Fw N a j S * Bw N a n (n - j) S) (2 ^ N) = sm (fun S => sm (fun m => Fw N a j S * (if (a j).testBit m && !S.testBit m then Bw N a n (n - (j + 1)) (S ||| 2 ^ m) else 0)) N) (2 ^ N) := sm_cong (fun S _ => by
    rw [show n - j = (n - (j + 1)) + 1 by omega, Bw, sm_mull, show n - (n - (j + 1) + 1) = j by omega])
  rw [e1, e2, sm_swap (fun S m => (if (a j).testBit m && S.testBit m then Fw N a j (dif S (2 ^ m)) else 0) * Bw N a n (n - (j + 1)) S), sm_swap (fun S m => Fw N a j S * (if (a j).testBit m && !S.testBit m then Bw N a n (n - (j + 1)) (S ||| 2 ^ m) else 0))]
  refine sm_cong (fun m hm => ?_)
  by_cases c : (a j).testBit m = true
  · simp only [c, Bool.true_and]
    have e3 : sm (fun S => (if S.testBit m = true then Fw N a j (dif S (2 ^ m)) else 0) * Bw N a n (n - (j + 1)) S) (2 ^ N) = sm (fun S => if S.testBit m then Fw N a j (dif S (2 ^ m)) * Bw N a n (n - (j + 1)) S else 0) (2 ^ N) := sm_cong (fun S _ => by split <;> simp)
    rw [e3, bij (fun _ => 0) N m hm (fun S => Fw N a j (dif S (2 ^ m)) * Bw N a n (n - (j + 1)) S)]
    refine sm_cong (fun S _ => ?_)
    cases q : S.testBit m with
    | true => simp
    | false => simp [dif_or q]
  · rw [Bool.not_eq_true] at c
    have z1 : sm (fun S => (if ((a j).testBit m && S.testBit m) = true then Fw N a j (dif S (2 ^ m)) else 0) * Bw N a n (n - (j + 1)) S) (2 ^ N) = 0 := sm_zero.mpr (fun S _ => by rw [c]; simp)
    have z2 : sm (fun S => Fw N a j S * (if ((a j).testBit m && !S.testBit m) = true then Bw N a n (n - (j + 1)) (S ||| 2 ^ m) else 0)) (2 ^ N) = 0 := sm_zero.mpr (fun S _ => by rw [c]; simp)
    rw [z1, z2]
theorem flow {N : Nat} {a : Nat → Nat} {n : Nat} : ∀ j, j ≤ n → sm (fun S => Fw N a j S * Bw N a n (n - j) S) (2 ^ N) = Bw N a n n 0
  | 0, _ => by
    have hp : 0 < 2 ^ N := Nat.pow_pos (by decide)
    rw [show 2 ^ N = (2 ^ N - 1) + 1 by omega, sm_first, sm_zero.mpr (fun k _ => by rw [Fw, if_neg (by omega), Nat.zero_mul])]
    simp [Fw]
  | j + 1, h => by rw [flow1 h]; exact flow j (by omega)
theorem flow_n {N : Nat} {a : Nat → Nat} {n : Nat} : sm (Fw N a n) (2 ^ N) = Bw N a n n 0 := by
  rw [← flow n (Nat.le_refl _)]
  exact sm_cong (fun S _ => by rw [Nat.sub_self, Bw, Nat.mul_one])
def fc : Nat → Nat
  | 0 => 1
  | n + 1 => (n + 1) * fc n
theorem fc_pos : ∀ n, 0 < fc n
  | 0 => by decide
  | n + 1 => Nat.mul_pos (by omega) (fc_pos n)
theorem fc_le : ∀ n, n ≤ 10 → fc n ≤ 3628800 := by decide
theorem Fw_le {N : Nat} (hN : N ≤ 10) {a : Nat → Nat} : ∀ j S, S < 2 ^ N → Fw N a j S ≤ fc (pc S)
  | 0, S, h => by
    rw [Fw]; split
    · have := fc_pos (pc S); omega
    · exact Nat.zero_le _
  | j + 1, S, h => by
    rw [Fw]
    by_cases c : pc S = 0
    · have hz : ∀ m, m < N → S.testBit m = false := fun m hm => by
        rw [pc_N hN h] at c
        have := sm_zero.mp c m hm
        cases e : S.testBit m with
        | false => rfl
        | true => rw [e] at this; simp at this
      rw [sm_zero.mpr (fun m hm => by rw [hz m hm]; simp)]
      exact Nat.zero_le _
    · have h1 : sm (fun m => if (a j).testBit m && S.testBit m then Fw N a j (dif S (2 ^ m)) else 0) N ≤ sm (fun m => (if S.testBit m then 1 else 0) * fc (pc S - 1)) N := sm_mono (fun m hm => by
        by_cases q : S.testBit m = true
        · simp only [q, Bool.and_true, if_true, Nat.one_mul]
          split
          · have := Fw_le hN (a := a) j (dif S (2 ^ m)) (Nat.lt_of_le_of_lt (dif_le _ _) h)
            rw [show pc (dif S (2 ^ m)) = pc S - 1 by have := pc_dif (m := m) (by omega) q; omega] at this
            exact this
          · exact Nat.zero_le _
        · simp [q])
      rw [← sm_mulr, ← pc_N hN h] at h1
      have h2 : fc (pc S) = pc S * fc (pc S - 1) := by
        obtain ⟨p, hp⟩ : ∃ p, pc S = p + 1 := ⟨pc S - 1, by omega⟩
        rw [hp]; rfl
      rw [h2]; exact h1
theorem Bw_le {N : Nat} (hN : N ≤ 10) {a : Nat → Nat} {n : Nat} : ∀ r S, S < 2 ^ N → Bw N a n r S ≤ fc (N - pc S)
  | 0, S, h => fc_pos _
  | r + 1, S, h => by
    rw [Bw]
    have hle := pc_leN hN h
    have h0 : sm (fun m => if S.testBit m then 0 else 1) N = N - pc S := by
      have e := sm_add (fun m => if S.testBit m then 1 else 0) (fun m => if S.testBit m then 0 else 1) N
      rw [← pc_N hN h] at e
      have e2 : sm (fun m => (if S.testBit m = true then 1 else 0) + (if S.testBit m = true then 0 else 1)) N = N := by
        have : ∀ k, sm (fun m => (if S.testBit m = true then 1 else 0) + (if S.testBit m = true then 0 else 1)) k = k := by
          intro k
          induction k with
          | zero => rfl
          | succ k ih => rw [sm, ih]; split <;> rfl
        exact this N
      omega
    have h1 : sm (fun m => if (a (n - (r + 1))).testBit m && !S.testBit m then Bw N a n r (S ||| 2 ^ m) else 0) N ≤ sm (fun m => (if S.testBit m then 0 else 1) * fc (N - pc S - 1)) N := sm_mono (fun m hm => by
      cases q : S.testBit m with
      | true => simp
      | false =>
        simp only [Bool.not_false, Bool.and_true]
        split
        · have := Bw_le hN (a := a) (n := n) r (S ||| 2 ^ m) (Nat.or_lt_two_pow h (Nat.pow_lt_pow_right (by decide) hm))
          rw [pc_or (by omega) q, show N - (pc S + 1) = N - pc S - 1 by omega] at this
          simpa using this
        · exact Nat.zero_le _)
    rw [← sm_mulr, h0] at h1
    by_cases c : N - pc S = 0
    · rw [c, Nat.zero_mul] at h1
      have := fc_pos (N - pc S); omega
    · have h2 : fc (N - pc S) = (N - pc S) * fc (N - pc S - 1) := by
        obtain ⟨p, hp⟩ : ∃ p, N - pc S = p + 1 := ⟨N - pc S - 1, by omega⟩
        rw [hp]; rfl
      rw [h2]; exact h1
theorem Fw_0 {N : Nat} (hN : N ≤ 10) {a : Nat → Nat} : ∀ j S, pc S ≠ j → Fw N a j S = 0
  | 0, S, h => by
    rw [Fw, if_neg (fun e => by rw [e] at h; exact h pc_0)]
  | j + 1, S, h => by
    rw [Fw]
    refine sm_zero.mpr (fun m hm => ?_)
    by_cases q : S.testBit m = true
    · have := pc_dif (m := m) (by omega) q
      rw [Fw_0 hN j _ (by omega)]; simp
    · simp [q]
theorem Fw_big {N : Nat} {a : Nat → Nat} : ∀ j S, 2 ^ N ≤ S → Fw N a j S = 0
  | 0, S, h => by
    have : 0 < 2 ^ N := Nat.pow_pos (by decide)
    rw [Fw, if_neg (by omega)]
  | j + 1, S, h => by
    rw [Fw]
    refine sm_zero.mpr (fun m hm => ?_)
    have : 2 ^ N ≤ dif S (2 ^ m) := by
      obtain ⟨i, hi, hb⟩ : ∃ i, N ≤ i ∧ S.testBit i = true := by
        apply Classical.byContradiction
        intro q
        have : S < 2 ^ N := Nat.lt_pow_two_of_testBit (n := N) S (fun i hi => by
          cases e : S.testBit i with
          | false => rfl
          | true => exact absurd ⟨i, hi, e⟩ q)
        omega
      have hb2 : (dif S (2 ^ m)).testBit i = true := by
        rw [tb_dif, hb, tb_pow, decide_eq_false (by omega)]; rfl
      exact Nat.le_trans (Nat.pow_le_pow_right (by decide) hi) (Nat.ge_two_pow_of_testBit hb2)
    rw [Fw_big j _ this]; simp
theorem Fw_cong {N : Nat} {a b : Nat → Nat} : ∀ j, (∀ i, i < j → a i = b i) → ∀ S, Fw N a j S = Fw N b j S
  | 0, _, S => rfl
  | j + 1, h, S => by
    rw [Fw, Fw, h j (by omega)]
    exact sm_cong (fun m _ => by rw [Fw_cong j (fun i hi => h i (by omega))])
theorem Bw_cong {N : Nat} {a b : Nat → Nat} {n : Nat} : ∀ r, r ≤ n → (∀ i, n - r ≤ i → i < n → a i = b i) → ∀ S, Bw N a n r S = Bw N b n r S
  | 0, _, _, S => rfl
  | r + 1, hr, h, S => by
    rw [Bw, Bw, h (n - (r + 1)) (by omega) (by omega)]
    exact sm_cong (fun m _ => by rw [Bw_cong r (by omega) (fun i h1 h2 => h i (by omega) h2)])
def rs (a : Nat → Nat) (q m : Nat) : Nat → Nat := fun j => if j = q then a j &&& 2 ^ m else a j
def TT (N : Nat) (a : Nat → Nat) (n q m : Nat) : Nat := sm (fun S => Fw N a q S * (if (a q).testBit m && !S.testBit m then Bw N a n (n - (q + 1)) (S ||| 2 ^ m) else 0)) (2 ^ N)
theorem TT_rs {N : Nat} {a : Nat → Nat} {n q m : Nat} (hq : q < n) (hm : m < N) : sm (Fw N (rs a q m) n) (2 ^ N) = TT N a n q m := by
  rw [flow_n, ← flow q (by omega), TT]
  refine sm_cong (fun S _ => ?_)
  rw [Fw_cong (b := a) q (fun i hi => by rw [rs, if_neg (by omega)])]
  congr 1
  rw [show n - q = (n - (q + 1)) + 1 by omega, Bw, show n - (n - (q + 1) + 1) = q by omega]
  have e : sm (fun x => if ((rs a q m) q).testBit x && !S.testBit x then Bw N (rs a q m) n (n - (q + 1)) (S ||| 2 ^ x) else 0) N = sm (fun x => if x = m then (if (a q).testBit m && !S.testBit m then Bw N a n (n - (q + 1)) (S ||| 2 ^ m) else 0) else 0) N := sm_cong (fun x _ => by
    rw [rs, if_pos rfl, Nat.testBit_and, tb_pow]
    by_cases c : x = m
    · subst c
      rw [if_pos rfl, Bw_cong (b := a) (n - (q + 1)) (by omega) (fun i h1 h2 => by rw [rs, if_neg (by omega)])]
      simp
    · rw [if_neg c]; simp [Ne.symm c])
  rw [e, sm_one hm]
theorem TT_sum {N : Nat} {a : Nat → Nat} {n q : Nat} (hq : q < n) : sm (TT N a n q) N = Bw N a n n 0 := by
  rw [← flow q (by omega)]
  have e : sm (TT N a n q) N = sm (fun m => sm (fun S => Fw N a q S * (if (a q).testBit m && !S.testBit m then Bw N a n (n - (q + 1)) (S ||| 2 ^ m) else 0)) (2 ^ N)) N := rfl
  rw [e, ← sm_swap (fun S m => Fw N a q S * (if (a q).testBit m && !S.testBit m then Bw N a n (n - (q + 1)) (S ||| 2 ^ m) else 0))]
  refine sm_cong (fun S _ => ?_)
  rw [← sm_mull, show n - q = (n - (q + 1)) + 1 by omega, Bw, show n - (n - (q + 1) + 1) = q by omega]
def GV (N : Nat) (a : Nat → Nat) (S : Nat) : Nat := Fw N a (pc S) S
def TG (N : Nat) (a : Nat → Nat) (n S : Nat) : Nat := if pc S ≤ n then Bw N a n (n - pc S) S else 0
theorem GV_le {N : Nat} (hN : N ≤ 10) {a : Nat → Nat} {S : Nat} (h : S < 2 ^ N) : GV N a S ≤ 3628800 := Nat.le_trans (Fw_le hN _ _ h) (fc_le _ (Nat.le_trans (pc_leN hN h) hN))
theorem TG_le {N : Nat} (hN : N ≤ 10) {a : Nat → Nat} {n S : Nat} (h : S < 2 ^ N) : TG N a n S ≤ 3628800 := by
  rw [TG]; split
  · exact Nat.le_trans (Bw_le hN _ _ h) (fc_le _ (by omega))
  · omega
theorem GV_s {N : Nat} (hN : N ≤ 10) {a : Nat → Nat} {S : Nat} (h0 : S ≠ 0) (h : S < 2 ^ N) : GV N a S = sm (fun m => if (a (pc S - 1) &&& S).testBit m then GV N a (dif S (2 ^ m)) else 0) N := by
  have hp : pc S ≠ 0 := fun c => h0 (Nat.eq_of_testBit_eq (fun i => by
    rw [Nat.zero_testBit]
    by_cases hi : i < N
    · rw [pc_N hN h] at c
      have := sm_zero.mp c i hi
      cases e : S.testBit i with
      | false => rfl
      | true => rw [e] at this; simp at this
    · exact Nat.testBit_lt_two_pow (Nat.lt_of_lt_of_le h (Nat.pow_le_pow_right (by decide) (by omega)))))
  rw [GV, show pc S = (pc S - 1) + 1 by omega, Fw]
  refine sm_cong (fun m hm => ?_)
  rw [Nat.testBit_and]
  by_cases q : S.testBit m = true
  · have := pc_dif (m := m) (by omega) q
    rw [GV, show pc (dif S (2 ^ m)) = pc S - 1 by omega]
    rw [show pc S - 1 + 1 - 1 = pc S - 1 by omega]
  · simp [q]
theorem TG_s {N : Nat} (hN : N ≤ 10) {a : Nat → Nat} {n S : Nat} (ha : ∀ j, n ≤ j → a j = 0) : TG N a n S = (if pc S = n then 1 else 0) + sm (fun m => if (dif (a (pc S)) S).testBit m then TG N a n (S ||| 2 ^ m) else 0) N := by
  rcases Nat.lt_trichotomy (pc S) n with c | c | c
  · rw [TG, if_pos (by omega), if_neg (by omega), Nat.zero_add, show n - pc S = (n - (pc S + 1)) + 1 by omega, Bw, show n - (n - (pc S + 1) + 1) = pc S by omega]
    refine sm_cong (fun m hm => ?_)
    rw [tb_dif]
    cases q : S.testBit m with
    | true => simp
    | false =>
      have e2 : TG N a n (S ||| 2 ^ m) = Bw N a n (n - (pc S + 1)) (S ||| 2 ^ m) := by rw [TG, pc_or (by omega) q, if_pos (by omega)]
      rw [e2]
  · rw [TG, if_pos (by omega), if_pos c, c, Nat.sub_self, Bw, sm_zero.mpr (fun m _ => by rw [ha n (Nat.le_refl _), tb_dif, Nat.zero_testBit]; rfl)]
  · rw [TG, if_neg (by omega), if_neg (by omega), sm_zero.mpr (fun m _ => by rw [ha _ (by omega), tb_dif, Nat.zero_testBit]; rfl)]
theorem TG_0 {N : Nat} {a : Nat → Nat} {n : Nat} : TG N a n 0 = Bw N a n n 0 := by rw [TG, pc_0, if_pos (Nat.zero_le _), Nat.sub_zero]
theorem TT_cl {N : Nat} (hN : N ≤ 10) {a : Nat → Nat} {n q m : Nat} (hq : q < n) (hm : m < N) : sm (fun S => if pc S = q ∧ (dif (a q) S).testBit m then GV N a S * TG N a n (S ||| 2 ^ m) else 0) (2 ^ N) = TT N a n q m := by
  rw [TT]
  refine sm_cong (fun S _ => ?_)
  by_cases c : pc S = q
  · rw [tb_dif, GV, c]
    cases e : S.testBit m with
    | true => simp
    | false =>
      have e2 : TG N a n (S ||| 2 ^ m) = Bw N a n (n - (q + 1)) (S ||| 2 ^ m) := by rw [TG, pc_or (by omega) e, if_pos (by omega), c]
      rw [e2]
      by_cases d : (a q).testBit m = true
      · simp [d]
      · simp [d]
  · rw [if_neg (fun h => c h.1), Fw_0 hN q S c, Nat.zero_mul]
