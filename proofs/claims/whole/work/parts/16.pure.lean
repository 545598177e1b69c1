/-! PURE: numbers, sums, and the wall as numbers. -/
theorem loopN (P : Nat → Prop) (n : Nat) (h : ∀ i, i < n → P (i + 1) → P i) (hn : P n) : P 0 := by
  have key : ∀ d, d ≤ n → P (n - d) := by
    intro d
    induction d with
    | zero => intro _; exact hn
    | succ d ih =>
      intro hd
      have h1 := ih (by omega)
      refine h (n - (d + 1)) (by omega) ?_
      have e : n - (d + 1) + 1 = n - d := by omega
      rw [e]
      exact h1
  have := key n (Nat.le_refl n)
  rwa [Nat.sub_self] at this
/-- a loop that may leave early -/
theorem loopF (P : Nat → Prop) (a n : Nat) (ha : a ≤ n) (h : ∀ i, a ≤ i → i < n → P (i + 1) → P i) (hn : P n) : P a := by
  have key : ∀ d, d ≤ n - a → P (n - d) := by
    intro d
    induction d with
    | zero => intro _; exact hn
    | succ d ih =>
      intro hd
      have h1 := ih (by omega)
      refine h (n - (d + 1)) (by omega) (by omega) ?_
      have e : n - (d + 1) + 1 = n - d := by omega
      rw [e]
      exact h1
  have := key (n - a) (Nat.le_refl _)
  rwa [show n - (n - a) = a by omega] at this
def bI (p : Bool) : Int32 := if p then 1 else 0
theorem bI_t {p : Bool} (h : p = true) : 1 = bI p := by rw [h]; rfl
theorem bI_f {p : Bool} (h : p = false) : 0 = bI p := by rw [h]; rfl
theorem bI_01 (p : Bool) : bI p = 0 ∨ bI p = 1 := by cases p <;> decide
theorem bI_0 {p : Bool} : bI p = 0 ↔ p = false := by cases p <;> decide
theorem bI_n0 {p : Bool} : ¬ bI p = 0 ↔ p = true := by cases p <;> decide
/-- an int within 0 .. n - 1 -/
def isN (k : Int32) (n : Nat) : Bool := decide (0 ≤ k.toInt ∧ k.toInt < n)
theorem isN_iff {k : Int32} {n : Nat} : isN k n = true ↔ 0 ≤ k.toInt ∧ k.toInt < n := by simp [isN]
theorem isN_nI {k : Int32} {n : Nat} (h : isN k n = true) : ∃ j, j < n ∧ j < 2 ^ 31 ∧ k = nI j := by
  obtain ⟨h0, h1⟩ := isN_iff.mp h
  obtain ⟨j, hj, e⟩ := nI_of (x := k) (by rw [Int32.lt_iff_toInt_lt, Int32.toInt_zero]; omega)
  refine ⟨j, ?_, hj, e⟩
  rw [e, nI_toInt hj] at h1
  omega
theorem isN_of {j n : Nat} (h : j < n) (hn : n < 2 ^ 31) : isN (nI j) n = true := by
  rw [isN_iff, nI_toInt (by omega)]
  omega
theorem isN_nI_iff {j n : Nat} (hj : j < 2 ^ 31) : isN (nI j) n = true ↔ j < n := by
  rw [isN_iff, nI_toInt hj]
  omega
theorem nI_lit_toInt (n : Nat) (h : n < 2 ^ 31) : (OfNat.ofNat n : Int32).toInt = n := nI_toInt h
def sm (f : Nat → Nat) : Nat → Nat
  | 0 => 0
  | n + 1 => sm f n + f n
def om (f : Nat → Nat) : Nat → Nat
  | 0 => 0
  | n + 1 => om f n ||| f n
theorem sm_cong {f g : Nat → Nat} : ∀ {n : Nat}, (∀ k, k < n → f k = g k) → sm f n = sm g n
  | 0, _ => rfl
  | n + 1, h => by rw [sm, sm, sm_cong (fun k hk => h k (by omega)), h n (by omega)]
theorem om_cong {f g : Nat → Nat} : ∀ {n : Nat}, (∀ k, k < n → f k = g k) → om f n = om g n
  | 0, _ => rfl
  | n + 1, h => by rw [om, om, om_cong (fun k hk => h k (by omega)), h n (by omega)]
theorem sm_le {f : Nat → Nat} {c : Nat} : ∀ {n : Nat}, (∀ k, k < n → f k ≤ c) → sm f n ≤ n * c
  | 0, _ => by simp [sm]
  | n + 1, h => by
    have h1 := sm_le (f := f) (c := c) (n := n) (fun k hk => h k (by omega))
    have h2 := h n (by omega)
    rw [sm, Nat.succ_mul]
    omega
theorem om_lt {f : Nat → Nat} {b : Nat} : ∀ {n : Nat}, (∀ k, k < n → f k < 2 ^ b) → om f n < 2 ^ b
  | 0, _ => Nat.two_pow_pos b
  | n + 1, h => by
    rw [om]
    exact Nat.or_lt_two_pow (om_lt (fun k hk => h k (by omega))) (h n (by omega))
theorem om_bit {f : Nat → Nat} {i : Nat} : ∀ {n : Nat}, (om f n).testBit i = true ↔ ∃ k, k < n ∧ (f k).testBit i = true
  | 0 => by simp [om]
  | n + 1 => by
    rw [om, Nat.testBit_or, Bool.or_eq_true, om_bit]
    constructor
    · rintro (⟨k, hk, h⟩ | h)
      · exact ⟨k, by omega, h⟩
      · exact ⟨n, by omega, h⟩
    · rintro ⟨k, hk, h⟩
      by_cases e : k = n
      · subst e
        exact Or.inr h
      · exact Or.inl ⟨k, by omega, h⟩
theorem nI_shl1 : ∀ p, p < 31 → (1 : Int32) <<< (nI p &&& 31) = nI (2 ^ p) := by decide +kernel
theorem nI_msk : ∀ p, p < 32 → nI p &&& 31 = nI p := by decide +kernel
theorem nI_smod : ∀ p, p < 32 → ((nI p &&& 31).toBitVec.smod 32).toNat = p := by decide +kernel
theorem nI_shr {a p : Nat} (ha : a < 2 ^ 31) (hp : p < 32) : nI a >>> (nI p &&& 31) = nI (a / 2 ^ p) := pk_shrN ha _ p (nI_smod p hp)
theorem nI_bit {a p : Nat} (ha : a < 2 ^ 31) (hp : p < 32) : (nI a >>> (nI p &&& 31)) &&& 1 = nI (a / 2 ^ p % 2) := by
  rw [nI_shr ha hp]
  have h := fa_mask (a / 2 ^ p) 1
  exact h
theorem tb_div (a p : Nat) : a.testBit p = decide (a / 2 ^ p % 2 = 1) := by
  rw [Nat.testBit_eq_decide_div_mod_eq]
/-- a bit as it is asked for: (a >> p & 1) == 1 -/
theorem nI_tb {a p : Nat} (ha : a < 2 ^ 31) (hp : p < 32) : (nI a >>> (nI p &&& 31)) &&& 1 = bI (a.testBit p) := by
  rw [nI_bit ha hp, tb_div]
  rcases Nat.mod_two_eq_zero_or_one (a / 2 ^ p) with h | h <;> rw [h] <;> rfl
/-! the wall: (signs, courses, names, pace), strokes, grown, part, first week, last week, heaps, behind, weeks -/
abbrev WD : Type := (Nat × Nat × Nat × Nat) × (Nat → Nat) × (Nat → Int32) × (Nat → Nat) × (Nat → Nat) × (Nat → Nat) × (Nat → Nat) × (Nat → Nat) × (Nat → Nat)
abbrev wS (w : WD) : Nat := w.1.1
abbrev wC (w : WD) : Nat := w.1.2.1
abbrev wN (w : WD) : Nat := w.1.2.2.1
abbrev wP (w : WD) : Nat := w.1.2.2.2
abbrev wT (w : WD) : Nat → Nat := w.2.1
abbrev wG (w : WD) : Nat → Int32 := w.2.2.1
abbrev wQ (w : WD) : Nat → Nat := w.2.2.2.1
abbrev wA (w : WD) : Nat → Nat := w.2.2.2.2.1
abbrev wB (w : WD) : Nat → Nat := w.2.2.2.2.2.1
abbrev wH (w : WD) : Nat → Nat := w.2.2.2.2.2.2.1
abbrev wE (w : WD) : Nat → Nat := w.2.2.2.2.2.2.2.1
abbrev wK (w : WD) : Nat → Nat := w.2.2.2.2.2.2.2.2
/-- a wall that a text may tell; z bounds a heap -/
def WV (z : Nat) (w : WD) : Prop := (wS w ≤ 16 ∧ wC w ≤ 16 ∧ wN w ≤ 10 ∧ 1 ≤ wP w ∧ wP w ≤ 99) ∧ (∀ k, k < wS w → 1 ≤ wT w k ∧ wT w k ≤ 9 ∧ (wG w k = -4 ∨ ∃ j, j < k ∧ wG w k = nI j)) ∧ (∀ c, c < wC w → wQ w c < 6 ∧ wA w c ≤ wB w c ∧ wB w c < 24) ∧ (∀ j, j < 288 → wH w j ≤ z) ∧ (∀ c k, c < 16 → wS w ≤ k → k < 16 → wH w (c * 18 + k) = 0) ∧ (∀ p, p < 6 → wE w p < 64) ∧ (∀ m, m < wN w → wK w m < 2 ^ 24)
/-- the class's wall at cell b holds w -/
def CH (b : Nat) (w : WD) (σ : SS) : Prop := (σ.1 b 8 = nI (wS w) ∧ σ.1 b 9 = nI (wC w) ∧ σ.1 b 10 = nI (wN w) ∧ σ.1 b 11 = nI (wP w)) ∧ (∀ k, k < wS w → σ.1 (b + 1) k = nI (wT w k) ∧ σ.1 (b + 2) k = wG w k) ∧ (∀ c, c < wC w → σ.1 (b + 3) c = nI (wQ w c) ∧ σ.1 (b + 4) c = nI (wA w c) ∧ σ.1 (b + 5) c = nI (wB w c)) ∧ (∀ j, j < 288 → σ.1 (b + 6) j = nI (wH w j)) ∧ (∀ p, p < 6 → σ.1 (b + 7) p = nI (wE w p)) ∧ (∀ m, m < wN w → σ.1 (b + 8) m = nI (wK w m))
/-- the reference's wall (d = 0: laid; 1: being told) holds w -/
def MH (d : Nat) (w : WD) (σ : SS) : Prop := (σ.1 42 d = nI (wS w) ∧ σ.1 44 d = nI (wC w) ∧ σ.1 47 d = nI (wN w) ∧ σ.1 49 d = nI (wP w)) ∧ (∀ k, k < wS w → σ.1 43 (32 * d + 2 * k) = nI (wT w k) ∧ σ.1 43 (32 * d + 2 * k + 1) = wG w k) ∧ (∀ c, c < wC w → σ.1 45 (48 * d + 3 * c) = nI (wQ w c) ∧ σ.1 45 (48 * d + 3 * c + 1) = nI (wA w c) ∧ σ.1 45 (48 * d + 3 * c + 2) = nI (wB w c)) ∧ (∀ j, j < 288 → σ.1 50 (864 * d + j) = nI (wH w j)) ∧ (∀ p, p < 6 → σ.1 46 (6 * d + p) = nI (wE w p)) ∧ (∀ m, m < wN w → σ.1 48 (10 * d + m) = nI (wK w m))
