/-! WHAT THE CALLS ANSWER, of the wall as numbers. -/
theorem sw_of {x : Int32} {n : Nat} (hn : n < 2 ^ 31) (h : isN x n = true) : ∃ j, j < n ∧ x = nI j := by
  obtain ⟨j, h1, -, h2⟩ := isN_nI h
  exact ⟨j, h1, h2⟩
theorem sw4 (x : Int32) : x = 0 ∨ x = 1 ∨ x = 2 ∨ x = 3 ∨ isN x 4 = false := by
  cases h : isN x 4 with
  | false => simp
  | true =>
    obtain ⟨j, hj, rfl⟩ := sw_of (by decide) h
    have : j = 0 ∨ j = 1 ∨ j = 2 ∨ j = 3 := by omega
    rcases this with rfl | rfl | rfl | rfl
    · exact Or.inl rfl
    · exact Or.inr (Or.inl rfl)
    · exact Or.inr (Or.inr (Or.inl rfl))
    · exact Or.inr (Or.inr (Or.inr (Or.inl rfl)))
theorem sw3 (x : Int32) : x = 0 ∨ x = 1 ∨ x = 2 ∨ isN x 3 = false := by
  cases h : isN x 3 with
  | false => simp
  | true =>
    obtain ⟨j, hj, rfl⟩ := sw_of (by decide) h
    have : j = 0 ∨ j = 1 ∨ j = 2 := by omega
    rcases this with rfl | rfl | rfl
    · exact Or.inl rfl
    · exact Or.inr (Or.inl rfl)
    · exact Or.inr (Or.inr (Or.inl rfl))
theorem sw7 (x : Int32) : x = 0 ∨ x = 1 ∨ x = 2 ∨ x = 3 ∨ x = 4 ∨ x = 5 ∨ x = 6 ∨ isN x 7 = false := by
  cases h : isN x 7 with
  | false => simp
  | true =>
    obtain ⟨j, hj, rfl⟩ := sw_of (by decide) h
    have : j = 0 ∨ j = 1 ∨ j = 2 ∨ j = 3 ∨ j = 4 ∨ j = 5 ∨ j = 6 := by omega
    rcases this with rfl | rfl | rfl | rfl | rfl | rfl | rfl
    · exact Or.inl rfl
    · exact Or.inr (Or.inl rfl)
    · exact Or.inr (Or.inr (Or.inl rfl))
    · exact Or.inr (Or.inr (Or.inr (Or.inl rfl)))
    · exact Or.inr (Or.inr (Or.inr (Or.inr (Or.inl rfl))))
    · exact Or.inr (Or.inr (Or.inr (Or.inr (Or.inr (Or.inl rfl)))))
    · exact Or.inr (Or.inr (Or.inr (Or.inr (Or.inr (Or.inr (Or.inl rfl))))))
theorem swo {x : Int32} {n : Nat} (h : isN x n = false) : x.toInt < 0 ∨ (n : Int) - 1 < x.toInt := by
  simp only [isN, decide_eq_false_iff_not] at h
  omega
theorem sw_ne {x : Int32} {n j : Nat} (h : isN x n = false) (hj : j < n) (hn : n < 2 ^ 31) : ¬ x = nI j := by
  intro e
  rw [e, isN_of hj hn] at h
  cases h
def q_sign (w : WD) (k what : Int32) : Int32 := if isN k (wS w) = true then (if what = 0 then nI (wT w k.toNatClampNeg) else if what = 1 then wG w k.toNatClampNeg else if what = 2 then nI (sms w k.toNatClampNeg) else if what = 3 then nI (psh w k.toNatClampNeg) else -1) else -1
def q_stones (w : WD) (c k : Int32) : Int32 := if isN c (wC w) = true ∧ isKd w k = true then nI (wH w (c.toNatClampNeg * 18 + (kdOf k).toNatClampNeg)) else -1
def q_in (w : WD) (p k : Int32) : Int32 := if isP w p = true ∧ isKd w k = true then nI (smp w p.toNatClampNeg (kdOf k).toNatClampNeg) else -1
def q_men (w : WD) (c what : Int32) : Int32 := if isN c (wC w) = true then (if what = 0 then nI (mnL w c.toNatClampNeg) else if what = 1 then nI (mnM w c.toNatClampNeg) else if what = 2 then nI (upd' (smc w c.toNatClampNeg) (wks w c.toNatClampNeg)) else -1) else -1
def q_asks (w : WD) (k c : Int32) : Int32 := if isN k (wS w) = true ∧ isN c (wC w) = true then nI (ask w k.toNatClampNeg c.toNatClampNeg) else -1
def q_may (w : WD) (m k : Int32) : Int32 := if isN m (wN w) = true ∧ isN k (wS w) = true then bI (mayc w m.toNatClampNeg k.toNatClampNeg) else -1
def q_count (w : WD) (len κ : Nat) (what : Int32) : Int32 := if what = 0 then nI (wS w) else if what = 1 then nI (wC w) else if what = 2 then nI (pc (pbits w)) else if what = 3 then nI (wN w) else if what = 4 then nI len else if what = 5 then nI κ else if what = 6 then nI (sma w) else -1
def alAny (w : WD) (p q : Nat) : Nat := sm (fun k => if ((psh w k).testBit p || (psh w k).testBit q) = true then wT w k else 0) (wS w)
def alBoth (w : WD) (p q : Nat) : Nat := sm (fun k => if ((psh w k).testBit p && (psh w k).testBit q) = true then wT w k else 0) (wS w)
def q_alike (w : WD) (p q : Int32) : Int32 := if two w p q = true then (if alAny w p.toNatClampNeg q.toNatClampNeg = 0 then 0 else nI (1000 * alBoth w p.toNatClampNeg q.toNatClampNeg / alAny w p.toNatClampNeg q.toNatClampNeg)) else -1
/-- of a sign grown from another one -/
def gr (w : WD) (k j : Nat) : Int32 := match fwk w k (wC w), fwk w j (wC w) with
  | some a, some d => if both w k j = true then 1 else if d ≤ a then 2 else 3
  | _, _ => -2
def q_grown (w : WD) (k : Int32) : Int32 := if isN k (wS w) = true then (if isN (wG w k.toNatClampNeg) (wS w) = true then gr w k.toNatClampNeg (wG w k.toNatClampNeg).toNatClampNeg else -2) else -1
theorem sm_zero {f : Nat → Nat} : ∀ {n : Nat}, sm f n = 0 ↔ ∀ k, k < n → f k = 0
  | 0 => by simp [sm]
  | n + 1 => by
    rw [sm, Nat.add_eq_zero_iff, sm_zero]
    constructor
    · rintro ⟨h1, h2⟩ k hk
      by_cases e : k = n
      · rw [e]; exact h2
      · exact h1 k (by omega)
    · intro h
      exact ⟨fun k hk => h k (by omega), h n (by omega)⟩
theorem fwk_none {w : WD} {k : Nat} : ∀ {n : Nat}, fwk w k n = none ↔ ∀ c, c < n → wH w (c * 18 + k) = 0
  | 0 => by simp [fwk]
  | n + 1 => by
    have ih := fwk_none (w := w) (k := k) (n := n)
    rw [fwk]
    constructor
    · intro h c hc
      by_cases q : 0 < wH w (n * 18 + k)
      · rw [if_pos q] at h
        cases e : fwk w k n with
        | none => rw [e] at h; cases h
        | some m =>
          rw [e] at h
          by_cases q2 : wA w n < m
          · simp [q2] at h
          · simp [q2] at h
      · rw [if_neg q] at h
        by_cases e : c = n
        · rw [e]; omega
        · exact ih.mp h c (by omega)
    · intro h
      rw [if_neg (by rw [h n (by omega)]; omega)]
      exact ih.mpr (fun c hc => h c (by omega))
theorem sms_zero {w : WD} {k : Nat} : sms w k = 0 ↔ fwk w k (wC w) = none := by rw [sms, sm_zero, fwk_none]
theorem wG_cases {z : Nat} {w : WD} (hv : WV z w) {k : Nat} (hk : k < wS w) : (wG w k = -4 ∧ isN (wG w k) (wS w) = false) ∨ ∃ j, j < wS w ∧ wG w k = nI j ∧ isN (wG w k) (wS w) = true := by
  have hS := wv_S hv
  rcases (hv.2.1 k hk).2.2 with h | ⟨j, hj, h⟩
  · exact Or.inl ⟨h, by rw [h]; exact isN_lt0 (by decide)⟩
  · exact Or.inr ⟨j, by omega, h, by rw [h]; exact isN_of (by omega) (by omega)⟩
theorem tb_om {f : Nat → Nat} {i n : Nat} : (om f n).testBit i = anyB (fun k => (f k).testBit i) n := by
  induction n with
  | zero => simp [om, anyB]
  | succ n ih => rw [om, anyB, Nat.testBit_or, ih]
theorem tb_pow {a i : Nat} : (2 ^ a).testBit i = decide (a = i) := by
  rw [Nat.testBit_two_pow]
theorem tb_ssb {w : WD} {c k : Nat} : (ssb w c).testBit k = (decide (k < wS w) && decide (0 < wH w (c * 18 + k))) := by
  rw [ssb, tb_om]
  cases h : anyB (fun j => (if 0 < wH w (c * 18 + j) then 2 ^ j else 0).testBit k) (wS w) with
  | true =>
    obtain ⟨j, hj, e⟩ := anyB_iff.mp h
    by_cases q : 0 < wH w (c * 18 + j)
    · simp only [q, if_true, tb_pow, decide_eq_true_eq] at e
      subst e
      simp [hj, q]
    · simp [q] at e
  | false =>
    cases h2 : (decide (k < wS w) && decide (0 < wH w (c * 18 + k))) with
    | false => rfl
    | true =>
      simp only [Bool.and_eq_true, decide_eq_true_eq] at h2
      rw [anyB_t (i := k) h2.1 (by simp only [h2.2, if_true, tb_pow, decide_true])] at h
      cases h
theorem tb_sgi {w : WD} {p k : Nat} (hk : k < wS w) : (sgi w p).testBit k = (psh w k).testBit p := by
  rw [sgi, psh, tb_om, tb_om]
  congr 1
  funext c
  by_cases h : wQ w c = p
  · by_cases q : 0 < wH w (c * 18 + k)
    · simp [h, q, tb_ssb, hk, tb_pow]
    · simp [h, q, tb_ssb]
  · by_cases q : 0 < wH w (c * 18 + k)
    · simp [h, q, tb_pow]
    · simp [h, q]
theorem bit01 (a k : Nat) : a / 2 ^ k % 2 = if a.testBit k = true then 1 else 0 := by
  rw [tb_div]
  rcases Nat.mod_two_eq_zero_or_one (a / 2 ^ k) with h | h <;> simp [h]
theorem stk_or {w : WD} {p q : Nat} : stk w (sgi w p ||| sgi w q) = alAny w p q := by
  rw [stk, alAny]
  refine sm_cong (fun k hk => ?_)
  rw [bit01, Nat.testBit_or, tb_sgi hk, tb_sgi hk]
  cases (psh w k).testBit p <;> cases (psh w k).testBit q <;> simp
theorem stk_and {w : WD} {p q : Nat} : stk w (sgi w p &&& sgi w q) = alBoth w p q := by
  rw [stk, alBoth]
  refine sm_cong (fun k hk => ?_)
  rw [bit01, Nat.testBit_and, tb_sgi hk, tb_sgi hk]
  cases (psh w k).testBit p <;> cases (psh w k).testBit q <;> simp
theorem sgi_lt {z : Nat} {w : WD} (hv : WV z w) (p : Nat) : sgi w p < 2 ^ 16 := om_lt (fun c _ => by
  by_cases h : wQ w c = p
  · simp only [h, if_true]; exact ssb_lt hv c
  · simp only [h, if_false]; exact Nat.two_pow_pos _)
theorem psh_lt {z : Nat} {w : WD} (hv : WV z w) (k : Nat) : psh w k < 2 ^ 6 := om_lt (fun c hc => by
  by_cases h : 0 < wH w (c * 18 + k)
  · simp only [h, if_true]; exact Nat.pow_lt_pow_right (by decide) (wv_Q hv hc)
  · simp only [h, if_false]; exact Nat.two_pow_pos _)
theorem alAny_le {z : Nat} {w : WD} (hv : WV z w) (p q : Nat) : alAny w p q ≤ 16 * 9 := by
  have h := sm_le (f := fun k => if ((psh w k).testBit p || (psh w k).testBit q) = true then wT w k else 0) (c := 9) (n := wS w) (fun k hk => by have := wv_T hv hk; split <;> omega)
  have hS := wv_S hv
  rw [alAny]
  omega
theorem alBoth_le {z : Nat} {w : WD} (hv : WV z w) (p q : Nat) : alBoth w p q ≤ 16 * 9 := by
  have h := sm_le (f := fun k => if ((psh w k).testBit p && (psh w k).testBit q) = true then wT w k else 0) (c := 9) (n := wS w) (fun k hk => by have := wv_T hv hk; split <;> omega)
  have hS := wv_S hv
  rw [alBoth]
  omega
theorem pc_ssb {z : Nat} {w : WD} (hv : WV z w) {c : Nat} (hc : c < wC w) : sm (fun k => if 0 < wH w (c * 18 + k) then 1 else 0) 16 = pc (ssb w c) := by
  have hS := wv_S hv
  have hC := wv_C hv
  rw [pc, show 24 = 16 + 8 from rfl, sm_split]
  have e2 : sm (fun k => ssb w c / 2 ^ (16 + k) % 2) 8 = 0 := sm_zero.mpr (fun k hk => by
    rw [bit01, tb_ssb, decide_eq_false (show ¬ 16 + k < wS w by omega)]
    rfl)
  rw [e2, Nat.add_zero]
  refine sm_cong (fun k hk => ?_)
  rw [bit01, tb_ssb]
  by_cases h : k < wS w
  · by_cases q : 0 < wH w (c * 18 + k) <;> simp [h, q]
  · have := hv.2.2.2.2.1 c k (by omega) (by omega) hk
    simp [h, this]
theorem isP_nI {w : WD} {p : Int32} (h : isP w p = true) : ∃ j, j < 6 ∧ p = nI j := by
  rw [isP, Bool.and_eq_true] at h
  obtain ⟨j, h1, -, h2⟩ := isN_nI h.1
  exact ⟨j, h1, h2⟩
theorem two_nI {w : WD} {p q : Int32} (h : two w p q = true) : ∃ i j, i < 6 ∧ j < 6 ∧ p = nI i ∧ q = nI j ∧ i ≠ j := by
  rw [two, Bool.and_eq_true, Bool.and_eq_true] at h
  obtain ⟨i, hi, e1⟩ := isP_nI h.1.1
  obtain ⟨j, hj, e2⟩ := isP_nI h.1.2
  refine ⟨i, j, hi, hj, e1, e2, fun e => ?_⟩
  have := h.2
  rw [e1, e2, e] at this
  simp at this
theorem sw4_ne {x : Int32} (h : isN x 4 = false) : ¬ x = 0 ∧ ¬ x = 1 ∧ ¬ x = 2 ∧ ¬ x = 3 := ⟨sw_ne (j := 0) h (by decide) (by decide), sw_ne (j := 1) h (by decide) (by decide), sw_ne (j := 2) h (by decide) (by decide), sw_ne (j := 3) h (by decide) (by decide)⟩
theorem sw3_ne {x : Int32} (h : isN x 3 = false) : ¬ x = 0 ∧ ¬ x = 1 ∧ ¬ x = 2 := ⟨sw_ne (j := 0) h (by decide) (by decide), sw_ne (j := 1) h (by decide) (by decide), sw_ne (j := 2) h (by decide) (by decide)⟩
theorem sw7_ne {x : Int32} (h : isN x 7 = false) : ¬ x = 0 ∧ ¬ x = 1 ∧ ¬ x = 2 ∧ ¬ x = 3 ∧ ¬ x = 4 ∧ ¬ x = 5 ∧ ¬ x = 6 := ⟨sw_ne (j := 0) h (by decide) (by decide), sw_ne (j := 1) h (by decide) (by decide), sw_ne (j := 2) h (by decide) (by decide), sw_ne (j := 3) h (by decide) (by decide), sw_ne (j := 4) h (by decide) (by decide), sw_ne (j := 5) h (by decide) (by decide), sw_ne (j := 6) h (by decide) (by decide)⟩
