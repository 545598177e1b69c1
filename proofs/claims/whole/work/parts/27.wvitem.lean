theorem WV.mono {z z' : Nat} {w : WD} (h : WV z w) (hz : z ≤ z') : WV z' w := ⟨h.1, h.2.1, h.2.2.1, fun j hj => Nat.le_trans (h.2.2.2.1 j hj) hz, h.2.2.2.2⟩
theorem wv_00 : WV 0 w00 := by
  refine ⟨⟨by decide, by decide, by decide, by decide, by decide⟩, fun k hk => ?_, fun k hk => ?_, fun _ _ => Nat.le_refl _, fun _ _ _ _ _ => rfl, fun _ _ => by show 0 < 64; decide, fun m hm => ?_⟩
  · exact absurd hk (Nat.not_lt_zero k)
  · exact absurd hk (Nat.not_lt_zero k)
  · exact absurd hm (Nat.not_lt_zero m)
theorem wv_iG {z : Nat} {w w' : WD} {a b : Nat} (h : WV z w) (e : iG w a b = some w') : WV z w' := by
  rw [iG] at e
  by_cases c : wS w < 16 ∧ 1 ≤ a ∧ a ≤ 9 ∧ (b < wS w ∨ b = 99)
  · rw [if_pos c] at e
    cases e
    obtain ⟨⟨h1, h2, h3, h4, h4'⟩, h5, h6, h7, h8, h9, h10⟩ := h
    refine ⟨⟨by show wS w + 1 ≤ 16; omega, h2, h3, h4, h4'⟩, fun k hk => ?_, h6, h7, fun c' k h1 h2 h3 => h8 c' k h1 (by have : wS w + 1 ≤ k := h2; omega) h3, h9, h10⟩
    have hk : k < wS w + 1 := hk
    show 1 ≤ va_up (wT w) (wS w) a k ∧ va_up (wT w) (wS w) a k ≤ 9 ∧ (va_up (wG w) (wS w) (if b = 99 then -4 else nI b) k = -4 ∨ ∃ j, j < k ∧ va_up (wG w) (wS w) (if b = 99 then -4 else nI b) k = nI j)
    by_cases q : k = wS w
    · subst q
      refine ⟨by simp [va_up]; omega, by simp [va_up]; omega, ?_⟩
      by_cases q2 : b = 99
      · left; simp [va_up, q2]
      · right; exact ⟨b, by omega, by simp [va_up, q2]⟩
    · have := h5 k (by omega)
      simpa [va_up, q] using this
  · rw [if_neg c] at e; cases e
theorem wv_iC {z : Nat} {w w' : WD} {a b d : Nat} (h : WV z w) (e : iC w a b d = some w') : WV z w' := by
  rw [iC] at e
  by_cases c : wC w < 16 ∧ a < 6 ∧ b ≤ d ∧ d < 24
  · rw [if_pos c] at e
    cases e
    obtain ⟨⟨h1, h2, h3, h4, h4'⟩, h5, h6, h7, h8, h9, h10⟩ := h
    refine ⟨⟨h1, by show wC w + 1 ≤ 16; omega, h3, h4, h4'⟩, h5, fun k hk => ?_, h7, h8, h9, h10⟩
    have hk : k < wC w + 1 := hk
    show va_up (wQ w) (wC w) a k < 6 ∧ va_up (wA w) (wC w) b k ≤ va_up (wB w) (wC w) d k ∧ va_up (wB w) (wC w) d k < 24
    by_cases q : k = wC w
    · subst q
      simp only [va_up, if_true]
      omega
    · have := h6 k (by omega)
      simpa [va_up, q] using this
  · rw [if_neg c] at e; cases e
theorem wv_iT {z : Nat} {w w' : WD} {a b d : Nat} (h : WV z w) (e : iT w a b d = some w') : WV (z + 99) w' := by
  rw [iT] at e
  by_cases c : a < wC w ∧ (b < wS w ∨ b = 98 ∨ b = 99) ∧ 1 ≤ d ∧ d ≤ 99
  · rw [if_pos c] at e
    cases e
    obtain ⟨⟨h1, h2, h3, h4, h4'⟩, h5, h6, h7, h8, h9, h10⟩ := h
    have hk : kdN b < wS w ∨ kdN b = 16 ∨ kdN b = 17 := by
      rw [kdN]
      by_cases q1 : b = 98
      · simp [q1]
      · by_cases q2 : b = 99
        · simp [q2]
        · rw [if_neg q1, if_neg q2]; omega
    refine ⟨⟨h1, h2, h3, h4, h4'⟩, h5, h6, fun j hj => ?_, fun c' k g1 g2 g3 => ?_, h9, h10⟩
    · show va_up (wH w) (a * 18 + kdN b) (wH w (a * 18 + kdN b) + d) j ≤ z + 99
      have := h7 j hj
      by_cases q : j = a * 18 + kdN b
      · subst q; simp only [va_up, if_true]; omega
      · simp only [va_up, q, if_false]; omega
    · show va_up (wH w) (a * 18 + kdN b) (wH w (a * 18 + kdN b) + d) (c' * 18 + k) = 0
      have g2 : wS w ≤ k := g2
      have q : ¬ c' * 18 + k = a * 18 + kdN b := by omega
      simp only [va_up, q, if_false]
      exact h8 c' k g1 g2 g3
  · rw [if_neg c] at e; cases e
theorem wv_iB {z : Nat} {w w' : WD} {a b : Nat} (h : WV z w) (e : iB w a b = some w') : WV z w' := by
  rw [iB] at e
  by_cases c : a < 6 ∧ b < 6 ∧ a ≠ b
  · rw [if_pos c] at e
    cases e
    obtain ⟨h1, h5, h6, h7, h8, h9, h10⟩ := h
    refine ⟨h1, h5, h6, h7, h8, fun p hp => ?_, h10⟩
    show va_up (wE w) a (wE w a ||| 2 ^ b) p < 64
    by_cases q : p = a
    · subst q
      simp only [va_up, if_true]
      exact Nat.or_lt_two_pow (n := 6) (h9 p hp) (Nat.pow_lt_pow_right (by decide) c.2.1)
    · simp only [va_up, q, if_false]; exact h9 p hp
  · rw [if_neg c] at e; cases e
theorem wb_lt {b a : Nat} (hb : b < 24) : 2 ^ (b + 1) - 2 ^ a < 2 ^ 24 := by
  have h1 : 2 ^ (b + 1) ≤ 2 ^ 24 := Nat.pow_le_pow_right (by decide) (by omega)
  have h2 := Nat.two_pow_pos a
  omega
theorem wv_iN {z : Nat} {w w' : WD} {a b : Nat} (h : WV z w) (e : iN w a b = some w') : WV z w' := by
  rw [iN] at e
  by_cases c : wN w < 10 ∧ a ≤ b ∧ b < 24
  · rw [if_pos c] at e
    cases e
    obtain ⟨⟨h1, h2, h3, h4, h4'⟩, h5, h6, h7, h8, h9, h10⟩ := h
    refine ⟨⟨h1, h2, by show wN w + 1 ≤ 10; omega, h4, h4'⟩, h5, h6, h7, h8, h9, fun m hm => ?_⟩
    have hm : m < wN w + 1 := hm
    show va_up (wK w) (wN w) (2 ^ (b + 1) - 2 ^ a) m < 2 ^ 24
    by_cases q : m = wN w
    · subst q; simp only [va_up, if_true]; exact wb_lt c.2.2
    · simp only [va_up, q, if_false]; exact h10 m (by omega)
  · rw [if_neg c] at e; cases e
theorem wv_iA {z : Nat} {w w' : WD} {a b d : Nat} (h : WV z w) (e : iA w a b d = some w') : WV z w' := by
  rw [iA] at e
  by_cases c : a < wN w ∧ b ≤ d ∧ d < 24
  · rw [if_pos c] at e
    cases e
    obtain ⟨h1, h5, h6, h7, h8, h9, h10⟩ := h
    refine ⟨h1, h5, h6, h7, h8, h9, fun m hm => ?_⟩
    show va_up (wK w) a (wK w a ||| (2 ^ (d + 1) - 2 ^ b)) m < 2 ^ 24
    by_cases q : m = a
    · subst q; simp only [va_up, if_true]; exact Nat.or_lt_two_pow (h10 m hm) (wb_lt c.2.2)
    · simp only [va_up, q, if_false]; exact h10 m hm
  · rw [if_neg c] at e; cases e
theorem wv_iW {z : Nat} {w w' : WD} {a : Nat} (h : WV z w) (e : iW w a = some w') : WV z w' := by
  rw [iW] at e
  by_cases c : 1 ≤ a ∧ a ≤ 99
  · rw [if_pos c] at e
    cases e
    obtain ⟨⟨h1, h2, h3, h4, h4'⟩, hr⟩ := h
    exact ⟨⟨h1, h2, h3, c.1, c.2⟩, hr⟩
  · rw [if_neg c] at e; cases e
theorem itemAt_wv {u : Nat → Nat} {len p z : Nat} {w w' : WD} {q : Nat} (hv : WV z w) (h : itemAt u len p w = some (q, w')) : WV (z + 99) w' := by
  have mp : ∀ {x : Option WD} {q0 : Nat}, x.map (fun y => (q0, y)) = some (q, w') → x = some w' := by
    intro x q0 hx
    cases x with
    | none => cases hx
    | some y => simp only [Option.map_some, Option.some.injEq, Prod.mk.injEq] at hx; rw [hx.2]
  have g2 : ∀ {f : Nat → Nat → Option WD}, (match i2 u len p with | none => none | some (a, b, q) => (f a b).map (fun x => (q, x))) = some (q, w') → ∃ a b, f a b = some w' := by
    intro f hf
    cases hi : i2 u len p with
    | none => simp only [hi] at hf; cases hf
    | some x => obtain ⟨a, b, q0⟩ := x; simp only [hi] at hf; exact ⟨a, b, mp hf⟩
  have g3 : ∀ {f : Nat → Nat → Nat → Option WD}, (match i3 u len p with | none => none | some (a, b, c, q) => (f a b c).map (fun x => (q, x))) = some (q, w') → ∃ a b c, f a b c = some w' := by
    intro f hf
    cases hi : i3 u len p with
    | none => simp only [hi] at hf; cases hf
    | some x => obtain ⟨a, b, c, q0⟩ := x; simp only [hi] at hf; exact ⟨a, b, c, mp hf⟩
  have g1 : ∀ {f : Nat → Option WD}, (match i1 u len p with | none => none | some (a, q) => (f a).map (fun x => (q, x))) = some (q, w') → ∃ a, f a = some w' := by
    intro f hf
    cases hi : i1 u len p with
    | none => simp only [hi] at hf; cases hf
    | some x => obtain ⟨a, q0⟩ := x; simp only [hi] at hf; exact ⟨a, mp hf⟩
  rw [itemAt] at h
  by_cases c1 : u p = 103
  · rw [if_pos c1] at h; obtain ⟨a, b, e⟩ := g2 h; exact (wv_iG hv e).mono (by omega)
  rw [if_neg c1] at h
  by_cases c2 : u p = 99
  · rw [if_pos c2] at h; obtain ⟨a, b, c, e⟩ := g3 h; exact (wv_iC hv e).mono (by omega)
  rw [if_neg c2] at h
  by_cases c3 : u p = 116
  · rw [if_pos c3] at h; obtain ⟨a, b, c, e⟩ := g3 h; exact wv_iT hv e
  rw [if_neg c3] at h
  by_cases c4 : u p = 98
  · rw [if_pos c4] at h; obtain ⟨a, b, e⟩ := g2 h; exact (wv_iB hv e).mono (by omega)
  rw [if_neg c4] at h
  by_cases c5 : u p = 110
  · rw [if_pos c5] at h; obtain ⟨a, b, e⟩ := g2 h; exact (wv_iN hv e).mono (by omega)
  rw [if_neg c5] at h
  by_cases c6 : u p = 97
  · rw [if_pos c6] at h; obtain ⟨a, b, c, e⟩ := g3 h; exact (wv_iA hv e).mono (by omega)
  rw [if_neg c6] at h
  by_cases c7 : u p = 119
  · rw [if_pos c7] at h; obtain ⟨a, e⟩ := g1 h; exact (wv_iW hv e).mono (by omega)
  rw [if_neg c7] at h
  cases h
theorem tl_wv {u : Nat → Nat} {len : Nat} : ∀ (f p z : Nat) (w w' : WD), WV z w → tl u len f p w = .inr w' → WV (z + 99 * f) w'
  | 0, p, z, w, w', _, h => by cases h
  | f + 1, p, z, w, w', hv, h => by
    rw [tl] at h
    by_cases c : p < len
    · rw [if_pos c] at h
      cases e : itemAt u len p w with
      | none => rw [e] at h; cases h
      | some x =>
        obtain ⟨q, w1⟩ := x
        rw [e] at h
        exact (tl_wv f q (z + 99) w1 w' (itemAt_wv hv e) h).mono (by omega)
    · rw [if_neg c] at h
      cases h
      exact hv.mono (by omega)
theorem tell_wv {u : Nat → Nat} {len : Nat} {w : WD} (h : tell u len = .inr w) : WV 50000 w := (tl_wv 501 0 0 w00 w wv_00 h).mono (by omega)
/-- numbers of an item by its letter -/
def nums (c : Nat) : Nat := if c = 119 then 1 else if c = 103 ∨ c = 98 ∨ c = 110 then 2 else if c = 99 ∨ c = 116 ∨ c = 97 then 3 else 0
def numsO (c : Nat) : Int := if nums c = 1 then 107 else if nums c = 2 then 109 else if nums c = 3 then 111 else 113
theorem nums_tab : ∀ c, c < 256 → (c < 97 ∨ 119 < c) ∧ nums c = 0 ∨ 97 ≤ c ∧ c ≤ 119 ∧ (#[111, 109, 111, 113, 113, 113, 109, 113, 113, 113, 113, 113, 113, 109, 113, 113, 113, 113, 113, 111, 113, 113, 107] : Array Int)[c - 97]? = some (numsO c) := by decide +kernel
def bt (u : Nat → Nat) (len p : Nat) : Int32 := if p < len then nI (u p) else -4
theorem bt_in {u : Nat → Nat} {len p : Nat} (h : p < len) : bt u len p = nI (u p) := if_pos h
theorem bt_eq {u : Nat → Nat} {len p e : Nat} (h : p < len → u p < 256) (he : e < 128) : bt u len p = nI e ↔ sepAt u len p e = true := by
  rw [bt, sepAt]
  by_cases c : p < len
  · rw [if_pos c, nI_eq (by have := h c; omega) (by omega)]
    simp [c]
  · rw [if_neg c]
    constructor
    · intro q
      have := congrArg Int32.toInt q
      rw [nI_toInt (by omega)] at this
      have e4 : (-4 : Int32).toInt = -4 := by decide
      rw [e4] at this
      omega
    · intro q
      simp [c] at q
