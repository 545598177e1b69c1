/-! THE TEXT, plain: u j the j-th byte (0 to 255), len bytes. -/
def isD (c : Nat) : Bool := decide (48 ≤ c) && decide (c ≤ 57)
/-- a figure at place p -/
def dg (u : Nat → Nat) (len p : Nat) : Bool := decide (p < len) && isD (u p)
def sepAt (u : Nat → Nat) (len p e : Nat) : Bool := decide (p < len) && decide (u p = e)
def figs (u : Nat → Nat) (len p : Nat) : Nat := if dg u len p = true then (if dg u len (p + 1) = true then (if dg u len (p + 2) = true then 3 else 2) else 1) else 0
def valF (u : Nat → Nat) (p : Nat) : Nat → Nat
  | 0 => 0
  | f + 1 => 10 * valF u p f + (u (p + f) - 48)
/-- a number and then e: the number, the place behind -/
def n1 (u : Nat → Nat) (len p e : Nat) : Option (Nat × Nat) := if 1 ≤ figs u len p ∧ sepAt u len (p + figs u len p) e = true then some (valF u p (figs u len p), p + figs u len p + 1) else none
def i1 (u : Nat → Nat) (len p : Nat) : Option (Nat × Nat) := n1 u len (p + 1) 59
def i2 (u : Nat → Nat) (len p : Nat) : Option (Nat × Nat × Nat) := match n1 u len (p + 1) 44 with
  | none => none
  | some (a, q) => match n1 u len q 59 with
    | none => none
    | some (b, r) => some (a, b, r)
def i3 (u : Nat → Nat) (len p : Nat) : Option (Nat × Nat × Nat × Nat) := match n1 u len (p + 1) 44 with
  | none => none
  | some (a, q) => match n1 u len q 44 with
    | none => none
    | some (b, r) => match n1 u len r 59 with
      | none => none
      | some (c, s) => some (a, b, c, s)
def kdN (b : Nat) : Nat := if b = 98 then 16 else if b = 99 then 17 else b
def iG (w : WD) (a b : Nat) : Option WD := if wS w < 16 ∧ 1 ≤ a ∧ a ≤ 9 ∧ (b < wS w ∨ b = 99) then some ((wS w + 1, w.1.2), va_up (wT w) (wS w) a, va_up (wG w) (wS w) (if b = 99 then -4 else nI b), w.2.2.2) else none
def iC (w : WD) (a b c : Nat) : Option WD := if wC w < 16 ∧ a < 6 ∧ b ≤ c ∧ c < 24 then some ((wS w, wC w + 1, w.1.2.2), w.2.1, w.2.2.1, va_up (wQ w) (wC w) a, va_up (wA w) (wC w) b, va_up (wB w) (wC w) c, w.2.2.2.2.2.2) else none
def iT (w : WD) (a b c : Nat) : Option WD := if a < wC w ∧ (b < wS w ∨ b = 98 ∨ b = 99) ∧ 1 ≤ c ∧ c ≤ 99 then some (w.1, w.2.1, w.2.2.1, wQ w, wA w, wB w, va_up (wH w) (a * 18 + kdN b) (wH w (a * 18 + kdN b) + c), w.2.2.2.2.2.2.2) else none
def iB (w : WD) (a b : Nat) : Option WD := if a < 6 ∧ b < 6 ∧ a ≠ b then some (w.1, w.2.1, w.2.2.1, wQ w, wA w, wB w, wH w, va_up (wE w) a (wE w a ||| 2 ^ b), wK w) else none
def iN (w : WD) (a b : Nat) : Option WD := if wN w < 10 ∧ a ≤ b ∧ b < 24 then some ((wS w, wC w, wN w + 1, wP w), w.2.1, w.2.2.1, wQ w, wA w, wB w, wH w, wE w, va_up (wK w) (wN w) (2 ^ (b + 1) - 2 ^ a)) else none
def iA (w : WD) (a b c : Nat) : Option WD := if a < wN w ∧ b ≤ c ∧ c < 24 then some (w.1, w.2.1, w.2.2.1, wQ w, wA w, wB w, wH w, wE w, va_up (wK w) a (wK w a ||| (2 ^ (c + 1) - 2 ^ b))) else none
def iW (w : WD) (a : Nat) : Option WD := if 1 ≤ a ∧ a ≤ 99 then some ((wS w, wC w, wN w, a), w.2) else none
def w00 : WD := ((0, 0, 0, 12), fun _ => 0, fun _ => 0, fun _ => 0, fun _ => 0, fun _ => 0, fun _ => 0, fun _ => 0, fun _ => 0)
/-- an item at a place: the place behind it, the wall then -/
def itemAt (u : Nat → Nat) (len p : Nat) (w : WD) : Option (Nat × WD) :=
  if u p = 103 then (match i2 u len p with
    | none => none
    | some (a, b, q) => (iG w a b).map (fun x => (q, x)))
  else if u p = 99 then (match i3 u len p with
    | none => none
    | some (a, b, c, q) => (iC w a b c).map (fun x => (q, x)))
  else if u p = 116 then (match i3 u len p with
    | none => none
    | some (a, b, c, q) => (iT w a b c).map (fun x => (q, x)))
  else if u p = 98 then (match i2 u len p with
    | none => none
    | some (a, b, q) => (iB w a b).map (fun x => (q, x)))
  else if u p = 110 then (match i2 u len p with
    | none => none
    | some (a, b, q) => (iN w a b).map (fun x => (q, x)))
  else if u p = 97 then (match i3 u len p with
    | none => none
    | some (a, b, c, q) => (iA w a b c).map (fun x => (q, x)))
  else if u p = 119 then (match i1 u len p with
    | none => none
    | some (a, q) => (iW w a).map (fun x => (q, x)))
  else none
/-- the whole text from a place: the fault, or the wall -/
def tl (u : Nat → Nat) (len : Nat) : Nat → Nat → WD → Nat ⊕ WD
  | 0, p, _ => .inl p
  | f + 1, p, w => if p < len then (match itemAt u len p w with
    | none => .inl p
    | some (q, w') => tl u len f q w') else .inr w
def tell (u : Nat → Nat) (len : Nat) : Nat ⊕ WD := tl u len 501 0 w00
def tlA (r : Nat ⊕ WD) : Int32 := match r with
  | .inl p => nI p
  | .inr _ => -4
theorem figs_le (u : Nat → Nat) (len p : Nat) : figs u len p ≤ 3 := by
  rw [figs]
  split
  · split
    · split <;> omega
    · omega
  · omega
theorem figs_lt {u : Nat → Nat} {len p i : Nat} (h : i < figs u len p) : p + i < len ∧ 48 ≤ u (p + i) ∧ u (p + i) ≤ 57 := by
  have key : ∀ q, dg u len q = true → q < len ∧ 48 ≤ u q ∧ u q ≤ 57 := by
    intro q hq
    simp only [dg, isD, Bool.and_eq_true, decide_eq_true_eq] at hq
    exact ⟨hq.1, hq.2.1, hq.2.2⟩
  rw [figs] at h
  by_cases h0 : dg u len p = true
  · rw [if_pos h0] at h
    by_cases h1 : dg u len (p + 1) = true
    · rw [if_pos h1] at h
      by_cases h2 : dg u len (p + 2) = true
      · rw [if_pos h2] at h
        have : i = 0 ∨ i = 1 ∨ i = 2 := by omega
        rcases this with rfl | rfl | rfl
        · exact key p h0
        · exact key (p + 1) h1
        · exact key (p + 2) h2
      · rw [if_neg h2] at h
        have : i = 0 ∨ i = 1 := by omega
        rcases this with rfl | rfl
        · exact key p h0
        · exact key (p + 1) h1
    · rw [if_neg h1] at h
      have : i = 0 := by omega
      subst this
      exact key p h0
  · rw [if_neg h0] at h
    omega
theorem valF_lt {u : Nat → Nat} {p : Nat} : ∀ f, (∀ i, i < f → u (p + i) ≤ 57) → valF u p f < 10 ^ f
  | 0, _ => by simp [valF]
  | f + 1, h => by
    have h1 := valF_lt f (fun i hi => h i (by omega))
    have h2 := h f (by omega)
    rw [valF, Nat.pow_succ]
    omega
theorem n1_spec {u : Nat → Nat} {len p e a q : Nat} (h : n1 u len p e = some (a, q)) : a < 1000 ∧ p + 1 < q ∧ q ≤ len ∧ 1 ≤ figs u len p ∧ sepAt u len (p + figs u len p) e = true ∧ a = valF u p (figs u len p) ∧ q = p + figs u len p + 1 := by
  rw [n1] at h
  by_cases c : 1 ≤ figs u len p ∧ sepAt u len (p + figs u len p) e = true
  · rw [if_pos c] at h
    simp only [Option.some.injEq, Prod.mk.injEq] at h
    obtain ⟨rfl, rfl⟩ := h
    have h3 := figs_le u len p
    have hv := valF_lt (u := u) (p := p) (figs u len p) (fun i hi => (figs_lt hi).2.2)
    have hv2 : 10 ^ figs u len p ≤ 10 ^ 3 := Nat.pow_le_pow_right (by decide) h3
    have hs := c.2
    simp only [sepAt, Bool.and_eq_true, decide_eq_true_eq] at hs
    exact ⟨by omega, by omega, by omega, c.1, c.2, rfl, rfl⟩
  · rw [if_neg c] at h
    cases h
theorem itemAt_next {u : Nat → Nat} {len p : Nat} {w w' : WD} {q : Nat} (h : itemAt u len p w = some (q, w')) : p < q ∧ q ≤ len := by
  have e1 : ∀ {a q}, i1 u len p = some (a, q) → p < q ∧ q ≤ len := by
    intro a q h
    have := n1_spec h
    omega
  have e2 : ∀ {a b q}, i2 u len p = some (a, b, q) → p < q ∧ q ≤ len := by
    intro a b q h
    rw [i2] at h
    cases h1 : n1 u len (p + 1) 44 with
    | none => rw [h1] at h; cases h
    | some x =>
      obtain ⟨a1, q1⟩ := x
      rw [h1] at h
      cases h2 : n1 u len q1 59 with
      | none => simp only [h2] at h; cases h
      | some y =>
        obtain ⟨b1, r1⟩ := y
        simp only [h2, Option.some.injEq, Prod.mk.injEq] at h
        have s1 := n1_spec h1
        have s2 := n1_spec h2
        omega
  have e3 : ∀ {a b c q}, i3 u len p = some (a, b, c, q) → p < q ∧ q ≤ len := by
    intro a b c q h
    rw [i3] at h
    cases h1 : n1 u len (p + 1) 44 with
    | none => rw [h1] at h; cases h
    | some x =>
      obtain ⟨a1, q1⟩ := x
      rw [h1] at h
      cases h2 : n1 u len q1 44 with
      | none => simp only [h2] at h; cases h
      | some y =>
        obtain ⟨b1, r1⟩ := y
        simp only [h2] at h
        cases h3 : n1 u len r1 59 with
        | none => simp only [h3] at h; cases h
        | some z =>
          obtain ⟨c1, s1⟩ := z
          simp only [h3, Option.some.injEq, Prod.mk.injEq] at h
          have t1 := n1_spec h1
          have t2 := n1_spec h2
          have t3 := n1_spec h3
          omega
  have mp : ∀ {x : Option WD} {q0 : Nat}, x.map (fun y => (q0, y)) = some (q, w') → q0 = q := by
    intro x q0 hx
    cases x with
    | none => cases hx
    | some y => simp only [Option.map_some, Option.some.injEq, Prod.mk.injEq] at hx; exact hx.1
  have g2 : ∀ {f : Nat → Nat → Option WD}, (match i2 u len p with | none => none | some (a, b, q) => (f a b).map (fun x => (q, x))) = some (q, w') → p < q ∧ q ≤ len := by
    intro f hf
    cases hi : i2 u len p with
    | none => simp only [hi] at hf; cases hf
    | some x =>
      obtain ⟨a, b, q0⟩ := x
      simp only [hi] at hf
      have := mp hf
      subst this
      exact e2 hi
  have g3 : ∀ {f : Nat → Nat → Nat → Option WD}, (match i3 u len p with | none => none | some (a, b, c, q) => (f a b c).map (fun x => (q, x))) = some (q, w') → p < q ∧ q ≤ len := by
    intro f hf
    cases hi : i3 u len p with
    | none => simp only [hi] at hf; cases hf
    | some x =>
      obtain ⟨a, b, c, q0⟩ := x
      simp only [hi] at hf
      have := mp hf
      subst this
      exact e3 hi
  have g1 : ∀ {f : Nat → Option WD}, (match i1 u len p with | none => none | some (a, q) => (f a).map (fun x => (q, x))) = some (q, w') → p < q ∧ q ≤ len := by
    intro f hf
    cases hi : i1 u len p with
    | none => simp only [hi] at hf; cases hf
    | some x =>
      obtain ⟨a, q0⟩ := x
      simp only [hi] at hf
      have := mp hf
      subst this
      exact e1 hi
  rw [itemAt] at h
  by_cases c1 : u p = 103
  · rw [if_pos c1] at h; exact g2 h
  rw [if_neg c1] at h
  by_cases c2 : u p = 99
  · rw [if_pos c2] at h; exact g3 h
  rw [if_neg c2] at h
  by_cases c3 : u p = 116
  · rw [if_pos c3] at h; exact g3 h
  rw [if_neg c3] at h
  by_cases c4 : u p = 98
  · rw [if_pos c4] at h; exact g2 h
  rw [if_neg c4] at h
  by_cases c5 : u p = 110
  · rw [if_pos c5] at h; exact g2 h
  rw [if_neg c5] at h
  by_cases c6 : u p = 97
  · rw [if_pos c6] at h; exact g3 h
  rw [if_neg c6] at h
  by_cases c7 : u p = 119
  · rw [if_pos c7] at h; exact g1 h
  rw [if_neg c7] at h
  cases h
/-- the class's text -/
def CT (u : Nat → Nat) (len : Nat) (σ : SS) : Prop := σ.1 1 2 = nI len ∧ len ≤ 500 ∧ ∀ j, j < len → u j < 256 ∧ σ.1 2 j = sb_b (u j)
/-- the reference's text -/
def MTx (u : Nat → Nat) (len : Nat) (σ : SS) : Prop := σ.1 40 0 = nI len ∧ len ≤ 500 ∧ ∀ j, j < len → u j < 256 ∧ σ.1 41 j = sb_b (u j)
theorem sb_asc : ∀ c, c < 256 → ∀ e, e < 128 → (sb_b c = nI e ↔ c = e) := by decide +kernel
theorem sb_and {c : Nat} (h : c < 256) : sb_b c &&& 255 = nI c := (sb_byte c h).1
theorem byte_sb (x : Int32) : x.toInt8.toInt32 = sb_b (x.toBitVec.toNat % 256) := by
  have e1 : x.toInt8 = (x &&& 255).toInt8 := (fa_byte_low x).symm
  have e2 : x &&& 255 = nI (x.toBitVec.toNat % 2 ^ 8) := pk_and x 8 (by decide)
  rw [e1, e2]
  rfl
theorem vp_sb (c : Nat) : vp_nar .byte (sb_b c) = sb_b c := pk_vb (nI c)
