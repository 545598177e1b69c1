/-! THE WORLD: all cells of the class's object and of the reference's, by number; the state is flat: ints, longs, which wall is laid. -/
abbrev EE : Type := (Nat → Nat) × va_G × (Nat → ClassId) × Nat
abbrev SS : Type := (Nat → Nat → Int32) × (Nat → Nat → Int64) × (Nat × Nat)
abbrev MT : Type := String × ByteArray × Nat × Option FieldType × List Cond × Room × MethodName
abbrev mOwn (M : MT) : String := M.1
abbrev mCode (M : MT) : ByteArray := M.2.1
abbrev mL (M : MT) : Nat := M.2.2.1
abbrev mRet (M : MT) : Option FieldType := M.2.2.2.1
abbrev mWs (M : MT) : List Cond := M.2.2.2.2.1
abbrev mRm (M : MT) : Room := M.2.2.2.2.2.1
abbrev mY (M : MT) : MethodName := M.2.2.2.2.2.2
def rowsOf (j : Nat) : Int32 := match j with
  | 0 => 1
  | 1 => 1
  | 2 => 2
  | 3 => 6
  | 4 => 24
  | 5 => 120
  | _ => 720
def cE (v : EE) (k : Nat) (f : Nat → Int32) (g : Nat → Int64) (ld : Nat × Nat) : va_E := match k with
  | 0 => .inr (4, [.ref (v.1 1), .ref (v.1 4), .ref (v.1 10), .ref (v.1 61), .ref (v.1 19), .ref (v.1 ld.1), .ref (v.1 ld.2), .int (f 7)])
  | 1 => .inr (2, [.ref (v.1 2), .ref (v.1 3), .int (f 2)])
  | 2 => .inl (v.2.2.1 0, 500, .inl f)
  | 3 => .inl (v.2.2.1 1, 3, .inl f)
  | 4 => .inr (1, [.ref (v.1 5), .ref (v.1 6), .ref (v.1 7), .ref (v.1 8), .ref (v.1 9), .int (f 5), .int (f 6)])
  | 5 => .inl (v.2.2.1 1, 16, .inl f)
  | 6 => .inl (v.2.2.1 1, 16, .inl f)
  | 7 => .inl (v.2.2.1 1, 16, .inl f)
  | 8 => .inl (v.2.2.1 1, 1024, .inl f)
  | 9 => .inl (v.2.2.1 1, 1024, .inl f)
  | 10 => .inr (0, [.ref (v.1 11), .ref (v.1 12), .ref (v.1 13), .ref (v.1 14), .ref (v.1 15), .ref (v.1 16), .ref (v.1 17), .ref (v.1 18), .int (f 8), .int (f 9)])
  | 11 => .inl (v.2.2.1 1, 6, .inl f)
  | 12 => .inl (v.2.2.1 1, 16, .inl f)
  | 13 => .inl (v.2.2.1 1, 6, .inl f)
  | 14 => .inl (v.2.2.1 1, 64, .inl f)
  | 15 => .inl (v.2.2.1 1, 64, .inl f)
  | 16 => .inl (v.2.2.1 1, 64, .inl f)
  | 17 => .inl (v.2.2.1 1, 64, .inl f)
  | 18 => .inl (v.2.2.1 1, 6, .inl f)
  | 19 => .inl (v.2.2.1 3, 2, .inr (.inr (.inr (.inr (fun i => some (v.1 (20 + i)))))))
  | 20 => .inl (v.2.2.1 1, 288, .inl f)
  | 21 => .inl (v.2.2.1 1, 288, .inl f)
  | 22 => .inr (3, [.ref (v.1 23), .ref (v.1 24), .ref (v.1 25), .ref (v.1 26), .ref (v.1 27), .ref (v.1 28), .ref (v.1 29), .ref (v.1 30), .int (f 8), .int (f 9), .int (f 10), .int (f 11)])
  | 23 => .inl (v.2.2.1 1, 16, .inl f)
  | 24 => .inl (v.2.2.1 1, 16, .inl f)
  | 25 => .inl (v.2.2.1 1, 16, .inl f)
  | 26 => .inl (v.2.2.1 1, 16, .inl f)
  | 27 => .inl (v.2.2.1 1, 16, .inl f)
  | 28 => .inl (v.2.2.1 1, 288, .inl f)
  | 29 => .inl (v.2.2.1 1, 6, .inl f)
  | 30 => .inl (v.2.2.1 1, 10, .inl f)
  | 31 => .inr (3, [.ref (v.1 32), .ref (v.1 33), .ref (v.1 34), .ref (v.1 35), .ref (v.1 36), .ref (v.1 37), .ref (v.1 38), .ref (v.1 39), .int (f 8), .int (f 9), .int (f 10), .int (f 11)])
  | 32 => .inl (v.2.2.1 1, 16, .inl f)
  | 33 => .inl (v.2.2.1 1, 16, .inl f)
  | 34 => .inl (v.2.2.1 1, 16, .inl f)
  | 35 => .inl (v.2.2.1 1, 16, .inl f)
  | 36 => .inl (v.2.2.1 1, 16, .inl f)
  | 37 => .inl (v.2.2.1 1, 288, .inl f)
  | 38 => .inl (v.2.2.1 1, 6, .inl f)
  | 39 => .inl (v.2.2.1 1, 10, .inl f)
  | 40 => .inr (5, [.int (f 0), .ref (v.1 41), .int (f 2), .ref (v.1 42), .ref (v.1 43), .ref (v.1 44), .ref (v.1 45), .ref (v.1 46), .ref (v.1 47), .ref (v.1 48), .ref (v.1 49), .int (f 11), .ref (v.1 50), .int (f 13), .ref (v.1 51), .int (f 15), .ref (v.1 52), .ref (v.1 53), .ref (v.1 54), .ref (v.1 55), .ref (v.1 56), .int (f 21), .int (f 22), .ref (v.1 57), .ref (v.1 58), .ref (v.1 59), .long (g 26), .long (g 27), .ref (v.1 60)])
  | 41 => .inl (v.2.2.1 0, 500, .inl f)
  | 42 => .inl (v.2.2.1 1, 2, .inl f)
  | 43 => .inl (v.2.2.1 1, 64, .inl f)
  | 44 => .inl (v.2.2.1 1, 2, .inl f)
  | 45 => .inl (v.2.2.1 1, 96, .inl f)
  | 46 => .inl (v.2.2.1 1, 12, .inl f)
  | 47 => .inl (v.2.2.1 1, 2, .inl f)
  | 48 => .inl (v.2.2.1 1, 20, .inl f)
  | 49 => .inl (v.2.2.1 1, 2, .inl f)
  | 50 => .inl (v.2.2.1 1, 1152, .inl f)
  | 51 => .inl (v.2.2.1 1, 6, .inl f)
  | 52 => .inl (v.2.2.1 1, 16, .inl f)
  | 53 => .inl (v.2.2.1 1, 16, .inl f)
  | 54 => .inl (v.2.2.1 1, 6, .inl f)
  | 55 => .inl (v.2.2.1 1, 6, .inl f)
  | 56 => .inl (v.2.2.1 1, 6, .inl f)
  | 57 => .inl (v.2.2.1 1, 6, .inl f)
  | 58 => .inl (v.2.2.1 2, 1024, .inr (.inl g))
  | 59 => .inl (v.2.2.1 2, 1024, .inr (.inl g))
  | 60 => .inl (v.2.2.1 1, 3, .inl f)
  | 61 => .inl (v.2.2.1 1, 6, .inl f)
  | _ => .inl (v.2.2.1 1, 0, .inl f)
def cW (v : EE) (σ : SS) : va_W := (List.range 62).map (fun k => (v.1 k, cE v k (σ.1 k) (σ.2.1 k) σ.2.2))
def tys (v : EE) : List (ClassId × FieldType) := [(v.2.2.1 0, .byte), (v.2.2.1 1, .int), (v.2.2.1 2, .long), (v.2.2.1 3, .array .int)]
def cA (v : EE) : Nat → Prop := fun q => ∃ k : Nat, k < 62 ∧ q = v.1 k
def cInj (v : EE) : Prop := ∀ i j : Nat, i < 62 → j < 62 → v.1 i = v.1 j → i = j
def cZ (v : EE) (A : Nat → Prop) (s : State) (H : Heap) : Prop := va_Z "MasonMarks" "ROWS_OF" "[I" (.ref v.2.2.2) A s H ∧ va_T .int v.2.2.2 7 (fun j => .int (rowsOf j)) A s H
/-- the one link of a nest mate: a wall asks the outer one's roundedUp -/
def cN (s : State) : Prop := va_Nw (.methodLinkNest RX3 124 yX4_roundedUp RX4) s
def isI (v : EE) (k n : Nat) : Prop := k < 62 ∧ ∀ f g ld, cE v k f g ld = .inl (v.2.2.1 1, n, .inl f)
def isB (v : EE) (k n : Nat) : Prop := k < 62 ∧ ∀ f g ld, cE v k f g ld = .inl (v.2.2.1 0, n, .inl f)
def isJ (v : EE) (k n : Nat) : Prop := k < 62 ∧ ∀ f g ld, cE v k f g ld = .inl (v.2.2.1 2, n, .inr (.inl g))
def isO (v : EE) (k ci : Nat) (fs : (Nat → Int32) → (Nat → Int64) → Nat × Nat → List Value) : Prop := k < 62 ∧ ∀ f g ld, cE v k f g ld = .inr (ci, fs f g ld)
/-- the two walls -/
def isW (b : Nat) : Prop := b = 22 ∨ b = 31
theorem iO0 {v : EE} : isO v 0 4 (fun f g ld => [.ref (v.1 1), .ref (v.1 4), .ref (v.1 10), .ref (v.1 61), .ref (v.1 19), .ref (v.1 ld.1), .ref (v.1 ld.2), .int (f 7)]) := ⟨by decide, fun _ _ _ => rfl⟩
theorem iO1 {v : EE} : isO v 1 2 (fun f g ld => [.ref (v.1 2), .ref (v.1 3), .int (f 2)]) := ⟨by decide, fun _ _ _ => rfl⟩
theorem iB2 {v : EE} : isB v 2 500 := ⟨by decide, fun _ _ _ => rfl⟩
theorem iI3 {v : EE} : isI v 3 3 := ⟨by decide, fun _ _ _ => rfl⟩
theorem iO4 {v : EE} : isO v 4 1 (fun f g ld => [.ref (v.1 5), .ref (v.1 6), .ref (v.1 7), .ref (v.1 8), .ref (v.1 9), .int (f 5), .int (f 6)]) := ⟨by decide, fun _ _ _ => rfl⟩
theorem iI5 {v : EE} : isI v 5 16 := ⟨by decide, fun _ _ _ => rfl⟩
theorem iI6 {v : EE} : isI v 6 16 := ⟨by decide, fun _ _ _ => rfl⟩
theorem iI7 {v : EE} : isI v 7 16 := ⟨by decide, fun _ _ _ => rfl⟩
theorem iI8 {v : EE} : isI v 8 1024 := ⟨by decide, fun _ _ _ => rfl⟩
theorem iI9 {v : EE} : isI v 9 1024 := ⟨by decide, fun _ _ _ => rfl⟩
theorem iO10 {v : EE} : isO v 10 0 (fun f g ld => [.ref (v.1 11), .ref (v.1 12), .ref (v.1 13), .ref (v.1 14), .ref (v.1 15), .ref (v.1 16), .ref (v.1 17), .ref (v.1 18), .int (f 8), .int (f 9)]) := ⟨by decide, fun _ _ _ => rfl⟩
theorem iI11 {v : EE} : isI v 11 6 := ⟨by decide, fun _ _ _ => rfl⟩
theorem iI12 {v : EE} : isI v 12 16 := ⟨by decide, fun _ _ _ => rfl⟩
theorem iI13 {v : EE} : isI v 13 6 := ⟨by decide, fun _ _ _ => rfl⟩
theorem iI14 {v : EE} : isI v 14 64 := ⟨by decide, fun _ _ _ => rfl⟩
theorem iI15 {v : EE} : isI v 15 64 := ⟨by decide, fun _ _ _ => rfl⟩
theorem iI16 {v : EE} : isI v 16 64 := ⟨by decide, fun _ _ _ => rfl⟩
theorem iI17 {v : EE} : isI v 17 64 := ⟨by decide, fun _ _ _ => rfl⟩
theorem iI18 {v : EE} : isI v 18 6 := ⟨by decide, fun _ _ _ => rfl⟩
theorem iI20 {v : EE} : isI v 20 288 := ⟨by decide, fun _ _ _ => rfl⟩
theorem iI21 {v : EE} : isI v 21 288 := ⟨by decide, fun _ _ _ => rfl⟩
theorem iO40 {v : EE} : isO v 40 5 (fun f g ld => [.int (f 0), .ref (v.1 41), .int (f 2), .ref (v.1 42), .ref (v.1 43), .ref (v.1 44), .ref (v.1 45), .ref (v.1 46), .ref (v.1 47), .ref (v.1 48), .ref (v.1 49), .int (f 11), .ref (v.1 50), .int (f 13), .ref (v.1 51), .int (f 15), .ref (v.1 52), .ref (v.1 53), .ref (v.1 54), .ref (v.1 55), .ref (v.1 56), .int (f 21), .int (f 22), .ref (v.1 57), .ref (v.1 58), .ref (v.1 59), .long (g 26), .long (g 27), .ref (v.1 60)]) := ⟨by decide, fun _ _ _ => rfl⟩
theorem iB41 {v : EE} : isB v 41 500 := ⟨by decide, fun _ _ _ => rfl⟩
theorem iI42 {v : EE} : isI v 42 2 := ⟨by decide, fun _ _ _ => rfl⟩
theorem iI43 {v : EE} : isI v 43 64 := ⟨by decide, fun _ _ _ => rfl⟩
theorem iI44 {v : EE} : isI v 44 2 := ⟨by decide, fun _ _ _ => rfl⟩
theorem iI45 {v : EE} : isI v 45 96 := ⟨by decide, fun _ _ _ => rfl⟩
theorem iI46 {v : EE} : isI v 46 12 := ⟨by decide, fun _ _ _ => rfl⟩
theorem iI47 {v : EE} : isI v 47 2 := ⟨by decide, fun _ _ _ => rfl⟩
theorem iI48 {v : EE} : isI v 48 20 := ⟨by decide, fun _ _ _ => rfl⟩
theorem iI49 {v : EE} : isI v 49 2 := ⟨by decide, fun _ _ _ => rfl⟩
theorem iI50 {v : EE} : isI v 50 1152 := ⟨by decide, fun _ _ _ => rfl⟩
theorem iI51 {v : EE} : isI v 51 6 := ⟨by decide, fun _ _ _ => rfl⟩
theorem iI52 {v : EE} : isI v 52 16 := ⟨by decide, fun _ _ _ => rfl⟩
theorem iI53 {v : EE} : isI v 53 16 := ⟨by decide, fun _ _ _ => rfl⟩
theorem iI54 {v : EE} : isI v 54 6 := ⟨by decide, fun _ _ _ => rfl⟩
theorem iI55 {v : EE} : isI v 55 6 := ⟨by decide, fun _ _ _ => rfl⟩
theorem iI56 {v : EE} : isI v 56 6 := ⟨by decide, fun _ _ _ => rfl⟩
theorem iI57 {v : EE} : isI v 57 6 := ⟨by decide, fun _ _ _ => rfl⟩
theorem iJ58 {v : EE} : isJ v 58 1024 := ⟨by decide, fun _ _ _ => rfl⟩
theorem iJ59 {v : EE} : isJ v 59 1024 := ⟨by decide, fun _ _ _ => rfl⟩
theorem iI60 {v : EE} : isI v 60 3 := ⟨by decide, fun _ _ _ => rfl⟩
theorem iI61 {v : EE} : isI v 61 6 := ⟨by decide, fun _ _ _ => rfl⟩
theorem iWO {v : EE} {b : Nat} (hb : isW b) : isO v b 3 (fun f g ld => [.ref (v.1 (b + 1)), .ref (v.1 (b + 2)), .ref (v.1 (b + 3)), .ref (v.1 (b + 4)), .ref (v.1 (b + 5)), .ref (v.1 (b + 6)), .ref (v.1 (b + 7)), .ref (v.1 (b + 8)), .int (f 8), .int (f 9), .int (f 10), .int (f 11)]) := by rcases hb with rfl | rfl <;> exact ⟨by decide, fun _ _ _ => rfl⟩
theorem iW1 {v : EE} {b : Nat} (hb : isW b) : isI v (b + 1) 16 := by rcases hb with rfl | rfl <;> exact ⟨by decide, fun _ _ _ => rfl⟩
theorem iW2 {v : EE} {b : Nat} (hb : isW b) : isI v (b + 2) 16 := by rcases hb with rfl | rfl <;> exact ⟨by decide, fun _ _ _ => rfl⟩
theorem iW3 {v : EE} {b : Nat} (hb : isW b) : isI v (b + 3) 16 := by rcases hb with rfl | rfl <;> exact ⟨by decide, fun _ _ _ => rfl⟩
theorem iW4 {v : EE} {b : Nat} (hb : isW b) : isI v (b + 4) 16 := by rcases hb with rfl | rfl <;> exact ⟨by decide, fun _ _ _ => rfl⟩
theorem iW5 {v : EE} {b : Nat} (hb : isW b) : isI v (b + 5) 16 := by rcases hb with rfl | rfl <;> exact ⟨by decide, fun _ _ _ => rfl⟩
theorem iW6 {v : EE} {b : Nat} (hb : isW b) : isI v (b + 6) 288 := by rcases hb with rfl | rfl <;> exact ⟨by decide, fun _ _ _ => rfl⟩
theorem iW7 {v : EE} {b : Nat} (hb : isW b) : isI v (b + 7) 6 := by rcases hb with rfl | rfl <;> exact ⟨by decide, fun _ _ _ => rfl⟩
theorem iW8 {v : EE} {b : Nat} (hb : isW b) : isI v (b + 8) 10 := by rcases hb with rfl | rfl <;> exact ⟨by decide, fun _ _ _ => rfl⟩
theorem iWI20 {v : EE} {b : Nat} (hb : b = 20 ∨ b = 21) : isI v b 288 := by rcases hb with rfl | rfl <;> exact ⟨by decide, fun _ _ _ => rfl⟩
/-- one int of a cell -/
def sI (σ : SS) (k j : Nat) (x : Int32) : SS := (fun a => if a = k then upd (σ.1 k) j x else σ.1 a, σ.2)
/-- a row of ints whole -/
def sF (σ : SS) (k : Nat) (f : Nat → Int32) : SS := (fun a => if a = k then f else σ.1 a, σ.2)
def sJ (σ : SS) (k j : Nat) (x : Int64) : SS := (σ.1, fun a => if a = k then vp_updL (σ.2.1 k) j x else σ.2.1 a, σ.2.2)
theorem sI_at (σ : SS) (k j : Nat) (x : Int32) : (sI σ k j x).1 k j = x := by simp [sI, upd]
theorem sI_ne (σ : SS) {k j a i : Nat} (x : Int32) (h : a ≠ k ∨ i ≠ j) : (sI σ k j x).1 a i = σ.1 a i := by
  by_cases e : a = k
  · subst e
    rcases h with h | h
    · exact absurd rfl h
    · simp [sI, upd, h]
  · simp [sI, e]
theorem sI_row (σ : SS) {k j a : Nat} (x : Int32) (h : a ≠ k) : (sI σ k j x).1 a = σ.1 a := by simp [sI, h]
theorem cW_at (v : EE) (σ : SS) {k : Nat} (hk : k < 62) : (cW v σ)[k]? = some (v.1 k, cE v k (σ.1 k) (σ.2.1 k) σ.2.2) := by simp [cW, hk]
theorem cW_set (v : EE) {σ σ' : SS} {k : Nat} {e : va_E} (hk : k < 62) (h1 : cE v k (σ'.1 k) (σ'.2.1 k) σ'.2.2 = e) (h2 : ∀ j, j < 62 → j ≠ k → cE v j (σ'.1 j) (σ'.2.1 j) σ'.2.2 = cE v j (σ.1 j) (σ.2.1 j) σ.2.2) : (cW v σ).set k (v.1 k, e) = cW v σ' := by
  apply List.ext_getElem?
  intro i
  rw [List.getElem?_set]
  by_cases hi : i < 62
  · rw [cW_at v σ' hi]
    by_cases e1 : k = i
    · subst e1
      simp [cW, hk, h1]
    · rw [if_neg e1, cW_at v σ hi, h2 i hi (fun q => e1 q.symm)]
  · have n1 : (cW v σ)[i]? = none := by simp [cW]; omega
    have n2 : (cW v σ')[i]? = none := by simp [cW]; omega
    have n3 : ¬ k = i := by omega
    rw [if_neg n3, n1, n2]
theorem cW_D (v : EE) {A : Nat → Prop} (hi : cInj v) (hA : ∀ k, k < 62 → A (v.1 k)) (σ : SS) : va_D A (cW v σ) := by
  have key : ∀ (i : Nat) (q : Nat × va_E), (cW v σ)[i]? = some q → i < 62 ∧ q.1 = v.1 i := by
    intro i q h
    by_cases hi : i < 62
    · rw [cW_at v σ hi] at h
      cases h
      exact ⟨hi, rfl⟩
    · have n1 : (cW v σ)[i]? = none := by simp [cW]; omega
      rw [n1] at h
      cases h
  refine ⟨fun i j p q h1 h2 e => ?_, fun k q h => ?_⟩
  · obtain ⟨a1, a2⟩ := key i p h1
    obtain ⟨b1, b2⟩ := key j q h2
    exact hi i j a1 b1 (by rw [← a2, ← b2, e])
  · obtain ⟨a1, a2⟩ := key k q h
    rw [a2]
    exact hA k a1
abbrev ZT : Type := Program → Launch → Env → Room → State → MethodId → Array Value → List Frame → Method → Code → (Nat → Prop) → Nat → Nat → (State → Prop) → Prop
/-- what holds all along a method's body -/
def CX (v : EE) (M : MT) (A : Nat → Prop) (p : Program) (R : Room) (s : State) (m : MethodId) (args : Array Value) (c : Code) (cells slots : Nat) : Prop :=
  CallFix p m c (mCode M) (mL M) s args (mWs M) (mOwn M) ∧ va_K v.2.1 vwCl (tys v) s ∧ (cInj v ∧ ∀ k, k < 62 → A (v.1 k)) ∧ (cZ v A s s.heap ∧ cN s) ∧ R = mRm M ∧ cells ≤ R.cells ∧ slots ≤ R.slots
def V (v : EE) (M : MT) (Z : ZT) (pc : Nat) (L : List (Nat × Value)) (st : List Value) (σ : SS) : Prop :=
  ∀ (p : Program) (l : Launch) (e : Env) (R : Room) (s : State) (m : MethodId) (args : Array Value) (below : List Frame) (meth : Method) (c : Code) (A : Nat → Prop) (cells slots : Nat) (Q : State → Prop), Z p l e R s m args below meth c A cells slots Q → CX v M A p R s m args c cells slots →
    ∀ (H : Heap) (locs : List Loc) (ls : Array Slot), lv_has ls (mL M) L → va_P v.2.1 vwCl (cW v σ) H → va_S A s.heap H locs → W p l e R s m args below meth c H locs cells slots Q (F0 m pc ls st)
/-- the end of a method: its answer and state -/
def cQ (v : EE) (Po : Option Value → SS → Prop) : Array Value → State → Outcome → State → Prop := fun _ st oc t => (∃ (r : Option Value) (σ' : SS), oc = .returned r ∧ Po r σ' ∧ va_P v.2.1 vwCl (cW v σ') t.heap) ∧ va_F (cA v) st t
def cP (v : EE) (As : List Value) (σ : SS) : Array Value → State → Prop := fun a U => a = As.toArray ∧ va_P v.2.1 vwCl (cW v σ) U.heap ∧ va_K v.2.1 vwCl (tys v) U ∧ cInj v ∧ cZ v (cA v) U U.heap ∧ cN U
/-- a method's contract at these arguments and this state -/
def Sp (v : EE) (M : MT) (As : List Value) (σ : SS) (Po : Option Value → SS → Prop) : Prop := ∀ l : Launch, Met l (mY M) (mWs M) (mRm M) (cP v As σ) (cQ v Po) 0 0 (cA v)
def zR (v : EE) (M : MT) (Po : Option Value → SS → Prop) : ZT := fun _ _ _ _ s _ args below meth _ A cells slots Q => A = cA v ∧ cells = 0 ∧ slots = 0 ∧ Q = MQ below (cQ v Po) args s 0 0 (cA v) ∧ meth.sig.returnType = mRet M ∧ meth.locks = false
theorem cZ.narrow {v : EE} {A B : Nat → Prop} {s : State} {H : Heap} (h : cZ v A s H) (hAB : ∀ q, B q → A q) : cZ v B s H := by
  obtain ⟨⟨cf, kf, fi, f, a, cell, h1, h2, h3, h4, h5, h6, h7, h8⟩, hT⟩ := h
  exact ⟨⟨cf, kf, fi, f, a, cell, h1, h2, h3, h4, h5, h6, h7, fun z => h8 (hAB a z)⟩, hT.narrow hAB⟩
theorem cZ.moved {v : EE} {A : Nat → Prop} {u U : State} {H : Heap} (hvm : u.vm.Alike U.vm) (h : cZ v A u H) : cZ v A U H := ⟨h.1.moved hvm, h.2.moved hvm⟩
theorem cZ.kept {v : EE} {A : Nat → Prop} {U : State} {H H1 : Heap} (h : cZ v A U H) (hq : ∀ a : Nat, a < H.size → ¬ A a → H1[a]? = H[a]?) : cZ v A U H1 := ⟨h.1.kept hq, h.2.kept hq⟩
set_option maxHeartbeats 4000000 in
theorem Sp.of {v : EE} {M : MT} {As : List Value} {σ : SS} {Po : Option Value → SS → Prop} {ws' : List Cond} (hw : mWs M = Cond.code (mY M) (mCode M) (mL M) (mRet M) :: ws') (hy : plainName (mY M).cls = true) (ho : (mY M).cls = mOwn M) (hn : (lg_sl As).length ≤ mL M)
    (h : V v M (zR v M Po) 0 (lv_args 0 As) [] σ) : Sp v M As σ Po := by
  intro l
  refine Met.ofW (cc := mCode M) (maxL := mL M) (ret := mRet M) hy hw ?_
  intro p e s m args below meth c s₁ B hml hv
  obtain ⟨rfl, hP, hK, hI, hZ, hN⟩ := hv
  have hl := lv_entry As (n := mL M) hn
  rw [lg_entry_eq]
  exact h p l e _ s m _ below meth c (cA v) 0 0 _ ⟨rfl, rfl, rfl, rfl, B.returns, B.notSynchronized⟩ ⟨⟨B.exec, B.bytes, hml, by rw [← ho]; exact findClass_of_methodNamed B.named, atoms_spec (ws := mWs M) B.pre⟩, hK, ⟨hI, fun k hk => ⟨k, hk, rfl⟩⟩, ⟨hZ, hN⟩, rfl, Nat.zero_le _, Nat.zero_le _⟩ _ _ _ hl hP va_S.rf
theorem cP_blind (v : EE) (As : List Value) (σ : SS) : FrameBlind (cP v As σ) := fun a U g mk q => by
  obtain ⟨q0, qP, qK, qI, qZ, qN⟩ := q
  exact ⟨q0, qP, va_K.moved (u := U) (U := U.calling g mk a) (Vm.Alike.refl U.vm) qK, qI, cZ.moved (u := U) (U := U.calling g mk a) (Vm.Alike.refl U.vm) qZ, va_Nw.same rfl (u := U) (U := U.calling g mk a) rfl qN⟩
theorem cP_at {v : EE} {M : MT} {A : Nat → Prop} {p : Program} {R : Room} {s : State} {m : MethodId} {args : Array Value} {c : Code} {cells slots : Nat} {H : Heap} {locs : List Loc} {σ : SS} (hC : CX v M A p R s m args c cells slots) (hP : va_P v.2.1 vwCl (cW v σ) H) (hS : va_S A s.heap H locs) (As : List Value) :
    ∀ U : State, U.heap = H → s.WarmedH U.vm → cP v As σ As.toArray U := by
  obtain ⟨-, hK, ⟨hI, hA⟩, ⟨hZ, hN⟩, -, -, -⟩ := hC
  intro U hU hW
  have hAB : ∀ q, cA v q → A q := fun q ⟨k, hk, e⟩ => by rw [e]; exact hA k hk
  refine ⟨rfl, by rw [hU]; exact hP, va_K.moved hW.alike hK, hI, ?_, va_Nw.warmM hW hN⟩
  rw [hU]
  exact ((cZ.moved hW.alike hZ).kept (fun a h1 h2 => hS.2.1 a h1 h2)).narrow hAB
theorem cRun {v : EE} {p : Program} {l : Launch} {e : Env} {R : Room} {s : State} {m : MethodId} {args : Array Value} {below : List Frame} {meth : Method} {c : Code} {H : Heap} {locs : List Loc} {cells slots : Nat} {Q : State → Prop} {A : Nat → Prop} {pc : Nat} {ls : Array Slot} {rest st0 : List Value} {a : Array Value} {Po : Option Value → SS → Prop}
    (hr : va_Run p l e R s m args below meth c H locs cells slots 0 0 (F0 m pc ls st0) rest (cQ v Po a) (cA v)) (hS : va_S A s.heap H locs) (hA : ∀ q, cA v q → A q)
    (kk : ∀ (r : Option Value) (σ' : SS) (H1 : Heap) (locs1 : List Loc), Po r σ' → va_P v.2.1 vwCl (cW v σ') H1 → va_S A s.heap H1 locs1 → W p l e R s m args below meth c H1 locs1 cells slots Q (F0 m (pc + 3) ls (r.toList ++ rest))) : W p l e R s m args below meth c H locs cells slots Q (F0 m pc ls st0) := by
  intro T hT X
  obtain ⟨w, st₀, t, T', L, h0, X', hL, e1, e2, ⟨⟨r, σ', hv, hp, hb⟩, hz, hk⟩, st⟩ := hr T hT X
  cases hv
  rw [h0] at hz hk
  obtain ⟨t2, a1, b1⟩ := kk w σ' T'.heap (locs ++ L) hp (by rw [e1]; exact hb)
    ⟨Nat.le_trans hS.1 (by rw [e1]; exact hz), fun q h1 h2 => by rw [e1, hk q (Nat.lt_of_lt_of_le h1 hS.1) (fun z => h2 (hA q z))]; exact hS.2.1 q h1 h2, fun q hq => by
      rcases List.mem_append.mp hq with h | h
      · exact hS.2.2 q h
      · exact hA _ (hL q h)⟩ T' rfl X'
  exact ⟨t2, st t2 a1, b1⟩
