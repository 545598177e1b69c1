theorem in_X5_isGood_X5 : ∀ w ∈ u_ws RX5 TX5 29, w ∈ mWs M_X5_isGood := by decide +kernel
theorem in_X5_isName_X5 : ∀ w ∈ u_ws RX5 TX5 29, w ∈ mWs M_X5_isName := by decide +kernel
theorem fl_X5_isGood_13 : Cond.fieldLink (mOwn M_X5_isGood) 13 (TX5 3).1 (TX5 3).2.1 (TX5 3).2.2.1 ∈ mWs M_X5_isGood := by decide +kernel
theorem fl_X5_isGood_17 : Cond.fieldLink (mOwn M_X5_isGood) 17 (TX5 4).1 (TX5 4).2.1 (TX5 4).2.2.1 ∈ mWs M_X5_isGood := by decide +kernel
theorem fl_X5_isGood_20 : Cond.fieldLink (mOwn M_X5_isGood) 20 (TX5 5).1 (TX5 5).2.1 (TX5 5).2.2.1 ∈ mWs M_X5_isGood := by decide +kernel
theorem fl_X5_isGood_23 : Cond.fieldLink (mOwn M_X5_isGood) 23 (TX5 6).1 (TX5 6).2.1 (TX5 6).2.2.1 ∈ mWs M_X5_isGood := by decide +kernel
theorem fl_X5_isGood_26 : Cond.fieldLink (mOwn M_X5_isGood) 26 (TX5 7).1 (TX5 7).2.1 (TX5 7).2.2.1 ∈ mWs M_X5_isGood := by decide +kernel
theorem fl_X5_isGood_38 : Cond.fieldLink (mOwn M_X5_isGood) 38 (TX5 12).1 (TX5 12).2.1 (TX5 12).2.2.1 ∈ mWs M_X5_isGood := by decide +kernel
theorem fl_X5_isGood_69 : Cond.fieldLink (mOwn M_X5_isGood) 69 (TX5 28).1 (TX5 28).2.1 (TX5 28).2.2.1 ∈ mWs M_X5_isGood := by decide +kernel
theorem fl_X5_isName_29 : Cond.fieldLink (mOwn M_X5_isName) 29 (TX5 8).1 (TX5 8).2.1 (TX5 8).2.2.1 ∈ mWs M_X5_isName := by decide +kernel
theorem fl_X5_isName_32 : Cond.fieldLink (mOwn M_X5_isName) 32 (TX5 9).1 (TX5 9).2.1 (TX5 9).2.2.1 ∈ mWs M_X5_isName := by decide +kernel
theorem fl_X5_isName_35 : Cond.fieldLink (mOwn M_X5_isName) 35 (TX5 10).1 (TX5 10).2.1 (TX5 10).2.2.1 ∈ mWs M_X5_isName := by decide +kernel
theorem nn_X5_areWeeks : (mY M_X5_areWeeks).cls ≠ "java/lang/invoke/MethodHandle" ∧ (mY M_X5_areWeeks).cls ≠ "java/lang/invoke/VarHandle" ∧ (parseMethodDescriptor (mY M_X5_areWeeks).desc).map (fun d => d.parameters.length) = some 2 := by decide +kernel
theorem nn_X5_isName : (mY M_X5_isName).cls = mOwn M_X5_isName ∧ (mY M_X5_isName).cls ≠ "java/lang/invoke/MethodHandle" ∧ (mY M_X5_isName).cls ≠ "java/lang/invoke/VarHandle" ∧ (parseMethodDescriptor (mY M_X5_isName).desc).map (fun d => d.parameters.length) = some 4 := by decide +kernel
/-- stores that the laid wall of the reference and all of the class don't feel -/
def okS (k j : Nat) : Prop := (k = 40 ∧ j = 2) ∨ ((k = 42 ∨ k = 44 ∨ k = 47 ∨ k = 49) ∧ j = 1) ∨ (k = 43 ∧ 32 ≤ j) ∨ (k = 45 ∧ 48 ≤ j) ∨ (k = 50 ∧ 864 ≤ j) ∨ (k = 46 ∧ 6 ≤ j) ∨ (k = 48 ∧ 10 ≤ j) ∨ k = 60
def FD (σ σ' : SS) : Prop := (∀ k j, ¬ okS k j → σ'.1 k j = σ.1 k j) ∧ σ'.2 = σ.2
theorem FD.rf (σ : SS) : FD σ σ := ⟨fun _ _ _ => rfl, rfl⟩
theorem FD.tr {σ τ υ : SS} (h1 : FD σ τ) (h2 : FD τ υ) : FD σ υ := ⟨fun k j h => (h2.1 k j h).trans (h1.1 k j h), h2.2.trans h1.2⟩
theorem FD.si {σ τ : SS} (h : FD σ τ) {k j : Nat} (ho : okS k j) (x : Int32) : FD σ (sI τ k j x) := ⟨fun a i ha => by
  rw [← h.1 a i ha]
  refine sI_ne τ x ?_
  by_cases e : a = k
  · right; intro e2; exact ha (by rw [e, e2]; exact ho)
  · exact Or.inl e, h.2⟩
theorem FD.fm {σ τ : SS} (h : FD σ τ) : FM σ τ := ⟨fun a ha => funext fun j => h.1 a j (by unfold okS; omega), by rw [h.2]⟩
theorem FD.tx {u : Nat → Nat} {len : Nat} {σ τ : SS} (h : FD σ τ) (hM : MTx u len σ) : MTx u len τ := ⟨by rw [h.1 40 0 (by unfold okS; omega)]; exact hM.1, hM.2.1, fun j hj => by rw [h.1 41 j (by unfold okS; omega)]; exact hM.2.2 j hj⟩
theorem FD.rm {s : AS} {σ τ : SS} (h : FD σ τ) (hr : RM s σ) (hv : wS (aW s) ≤ 16 ∧ wC (aW s) ≤ 16 ∧ wN (aW s) ≤ 10) : RM s τ := by
  obtain ⟨h1, ⟨⟨g1, g2, g3, g4⟩, g5, g6, g7, g8, g9⟩, h3, h4⟩ := hr
  refine ⟨h.tx h1, ⟨⟨?_, ?_, ?_, ?_⟩, fun k hk => ?_, fun k hk => ?_, fun j hj => ?_, fun p hp => ?_, fun m hm => ?_⟩, ⟨?_, h3.2⟩, fun i j hi hj => ?_⟩
  · rw [h.1 42 0 (by unfold okS; omega)]; exact g1
  · rw [h.1 44 0 (by unfold okS; omega)]; exact g2
  · rw [h.1 47 0 (by unfold okS; omega)]; exact g3
  · rw [h.1 49 0 (by unfold okS; omega)]; exact g4
  · rw [h.1 43 _ (by unfold okS; omega), h.1 43 _ (by unfold okS; omega)]; exact g5 k hk
  · rw [h.1 45 _ (by unfold okS; omega), h.1 45 _ (by unfold okS; omega), h.1 45 _ (by unfold okS; omega)]; exact g6 k hk
  · rw [h.1 50 _ (by unfold okS; omega)]; exact g7 j hj
  · rw [h.1 46 _ (by unfold okS; omega)]; exact g8 p hp
  · rw [h.1 48 _ (by unfold okS; omega)]; exact g9 m hm
  · rw [h.1 40 11 (by unfold okS; omega)]; exact h3.1
  · rw [h.1 50 _ (by unfold okS; have := h3.2; omega)]; exact h4 i j hi hj
theorem m1_S {w : WD} {σ : SS} (h : MH 1 w σ) : σ.1 42 1 = nI (wS w) := h.1.1
theorem m1_C {w : WD} {σ : SS} (h : MH 1 w σ) : σ.1 44 1 = nI (wC w) := h.1.2.1
theorem m1_N {w : WD} {σ : SS} (h : MH 1 w σ) : σ.1 47 1 = nI (wN w) := h.1.2.2.1
theorem m1_H {w : WD} {σ : SS} (h : MH 1 w σ) {j : Nat} (hk : j < 288) : σ.1 50 (864 + j) = nI (wH w j) := h.2.2.2.1 j hk
theorem m1_E {w : WD} {σ : SS} (h : MH 1 w σ) {p : Nat} (hk : p < 6) : σ.1 46 (6 + p) = nI (wE w p) := h.2.2.2.2.1 p hk
theorem m1_K {w : WD} {σ : SS} (h : MH 1 w σ) {m : Nat} (hk : m < wN w) : σ.1 48 (10 + m) = nI (wK w m) := h.2.2.2.2.2 m hk
theorem btw_dec {a : Nat} {lo hi : Int64} (x y : Int) (ha : a < 2 ^ 31) (h1 : lo.toInt = x) (h2 : hi.toInt = y) : btw (nI a).toInt64 lo hi = decide (x ≤ (a : Int) ∧ (a : Int) ≤ y) := by
  simp only [btw, Int64.le_iff_toInt_le, Int32.toInt_toInt64, nI_toInt ha, h1, h2]
  by_cases c1 : x ≤ (a : Int) <;> by_cases c2 : (a : Int) ≤ y <;> simp [c1, c2]
theorem sub1_I {S : Nat} (hS : S < 2 ^ 31) : (nI S - nI 1).toInt64.toInt = (S : Int) - 1 := by
  rw [Int32.toInt_toInt64]
  have e0 := fb_subI (x := nI S) (y := nI 1) (by rw [nI_toInt hS, nI_toInt (by decide)]; omega) (by rw [nI_toInt hS, nI_toInt (by decide)]; omega)
  rw [e0, nI_toInt hS, nI_toInt (by decide)]
  rfl
theorem mh_iG {w : WD} {σ : SS} (h : MH 1 w σ) (a : Nat) (g : Int32) : MH 1 ((wS w + 1, w.1.2), va_up (wT w) (wS w) a, va_up (wG w) (wS w) g, w.2.2.2) (sI (sI (sI σ 43 (32 + 2 * wS w) (nI a)) 43 (33 + 2 * wS w) g) 42 1 (nI (wS w + 1))) := by
  obtain ⟨⟨h1, h2, h3, h4⟩, h5, h6, h7, h8, h9⟩ := h
  refine ⟨⟨?_, ?_, ?_, ?_⟩, fun k hk => ?_, fun k hk => ?_, fun k hk => ?_, fun k hk => ?_, fun k hk => ?_⟩
  · simp [sI, upd, wS]
  · simpa [sI, upd, wS, wC, wN, wP, wT, wG, wQ, wA, wB, wH, wE, wK] using h2
  · simpa [sI, upd, wS, wC, wN, wP, wT, wG, wQ, wA, wB, wH, wE, wK] using h3
  · simpa [sI, upd, wS, wC, wN, wP, wT, wG, wQ, wA, wB, wH, wE, wK] using h4
  · have hk : k < wS w + 1 := hk
    show (sI (sI (sI σ 43 (32 + 2 * wS w) (nI a)) 43 (33 + 2 * wS w) g) 42 1 (nI (wS w + 1))).1 43 (32 * 1 + 2 * k) = nI (va_up (wT w) (wS w) a k) ∧ (sI (sI (sI σ 43 (32 + 2 * wS w) (nI a)) 43 (33 + 2 * wS w) g) 42 1 (nI (wS w + 1))).1 43 (32 * 1 + 2 * k + 1) = va_up (wG w) (wS w) g k
    by_cases e : k = wS w
    · subst e
      rw [sI_row _ _ (by decide), sI_ne _ _ (by omega), va_up, if_pos rfl, va_up, if_pos rfl]
      exact ⟨sI_at _ _ _ _, by rw [show 32 * 1 + 2 * wS w + 1 = 33 + 2 * wS w by omega]; exact sI_at _ _ _ _⟩
    · have q := h5 k (by omega)
      rw [sI_row _ _ (by decide), sI_ne _ _ (by omega), sI_ne _ _ (by omega), sI_ne _ _ (by omega), sI_ne _ _ (by omega), va_up, if_neg e, va_up, if_neg e]
      exact q
  · simpa [sI, upd, wS, wC, wN, wP, wT, wG, wQ, wA, wB, wH, wE, wK] using h6 k hk
  · simpa [sI, upd, wS, wC, wN, wP, wT, wG, wQ, wA, wB, wH, wE, wK] using h7 k hk
  · simpa [sI, upd, wS, wC, wN, wP, wT, wG, wQ, wA, wB, wH, wE, wK] using h8 k hk
  · simpa [sI, upd, wS, wC, wN, wP, wT, wG, wQ, wA, wB, wH, wE, wK] using h9 k hk
theorem mh_iC {w : WD} {σ : SS} (h : MH 1 w σ) (x y t : Nat) : MH 1 ((wS w, wC w + 1, w.1.2.2), w.2.1, w.2.2.1, va_up (wQ w) (wC w) x, va_up (wA w) (wC w) y, va_up (wB w) (wC w) t, w.2.2.2.2.2.2) (sI (sI (sI (sI σ 45 (48 + 3 * wC w) (nI x)) 45 (49 + 3 * wC w) (nI y)) 45 (50 + 3 * wC w) (nI t)) 44 1 (nI (wC w + 1))) := by
  obtain ⟨⟨h1, h2, h3, h4⟩, h5, h6, h7, h8, h9⟩ := h
  refine ⟨⟨?_, ?_, ?_, ?_⟩, fun k hk => ?_, fun k hk => ?_, fun k hk => ?_, fun k hk => ?_, fun k hk => ?_⟩
  · simpa [sI, upd, wS, wC, wN, wP, wT, wG, wQ, wA, wB, wH, wE, wK] using h1
  · simp [sI, upd, wC]
  · simpa [sI, upd, wS, wC, wN, wP, wT, wG, wQ, wA, wB, wH, wE, wK] using h3
  · simpa [sI, upd, wS, wC, wN, wP, wT, wG, wQ, wA, wB, wH, wE, wK] using h4
  · simpa [sI, upd, wS, wC, wN, wP, wT, wG, wQ, wA, wB, wH, wE, wK] using h5 k hk
  · have hk : k < wC w + 1 := hk
    rw [sI_row _ _ (by decide)]
    show (sI (sI (sI σ 45 (48 + 3 * wC w) (nI x)) 45 (49 + 3 * wC w) (nI y)) 45 (50 + 3 * wC w) (nI t)).1 45 (48 * 1 + 3 * k) = nI (va_up (wQ w) (wC w) x k) ∧ (sI (sI (sI σ 45 (48 + 3 * wC w) (nI x)) 45 (49 + 3 * wC w) (nI y)) 45 (50 + 3 * wC w) (nI t)).1 45 (48 * 1 + 3 * k + 1) = nI (va_up (wA w) (wC w) y k) ∧ (sI (sI (sI σ 45 (48 + 3 * wC w) (nI x)) 45 (49 + 3 * wC w) (nI y)) 45 (50 + 3 * wC w) (nI t)).1 45 (48 * 1 + 3 * k + 2) = nI (va_up (wB w) (wC w) t k)
    by_cases e : k = wC w
    · subst e
      rw [va_up, if_pos rfl, va_up, if_pos rfl, va_up, if_pos rfl, show 48 * 1 + 3 * wC w + 1 = 49 + 3 * wC w by omega, show 48 * 1 + 3 * wC w + 2 = 50 + 3 * wC w by omega]
      refine ⟨?_, ?_, sI_at _ _ _ _⟩
      · rw [sI_ne _ _ (by omega), sI_ne _ _ (by omega)]; exact sI_at _ _ _ _
      · rw [sI_ne _ _ (by omega)]; exact sI_at _ _ _ _
    · have q := h6 k (by omega)
      rw [va_up, if_neg e, va_up, if_neg e, va_up, if_neg e]
      refine ⟨?_, ?_, ?_⟩
      · rw [sI_ne _ _ (by omega), sI_ne _ _ (by omega), sI_ne _ _ (by omega)]; exact q.1
      · rw [sI_ne _ _ (by omega), sI_ne _ _ (by omega), sI_ne _ _ (by omega)]; exact q.2.1
      · rw [sI_ne _ _ (by omega), sI_ne _ _ (by omega), sI_ne _ _ (by omega)]; exact q.2.2
  · simpa [sI, upd, wS, wC, wN, wP, wT, wG, wQ, wA, wB, wH, wE, wK] using h7 k hk
  · simpa [sI, upd, wS, wC, wN, wP, wT, wG, wQ, wA, wB, wH, wE, wK] using h8 k hk
  · simpa [sI, upd, wS, wC, wN, wP, wT, wG, wQ, wA, wB, wH, wE, wK] using h9 k hk
theorem mh_H1 {w : WD} {σ : SS} (h : MH 1 w σ) (i x : Nat) : MH 1 (w.1, w.2.1, w.2.2.1, wQ w, wA w, wB w, va_up (wH w) i x, w.2.2.2.2.2.2.2) (sI σ 50 (864 + i) (nI x)) := by
  obtain ⟨⟨h1, h2, h3, h4⟩, h5, h6, h7, h8, h9⟩ := h
  refine ⟨⟨?_, ?_, ?_, ?_⟩, fun k hk => ?_, fun k hk => ?_, fun k hk => ?_, fun k hk => ?_, fun k hk => ?_⟩
  · simpa [sI, upd, wS, wC, wN, wP, wT, wG, wQ, wA, wB, wH, wE, wK] using h1
  · simpa [sI, upd, wS, wC, wN, wP, wT, wG, wQ, wA, wB, wH, wE, wK] using h2
  · simpa [sI, upd, wS, wC, wN, wP, wT, wG, wQ, wA, wB, wH, wE, wK] using h3
  · simpa [sI, upd, wS, wC, wN, wP, wT, wG, wQ, wA, wB, wH, wE, wK] using h4
  · simpa [sI, upd, wS, wC, wN, wP, wT, wG, wQ, wA, wB, wH, wE, wK] using h5 k hk
  · simpa [sI, upd, wS, wC, wN, wP, wT, wG, wQ, wA, wB, wH, wE, wK] using h6 k hk
  · show (sI σ 50 (864 + i) (nI x)).1 50 (864 * 1 + k) = nI (va_up (wH w) i x k)
    by_cases e : k = i
    · subst e
      rw [va_up, if_pos rfl]; exact sI_at _ _ _ _
    · rw [va_up, if_neg e, sI_ne _ _ (by omega)]; exact h7 k hk
  · simpa [sI, upd, wS, wC, wN, wP, wT, wG, wQ, wA, wB, wH, wE, wK] using h8 k hk
  · simpa [sI, upd, wS, wC, wN, wP, wT, wG, wQ, wA, wB, wH, wE, wK] using h9 k hk
theorem mh_E1 {w : WD} {σ : SS} (h : MH 1 w σ) (i x : Nat) : MH 1 (w.1, w.2.1, w.2.2.1, wQ w, wA w, wB w, wH w, va_up (wE w) i x, wK w) (sI σ 46 (6 + i) (nI x)) := by
  obtain ⟨⟨h1, h2, h3, h4⟩, h5, h6, h7, h8, h9⟩ := h
  refine ⟨⟨?_, ?_, ?_, ?_⟩, fun k hk => ?_, fun k hk => ?_, fun k hk => ?_, fun k hk => ?_, fun k hk => ?_⟩
  · simpa [sI, upd, wS, wC, wN, wP, wT, wG, wQ, wA, wB, wH, wE, wK] using h1
  · simpa [sI, upd, wS, wC, wN, wP, wT, wG, wQ, wA, wB, wH, wE, wK] using h2
  · simpa [sI, upd, wS, wC, wN, wP, wT, wG, wQ, wA, wB, wH, wE, wK] using h3
  · simpa [sI, upd, wS, wC, wN, wP, wT, wG, wQ, wA, wB, wH, wE, wK] using h4
  · simpa [sI, upd, wS, wC, wN, wP, wT, wG, wQ, wA, wB, wH, wE, wK] using h5 k hk
  · simpa [sI, upd, wS, wC, wN, wP, wT, wG, wQ, wA, wB, wH, wE, wK] using h6 k hk
  · simpa [sI, upd, wS, wC, wN, wP, wT, wG, wQ, wA, wB, wH, wE, wK] using h7 k hk
  · show (sI σ 46 (6 + i) (nI x)).1 46 (6 * 1 + k) = nI (va_up (wE w) i x k)
    by_cases e : k = i
    · subst e
      rw [va_up, if_pos rfl]; exact sI_at _ _ _ _
    · rw [va_up, if_neg e, sI_ne _ _ (by omega)]; exact h8 k hk
  · simpa [sI, upd, wS, wC, wN, wP, wT, wG, wQ, wA, wB, wH, wE, wK] using h9 k hk
theorem mh_K1 {w : WD} {σ : SS} (h : MH 1 w σ) (i x : Nat) : MH 1 (w.1, w.2.1, w.2.2.1, wQ w, wA w, wB w, wH w, wE w, va_up (wK w) i x) (sI σ 48 (10 + i) (nI x)) := by
  obtain ⟨⟨h1, h2, h3, h4⟩, h5, h6, h7, h8, h9⟩ := h
  refine ⟨⟨?_, ?_, ?_, ?_⟩, fun k hk => ?_, fun k hk => ?_, fun k hk => ?_, fun k hk => ?_, fun k hk => ?_⟩
  · simpa [sI, upd, wS, wC, wN, wP, wT, wG, wQ, wA, wB, wH, wE, wK] using h1
  · simpa [sI, upd, wS, wC, wN, wP, wT, wG, wQ, wA, wB, wH, wE, wK] using h2
  · simpa [sI, upd, wS, wC, wN, wP, wT, wG, wQ, wA, wB, wH, wE, wK] using h3
  · simpa [sI, upd, wS, wC, wN, wP, wT, wG, wQ, wA, wB, wH, wE, wK] using h4
  · simpa [sI, upd, wS, wC, wN, wP, wT, wG, wQ, wA, wB, wH, wE, wK] using h5 k hk
  · simpa [sI, upd, wS, wC, wN, wP, wT, wG, wQ, wA, wB, wH, wE, wK] using h6 k hk
  · simpa [sI, upd, wS, wC, wN, wP, wT, wG, wQ, wA, wB, wH, wE, wK] using h7 k hk
  · simpa [sI, upd, wS, wC, wN, wP, wT, wG, wQ, wA, wB, wH, wE, wK] using h8 k hk
  · show (sI σ 48 (10 + i) (nI x)).1 48 (10 * 1 + k) = nI (va_up (wK w) i x k)
    by_cases e : k = i
    · subst e
      rw [va_up, if_pos rfl]; exact sI_at _ _ _ _
    · rw [va_up, if_neg e, sI_ne _ _ (by omega)]; exact h9 k hk
theorem mh_N1 {w : WD} {σ : SS} (h : MH 1 w σ) (x : Nat) : MH 1 ((wS w, wC w, wN w + 1, wP w), w.2.1, w.2.2.1, wQ w, wA w, wB w, wH w, wE w, va_up (wK w) (wN w) x) (sI (sI σ 48 (10 + wN w) (nI x)) 47 1 (nI (wN w + 1))) := by
  obtain ⟨⟨h1, h2, h3, h4⟩, h5, h6, h7, h8, h9⟩ := h
  refine ⟨⟨?_, ?_, ?_, ?_⟩, fun k hk => ?_, fun k hk => ?_, fun k hk => ?_, fun k hk => ?_, fun k hk => ?_⟩
  · simpa [sI, upd, wS, wC, wN, wP, wT, wG, wQ, wA, wB, wH, wE, wK] using h1
  · simpa [sI, upd, wS, wC, wN, wP, wT, wG, wQ, wA, wB, wH, wE, wK] using h2
  · simp [sI, upd, wN]
  · simpa [sI, upd, wS, wC, wN, wP, wT, wG, wQ, wA, wB, wH, wE, wK] using h4
  · simpa [sI, upd, wS, wC, wN, wP, wT, wG, wQ, wA, wB, wH, wE, wK] using h5 k hk
  · simpa [sI, upd, wS, wC, wN, wP, wT, wG, wQ, wA, wB, wH, wE, wK] using h6 k hk
  · simpa [sI, upd, wS, wC, wN, wP, wT, wG, wQ, wA, wB, wH, wE, wK] using h7 k hk
  · simpa [sI, upd, wS, wC, wN, wP, wT, wG, wQ, wA, wB, wH, wE, wK] using h8 k hk
  · have hk : k < wN w + 1 := hk
    rw [sI_row _ _ (by decide)]
    show (sI σ 48 (10 + wN w) (nI x)).1 48 (10 * 1 + k) = nI (va_up (wK w) (wN w) x k)
    by_cases e : k = wN w
    · subst e
      rw [va_up, if_pos rfl]; exact sI_at _ _ _ _
    · rw [va_up, if_neg e, sI_ne _ _ (by omega)]; exact h9 k (by omega)
theorem mh_P1 {w : WD} {σ : SS} (h : MH 1 w σ) (x : Nat) : MH 1 ((wS w, wC w, wN w, x), w.2) (sI σ 49 1 (nI x)) := by
  obtain ⟨⟨h1, h2, h3, h4⟩, h5, h6, h7, h8, h9⟩ := h
  refine ⟨⟨?_, ?_, ?_, ?_⟩, fun k hk => ?_, fun k hk => ?_, fun k hk => ?_, fun k hk => ?_, fun k hk => ?_⟩
  · simpa [sI, upd, wS, wC, wN, wP, wT, wG, wQ, wA, wB, wH, wE, wK] using h1
  · simpa [sI, upd, wS, wC, wN, wP, wT, wG, wQ, wA, wB, wH, wE, wK] using h2
  · simpa [sI, upd, wS, wC, wN, wP, wT, wG, wQ, wA, wB, wH, wE, wK] using h3
  · simp [sI, upd, wP]
  · simpa [sI, upd, wS, wC, wN, wP, wT, wG, wQ, wA, wB, wH, wE, wK] using h5 k hk
  · simpa [sI, upd, wS, wC, wN, wP, wT, wG, wQ, wA, wB, wH, wE, wK] using h6 k hk
  · simpa [sI, upd, wS, wC, wN, wP, wT, wG, wQ, wA, wB, wH, wE, wK] using h7 k hk
  · simpa [sI, upd, wS, wC, wN, wP, wT, wG, wQ, wA, wB, wH, wE, wK] using h8 k hk
  · simpa [sI, upd, wS, wC, wN, wP, wT, wG, wQ, wA, wB, wH, wE, wK] using h9 k hk
theorem MH.ne {w : WD} {σ : SS} (h : MH 1 w σ) {k : Nat} (hk : k < 42 ∨ 50 < k) (j : Nat) (x : Int32) : MH 1 w (sI σ k j x) := by
  unfold MH at h ⊢
  rw [sI_row _ _ (by omega), sI_row _ _ (by omega), sI_row _ _ (by omega), sI_row _ _ (by omega), sI_row _ _ (by omega), sI_row _ _ (by omega), sI_row _ _ (by omega), sI_row _ _ (by omega), sI_row _ _ (by omega)]
  exact h
set_option maxRecDepth 100000 in
set_option maxHeartbeats 4000000 in
theorem s_X5_areWeeks {v : EE} {σ : SS} {a c : Nat} (ha : a < 1000) (hc : c < 1000) : S1 v M_X5_areWeeks [.int (nI a), .int (nI c)] σ (some (.int (bI (decide (a ≤ c ∧ c < 24))))) (σ) := by
  refine Sp.of rfl (by decide) rfl (Nat.le_of_ble_eq_true rfl) ?_
  show V v M_X5_areWeeks _ 0 [(0, .int (nI a)), (1, .int (nI c))] [] σ
  refine v_iload_n dX5_areWeeks_0 rfl ?_
  refine v_i2l dX5_areWeeks_1 ?_
  refine v_lconst (x := 0) dX5_areWeeks_2 rfl ?_
  refine v_ldc2 (x := (23)) (by decide +kernel) dX5_areWeeks_3 ?_
  refine v_callSi (M' := M_X5_between) (As := [_, _, _]) (s_X5_between) dX5_areWeeks_6 gX5_areWeeks_X5_between rfl nn_X5_between ⟨rfl, rfl⟩ ⟨by decide, by decide⟩ rfl rfl (Nat.le_of_ble_eq_true rfl) ?_
  refine v_top (by rw [btw_dec 0 23 (by omega) (by decide) (by decide)]) ?_
  refine p_if_eq (tgt := 29) dX5_areWeeks_9 (by decide) (fun c9 => ?_) (fun c9 => ?_)
  · refine v_iconst (x := nI 0) dX5_areWeeks_29 (by decide +kernel) ?_
    exact v_zret rfl (by decide) dX5_areWeeks_30 ⟨congrArg (fun z => some (Value.int z)) (bI_f (decide_eq_false (by omega))), rfl⟩
  · refine v_iload_n dX5_areWeeks_12 rfl ?_
    refine v_i2l dX5_areWeeks_13 ?_
    refine v_iload_n dX5_areWeeks_14 rfl ?_
    refine v_i2l dX5_areWeeks_15 ?_
    refine v_ldc2 (x := (23)) (by decide +kernel) dX5_areWeeks_16 ?_
    refine v_callSi (M' := M_X5_between) (As := [_, _, _]) (s_X5_between) dX5_areWeeks_19 gX5_areWeeks_X5_between rfl nn_X5_between ⟨rfl, rfl⟩ ⟨by decide, by decide⟩ rfl rfl (Nat.le_of_ble_eq_true rfl) ?_
    refine v_top (by rw [btw_dec a 23 (by omega) (by rw [Int32.toInt_toInt64, nI_toInt (by omega)]) (by decide)]) ?_
    refine p_if_eq (tgt := 29) dX5_areWeeks_22 (by decide) (fun c22 => ?_) (fun c22 => ?_)
    · refine v_iconst (x := nI 0) dX5_areWeeks_29 (by decide +kernel) ?_
      exact v_zret rfl (by decide) dX5_areWeeks_30 ⟨congrArg (fun z => some (Value.int z)) (bI_f (decide_eq_false (by omega))), rfl⟩
    · refine v_iconst (x := nI 1) dX5_areWeeks_25 (by decide +kernel) ?_
      refine v_goto (tgt := 30) dX5_areWeeks_26 (by decide) ?_
      exact v_zret rfl (by decide) dX5_areWeeks_30 ⟨congrArg (fun z => some (Value.int z)) (bI_t (decide_eq_true (by omega))), rfl⟩
set_option maxRecDepth 100000 in
set_option maxHeartbeats 4000000 in
theorem s_X5_isGood_g {v : EE} {w : WD} {z : Nat} {σ : SS} (hw : MH 1 w σ) (hv : WV z w) {a c : Nat} (ha : a < 1000) (hc : c < 1000) (hg0 : σ.1 60 0 = nI a) (hg1 : σ.1 60 1 = nI c) : SR v M_X5_isGood [.ref (v.1 40), .int (nI 103)] σ (some (.int (bI (iG w a c).isSome))) (fun σ' => FD σ σ' ∧ (∀ w', iG w a c = some w' → MH 1 w' σ') ∧ σ'.1 40 2 = σ.1 40 2) := by
  refine Sp.of rfl (by decide) rfl (Nat.le_of_ble_eq_true rfl) ?_
  show V v M_X5_isGood _ 0 [(0, .ref (v.1 40)), (1, .int (nI 103))] [] σ
  have hS := wv_S hv
  have hC := wv_C hv
  have hN := wv_N hv
  refine v_aload_n dX5_isGood_0 rfl ?_
  refine v_get (j := 28) iO40 rfl dX5_isGood_1 (by decide) in_X5_isGood_X5 fl_X5_isGood_69 rfl ?_
  refine v_iconst (x := nI 0) dX5_isGood_4 (by decide +kernel) ?_
  refine v_ialdN 0 iI60 dX5_isGood_5 rfl (by decide) (by decide) ?_
  refine v_top hg0 ?_
  refine v_istore_n (L' := [(2, _), (0, _), (1, _)]) dX5_isGood_6 rfl (by decide) rfl ?_
  refine v_aload_n dX5_isGood_7 rfl ?_
  refine v_get (j := 28) iO40 rfl dX5_isGood_8 (by decide) in_X5_isGood_X5 fl_X5_isGood_69 rfl ?_
  refine v_iconst (x := nI 1) dX5_isGood_11 (by decide +kernel) ?_
  refine v_ialdN 1 iI60 dX5_isGood_12 rfl (by decide) (by decide) ?_
  refine v_top hg1 ?_
  refine v_istore_n (L' := [(3, _), (2, _), (0, _), (1, _)]) dX5_isGood_13 rfl (by decide) rfl ?_
  refine v_aload_n dX5_isGood_14 rfl ?_
  refine v_get (j := 28) iO40 rfl dX5_isGood_15 (by decide) in_X5_isGood_X5 fl_X5_isGood_69 rfl ?_
  refine v_iconst (x := nI 2) dX5_isGood_18 (by decide +kernel) ?_
  refine v_ialdN 2 iI60 dX5_isGood_19 rfl (by decide) (by decide) ?_
  refine v_istore (L' := [(4, _), (3, _), (2, _), (0, _), (1, _)]) dX5_isGood_20 (by decide) rfl ?_
  refine v_iload_n dX5_isGood_22 rfl ?_
  refine v_bipush (x := nI 103) dX5_isGood_23 (by decide +kernel) ?_
  refine n_icmp_ne (tgt := 135) dX5_isGood_25 (by decide) (by omega) (by omega) (fun c25 => absurd c25 (by omega)) (fun c25 => ?_)
  refine v_iload_n dX5_isGood_28 rfl ?_
  refine v_i2l dX5_isGood_29 ?_
  refine v_lconst (x := 1) dX5_isGood_30 rfl ?_
  refine v_ldc2 (x := (9)) (by decide +kernel) dX5_isGood_31 ?_
  refine v_callSi (M' := M_X5_between) (As := [_, _, _]) (s_X5_between) dX5_isGood_34 gX5_isGood_X5_between rfl nn_X5_between ⟨rfl, rfl⟩ ⟨by decide, by decide⟩ rfl rfl (Nat.le_of_ble_eq_true rfl) ?_
  refine v_top (by rw [btw_dec 1 9 (by omega) (by decide) (by decide)]) ?_
  refine p_if_eq (tgt := 75) dX5_isGood_37 (by decide) (fun c37 => ?_) (fun c37 => ?_)
  · refine v_iconst (x := nI 0) dX5_isGood_75 (by decide +kernel) ?_
    exact v_zret rfl (by decide) dX5_isGood_76 ⟨congrArg (fun z => some (Value.int z)) (bI_f (by rw [iG, if_neg (by omega)]; rfl)), FD.rf σ, (fun w9 h9 => by rw [iG, if_neg (by omega)] at h9; cases h9), rfl⟩
  · refine v_iload_n dX5_isGood_40 rfl ?_
    refine v_bipush (x := nI 99) dX5_isGood_41 (by decide +kernel) ?_
    refine n_icmp_eq (tgt := 64) dX5_isGood_43 (by decide) (by omega) (by omega) (fun c43 => ?_) (fun c43 => ?_)
    · refine v_aload_n dX5_isGood_64 rfl ?_
      refine v_get (j := 3) iO40 rfl dX5_isGood_65 (by decide) in_X5_isGood_X5 fl_X5_isGood_13 rfl ?_
      refine v_iconst (x := nI 1) dX5_isGood_68 (by decide +kernel) ?_
      refine v_ialdN 1 iI42 dX5_isGood_69 rfl (by decide) (by decide) ?_
      refine v_top (m1_S hw) ?_
      refine v_bipush (x := nI 16) dX5_isGood_70 (by decide +kernel) ?_
      refine n_icmp_ne (tgt := 77) dX5_isGood_72 (by decide) (by omega) (by omega) (fun c72 => ?_) (fun c72 => ?_)
      · refine v_aload_n dX5_isGood_77 rfl ?_
        refine v_get (j := 4) iO40 rfl dX5_isGood_78 (by decide) in_X5_isGood_X5 fl_X5_isGood_17 rfl ?_
        refine v_bipush (x := nI 32) dX5_isGood_81 (by decide +kernel) ?_
        refine v_iconst (x := nI 2) dX5_isGood_83 (by decide +kernel) ?_
        refine v_aload_n dX5_isGood_84 rfl ?_
        refine v_get (j := 3) iO40 rfl dX5_isGood_85 (by decide) in_X5_isGood_X5 fl_X5_isGood_13 rfl ?_
        refine v_iconst (x := nI 1) dX5_isGood_88 (by decide +kernel) ?_
        refine v_ialdN 1 iI42 dX5_isGood_89 rfl (by decide) (by decide) ?_
        refine v_top (m1_S hw) ?_
        refine n_imul dX5_isGood_90 ?_
        refine n_iadd dX5_isGood_91 ?_
        refine v_iload_n dX5_isGood_92 rfl ?_
        refine v_iastN (32 + 2 * wS w) iI43 dX5_isGood_93 rfl (by omega) (by decide) ?_
        refine v_aload_n dX5_isGood_94 rfl ?_
        refine v_get (j := 4) iO40 rfl dX5_isGood_95 (by decide) in_X5_isGood_X5 fl_X5_isGood_17 rfl ?_
        refine v_bipush (x := nI 33) dX5_isGood_98 (by decide +kernel) ?_
        refine v_iconst (x := nI 2) dX5_isGood_100 (by decide +kernel) ?_
        refine v_aload_n dX5_isGood_101 rfl ?_
        refine v_get (j := 3) iO40 rfl dX5_isGood_102 (by decide) in_X5_isGood_X5 fl_X5_isGood_13 rfl ?_
        refine v_iconst (x := nI 1) dX5_isGood_105 (by decide +kernel) ?_
        refine v_ialdN 1 iI42 dX5_isGood_106 rfl (by decide) (by decide) ?_
        refine v_top ((sI_ne _ _ (by omega)).trans (m1_S hw)) ?_
        refine n_imul dX5_isGood_107 ?_
        refine n_iadd dX5_isGood_108 ?_
        refine v_iload_n dX5_isGood_109 rfl ?_
        refine v_bipush (x := nI 99) dX5_isGood_110 (by decide +kernel) ?_
        refine n_icmp_ne (tgt := 120) dX5_isGood_112 (by decide) (by omega) (by omega) (fun c112 => ?_) (fun c112 => ?_)
        · refine v_iload_n dX5_isGood_120 rfl ?_
          refine v_iastN (33 + 2 * wS w) iI43 dX5_isGood_121 rfl (by omega) (by decide) ?_
          refine v_aload_n dX5_isGood_122 rfl ?_
          refine v_get (j := 3) iO40 rfl dX5_isGood_123 (by decide) in_X5_isGood_X5 fl_X5_isGood_13 rfl ?_
          refine v_iconst (x := nI 1) dX5_isGood_126 (by decide +kernel) ?_
          refine v_dup2 dX5_isGood_127 rfl rfl ?_
          refine v_ialdN 1 iI42 dX5_isGood_128 rfl (by decide) (by decide) ?_
          refine v_top ((sI_ne _ _ (by omega)).trans ((sI_ne _ _ (by omega)).trans (m1_S hw))) ?_
          refine v_iconst (x := nI 1) dX5_isGood_129 (by decide +kernel) ?_
          refine n_iadd dX5_isGood_130 ?_
          refine v_iastN 1 iI42 dX5_isGood_131 rfl (by decide) (by decide) ?_
          refine v_goto (tgt := 400) dX5_isGood_132 (by decide) ?_
          refine v_iconst (x := nI 1) dX5_isGood_400 (by decide +kernel) ?_
          exact v_zret rfl (by decide) dX5_isGood_401 ⟨congrArg (fun z => some (Value.int z)) (bI_t (by rw [iG, if_pos (by omega)]; rfl)), ((((FD.rf σ).si (by unfold okS; omega) _).si (by unfold okS; omega) _).si (by unfold okS; omega) _), (fun w9 h9 => by rw [iG, if_pos (by omega)] at h9; cases h9; exact by rw [if_neg (by omega)]; exact mh_iG hw a _), by simp [sI, upd]⟩
        · refine v_bipush (x := (-4)) dX5_isGood_115 (by decide +kernel) ?_
          refine v_goto (tgt := 121) dX5_isGood_117 (by decide) ?_
          refine v_iastN (33 + 2 * wS w) iI43 dX5_isGood_121 rfl (by omega) (by decide) ?_
          refine v_aload_n dX5_isGood_122 rfl ?_
          refine v_get (j := 3) iO40 rfl dX5_isGood_123 (by decide) in_X5_isGood_X5 fl_X5_isGood_13 rfl ?_
          refine v_iconst (x := nI 1) dX5_isGood_126 (by decide +kernel) ?_
          refine v_dup2 dX5_isGood_127 rfl rfl ?_
          refine v_ialdN 1 iI42 dX5_isGood_128 rfl (by decide) (by decide) ?_
          refine v_top ((sI_ne _ _ (by omega)).trans ((sI_ne _ _ (by omega)).trans (m1_S hw))) ?_
          refine v_iconst (x := nI 1) dX5_isGood_129 (by decide +kernel) ?_
          refine n_iadd dX5_isGood_130 ?_
          refine v_iastN 1 iI42 dX5_isGood_131 rfl (by decide) (by decide) ?_
          refine v_goto (tgt := 400) dX5_isGood_132 (by decide) ?_
          refine v_iconst (x := nI 1) dX5_isGood_400 (by decide +kernel) ?_
          exact v_zret rfl (by decide) dX5_isGood_401 ⟨congrArg (fun z => some (Value.int z)) (bI_t (by rw [iG, if_pos (by omega)]; rfl)), ((((FD.rf σ).si (by unfold okS; omega) _).si (by unfold okS; omega) _).si (by unfold okS; omega) _), (fun w9 h9 => by rw [iG, if_pos (by omega)] at h9; cases h9; exact by rw [if_pos (by omega)]; exact mh_iG hw a _), by simp [sI, upd]⟩
      · refine v_iconst (x := nI 0) dX5_isGood_75 (by decide +kernel) ?_
        exact v_zret rfl (by decide) dX5_isGood_76 ⟨congrArg (fun z => some (Value.int z)) (bI_f (by rw [iG, if_neg (by omega)]; rfl)), FD.rf σ, (fun w9 h9 => by rw [iG, if_neg (by omega)] at h9; cases h9), rfl⟩
    · refine v_iload_n dX5_isGood_46 rfl ?_
      refine v_i2l dX5_isGood_47 ?_
      refine v_lconst (x := 0) dX5_isGood_48 rfl ?_
      refine v_aload_n dX5_isGood_49 rfl ?_
      refine v_get (j := 3) iO40 rfl dX5_isGood_50 (by decide) in_X5_isGood_X5 fl_X5_isGood_13 rfl ?_
      refine v_iconst (x := nI 1) dX5_isGood_53 (by decide +kernel) ?_
      refine v_ialdN 1 iI42 dX5_isGood_54 rfl (by decide) (by decide) ?_
      refine v_top (m1_S hw) ?_
      refine v_iconst (x := nI 1) dX5_isGood_55 (by decide +kernel) ?_
      refine v_isub dX5_isGood_56 ?_
      refine v_i2l dX5_isGood_57 ?_
      refine v_callSi (M' := M_X5_between) (As := [_, _, _]) (s_X5_between) dX5_isGood_58 gX5_isGood_X5_between rfl nn_X5_between ⟨rfl, rfl⟩ ⟨by decide, by decide⟩ rfl rfl (Nat.le_of_ble_eq_true rfl) ?_
      refine v_top (by rw [btw_dec 0 ((wS w : Int) - 1) (by omega) (by decide) (sub1_I (by omega))]) ?_
      refine p_if_eq (tgt := 75) dX5_isGood_61 (by decide) (fun c61 => ?_) (fun c61 => ?_)
      · refine v_iconst (x := nI 0) dX5_isGood_75 (by decide +kernel) ?_
        exact v_zret rfl (by decide) dX5_isGood_76 ⟨congrArg (fun z => some (Value.int z)) (bI_f (by rw [iG, if_neg (by omega)]; rfl)), FD.rf σ, (fun w9 h9 => by rw [iG, if_neg (by omega)] at h9; cases h9), rfl⟩
      · refine v_aload_n dX5_isGood_64 rfl ?_
        refine v_get (j := 3) iO40 rfl dX5_isGood_65 (by decide) in_X5_isGood_X5 fl_X5_isGood_13 rfl ?_
        refine v_iconst (x := nI 1) dX5_isGood_68 (by decide +kernel) ?_
        refine v_ialdN 1 iI42 dX5_isGood_69 rfl (by decide) (by decide) ?_
        refine v_top (m1_S hw) ?_
        refine v_bipush (x := nI 16) dX5_isGood_70 (by decide +kernel) ?_
        refine n_icmp_ne (tgt := 77) dX5_isGood_72 (by decide) (by omega) (by omega) (fun c72 => ?_) (fun c72 => ?_)
        · refine v_aload_n dX5_isGood_77 rfl ?_
          refine v_get (j := 4) iO40 rfl dX5_isGood_78 (by decide) in_X5_isGood_X5 fl_X5_isGood_17 rfl ?_
          refine v_bipush (x := nI 32) dX5_isGood_81 (by decide +kernel) ?_
          refine v_iconst (x := nI 2) dX5_isGood_83 (by decide +kernel) ?_
          refine v_aload_n dX5_isGood_84 rfl ?_
          refine v_get (j := 3) iO40 rfl dX5_isGood_85 (by decide) in_X5_isGood_X5 fl_X5_isGood_13 rfl ?_
          refine v_iconst (x := nI 1) dX5_isGood_88 (by decide +kernel) ?_
          refine v_ialdN 1 iI42 dX5_isGood_89 rfl (by decide) (by decide) ?_
          refine v_top (m1_S hw) ?_
          refine n_imul dX5_isGood_90 ?_
          refine n_iadd dX5_isGood_91 ?_
          refine v_iload_n dX5_isGood_92 rfl ?_
          refine v_iastN (32 + 2 * wS w) iI43 dX5_isGood_93 rfl (by omega) (by decide) ?_
          refine v_aload_n dX5_isGood_94 rfl ?_
          refine v_get (j := 4) iO40 rfl dX5_isGood_95 (by decide) in_X5_isGood_X5 fl_X5_isGood_17 rfl ?_
          refine v_bipush (x := nI 33) dX5_isGood_98 (by decide +kernel) ?_
          refine v_iconst (x := nI 2) dX5_isGood_100 (by decide +kernel) ?_
          refine v_aload_n dX5_isGood_101 rfl ?_
          refine v_get (j := 3) iO40 rfl dX5_isGood_102 (by decide) in_X5_isGood_X5 fl_X5_isGood_13 rfl ?_
          refine v_iconst (x := nI 1) dX5_isGood_105 (by decide +kernel) ?_
          refine v_ialdN 1 iI42 dX5_isGood_106 rfl (by decide) (by decide) ?_
          refine v_top ((sI_ne _ _ (by omega)).trans (m1_S hw)) ?_
          refine n_imul dX5_isGood_107 ?_
          refine n_iadd dX5_isGood_108 ?_
          refine v_iload_n dX5_isGood_109 rfl ?_
          refine v_bipush (x := nI 99) dX5_isGood_110 (by decide +kernel) ?_
          refine n_icmp_ne (tgt := 120) dX5_isGood_112 (by decide) (by omega) (by omega) (fun c112 => ?_) (fun c112 => ?_)
          · refine v_iload_n dX5_isGood_120 rfl ?_
            refine v_iastN (33 + 2 * wS w) iI43 dX5_isGood_121 rfl (by omega) (by decide) ?_
            refine v_aload_n dX5_isGood_122 rfl ?_
            refine v_get (j := 3) iO40 rfl dX5_isGood_123 (by decide) in_X5_isGood_X5 fl_X5_isGood_13 rfl ?_
            refine v_iconst (x := nI 1) dX5_isGood_126 (by decide +kernel) ?_
            refine v_dup2 dX5_isGood_127 rfl rfl ?_
            refine v_ialdN 1 iI42 dX5_isGood_128 rfl (by decide) (by decide) ?_
            refine v_top ((sI_ne _ _ (by omega)).trans ((sI_ne _ _ (by omega)).trans (m1_S hw))) ?_
            refine v_iconst (x := nI 1) dX5_isGood_129 (by decide +kernel) ?_
            refine n_iadd dX5_isGood_130 ?_
            refine v_iastN 1 iI42 dX5_isGood_131 rfl (by decide) (by decide) ?_
            refine v_goto (tgt := 400) dX5_isGood_132 (by decide) ?_
            refine v_iconst (x := nI 1) dX5_isGood_400 (by decide +kernel) ?_
            exact v_zret rfl (by decide) dX5_isGood_401 ⟨congrArg (fun z => some (Value.int z)) (bI_t (by rw [iG, if_pos (by omega)]; rfl)), ((((FD.rf σ).si (by unfold okS; omega) _).si (by unfold okS; omega) _).si (by unfold okS; omega) _), (fun w9 h9 => by rw [iG, if_pos (by omega)] at h9; cases h9; exact by rw [if_neg (by omega)]; exact mh_iG hw a _), by simp [sI, upd]⟩
          · refine v_bipush (x := (-4)) dX5_isGood_115 (by decide +kernel) ?_
            refine v_goto (tgt := 121) dX5_isGood_117 (by decide) ?_
            refine v_iastN (33 + 2 * wS w) iI43 dX5_isGood_121 rfl (by omega) (by decide) ?_
            refine v_aload_n dX5_isGood_122 rfl ?_
            refine v_get (j := 3) iO40 rfl dX5_isGood_123 (by decide) in_X5_isGood_X5 fl_X5_isGood_13 rfl ?_
            refine v_iconst (x := nI 1) dX5_isGood_126 (by decide +kernel) ?_
            refine v_dup2 dX5_isGood_127 rfl rfl ?_
            refine v_ialdN 1 iI42 dX5_isGood_128 rfl (by decide) (by decide) ?_
            refine v_top ((sI_ne _ _ (by omega)).trans ((sI_ne _ _ (by omega)).trans (m1_S hw))) ?_
            refine v_iconst (x := nI 1) dX5_isGood_129 (by decide +kernel) ?_
            refine n_iadd dX5_isGood_130 ?_
            refine v_iastN 1 iI42 dX5_isGood_131 rfl (by decide) (by decide) ?_
            refine v_goto (tgt := 400) dX5_isGood_132 (by decide) ?_
            refine v_iconst (x := nI 1) dX5_isGood_400 (by decide +kernel) ?_
            exact v_zret rfl (by decide) dX5_isGood_401 ⟨congrArg (fun z => some (Value.int z)) (bI_t (by rw [iG, if_pos (by omega)]; rfl)), ((((FD.rf σ).si (by unfold okS; omega) _).si (by unfold okS; omega) _).si (by unfold okS; omega) _), (fun w9 h9 => by rw [iG, if_pos (by omega)] at h9; cases h9; exact by rw [if_pos (by omega)]; exact mh_iG hw a _), by simp [sI, upd]⟩
        · refine v_iconst (x := nI 0) dX5_isGood_75 (by decide +kernel) ?_
          exact v_zret rfl (by decide) dX5_isGood_76 ⟨congrArg (fun z => some (Value.int z)) (bI_f (by rw [iG, if_neg (by omega)]; rfl)), FD.rf σ, (fun w9 h9 => by rw [iG, if_neg (by omega)] at h9; cases h9), rfl⟩
set_option maxRecDepth 100000 in
set_option maxHeartbeats 4000000 in
theorem s_X5_isGood_c {v : EE} {w : WD} {z : Nat} {σ : SS} (hw : MH 1 w σ) (hv : WV z w) {a c d : Nat} (ha : a < 1000) (hc : c < 1000) (hd : d < 1000) (hg0 : σ.1 60 0 = nI a) (hg1 : σ.1 60 1 = nI c) (hg2 : σ.1 60 2 = nI d) : SR v M_X5_isGood [.ref (v.1 40), .int (nI 99)] σ (some (.int (bI (iC w a c d).isSome))) (fun σ' => FD σ σ' ∧ (∀ w', iC w a c d = some w' → MH 1 w' σ') ∧ σ'.1 40 2 = σ.1 40 2) := by
  refine Sp.of rfl (by decide) rfl (Nat.le_of_ble_eq_true rfl) ?_
  show V v M_X5_isGood _ 0 [(0, .ref (v.1 40)), (1, .int (nI 99))] [] σ
  have hS := wv_S hv
  have hC := wv_C hv
  have hN := wv_N hv
  refine v_aload_n dX5_isGood_0 rfl ?_
  refine v_get (j := 28) iO40 rfl dX5_isGood_1 (by decide) in_X5_isGood_X5 fl_X5_isGood_69 rfl ?_
  refine v_iconst (x := nI 0) dX5_isGood_4 (by decide +kernel) ?_
  refine v_ialdN 0 iI60 dX5_isGood_5 rfl (by decide) (by decide) ?_
  refine v_top hg0 ?_
  refine v_istore_n (L' := [(2, _), (0, _), (1, _)]) dX5_isGood_6 rfl (by decide) rfl ?_
  refine v_aload_n dX5_isGood_7 rfl ?_
  refine v_get (j := 28) iO40 rfl dX5_isGood_8 (by decide) in_X5_isGood_X5 fl_X5_isGood_69 rfl ?_
  refine v_iconst (x := nI 1) dX5_isGood_11 (by decide +kernel) ?_
  refine v_ialdN 1 iI60 dX5_isGood_12 rfl (by decide) (by decide) ?_
  refine v_top hg1 ?_
  refine v_istore_n (L' := [(3, _), (2, _), (0, _), (1, _)]) dX5_isGood_13 rfl (by decide) rfl ?_
  refine v_aload_n dX5_isGood_14 rfl ?_
  refine v_get (j := 28) iO40 rfl dX5_isGood_15 (by decide) in_X5_isGood_X5 fl_X5_isGood_69 rfl ?_
  refine v_iconst (x := nI 2) dX5_isGood_18 (by decide +kernel) ?_
  refine v_ialdN 2 iI60 dX5_isGood_19 rfl (by decide) (by decide) ?_
  refine v_top hg2 ?_
  refine v_istore (L' := [(4, _), (3, _), (2, _), (0, _), (1, _)]) dX5_isGood_20 (by decide) rfl ?_
  refine v_iload_n dX5_isGood_22 rfl ?_
  refine v_bipush (x := nI 103) dX5_isGood_23 (by decide +kernel) ?_
  refine n_icmp_ne (tgt := 135) dX5_isGood_25 (by decide) (by omega) (by omega) (fun c25 => ?_) (fun c25 => absurd c25 (by omega))
  refine v_iload_n dX5_isGood_135 rfl ?_
  refine v_bipush (x := nI 99) dX5_isGood_136 (by decide +kernel) ?_
  refine n_icmp_ne (tgt := 240) dX5_isGood_138 (by decide) (by omega) (by omega) (fun c138 => absurd c138 (by omega)) (fun c138 => ?_)
  refine v_iload_n dX5_isGood_141 rfl ?_
  refine v_i2l dX5_isGood_142 ?_
  refine v_lconst (x := 0) dX5_isGood_143 rfl ?_
  refine v_ldc2 (x := (5)) (by decide +kernel) dX5_isGood_144 ?_
  refine v_callSi (M' := M_X5_between) (As := [_, _, _]) (s_X5_between) dX5_isGood_147 gX5_isGood_X5_between rfl nn_X5_between ⟨rfl, rfl⟩ ⟨by decide, by decide⟩ rfl rfl (Nat.le_of_ble_eq_true rfl) ?_
  refine v_top (by rw [btw_dec 0 5 (by omega) (by decide) (by decide)]) ?_
  refine p_if_eq (tgt := 173) dX5_isGood_150 (by decide) (fun c150 => ?_) (fun c150 => ?_)
  · refine v_iconst (x := nI 0) dX5_isGood_173 (by decide +kernel) ?_
    exact v_zret rfl (by decide) dX5_isGood_174 ⟨congrArg (fun z => some (Value.int z)) (bI_f (by rw [iC, if_neg (by omega)]; rfl)), FD.rf σ, (fun w9 h9 => by rw [iC, if_neg (by omega)] at h9; cases h9), rfl⟩
  · refine v_iload_n dX5_isGood_153 rfl ?_
    refine v_iload dX5_isGood_154 rfl ?_
    refine v_callSi (M' := M_X5_areWeeks) (As := [_, _]) (s_X5_areWeeks hc hd) dX5_isGood_156 gX5_isGood_X5_areWeeks rfl nn_X5_areWeeks ⟨rfl, rfl⟩ ⟨by decide, by decide⟩ rfl rfl (Nat.le_of_ble_eq_true rfl) ?_
    refine p_if_eq (tgt := 173) dX5_isGood_159 (by decide) (fun c159 => ?_) (fun c159 => ?_)
    · refine v_iconst (x := nI 0) dX5_isGood_173 (by decide +kernel) ?_
      exact v_zret rfl (by decide) dX5_isGood_174 ⟨congrArg (fun z => some (Value.int z)) (bI_f (by rw [iC, if_neg (by omega)]; rfl)), FD.rf σ, (fun w9 h9 => by rw [iC, if_neg (by omega)] at h9; cases h9), rfl⟩
    · refine v_aload_n dX5_isGood_162 rfl ?_
      refine v_get (j := 5) iO40 rfl dX5_isGood_163 (by decide) in_X5_isGood_X5 fl_X5_isGood_20 rfl ?_
      refine v_iconst (x := nI 1) dX5_isGood_166 (by decide +kernel) ?_
      refine v_ialdN 1 iI44 dX5_isGood_167 rfl (by decide) (by decide) ?_
      refine v_top (m1_C hw) ?_
      refine v_bipush (x := nI 16) dX5_isGood_168 (by decide +kernel) ?_
      refine n_icmp_ne (tgt := 175) dX5_isGood_170 (by decide) (by omega) (by omega) (fun c170 => ?_) (fun c170 => ?_)
      · refine v_aload_n dX5_isGood_175 rfl ?_
        refine v_get (j := 6) iO40 rfl dX5_isGood_176 (by decide) in_X5_isGood_X5 fl_X5_isGood_23 rfl ?_
        refine v_bipush (x := nI 48) dX5_isGood_179 (by decide +kernel) ?_
        refine v_iconst (x := nI 3) dX5_isGood_181 (by decide +kernel) ?_
        refine v_aload_n dX5_isGood_182 rfl ?_
        refine v_get (j := 5) iO40 rfl dX5_isGood_183 (by decide) in_X5_isGood_X5 fl_X5_isGood_20 rfl ?_
        refine v_iconst (x := nI 1) dX5_isGood_186 (by decide +kernel) ?_
        refine v_ialdN 1 iI44 dX5_isGood_187 rfl (by decide) (by decide) ?_
        refine v_top (m1_C hw) ?_
        refine n_imul dX5_isGood_188 ?_
        refine n_iadd dX5_isGood_189 ?_
        refine v_iload_n dX5_isGood_190 rfl ?_
        refine v_iastN (48 + 3 * wC w) iI45 dX5_isGood_191 rfl (by omega) (by decide) ?_
        refine v_aload_n dX5_isGood_192 rfl ?_
        refine v_get (j := 6) iO40 rfl dX5_isGood_193 (by decide) in_X5_isGood_X5 fl_X5_isGood_23 rfl ?_
        refine v_bipush (x := nI 49) dX5_isGood_196 (by decide +kernel) ?_
        refine v_iconst (x := nI 3) dX5_isGood_198 (by decide +kernel) ?_
        refine v_aload_n dX5_isGood_199 rfl ?_
        refine v_get (j := 5) iO40 rfl dX5_isGood_200 (by decide) in_X5_isGood_X5 fl_X5_isGood_20 rfl ?_
        refine v_iconst (x := nI 1) dX5_isGood_203 (by decide +kernel) ?_
        refine v_ialdN 1 iI44 dX5_isGood_204 rfl (by decide) (by decide) ?_
        refine v_top ((sI_ne _ _ (by omega)).trans (m1_C hw)) ?_
        refine n_imul dX5_isGood_205 ?_
        refine n_iadd dX5_isGood_206 ?_
        refine v_iload_n dX5_isGood_207 rfl ?_
        refine v_iastN (49 + 3 * wC w) iI45 dX5_isGood_208 rfl (by omega) (by decide) ?_
        refine v_aload_n dX5_isGood_209 rfl ?_
        refine v_get (j := 6) iO40 rfl dX5_isGood_210 (by decide) in_X5_isGood_X5 fl_X5_isGood_23 rfl ?_
        refine v_bipush (x := nI 50) dX5_isGood_213 (by decide +kernel) ?_
        refine v_iconst (x := nI 3) dX5_isGood_215 (by decide +kernel) ?_
        refine v_aload_n dX5_isGood_216 rfl ?_
        refine v_get (j := 5) iO40 rfl dX5_isGood_217 (by decide) in_X5_isGood_X5 fl_X5_isGood_20 rfl ?_
        refine v_iconst (x := nI 1) dX5_isGood_220 (by decide +kernel) ?_
        refine v_ialdN 1 iI44 dX5_isGood_221 rfl (by decide) (by decide) ?_
        refine v_top ((sI_ne _ _ (by omega)).trans ((sI_ne _ _ (by omega)).trans (m1_C hw))) ?_
        refine n_imul dX5_isGood_222 ?_
        refine n_iadd dX5_isGood_223 ?_
        refine v_iload dX5_isGood_224 rfl ?_
        refine v_iastN (50 + 3 * wC w) iI45 dX5_isGood_226 rfl (by omega) (by decide) ?_
        refine v_aload_n dX5_isGood_227 rfl ?_
        refine v_get (j := 5) iO40 rfl dX5_isGood_228 (by decide) in_X5_isGood_X5 fl_X5_isGood_20 rfl ?_
        refine v_iconst (x := nI 1) dX5_isGood_231 (by decide +kernel) ?_
        refine v_dup2 dX5_isGood_232 rfl rfl ?_
        refine v_ialdN 1 iI44 dX5_isGood_233 rfl (by decide) (by decide) ?_
        refine v_top ((sI_ne _ _ (by omega)).trans ((sI_ne _ _ (by omega)).trans ((sI_ne _ _ (by omega)).trans (m1_C hw)))) ?_
        refine v_iconst (x := nI 1) dX5_isGood_234 (by decide +kernel) ?_
        refine n_iadd dX5_isGood_235 ?_
        refine v_iastN 1 iI44 dX5_isGood_236 rfl (by decide) (by decide) ?_
        refine v_goto (tgt := 400) dX5_isGood_237 (by decide) ?_
        refine v_iconst (x := nI 1) dX5_isGood_400 (by decide +kernel) ?_
        exact v_zret rfl (by decide) dX5_isGood_401 ⟨congrArg (fun z => some (Value.int z)) (bI_t (by rw [iC, if_pos (by omega)]; rfl)), (((((FD.rf σ).si (by unfold okS; omega) _).si (by unfold okS; omega) _).si (by unfold okS; omega) _).si (by unfold okS; omega) _), (fun w9 h9 => by rw [iC, if_pos (by omega)] at h9; cases h9; exact mh_iC hw a c d), by simp [sI, upd]⟩
      · refine v_iconst (x := nI 0) dX5_isGood_173 (by decide +kernel) ?_
        exact v_zret rfl (by decide) dX5_isGood_174 ⟨congrArg (fun z => some (Value.int z)) (bI_f (by rw [iC, if_neg (by omega)]; rfl)), FD.rf σ, (fun w9 h9 => by rw [iC, if_neg (by omega)] at h9; cases h9), rfl⟩
theorem kdN_kd {c : Nat} (hc : c < 1000) : kdOf (nI c) = nI (kdN c) := by
  rw [kdOf, kdN]
  have q98 : nI c = (98 : Int32) ↔ c = 98 := nI_eq (b := 98) (by omega) (by decide)
  have q99 : nI c = (99 : Int32) ↔ c = 99 := nI_eq (b := 99) (by omega) (by decide)
  by_cases h1 : c = 98
  · rw [if_pos (q98.mpr h1), if_pos h1]; rfl
  · rw [if_neg (fun q => h1 (q98.mp q)), if_neg h1]
    by_cases h2 : c = 99
    · rw [if_pos (q99.mpr h2), if_pos h2]; rfl
    · rw [if_neg (fun q => h2 (q99.mp q)), if_neg h2]
theorem kdN_lt {c S : Nat} (h : c < S ∨ c = 98 ∨ c = 99) (hS : S ≤ 16) : kdN c < 18 := by
  rw [kdN]
  by_cases h1 : c = 98
  · rw [if_pos h1]; decide
  · rw [if_neg h1]
    by_cases h2 : c = 99
    · rw [if_pos h2]; decide
    · rw [if_neg h2]; omega
set_option maxRecDepth 100000 in
set_option maxHeartbeats 4000000 in
theorem s_X5_isGood_t {v : EE} {w : WD} {z : Nat} {σ : SS} (hw : MH 1 w σ) (hv : WV z w) {a c d : Nat} (ha : a < 1000) (hc : c < 1000) (hd : d < 1000) (hg0 : σ.1 60 0 = nI a) (hg1 : σ.1 60 1 = nI c) (hg2 : σ.1 60 2 = nI d) : SR v M_X5_isGood [.ref (v.1 40), .int (nI 116)] σ (some (.int (bI (iT w a c d).isSome))) (fun σ' => FD σ σ' ∧ (∀ w', iT w a c d = some w' → MH 1 w' σ') ∧ σ'.1 40 2 = σ.1 40 2) := by
  refine Sp.of rfl (by decide) rfl (Nat.le_of_ble_eq_true rfl) ?_
  show V v M_X5_isGood _ 0 [(0, .ref (v.1 40)), (1, .int (nI 116))] [] σ
  have hS := wv_S hv
  have hC := wv_C hv
  have hN := wv_N hv
  refine v_aload_n dX5_isGood_0 rfl ?_
  refine v_get (j := 28) iO40 rfl dX5_isGood_1 (by decide) in_X5_isGood_X5 fl_X5_isGood_69 rfl ?_
  refine v_iconst (x := nI 0) dX5_isGood_4 (by decide +kernel) ?_
  refine v_ialdN 0 iI60 dX5_isGood_5 rfl (by decide) (by decide) ?_
  refine v_top hg0 ?_
  refine v_istore_n (L' := [(2, _), (0, _), (1, _)]) dX5_isGood_6 rfl (by decide) rfl ?_
  refine v_aload_n dX5_isGood_7 rfl ?_
  refine v_get (j := 28) iO40 rfl dX5_isGood_8 (by decide) in_X5_isGood_X5 fl_X5_isGood_69 rfl ?_
  refine v_iconst (x := nI 1) dX5_isGood_11 (by decide +kernel) ?_
  refine v_ialdN 1 iI60 dX5_isGood_12 rfl (by decide) (by decide) ?_
  refine v_top hg1 ?_
  refine v_istore_n (L' := [(3, _), (2, _), (0, _), (1, _)]) dX5_isGood_13 rfl (by decide) rfl ?_
  refine v_aload_n dX5_isGood_14 rfl ?_
  refine v_get (j := 28) iO40 rfl dX5_isGood_15 (by decide) in_X5_isGood_X5 fl_X5_isGood_69 rfl ?_
  refine v_iconst (x := nI 2) dX5_isGood_18 (by decide +kernel) ?_
  refine v_ialdN 2 iI60 dX5_isGood_19 rfl (by decide) (by decide) ?_
  refine v_top hg2 ?_
  refine v_istore (L' := [(4, _), (3, _), (2, _), (0, _), (1, _)]) dX5_isGood_20 (by decide) rfl ?_
  refine v_iload_n dX5_isGood_22 rfl ?_
  refine v_bipush (x := nI 103) dX5_isGood_23 (by decide +kernel) ?_
  refine n_icmp_ne (tgt := 135) dX5_isGood_25 (by decide) (by omega) (by omega) (fun c25 => ?_) (fun c25 => absurd c25 (by omega))
  refine v_iload_n dX5_isGood_135 rfl ?_
  refine v_bipush (x := nI 99) dX5_isGood_136 (by decide +kernel) ?_
  refine n_icmp_ne (tgt := 240) dX5_isGood_138 (by decide) (by omega) (by omega) (fun c138 => ?_) (fun c138 => absurd c138 (by omega))
  refine v_iload_n dX5_isGood_240 rfl ?_
  refine v_bipush (x := nI 116) dX5_isGood_241 (by decide +kernel) ?_
  refine n_icmp_ne (tgt := 335) dX5_isGood_243 (by decide) (by omega) (by omega) (fun c243 => absurd c243 (by omega)) (fun c243 => ?_)
  refine v_iload_n dX5_isGood_246 rfl ?_
  refine v_i2l dX5_isGood_247 ?_
  refine v_lconst (x := 0) dX5_isGood_248 rfl ?_
  refine v_aload_n dX5_isGood_249 rfl ?_
  refine v_get (j := 5) iO40 rfl dX5_isGood_250 (by decide) in_X5_isGood_X5 fl_X5_isGood_20 rfl ?_
  refine v_iconst (x := nI 1) dX5_isGood_253 (by decide +kernel) ?_
  refine v_ialdN 1 iI44 dX5_isGood_254 rfl (by decide) (by decide) ?_
  refine v_top (m1_C hw) ?_
  refine v_iconst (x := nI 1) dX5_isGood_255 (by decide +kernel) ?_
  refine v_isub dX5_isGood_256 ?_
  refine v_i2l dX5_isGood_257 ?_
  refine v_callSi (M' := M_X5_between) (As := [_, _, _]) (s_X5_between) dX5_isGood_258 gX5_isGood_X5_between rfl nn_X5_between ⟨rfl, rfl⟩ ⟨by decide, by decide⟩ rfl rfl (Nat.le_of_ble_eq_true rfl) ?_
  refine v_top (by rw [btw_dec 0 ((wC w : Int) - 1) (by omega) (by decide) (sub1_I (by omega))]) ?_
  refine p_if_eq (tgt := 307) dX5_isGood_261 (by decide) (fun c261 => ?_) (fun c261 => ?_)
  · refine v_iconst (x := nI 0) dX5_isGood_307 (by decide +kernel) ?_
    exact v_zret rfl (by decide) dX5_isGood_308 ⟨congrArg (fun z => some (Value.int z)) (bI_f (by rw [iT, if_neg (by omega)]; rfl)), FD.rf σ, (fun w9 h9 => by rw [iT, if_neg (by omega)] at h9; cases h9), rfl⟩
  · refine v_iload_n dX5_isGood_264 rfl ?_
    refine v_i2l dX5_isGood_265 ?_
    refine v_lconst (x := 0) dX5_isGood_266 rfl ?_
    refine v_aload_n dX5_isGood_267 rfl ?_
    refine v_get (j := 3) iO40 rfl dX5_isGood_268 (by decide) in_X5_isGood_X5 fl_X5_isGood_13 rfl ?_
    refine v_iconst (x := nI 1) dX5_isGood_271 (by decide +kernel) ?_
    refine v_ialdN 1 iI42 dX5_isGood_272 rfl (by decide) (by decide) ?_
    refine v_top (m1_S hw) ?_
    refine v_iconst (x := nI 1) dX5_isGood_273 (by decide +kernel) ?_
    refine v_isub dX5_isGood_274 ?_
    refine v_i2l dX5_isGood_275 ?_
    refine v_callSi (M' := M_X5_between) (As := [_, _, _]) (s_X5_between) dX5_isGood_276 gX5_isGood_X5_between rfl nn_X5_between ⟨rfl, rfl⟩ ⟨by decide, by decide⟩ rfl rfl (Nat.le_of_ble_eq_true rfl) ?_
    refine v_top (by rw [btw_dec 0 ((wS w : Int) - 1) (by omega) (by decide) (sub1_I (by omega))]) ?_
    refine p_if_ne (tgt := 294) dX5_isGood_279 (by decide) (fun c279 => ?_) (fun c279 => ?_)
    · refine v_iload dX5_isGood_294 rfl ?_
      refine v_i2l dX5_isGood_296 ?_
      refine v_lconst (x := 1) dX5_isGood_297 rfl ?_
      refine v_ldc2 (x := (99)) (by decide +kernel) dX5_isGood_298 ?_
      refine v_callSi (M' := M_X5_between) (As := [_, _, _]) (s_X5_between) dX5_isGood_301 gX5_isGood_X5_between rfl nn_X5_between ⟨rfl, rfl⟩ ⟨by decide, by decide⟩ rfl rfl (Nat.le_of_ble_eq_true rfl) ?_
      refine v_top (by rw [btw_dec 1 99 (by omega) (by decide) (by decide)]) ?_
      refine p_if_ne (tgt := 309) dX5_isGood_304 (by decide) (fun c304 => ?_) (fun c304 => ?_)
      · have hk9 := kdN_lt (c := c) (S := wS w) (by omega) hS
        refine v_aload_n dX5_isGood_309 rfl ?_
        refine v_get (j := 12) iO40 rfl dX5_isGood_310 (by decide) in_X5_isGood_X5 fl_X5_isGood_38 rfl ?_
        refine v_sipush (x := nI 864) dX5_isGood_313 (by decide +kernel) ?_
        refine v_bipush (x := nI 18) dX5_isGood_316 (by decide +kernel) ?_
        refine v_iload_n dX5_isGood_318 rfl ?_
        refine n_imul dX5_isGood_319 ?_
        refine n_iadd dX5_isGood_320 ?_
        refine v_iload_n dX5_isGood_321 rfl ?_
        refine v_callSi (M' := M_X5_kindOf) (As := [_]) (s_X5_kindOf) dX5_isGood_322 gX5_isGood_X5_kindOf rfl nn_X5_kindOf ⟨rfl, rfl⟩ ⟨by decide, by decide⟩ rfl rfl (Nat.le_of_ble_eq_true rfl) ?_
        refine v_top (kdN_kd hc) ?_
        refine n_iadd dX5_isGood_325 ?_
        refine v_dup2 dX5_isGood_326 rfl rfl ?_
        refine v_ialdN (864 + (a * 18 + kdN c)) iI50 dX5_isGood_327 (congrArg nI (by omega)) (by omega) (by decide) ?_
        refine v_top (m1_H hw (by omega)) ?_
        refine v_iload dX5_isGood_328 rfl ?_
        refine n_iadd dX5_isGood_330 ?_
        refine v_iastN (864 + (a * 18 + kdN c)) iI50 dX5_isGood_331 (congrArg nI (by omega)) (by omega) (by decide) ?_
        refine v_goto (tgt := 400) dX5_isGood_332 (by decide) ?_
        refine v_iconst (x := nI 1) dX5_isGood_400 (by decide +kernel) ?_
        exact v_zret rfl (by decide) dX5_isGood_401 ⟨congrArg (fun z => some (Value.int z)) (bI_t (by rw [iT, if_pos (by omega)]; rfl)), ((FD.rf σ).si (by unfold okS; omega) _), (fun w9 h9 => by rw [iT, if_pos (by omega)] at h9; cases h9; exact mh_H1 hw _ _), by simp [sI, upd]⟩
      · refine v_iconst (x := nI 0) dX5_isGood_307 (by decide +kernel) ?_
        exact v_zret rfl (by decide) dX5_isGood_308 ⟨congrArg (fun z => some (Value.int z)) (bI_f (by rw [iT, if_neg (by omega)]; rfl)), FD.rf σ, (fun w9 h9 => by rw [iT, if_neg (by omega)] at h9; cases h9), rfl⟩
    · refine v_iload_n dX5_isGood_282 rfl ?_
      refine v_bipush (x := nI 98) dX5_isGood_283 (by decide +kernel) ?_
      refine n_icmp_eq (tgt := 294) dX5_isGood_285 (by decide) (by omega) (by omega) (fun c285 => ?_) (fun c285 => ?_)
      · refine v_iload dX5_isGood_294 rfl ?_
        refine v_i2l dX5_isGood_296 ?_
        refine v_lconst (x := 1) dX5_isGood_297 rfl ?_
        refine v_ldc2 (x := (99)) (by decide +kernel) dX5_isGood_298 ?_
        refine v_callSi (M' := M_X5_between) (As := [_, _, _]) (s_X5_between) dX5_isGood_301 gX5_isGood_X5_between rfl nn_X5_between ⟨rfl, rfl⟩ ⟨by decide, by decide⟩ rfl rfl (Nat.le_of_ble_eq_true rfl) ?_
        refine v_top (by rw [btw_dec 1 99 (by omega) (by decide) (by decide)]) ?_
        refine p_if_ne (tgt := 309) dX5_isGood_304 (by decide) (fun c304 => ?_) (fun c304 => ?_)
        · have hk9 := kdN_lt (c := c) (S := wS w) (by omega) hS
          refine v_aload_n dX5_isGood_309 rfl ?_
          refine v_get (j := 12) iO40 rfl dX5_isGood_310 (by decide) in_X5_isGood_X5 fl_X5_isGood_38 rfl ?_
          refine v_sipush (x := nI 864) dX5_isGood_313 (by decide +kernel) ?_
          refine v_bipush (x := nI 18) dX5_isGood_316 (by decide +kernel) ?_
          refine v_iload_n dX5_isGood_318 rfl ?_
          refine n_imul dX5_isGood_319 ?_
          refine n_iadd dX5_isGood_320 ?_
          refine v_iload_n dX5_isGood_321 rfl ?_
          refine v_callSi (M' := M_X5_kindOf) (As := [_]) (s_X5_kindOf) dX5_isGood_322 gX5_isGood_X5_kindOf rfl nn_X5_kindOf ⟨rfl, rfl⟩ ⟨by decide, by decide⟩ rfl rfl (Nat.le_of_ble_eq_true rfl) ?_
          refine v_top (kdN_kd hc) ?_
          refine n_iadd dX5_isGood_325 ?_
          refine v_dup2 dX5_isGood_326 rfl rfl ?_
          refine v_ialdN (864 + (a * 18 + kdN c)) iI50 dX5_isGood_327 (congrArg nI (by omega)) (by omega) (by decide) ?_
          refine v_top (m1_H hw (by omega)) ?_
          refine v_iload dX5_isGood_328 rfl ?_
          refine n_iadd dX5_isGood_330 ?_
          refine v_iastN (864 + (a * 18 + kdN c)) iI50 dX5_isGood_331 (congrArg nI (by omega)) (by omega) (by decide) ?_
          refine v_goto (tgt := 400) dX5_isGood_332 (by decide) ?_
          refine v_iconst (x := nI 1) dX5_isGood_400 (by decide +kernel) ?_
          exact v_zret rfl (by decide) dX5_isGood_401 ⟨congrArg (fun z => some (Value.int z)) (bI_t (by rw [iT, if_pos (by omega)]; rfl)), ((FD.rf σ).si (by unfold okS; omega) _), (fun w9 h9 => by rw [iT, if_pos (by omega)] at h9; cases h9; exact mh_H1 hw _ _), by simp [sI, upd]⟩
        · refine v_iconst (x := nI 0) dX5_isGood_307 (by decide +kernel) ?_
          exact v_zret rfl (by decide) dX5_isGood_308 ⟨congrArg (fun z => some (Value.int z)) (bI_f (by rw [iT, if_neg (by omega)]; rfl)), FD.rf σ, (fun w9 h9 => by rw [iT, if_neg (by omega)] at h9; cases h9), rfl⟩
      · refine v_iload_n dX5_isGood_288 rfl ?_
        refine v_bipush (x := nI 99) dX5_isGood_289 (by decide +kernel) ?_
        refine n_icmp_ne (tgt := 307) dX5_isGood_291 (by decide) (by omega) (by omega) (fun c291 => ?_) (fun c291 => ?_)
        · refine v_iconst (x := nI 0) dX5_isGood_307 (by decide +kernel) ?_
          exact v_zret rfl (by decide) dX5_isGood_308 ⟨congrArg (fun z => some (Value.int z)) (bI_f (by rw [iT, if_neg (by omega)]; rfl)), FD.rf σ, (fun w9 h9 => by rw [iT, if_neg (by omega)] at h9; cases h9), rfl⟩
        · refine v_iload dX5_isGood_294 rfl ?_
          refine v_i2l dX5_isGood_296 ?_
          refine v_lconst (x := 1) dX5_isGood_297 rfl ?_
          refine v_ldc2 (x := (99)) (by decide +kernel) dX5_isGood_298 ?_
          refine v_callSi (M' := M_X5_between) (As := [_, _, _]) (s_X5_between) dX5_isGood_301 gX5_isGood_X5_between rfl nn_X5_between ⟨rfl, rfl⟩ ⟨by decide, by decide⟩ rfl rfl (Nat.le_of_ble_eq_true rfl) ?_
          refine v_top (by rw [btw_dec 1 99 (by omega) (by decide) (by decide)]) ?_
          refine p_if_ne (tgt := 309) dX5_isGood_304 (by decide) (fun c304 => ?_) (fun c304 => ?_)
          · have hk9 := kdN_lt (c := c) (S := wS w) (by omega) hS
            refine v_aload_n dX5_isGood_309 rfl ?_
            refine v_get (j := 12) iO40 rfl dX5_isGood_310 (by decide) in_X5_isGood_X5 fl_X5_isGood_38 rfl ?_
            refine v_sipush (x := nI 864) dX5_isGood_313 (by decide +kernel) ?_
            refine v_bipush (x := nI 18) dX5_isGood_316 (by decide +kernel) ?_
            refine v_iload_n dX5_isGood_318 rfl ?_
            refine n_imul dX5_isGood_319 ?_
            refine n_iadd dX5_isGood_320 ?_
            refine v_iload_n dX5_isGood_321 rfl ?_
            refine v_callSi (M' := M_X5_kindOf) (As := [_]) (s_X5_kindOf) dX5_isGood_322 gX5_isGood_X5_kindOf rfl nn_X5_kindOf ⟨rfl, rfl⟩ ⟨by decide, by decide⟩ rfl rfl (Nat.le_of_ble_eq_true rfl) ?_
            refine v_top (kdN_kd hc) ?_
            refine n_iadd dX5_isGood_325 ?_
            refine v_dup2 dX5_isGood_326 rfl rfl ?_
            refine v_ialdN (864 + (a * 18 + kdN c)) iI50 dX5_isGood_327 (congrArg nI (by omega)) (by omega) (by decide) ?_
            refine v_top (m1_H hw (by omega)) ?_
            refine v_iload dX5_isGood_328 rfl ?_
            refine n_iadd dX5_isGood_330 ?_
            refine v_iastN (864 + (a * 18 + kdN c)) iI50 dX5_isGood_331 (congrArg nI (by omega)) (by omega) (by decide) ?_
            refine v_goto (tgt := 400) dX5_isGood_332 (by decide) ?_
            refine v_iconst (x := nI 1) dX5_isGood_400 (by decide +kernel) ?_
            exact v_zret rfl (by decide) dX5_isGood_401 ⟨congrArg (fun z => some (Value.int z)) (bI_t (by rw [iT, if_pos (by omega)]; rfl)), ((FD.rf σ).si (by unfold okS; omega) _), (fun w9 h9 => by rw [iT, if_pos (by omega)] at h9; cases h9; exact mh_H1 hw _ _), by simp [sI, upd]⟩
          · refine v_iconst (x := nI 0) dX5_isGood_307 (by decide +kernel) ?_
            exact v_zret rfl (by decide) dX5_isGood_308 ⟨congrArg (fun z => some (Value.int z)) (bI_f (by rw [iT, if_neg (by omega)]; rfl)), FD.rf σ, (fun w9 h9 => by rw [iT, if_neg (by omega)] at h9; cases h9), rfl⟩
set_option maxRecDepth 100000 in
set_option maxHeartbeats 4000000 in
theorem s_X5_isGood_b {v : EE} {w : WD} {z : Nat} {σ : SS} (hw : MH 1 w σ) (hv : WV z w) {a c : Nat} (ha : a < 1000) (hc : c < 1000) (hg0 : σ.1 60 0 = nI a) (hg1 : σ.1 60 1 = nI c) : SR v M_X5_isGood [.ref (v.1 40), .int (nI 98)] σ (some (.int (bI (iB w a c).isSome))) (fun σ' => FD σ σ' ∧ (∀ w', iB w a c = some w' → MH 1 w' σ') ∧ σ'.1 40 2 = σ.1 40 2) := by
  refine Sp.of rfl (by decide) rfl (Nat.le_of_ble_eq_true rfl) ?_
  show V v M_X5_isGood _ 0 [(0, .ref (v.1 40)), (1, .int (nI 98))] [] σ
  have hS := wv_S hv
  have hC := wv_C hv
  have hN := wv_N hv
  refine v_aload_n dX5_isGood_0 rfl ?_
  refine v_get (j := 28) iO40 rfl dX5_isGood_1 (by decide) in_X5_isGood_X5 fl_X5_isGood_69 rfl ?_
  refine v_iconst (x := nI 0) dX5_isGood_4 (by decide +kernel) ?_
  refine v_ialdN 0 iI60 dX5_isGood_5 rfl (by decide) (by decide) ?_
  refine v_top hg0 ?_
  refine v_istore_n (L' := [(2, _), (0, _), (1, _)]) dX5_isGood_6 rfl (by decide) rfl ?_
  refine v_aload_n dX5_isGood_7 rfl ?_
  refine v_get (j := 28) iO40 rfl dX5_isGood_8 (by decide) in_X5_isGood_X5 fl_X5_isGood_69 rfl ?_
  refine v_iconst (x := nI 1) dX5_isGood_11 (by decide +kernel) ?_
  refine v_ialdN 1 iI60 dX5_isGood_12 rfl (by decide) (by decide) ?_
  refine v_top hg1 ?_
  refine v_istore_n (L' := [(3, _), (2, _), (0, _), (1, _)]) dX5_isGood_13 rfl (by decide) rfl ?_
  refine v_aload_n dX5_isGood_14 rfl ?_
  refine v_get (j := 28) iO40 rfl dX5_isGood_15 (by decide) in_X5_isGood_X5 fl_X5_isGood_69 rfl ?_
  refine v_iconst (x := nI 2) dX5_isGood_18 (by decide +kernel) ?_
  refine v_ialdN 2 iI60 dX5_isGood_19 rfl (by decide) (by decide) ?_
  refine v_istore (L' := [(4, _), (3, _), (2, _), (0, _), (1, _)]) dX5_isGood_20 (by decide) rfl ?_
  refine v_iload_n dX5_isGood_22 rfl ?_
  refine v_bipush (x := nI 103) dX5_isGood_23 (by decide +kernel) ?_
  refine n_icmp_ne (tgt := 135) dX5_isGood_25 (by decide) (by omega) (by omega) (fun c25 => ?_) (fun c25 => absurd c25 (by omega))
  refine v_iload_n dX5_isGood_135 rfl ?_
  refine v_bipush (x := nI 99) dX5_isGood_136 (by decide +kernel) ?_
  refine n_icmp_ne (tgt := 240) dX5_isGood_138 (by decide) (by omega) (by omega) (fun c138 => ?_) (fun c138 => absurd c138 (by omega))
  refine v_iload_n dX5_isGood_240 rfl ?_
  refine v_bipush (x := nI 116) dX5_isGood_241 (by decide +kernel) ?_
  refine n_icmp_ne (tgt := 335) dX5_isGood_243 (by decide) (by omega) (by omega) (fun c243 => ?_) (fun c243 => absurd c243 (by omega))
  refine v_iload_n dX5_isGood_335 rfl ?_
  refine v_bipush (x := nI 98) dX5_isGood_336 (by decide +kernel) ?_
  refine n_icmp_ne (tgt := 390) dX5_isGood_338 (by decide) (by omega) (by omega) (fun c338 => absurd c338 (by omega)) (fun c338 => ?_)
  refine v_iload_n dX5_isGood_341 rfl ?_
  refine v_i2l dX5_isGood_342 ?_
  refine v_lconst (x := 0) dX5_isGood_343 rfl ?_
  refine v_ldc2 (x := (5)) (by decide +kernel) dX5_isGood_344 ?_
  refine v_callSi (M' := M_X5_between) (As := [_, _, _]) (s_X5_between) dX5_isGood_347 gX5_isGood_X5_between rfl nn_X5_between ⟨rfl, rfl⟩ ⟨by decide, by decide⟩ rfl rfl (Nat.le_of_ble_eq_true rfl) ?_
  refine v_top (by rw [btw_dec 0 5 (by omega) (by decide) (by decide)]) ?_
  refine p_if_eq (tgt := 370) dX5_isGood_350 (by decide) (fun c350 => ?_) (fun c350 => ?_)
  · refine v_iconst (x := nI 0) dX5_isGood_370 (by decide +kernel) ?_
    exact v_zret rfl (by decide) dX5_isGood_371 ⟨congrArg (fun z => some (Value.int z)) (bI_f (by rw [iB, if_neg (by omega)]; rfl)), FD.rf σ, (fun w9 h9 => by rw [iB, if_neg (by omega)] at h9; cases h9), rfl⟩
  · refine v_iload_n dX5_isGood_353 rfl ?_
    refine v_i2l dX5_isGood_354 ?_
    refine v_lconst (x := 0) dX5_isGood_355 rfl ?_
    refine v_ldc2 (x := (5)) (by decide +kernel) dX5_isGood_356 ?_
    refine v_callSi (M' := M_X5_between) (As := [_, _, _]) (s_X5_between) dX5_isGood_359 gX5_isGood_X5_between rfl nn_X5_between ⟨rfl, rfl⟩ ⟨by decide, by decide⟩ rfl rfl (Nat.le_of_ble_eq_true rfl) ?_
    refine v_top (by rw [btw_dec 0 5 (by omega) (by decide) (by decide)]) ?_
    refine p_if_eq (tgt := 370) dX5_isGood_362 (by decide) (fun c362 => ?_) (fun c362 => ?_)
    · refine v_iconst (x := nI 0) dX5_isGood_370 (by decide +kernel) ?_
      exact v_zret rfl (by decide) dX5_isGood_371 ⟨congrArg (fun z => some (Value.int z)) (bI_f (by rw [iB, if_neg (by omega)]; rfl)), FD.rf σ, (fun w9 h9 => by rw [iB, if_neg (by omega)] at h9; cases h9), rfl⟩
    · refine v_iload_n dX5_isGood_365 rfl ?_
      refine v_iload_n dX5_isGood_366 rfl ?_
      refine n_icmp_ne (tgt := 372) dX5_isGood_367 (by decide) (by omega) (by omega) (fun c367 => ?_) (fun c367 => ?_)
      · refine v_aload_n dX5_isGood_372 rfl ?_
        refine v_get (j := 7) iO40 rfl dX5_isGood_373 (by decide) in_X5_isGood_X5 fl_X5_isGood_26 rfl ?_
        refine v_bipush (x := nI 6) dX5_isGood_376 (by decide +kernel) ?_
        refine v_iload_n dX5_isGood_378 rfl ?_
        refine n_iadd dX5_isGood_379 ?_
        refine v_dup2 dX5_isGood_380 rfl rfl ?_
        refine v_ialdN (6 + a) iI46 dX5_isGood_381 rfl (by omega) (by decide) ?_
        refine v_top (m1_E hw (by omega)) ?_
        refine v_iconst (x := nI 1) dX5_isGood_382 (by decide +kernel) ?_
        refine v_iload_n dX5_isGood_383 rfl ?_
        refine n_shl1 dX5_isGood_384 (by omega) ?_
        refine n_ior dX5_isGood_385 ?_
        refine v_iastN (6 + a) iI46 dX5_isGood_386 rfl (by omega) (by decide) ?_
        refine v_goto (tgt := 400) dX5_isGood_387 (by decide) ?_
        refine v_iconst (x := nI 1) dX5_isGood_400 (by decide +kernel) ?_
        exact v_zret rfl (by decide) dX5_isGood_401 ⟨congrArg (fun z => some (Value.int z)) (bI_t (by rw [iB, if_pos (by omega)]; rfl)), ((FD.rf σ).si (by unfold okS; omega) _), (fun w9 h9 => by rw [iB, if_pos (by omega)] at h9; cases h9; exact mh_E1 hw _ _), by simp [sI, upd]⟩
      · refine v_iconst (x := nI 0) dX5_isGood_370 (by decide +kernel) ?_
        exact v_zret rfl (by decide) dX5_isGood_371 ⟨congrArg (fun z => some (Value.int z)) (bI_f (by rw [iB, if_neg (by omega)]; rfl)), FD.rf σ, (fun w9 h9 => by rw [iB, if_neg (by omega)] at h9; cases h9), rfl⟩
set_option maxRecDepth 100000 in
set_option maxHeartbeats 4000000 in
theorem s_X5_isName_n {v : EE} {w : WD} {z : Nat} {σ : SS} (hw : MH 1 w σ) (hv : WV z w) {a c : Nat} (ha : a < 1000) (hc : c < 1000) (d : Int32) : SR v M_X5_isName [.ref (v.1 40), .int (nI 110), .int (nI a), .int (nI c), .int d] σ (some (.int (bI (iN w a c).isSome))) (fun σ' => FD σ σ' ∧ (∀ w', iN w a c = some w' → MH 1 w' σ') ∧ σ'.1 40 2 = σ.1 40 2) := by
  refine Sp.of rfl (by decide) rfl (Nat.le_of_ble_eq_true rfl) ?_
  show V v M_X5_isName _ 0 [(0, .ref (v.1 40)), (1, .int (nI 110)), (2, .int (nI a)), (3, .int (nI c)), (4, .int d)] [] σ
  have hN := wv_N hv
  refine v_iload_n dX5_isName_0 rfl ?_
  refine v_bipush (x := nI 110) dX5_isName_1 (by decide +kernel) ?_
  refine n_icmp_ne (tgt := 58) dX5_isName_3 (by decide) (by omega) (by omega) (fun c3 => absurd c3 (by omega)) (fun c3 => ?_)
  refine v_iload_n dX5_isName_6 rfl ?_
  refine v_iload_n dX5_isName_7 rfl ?_
  refine v_callSi (M' := M_X5_areWeeks) (As := [_, _]) (s_X5_areWeeks ha hc) dX5_isName_8 gX5_isName_X5_areWeeks rfl nn_X5_areWeeks ⟨rfl, rfl⟩ ⟨by decide, by decide⟩ rfl rfl (Nat.le_of_ble_eq_true rfl) ?_
  refine p_if_eq (tgt := 25) dX5_isName_11 (by decide) (fun c11 => ?_) (fun c11 => ?_)
  · refine v_iconst (x := nI 0) dX5_isName_25 (by decide +kernel) ?_
    exact v_zret rfl (by decide) dX5_isName_26 ⟨congrArg (fun z => some (Value.int z)) (bI_f (by rw [iN, if_neg (by omega)]; rfl)), FD.rf σ, (fun w9 h9 => by rw [iN, if_neg (by omega)] at h9; cases h9), rfl⟩
  · refine v_aload_n dX5_isName_14 rfl ?_
    refine v_get (j := 8) iO40 rfl dX5_isName_15 (by decide) in_X5_isName_X5 fl_X5_isName_29 rfl ?_
    refine v_iconst (x := nI 1) dX5_isName_18 (by decide +kernel) ?_
    refine v_ialdN 1 iI47 dX5_isName_19 rfl (by decide) (by decide) ?_
    refine v_top (m1_N hw) ?_
    refine v_bipush (x := nI 10) dX5_isName_20 (by decide +kernel) ?_
    refine n_icmp_ne (tgt := 27) dX5_isName_22 (by decide) (by omega) (by omega) (fun c22 => ?_) (fun c22 => ?_)
    · refine v_aload_n dX5_isName_27 rfl ?_
      refine v_get (j := 9) iO40 rfl dX5_isName_28 (by decide) in_X5_isName_X5 fl_X5_isName_32 rfl ?_
      refine v_bipush (x := nI 10) dX5_isName_31 (by decide +kernel) ?_
      refine v_aload_n dX5_isName_33 rfl ?_
      refine v_get (j := 8) iO40 rfl dX5_isName_34 (by decide) in_X5_isName_X5 fl_X5_isName_29 rfl ?_
      refine v_iconst (x := nI 1) dX5_isName_37 (by decide +kernel) ?_
      refine v_ialdN 1 iI47 dX5_isName_38 rfl (by decide) (by decide) ?_
      refine v_top (m1_N hw) ?_
      refine n_iadd dX5_isName_39 ?_
      refine v_iload_n dX5_isName_40 rfl ?_
      refine v_iload_n dX5_isName_41 rfl ?_
      refine v_callSi (M' := M_X5_weeks) (As := [_, _]) (s_X5_weeks c11.1 c11.2) dX5_isName_42 gX5_isName_X5_weeks rfl nn_X5_weeks ⟨rfl, rfl⟩ ⟨by decide, by decide⟩ rfl rfl (Nat.le_of_ble_eq_true rfl) ?_
      refine v_iastN (10 + wN w) iI48 dX5_isName_45 rfl (by omega) (by decide) ?_
      refine v_aload_n dX5_isName_46 rfl ?_
      refine v_get (j := 8) iO40 rfl dX5_isName_47 (by decide) in_X5_isName_X5 fl_X5_isName_29 rfl ?_
      refine v_iconst (x := nI 1) dX5_isName_50 (by decide +kernel) ?_
      refine v_dup2 dX5_isName_51 rfl rfl ?_
      refine v_ialdN 1 iI47 dX5_isName_52 rfl (by decide) (by decide) ?_
      refine v_top ((sI_ne _ _ (by omega)).trans (m1_N hw)) ?_
      refine v_iconst (x := nI 1) dX5_isName_53 (by decide +kernel) ?_
      refine n_iadd dX5_isName_54 ?_
      refine v_iastN 1 iI47 dX5_isName_55 rfl (by decide) (by decide) ?_
      refine v_iconst (x := nI 1) dX5_isName_56 (by decide +kernel) ?_
      exact v_zret rfl (by decide) dX5_isName_57 ⟨congrArg (fun z => some (Value.int z)) (bI_t (by rw [iN, if_pos (by omega)]; rfl)), (((FD.rf σ).si (by unfold okS; omega) _).si (by unfold okS; omega) _), (fun w9 h9 => by rw [iN, if_pos (by omega)] at h9; cases h9; exact mh_N1 hw _), by simp [sI, upd]⟩
    · refine v_iconst (x := nI 0) dX5_isName_25 (by decide +kernel) ?_
      exact v_zret rfl (by decide) dX5_isName_26 ⟨congrArg (fun z => some (Value.int z)) (bI_f (by rw [iN, if_neg (by omega)]; rfl)), FD.rf σ, (fun w9 h9 => by rw [iN, if_neg (by omega)] at h9; cases h9), rfl⟩
set_option maxRecDepth 100000 in
set_option maxHeartbeats 4000000 in
theorem s_X5_isName_a {v : EE} {w : WD} {z : Nat} {σ : SS} (hw : MH 1 w σ) (hv : WV z w) {a c d : Nat} (ha : a < 1000) (hc : c < 1000) (hd : d < 1000) : SR v M_X5_isName [.ref (v.1 40), .int (nI 97), .int (nI a), .int (nI c), .int (nI d)] σ (some (.int (bI (iA w a c d).isSome))) (fun σ' => FD σ σ' ∧ (∀ w', iA w a c d = some w' → MH 1 w' σ') ∧ σ'.1 40 2 = σ.1 40 2) := by
  refine Sp.of rfl (by decide) rfl (Nat.le_of_ble_eq_true rfl) ?_
  show V v M_X5_isName _ 0 [(0, .ref (v.1 40)), (1, .int (nI 97)), (2, .int (nI a)), (3, .int (nI c)), (4, .int (nI d))] [] σ
  have hN := wv_N hv
  refine v_iload_n dX5_isName_0 rfl ?_
  refine v_bipush (x := nI 110) dX5_isName_1 (by decide +kernel) ?_
  refine n_icmp_ne (tgt := 58) dX5_isName_3 (by decide) (by omega) (by omega) (fun c3 => ?_) (fun c3 => absurd c3 (by omega))
  refine v_iload_n dX5_isName_58 rfl ?_
  refine v_bipush (x := nI 97) dX5_isName_59 (by decide +kernel) ?_
  refine n_icmp_ne (tgt := 113) dX5_isName_61 (by decide) (by omega) (by omega) (fun c61 => absurd c61 (by omega)) (fun c61 => ?_)
  refine v_iload_n dX5_isName_64 rfl ?_
  refine v_i2l dX5_isName_65 ?_
  refine v_lconst (x := 0) dX5_isName_66 rfl ?_
  refine v_aload_n dX5_isName_67 rfl ?_
  refine v_get (j := 8) iO40 rfl dX5_isName_68 (by decide) in_X5_isName_X5 fl_X5_isName_29 rfl ?_
  refine v_iconst (x := nI 1) dX5_isName_71 (by decide +kernel) ?_
  refine v_ialdN 1 iI47 dX5_isName_72 rfl (by decide) (by decide) ?_
  refine v_top (m1_N hw) ?_
  refine v_iconst (x := nI 1) dX5_isName_73 (by decide +kernel) ?_
  refine v_isub dX5_isName_74 ?_
  refine v_i2l dX5_isName_75 ?_
  refine v_callSi (M' := M_X5_between) (As := [_, _, _]) (s_X5_between) dX5_isName_76 gX5_isName_X5_between rfl nn_X5_between ⟨rfl, rfl⟩ ⟨by decide, by decide⟩ rfl rfl (Nat.le_of_ble_eq_true rfl) ?_
  refine v_top (by rw [btw_dec 0 ((wN w : Int) - 1) (by omega) (by decide) (sub1_I (by omega))]) ?_
  refine p_if_eq (tgt := 91) dX5_isName_79 (by decide) (fun c79 => ?_) (fun c79 => ?_)
  · refine v_iconst (x := nI 0) dX5_isName_91 (by decide +kernel) ?_
    exact v_zret rfl (by decide) dX5_isName_92 ⟨congrArg (fun z => some (Value.int z)) (bI_f (by rw [iA, if_neg (by omega)]; rfl)), FD.rf σ, (fun w9 h9 => by rw [iA, if_neg (by omega)] at h9; cases h9), rfl⟩
  · refine v_iload_n dX5_isName_82 rfl ?_
    refine v_iload dX5_isName_83 rfl ?_
    refine v_callSi (M' := M_X5_areWeeks) (As := [_, _]) (s_X5_areWeeks hc hd) dX5_isName_85 gX5_isName_X5_areWeeks rfl nn_X5_areWeeks ⟨rfl, rfl⟩ ⟨by decide, by decide⟩ rfl rfl (Nat.le_of_ble_eq_true rfl) ?_
    refine p_if_ne (tgt := 93) dX5_isName_88 (by decide) (fun c88 => ?_) (fun c88 => ?_)
    · refine v_aload_n dX5_isName_93 rfl ?_
      refine v_get (j := 9) iO40 rfl dX5_isName_94 (by decide) in_X5_isName_X5 fl_X5_isName_32 rfl ?_
      refine v_bipush (x := nI 10) dX5_isName_97 (by decide +kernel) ?_
      refine v_iload_n dX5_isName_99 rfl ?_
      refine n_iadd dX5_isName_100 ?_
      refine v_dup2 dX5_isName_101 rfl rfl ?_
      refine v_ialdN (10 + a) iI48 dX5_isName_102 rfl (by omega) (by decide) ?_
      refine v_top (m1_K hw (by omega)) ?_
      refine v_iload_n dX5_isName_103 rfl ?_
      refine v_iload dX5_isName_104 rfl ?_
      refine v_callSi (M' := M_X5_weeks) (As := [_, _]) (s_X5_weeks c88.1 c88.2) dX5_isName_106 gX5_isName_X5_weeks rfl nn_X5_weeks ⟨rfl, rfl⟩ ⟨by decide, by decide⟩ rfl rfl (Nat.le_of_ble_eq_true rfl) ?_
      refine n_ior dX5_isName_109 ?_
      refine v_iastN (10 + a) iI48 dX5_isName_110 rfl (by omega) (by decide) ?_
      refine v_iconst (x := nI 1) dX5_isName_111 (by decide +kernel) ?_
      exact v_zret rfl (by decide) dX5_isName_112 ⟨congrArg (fun z => some (Value.int z)) (bI_t (by rw [iA, if_pos (by omega)]; rfl)), ((FD.rf σ).si (by unfold okS; omega) _), (fun w9 h9 => by rw [iA, if_pos (by omega)] at h9; cases h9; exact mh_K1 hw _ _), by simp [sI, upd]⟩
    · refine v_iconst (x := nI 0) dX5_isName_91 (by decide +kernel) ?_
      exact v_zret rfl (by decide) dX5_isName_92 ⟨congrArg (fun z => some (Value.int z)) (bI_f (by rw [iA, if_neg (by omega)]; rfl)), FD.rf σ, (fun w9 h9 => by rw [iA, if_neg (by omega)] at h9; cases h9), rfl⟩
set_option maxRecDepth 100000 in
set_option maxHeartbeats 4000000 in
theorem s_X5_isName_w {v : EE} {w : WD} {z : Nat} {σ : SS} (hw : MH 1 w σ) (hv : WV z w) {a : Nat} (ha : a < 1000) (c d : Int32) : SR v M_X5_isName [.ref (v.1 40), .int (nI 119), .int (nI a), .int c, .int d] σ (some (.int (bI (iW w a).isSome))) (fun σ' => FD σ σ' ∧ (∀ w', iW w a = some w' → MH 1 w' σ') ∧ σ'.1 40 2 = σ.1 40 2) := by
  refine Sp.of rfl (by decide) rfl (Nat.le_of_ble_eq_true rfl) ?_
  show V v M_X5_isName _ 0 [(0, .ref (v.1 40)), (1, .int (nI 119)), (2, .int (nI a)), (3, .int c), (4, .int d)] [] σ
  refine v_iload_n dX5_isName_0 rfl ?_
  refine v_bipush (x := nI 110) dX5_isName_1 (by decide +kernel) ?_
  refine n_icmp_ne (tgt := 58) dX5_isName_3 (by decide) (by omega) (by omega) (fun c3 => ?_) (fun c3 => absurd c3 (by omega))
  refine v_iload_n dX5_isName_58 rfl ?_
  refine v_bipush (x := nI 97) dX5_isName_59 (by decide +kernel) ?_
  refine n_icmp_ne (tgt := 113) dX5_isName_61 (by decide) (by omega) (by omega) (fun c61 => ?_) (fun c61 => absurd c61 (by omega))
  refine v_aload_n dX5_isName_113 rfl ?_
  refine v_get (j := 10) iO40 rfl dX5_isName_114 (by decide) in_X5_isName_X5 fl_X5_isName_35 rfl ?_
  refine v_iconst (x := nI 1) dX5_isName_117 (by decide +kernel) ?_
  refine v_iload_n dX5_isName_118 rfl ?_
  refine v_iastN 1 iI49 dX5_isName_119 rfl (by decide) (by decide) ?_
  refine v_iload_n dX5_isName_120 rfl ?_
  refine v_i2l dX5_isName_121 ?_
  refine v_lconst (x := 1) dX5_isName_122 rfl ?_
  refine v_ldc2 (x := (99)) (by decide +kernel) dX5_isName_123 ?_
  refine v_callSi (M' := M_X5_between) (As := [_, _, _]) (s_X5_between) dX5_isName_126 gX5_isName_X5_between rfl nn_X5_between ⟨rfl, rfl⟩ ⟨by decide, by decide⟩ rfl rfl (Nat.le_of_ble_eq_true rfl) ?_
  refine v_top (by rw [btw_dec 1 99 (by omega) (by decide) (by decide)]) ?_
  exact v_zret rfl (bI_01 _) dX5_isName_129 ⟨congrArg (fun z => some (Value.int (bI z))) (by rw [iW]; by_cases h9 : 1 ≤ a ∧ a ≤ 99 <;> simp [h9] <;> omega), ((FD.rf σ).si (by unfold okS; omega) _), (fun w9 h9 => by rw [iW] at h9; by_cases q9 : 1 ≤ a ∧ a ≤ 99; rw [if_pos q9] at h9; cases h9; exact mh_P1 hw a; rw [if_neg q9] at h9; cases h9), by simp [sI, upd]⟩
set_option maxRecDepth 100000 in
set_option maxHeartbeats 4000000 in
theorem s_X5_isGood_n {v : EE} {w : WD} {z : Nat} {σ : SS} (hw : MH 1 w σ) (hv : WV z w) {a c : Nat} (ha : a < 1000) (hc : c < 1000) (hg0 : σ.1 60 0 = nI a) (hg1 : σ.1 60 1 = nI c) : SR v M_X5_isGood [.ref (v.1 40), .int (nI 110)] σ (some (.int (bI (iN w a c).isSome))) (fun σ' => FD σ σ' ∧ (∀ w', iN w a c = some w' → MH 1 w' σ') ∧ σ'.1 40 2 = σ.1 40 2) := by
  refine Sp.of rfl (by decide) rfl (Nat.le_of_ble_eq_true rfl) ?_
  show V v M_X5_isGood _ 0 [(0, .ref (v.1 40)), (1, .int (nI 110))] [] σ
  have hS := wv_S hv
  have hC := wv_C hv
  have hN := wv_N hv
  refine v_aload_n dX5_isGood_0 rfl ?_
  refine v_get (j := 28) iO40 rfl dX5_isGood_1 (by decide) in_X5_isGood_X5 fl_X5_isGood_69 rfl ?_
  refine v_iconst (x := nI 0) dX5_isGood_4 (by decide +kernel) ?_
  refine v_ialdN 0 iI60 dX5_isGood_5 rfl (by decide) (by decide) ?_
  refine v_top hg0 ?_
  refine v_istore_n (L' := [(2, _), (0, _), (1, _)]) dX5_isGood_6 rfl (by decide) rfl ?_
  refine v_aload_n dX5_isGood_7 rfl ?_
  refine v_get (j := 28) iO40 rfl dX5_isGood_8 (by decide) in_X5_isGood_X5 fl_X5_isGood_69 rfl ?_
  refine v_iconst (x := nI 1) dX5_isGood_11 (by decide +kernel) ?_
  refine v_ialdN 1 iI60 dX5_isGood_12 rfl (by decide) (by decide) ?_
  refine v_top hg1 ?_
  refine v_istore_n (L' := [(3, _), (2, _), (0, _), (1, _)]) dX5_isGood_13 rfl (by decide) rfl ?_
  refine v_aload_n dX5_isGood_14 rfl ?_
  refine v_get (j := 28) iO40 rfl dX5_isGood_15 (by decide) in_X5_isGood_X5 fl_X5_isGood_69 rfl ?_
  refine v_iconst (x := nI 2) dX5_isGood_18 (by decide +kernel) ?_
  refine v_ialdN 2 iI60 dX5_isGood_19 rfl (by decide) (by decide) ?_
  refine v_istore (L' := [(4, _), (3, _), (2, _), (0, _), (1, _)]) dX5_isGood_20 (by decide) rfl ?_
  refine v_iload_n dX5_isGood_22 rfl ?_
  refine v_bipush (x := nI 103) dX5_isGood_23 (by decide +kernel) ?_
  refine n_icmp_ne (tgt := 135) dX5_isGood_25 (by decide) (by omega) (by omega) (fun c25 => ?_) (fun c25 => absurd c25 (by omega))
  refine v_iload_n dX5_isGood_135 rfl ?_
  refine v_bipush (x := nI 99) dX5_isGood_136 (by decide +kernel) ?_
  refine n_icmp_ne (tgt := 240) dX5_isGood_138 (by decide) (by omega) (by omega) (fun c138 => ?_) (fun c138 => absurd c138 (by omega))
  refine v_iload_n dX5_isGood_240 rfl ?_
  refine v_bipush (x := nI 116) dX5_isGood_241 (by decide +kernel) ?_
  refine n_icmp_ne (tgt := 335) dX5_isGood_243 (by decide) (by omega) (by omega) (fun c243 => ?_) (fun c243 => absurd c243 (by omega))
  refine v_iload_n dX5_isGood_335 rfl ?_
  refine v_bipush (x := nI 98) dX5_isGood_336 (by decide +kernel) ?_
  refine n_icmp_ne (tgt := 390) dX5_isGood_338 (by decide) (by omega) (by omega) (fun c338 => ?_) (fun c338 => absurd c338 (by omega))
  refine v_aload_n dX5_isGood_390 rfl ?_
  refine v_iload_n dX5_isGood_391 rfl ?_
  refine v_iload_n dX5_isGood_392 rfl ?_
  refine v_iload_n dX5_isGood_393 rfl ?_
  refine v_iload dX5_isGood_394 rfl ?_
  refine v_callVRi (M' := M_X5_isName) (As := [_, _, _, _]) iO40 (s_X5_isName_n hw hv ha hc _) dX5_isGood_396 gX5_isGood_X5_isName rfl rfl nn_X5_isName ⟨rfl, rfl⟩ ⟨by decide, by decide⟩ rfl rfl (Nat.le_of_ble_eq_true rfl) (fun s1 h1 => ?_)
  exact v_zret rfl (bI_01 _) dX5_isGood_399 ⟨rfl, h1⟩
set_option maxRecDepth 100000 in
set_option maxHeartbeats 4000000 in
theorem s_X5_isGood_a {v : EE} {w : WD} {z : Nat} {σ : SS} (hw : MH 1 w σ) (hv : WV z w) {a c d : Nat} (ha : a < 1000) (hc : c < 1000) (hd : d < 1000) (hg0 : σ.1 60 0 = nI a) (hg1 : σ.1 60 1 = nI c) (hg2 : σ.1 60 2 = nI d) : SR v M_X5_isGood [.ref (v.1 40), .int (nI 97)] σ (some (.int (bI (iA w a c d).isSome))) (fun σ' => FD σ σ' ∧ (∀ w', iA w a c d = some w' → MH 1 w' σ') ∧ σ'.1 40 2 = σ.1 40 2) := by
  refine Sp.of rfl (by decide) rfl (Nat.le_of_ble_eq_true rfl) ?_
  show V v M_X5_isGood _ 0 [(0, .ref (v.1 40)), (1, .int (nI 97))] [] σ
  have hS := wv_S hv
  have hC := wv_C hv
  have hN := wv_N hv
  refine v_aload_n dX5_isGood_0 rfl ?_
  refine v_get (j := 28) iO40 rfl dX5_isGood_1 (by decide) in_X5_isGood_X5 fl_X5_isGood_69 rfl ?_
  refine v_iconst (x := nI 0) dX5_isGood_4 (by decide +kernel) ?_
  refine v_ialdN 0 iI60 dX5_isGood_5 rfl (by decide) (by decide) ?_
  refine v_top hg0 ?_
  refine v_istore_n (L' := [(2, _), (0, _), (1, _)]) dX5_isGood_6 rfl (by decide) rfl ?_
  refine v_aload_n dX5_isGood_7 rfl ?_
  refine v_get (j := 28) iO40 rfl dX5_isGood_8 (by decide) in_X5_isGood_X5 fl_X5_isGood_69 rfl ?_
  refine v_iconst (x := nI 1) dX5_isGood_11 (by decide +kernel) ?_
  refine v_ialdN 1 iI60 dX5_isGood_12 rfl (by decide) (by decide) ?_
  refine v_top hg1 ?_
  refine v_istore_n (L' := [(3, _), (2, _), (0, _), (1, _)]) dX5_isGood_13 rfl (by decide) rfl ?_
  refine v_aload_n dX5_isGood_14 rfl ?_
  refine v_get (j := 28) iO40 rfl dX5_isGood_15 (by decide) in_X5_isGood_X5 fl_X5_isGood_69 rfl ?_
  refine v_iconst (x := nI 2) dX5_isGood_18 (by decide +kernel) ?_
  refine v_ialdN 2 iI60 dX5_isGood_19 rfl (by decide) (by decide) ?_
  refine v_top hg2 ?_
  refine v_istore (L' := [(4, _), (3, _), (2, _), (0, _), (1, _)]) dX5_isGood_20 (by decide) rfl ?_
  refine v_iload_n dX5_isGood_22 rfl ?_
  refine v_bipush (x := nI 103) dX5_isGood_23 (by decide +kernel) ?_
  refine n_icmp_ne (tgt := 135) dX5_isGood_25 (by decide) (by omega) (by omega) (fun c25 => ?_) (fun c25 => absurd c25 (by omega))
  refine v_iload_n dX5_isGood_135 rfl ?_
  refine v_bipush (x := nI 99) dX5_isGood_136 (by decide +kernel) ?_
  refine n_icmp_ne (tgt := 240) dX5_isGood_138 (by decide) (by omega) (by omega) (fun c138 => ?_) (fun c138 => absurd c138 (by omega))
  refine v_iload_n dX5_isGood_240 rfl ?_
  refine v_bipush (x := nI 116) dX5_isGood_241 (by decide +kernel) ?_
  refine n_icmp_ne (tgt := 335) dX5_isGood_243 (by decide) (by omega) (by omega) (fun c243 => ?_) (fun c243 => absurd c243 (by omega))
  refine v_iload_n dX5_isGood_335 rfl ?_
  refine v_bipush (x := nI 98) dX5_isGood_336 (by decide +kernel) ?_
  refine n_icmp_ne (tgt := 390) dX5_isGood_338 (by decide) (by omega) (by omega) (fun c338 => ?_) (fun c338 => absurd c338 (by omega))
  refine v_aload_n dX5_isGood_390 rfl ?_
  refine v_iload_n dX5_isGood_391 rfl ?_
  refine v_iload_n dX5_isGood_392 rfl ?_
  refine v_iload_n dX5_isGood_393 rfl ?_
  refine v_iload dX5_isGood_394 rfl ?_
  refine v_callVRi (M' := M_X5_isName) (As := [_, _, _, _]) iO40 (s_X5_isName_a hw hv ha hc hd) dX5_isGood_396 gX5_isGood_X5_isName rfl rfl nn_X5_isName ⟨rfl, rfl⟩ ⟨by decide, by decide⟩ rfl rfl (Nat.le_of_ble_eq_true rfl) (fun s1 h1 => ?_)
  exact v_zret rfl (bI_01 _) dX5_isGood_399 ⟨rfl, h1⟩
set_option maxRecDepth 100000 in
set_option maxHeartbeats 4000000 in
theorem s_X5_isGood_w {v : EE} {w : WD} {z : Nat} {σ : SS} (hw : MH 1 w σ) (hv : WV z w) {a : Nat} (ha : a < 1000) (hg0 : σ.1 60 0 = nI a) : SR v M_X5_isGood [.ref (v.1 40), .int (nI 119)] σ (some (.int (bI (iW w a).isSome))) (fun σ' => FD σ σ' ∧ (∀ w', iW w a = some w' → MH 1 w' σ') ∧ σ'.1 40 2 = σ.1 40 2) := by
  refine Sp.of rfl (by decide) rfl (Nat.le_of_ble_eq_true rfl) ?_
  show V v M_X5_isGood _ 0 [(0, .ref (v.1 40)), (1, .int (nI 119))] [] σ
  have hS := wv_S hv
  have hC := wv_C hv
  have hN := wv_N hv
  refine v_aload_n dX5_isGood_0 rfl ?_
  refine v_get (j := 28) iO40 rfl dX5_isGood_1 (by decide) in_X5_isGood_X5 fl_X5_isGood_69 rfl ?_
  refine v_iconst (x := nI 0) dX5_isGood_4 (by decide +kernel) ?_
  refine v_ialdN 0 iI60 dX5_isGood_5 rfl (by decide) (by decide) ?_
  refine v_top hg0 ?_
  refine v_istore_n (L' := [(2, _), (0, _), (1, _)]) dX5_isGood_6 rfl (by decide) rfl ?_
  refine v_aload_n dX5_isGood_7 rfl ?_
  refine v_get (j := 28) iO40 rfl dX5_isGood_8 (by decide) in_X5_isGood_X5 fl_X5_isGood_69 rfl ?_
  refine v_iconst (x := nI 1) dX5_isGood_11 (by decide +kernel) ?_
  refine v_ialdN 1 iI60 dX5_isGood_12 rfl (by decide) (by decide) ?_
  refine v_istore_n (L' := [(3, _), (2, _), (0, _), (1, _)]) dX5_isGood_13 rfl (by decide) rfl ?_
  refine v_aload_n dX5_isGood_14 rfl ?_
  refine v_get (j := 28) iO40 rfl dX5_isGood_15 (by decide) in_X5_isGood_X5 fl_X5_isGood_69 rfl ?_
  refine v_iconst (x := nI 2) dX5_isGood_18 (by decide +kernel) ?_
  refine v_ialdN 2 iI60 dX5_isGood_19 rfl (by decide) (by decide) ?_
  refine v_istore (L' := [(4, _), (3, _), (2, _), (0, _), (1, _)]) dX5_isGood_20 (by decide) rfl ?_
  refine v_iload_n dX5_isGood_22 rfl ?_
  refine v_bipush (x := nI 103) dX5_isGood_23 (by decide +kernel) ?_
  refine n_icmp_ne (tgt := 135) dX5_isGood_25 (by decide) (by omega) (by omega) (fun c25 => ?_) (fun c25 => absurd c25 (by omega))
  refine v_iload_n dX5_isGood_135 rfl ?_
  refine v_bipush (x := nI 99) dX5_isGood_136 (by decide +kernel) ?_
  refine n_icmp_ne (tgt := 240) dX5_isGood_138 (by decide) (by omega) (by omega) (fun c138 => ?_) (fun c138 => absurd c138 (by omega))
  refine v_iload_n dX5_isGood_240 rfl ?_
  refine v_bipush (x := nI 116) dX5_isGood_241 (by decide +kernel) ?_
  refine n_icmp_ne (tgt := 335) dX5_isGood_243 (by decide) (by omega) (by omega) (fun c243 => ?_) (fun c243 => absurd c243 (by omega))
  refine v_iload_n dX5_isGood_335 rfl ?_
  refine v_bipush (x := nI 98) dX5_isGood_336 (by decide +kernel) ?_
  refine n_icmp_ne (tgt := 390) dX5_isGood_338 (by decide) (by omega) (by omega) (fun c338 => ?_) (fun c338 => absurd c338 (by omega))
  refine v_aload_n dX5_isGood_390 rfl ?_
  refine v_iload_n dX5_isGood_391 rfl ?_
  refine v_iload_n dX5_isGood_392 rfl ?_
  refine v_iload_n dX5_isGood_393 rfl ?_
  refine v_iload dX5_isGood_394 rfl ?_
  refine v_callVRi (M' := M_X5_isName) (As := [_, _, _, _]) iO40 (s_X5_isName_w hw hv ha _ _) dX5_isGood_396 gX5_isGood_X5_isName rfl rfl nn_X5_isName ⟨rfl, rfl⟩ ⟨by decide, by decide⟩ rfl rfl (Nat.le_of_ble_eq_true rfl) (fun s1 h1 => ?_)
  exact v_zret rfl (bI_01 _) dX5_isGood_399 ⟨rfl, h1⟩
