theorem in_X3_addAt_X3 : ∀ w ∈ u_ws RX3 TX3 12, w ∈ mWs M_X3_addAt := by decide +kernel
theorem in_X3_addBegun_X3 : ∀ w ∈ u_ws RX3 TX3 12, w ∈ mWs M_X3_addBegun := by decide +kernel
theorem in_X3_addCourse_X3 : ∀ w ∈ u_ws RX3 TX3 12, w ∈ mWs M_X3_addCourse := by decide +kernel
theorem in_X3_addName_X3 : ∀ w ∈ u_ws RX3 TX3 12, w ∈ mWs M_X3_addName := by decide +kernel
theorem in_X3_addSign_X3 : ∀ w ∈ u_ws RX3 TX3 12, w ∈ mWs M_X3_addSign := by decide +kernel
theorem in_X3_addStay_X3 : ∀ w ∈ u_ws RX3 TX3 12, w ∈ mWs M_X3_addStay := by decide +kernel
theorem in_X3_clear_X3 : ∀ w ∈ u_ws RX3 TX3 12, w ∈ mWs M_X3_clear := by decide +kernel
theorem in_X3_setPace_X3 : ∀ w ∈ u_ws RX3 TX3 12, w ∈ mWs M_X3_setPace := by decide +kernel
theorem fl_X3_addAt_27 : Cond.fieldLink (mOwn M_X3_addAt) 27 (TX3 5).1 (TX3 5).2.1 (TX3 5).2.2.1 ∈ mWs M_X3_addAt := by decide +kernel
theorem fl_X3_addBegun_30 : Cond.fieldLink (mOwn M_X3_addBegun) 30 (TX3 6).1 (TX3 6).2.1 (TX3 6).2.2.1 ∈ mWs M_X3_addBegun := by decide +kernel
theorem fl_X3_addCourse_18 : Cond.fieldLink (mOwn M_X3_addCourse) 18 (TX3 2).1 (TX3 2).2.1 (TX3 2).2.2.1 ∈ mWs M_X3_addCourse := by decide +kernel
theorem fl_X3_addCourse_21 : Cond.fieldLink (mOwn M_X3_addCourse) 21 (TX3 3).1 (TX3 3).2.1 (TX3 3).2.2.1 ∈ mWs M_X3_addCourse := by decide +kernel
theorem fl_X3_addCourse_24 : Cond.fieldLink (mOwn M_X3_addCourse) 24 (TX3 4).1 (TX3 4).2.1 (TX3 4).2.2.1 ∈ mWs M_X3_addCourse := by decide +kernel
theorem fl_X3_addCourse_43 : Cond.fieldLink (mOwn M_X3_addCourse) 43 (TX3 9).1 (TX3 9).2.1 (TX3 9).2.2.1 ∈ mWs M_X3_addCourse := by decide +kernel
theorem fl_X3_addName_33 : Cond.fieldLink (mOwn M_X3_addName) 33 (TX3 7).1 (TX3 7).2.1 (TX3 7).2.2.1 ∈ mWs M_X3_addName := by decide +kernel
theorem fl_X3_addName_46 : Cond.fieldLink (mOwn M_X3_addName) 46 (TX3 10).1 (TX3 10).2.1 (TX3 10).2.2.1 ∈ mWs M_X3_addName := by decide +kernel
theorem fl_X3_addSign_9 : Cond.fieldLink (mOwn M_X3_addSign) 9 (TX3 0).1 (TX3 0).2.1 (TX3 0).2.2.1 ∈ mWs M_X3_addSign := by decide +kernel
theorem fl_X3_addSign_15 : Cond.fieldLink (mOwn M_X3_addSign) 15 (TX3 1).1 (TX3 1).2.1 (TX3 1).2.2.1 ∈ mWs M_X3_addSign := by decide +kernel
theorem fl_X3_addSign_40 : Cond.fieldLink (mOwn M_X3_addSign) 40 (TX3 8).1 (TX3 8).2.1 (TX3 8).2.2.1 ∈ mWs M_X3_addSign := by decide +kernel
theorem fl_X3_addStay_33 : Cond.fieldLink (mOwn M_X3_addStay) 33 (TX3 7).1 (TX3 7).2.1 (TX3 7).2.2.1 ∈ mWs M_X3_addStay := by decide +kernel
theorem fl_X3_clear_27 : Cond.fieldLink (mOwn M_X3_clear) 27 (TX3 5).1 (TX3 5).2.1 (TX3 5).2.2.1 ∈ mWs M_X3_clear := by decide +kernel
theorem fl_X3_clear_30 : Cond.fieldLink (mOwn M_X3_clear) 30 (TX3 6).1 (TX3 6).2.1 (TX3 6).2.2.1 ∈ mWs M_X3_clear := by decide +kernel
theorem fl_X3_clear_36 : Cond.fieldLink (mOwn M_X3_clear) 36 (TX3 11).1 (TX3 11).2.1 (TX3 11).2.2.1 ∈ mWs M_X3_clear := by decide +kernel
theorem fl_X3_clear_40 : Cond.fieldLink (mOwn M_X3_clear) 40 (TX3 8).1 (TX3 8).2.1 (TX3 8).2.2.1 ∈ mWs M_X3_clear := by decide +kernel
theorem fl_X3_clear_43 : Cond.fieldLink (mOwn M_X3_clear) 43 (TX3 9).1 (TX3 9).2.1 (TX3 9).2.2.1 ∈ mWs M_X3_clear := by decide +kernel
theorem fl_X3_clear_46 : Cond.fieldLink (mOwn M_X3_clear) 46 (TX3 10).1 (TX3 10).2.1 (TX3 10).2.2.1 ∈ mWs M_X3_clear := by decide +kernel
theorem fl_X3_setPace_36 : Cond.fieldLink (mOwn M_X3_setPace) 36 (TX3 11).1 (TX3 11).2.1 (TX3 11).2.2.1 ∈ mWs M_X3_setPace := by decide +kernel
theorem nn_J7_fill_53178 : (mY M_J7_fill_53178).cls ≠ "java/lang/invoke/MethodHandle" ∧ (mY M_J7_fill_53178).cls ≠ "java/lang/invoke/VarHandle" ∧ (parseMethodDescriptor (mY M_J7_fill_53178).desc).map (fun d => d.parameters.length) = some 2 := by decide +kernel
theorem nn_X3_addAt : (mY M_X3_addAt).cls = mOwn M_X3_addAt ∧ (mY M_X3_addAt).cls ≠ "java/lang/invoke/MethodHandle" ∧ (mY M_X3_addAt).cls ≠ "java/lang/invoke/VarHandle" ∧ (parseMethodDescriptor (mY M_X3_addAt).desc).map (fun d => d.parameters.length) = some 3 := by decide +kernel
theorem nn_X3_addBegun : (mY M_X3_addBegun).cls = mOwn M_X3_addBegun ∧ (mY M_X3_addBegun).cls ≠ "java/lang/invoke/MethodHandle" ∧ (mY M_X3_addBegun).cls ≠ "java/lang/invoke/VarHandle" ∧ (parseMethodDescriptor (mY M_X3_addBegun).desc).map (fun d => d.parameters.length) = some 2 := by decide +kernel
theorem nn_X3_addCourse : (mY M_X3_addCourse).cls = mOwn M_X3_addCourse ∧ (mY M_X3_addCourse).cls ≠ "java/lang/invoke/MethodHandle" ∧ (mY M_X3_addCourse).cls ≠ "java/lang/invoke/VarHandle" ∧ (parseMethodDescriptor (mY M_X3_addCourse).desc).map (fun d => d.parameters.length) = some 3 := by decide +kernel
theorem nn_X3_addName : (mY M_X3_addName).cls = mOwn M_X3_addName ∧ (mY M_X3_addName).cls ≠ "java/lang/invoke/MethodHandle" ∧ (mY M_X3_addName).cls ≠ "java/lang/invoke/VarHandle" ∧ (parseMethodDescriptor (mY M_X3_addName).desc).map (fun d => d.parameters.length) = some 2 := by decide +kernel
theorem nn_X3_addSign : (mY M_X3_addSign).cls = mOwn M_X3_addSign ∧ (mY M_X3_addSign).cls ≠ "java/lang/invoke/MethodHandle" ∧ (mY M_X3_addSign).cls ≠ "java/lang/invoke/VarHandle" ∧ (parseMethodDescriptor (mY M_X3_addSign).desc).map (fun d => d.parameters.length) = some 2 := by decide +kernel
theorem nn_X3_addStay : (mY M_X3_addStay).cls = mOwn M_X3_addStay ∧ (mY M_X3_addStay).cls ≠ "java/lang/invoke/MethodHandle" ∧ (mY M_X3_addStay).cls ≠ "java/lang/invoke/VarHandle" ∧ (parseMethodDescriptor (mY M_X3_addStay).desc).map (fun d => d.parameters.length) = some 3 := by decide +kernel
theorem nn_X3_addStones : (mY M_X3_addStones).cls = mOwn M_X3_addStones ∧ (mY M_X3_addStones).cls ≠ "java/lang/invoke/MethodHandle" ∧ (mY M_X3_addStones).cls ≠ "java/lang/invoke/VarHandle" ∧ (parseMethodDescriptor (mY M_X3_addStones).desc).map (fun d => d.parameters.length) = some 3 := by decide +kernel
theorem nn_X3_areWeeks : (mY M_X3_areWeeks).cls ≠ "java/lang/invoke/MethodHandle" ∧ (mY M_X3_areWeeks).cls ≠ "java/lang/invoke/VarHandle" ∧ (parseMethodDescriptor (mY M_X3_areWeeks).desc).map (fun d => d.parameters.length) = some 2 := by decide +kernel
theorem nn_X3_setPace : (mY M_X3_setPace).cls = mOwn M_X3_setPace ∧ (mY M_X3_setPace).cls ≠ "java/lang/invoke/MethodHandle" ∧ (mY M_X3_setPace).cls ≠ "java/lang/invoke/VarHandle" ∧ (parseMethodDescriptor (mY M_X3_setPace).desc).map (fun d => d.parameters.length) = some 1 := by decide +kernel
/-- nothing but the wall at b has changed -/
def Fr (b : Nat) (σ σ' : SS) : Prop := (∀ a, (a < b ∨ b + 8 < a) → σ'.1 a = σ.1 a) ∧ σ'.2 = σ.2
theorem Fr.rf (b : Nat) (σ : SS) : Fr b σ σ := ⟨fun _ _ => rfl, rfl⟩
theorem Fr.tr {b : Nat} {σ τ υ : SS} (h1 : Fr b σ τ) (h2 : Fr b τ υ) : Fr b σ υ := ⟨fun a h => (h2.1 a h).trans (h1.1 a h), h2.2.trans h1.2⟩
theorem Fr.si {b : Nat} {σ τ : SS} (h : Fr b σ τ) {k : Nat} (h1 : b ≤ k) (h2 : k ≤ b + 8) (j : Nat) (x : Int32) : Fr b σ (sI τ k j x) := ⟨fun a ha => by
  rw [← h.1 a ha]
  exact sI_row τ x (by omega), h.2⟩
theorem Fr.sf {b : Nat} {σ τ : SS} (h : Fr b σ τ) {k : Nat} (h1 : b ≤ k) (h2 : k ≤ b + 8) (f : Nat → Int32) : Fr b σ (sF τ k f) := ⟨fun a ha => by
  rw [← h.1 a ha]
  simp [sF, show a ≠ k by omega], h.2⟩
theorem ch_iG {b : Nat} {w : WD} {σ : SS} (h : CH b w σ) (a : Nat) (g : Int32) : CH b ((wS w + 1, w.1.2), va_up (wT w) (wS w) a, va_up (wG w) (wS w) g, w.2.2.2) (sI (sI (sI σ (b + 1) (wS w) (nI a)) (b + 2) (wS w) g) b 8 (nI (wS w + 1))) := by
  obtain ⟨⟨h1, h2, h3, h4⟩, h5, h6, h7, h8, h9⟩ := h
  refine ⟨⟨?_, ?_, ?_, ?_⟩, fun k hk => ?_, fun k hk => ?_, fun k hk => ?_, fun k hk => ?_, fun k hk => ?_⟩
  · simp [sI, upd, wS, wC, wN, wP, wT, wG, wQ, wA, wB, wH, wE, wK]
  · simpa [sI, upd, wS, wC, wN, wP, wT, wG, wQ, wA, wB, wH, wE, wK] using h2
  · simpa [sI, upd, wS, wC, wN, wP, wT, wG, wQ, wA, wB, wH, wE, wK] using h3
  · simpa [sI, upd, wS, wC, wN, wP, wT, wG, wQ, wA, wB, wH, wE, wK] using h4
  · by_cases e : k = wS w
    · simp [sI, upd, va_up, e, wS, wC, wN, wP, wT, wG, wQ, wA, wB, wH, wE, wK]
    · have q := h5 k (by simp only [wS] at *; omega)
      simpa [sI, upd, va_up, e, wS, wC, wN, wP, wT, wG, wQ, wA, wB, wH, wE, wK] using q
  · simpa [sI, upd, wS, wC, wN, wP, wT, wG, wQ, wA, wB, wH, wE, wK] using h6 k hk
  · simpa [sI, upd, wS, wC, wN, wP, wT, wG, wQ, wA, wB, wH, wE, wK] using h7 k hk
  · simpa [sI, upd, wS, wC, wN, wP, wT, wG, wQ, wA, wB, wH, wE, wK] using h8 k hk
  · simpa [sI, upd, wS, wC, wN, wP, wT, wG, wQ, wA, wB, wH, wE, wK] using h9 k hk
theorem ch_iC {b : Nat} {w : WD} {σ : SS} (h : CH b w σ) (x y t : Nat) : CH b ((wS w, wC w + 1, w.1.2.2), w.2.1, w.2.2.1, va_up (wQ w) (wC w) x, va_up (wA w) (wC w) y, va_up (wB w) (wC w) t, w.2.2.2.2.2.2) (sI (sI (sI (sI σ (b + 3) (wC w) (nI x)) (b + 4) (wC w) (nI y)) (b + 5) (wC w) (nI t)) b 9 (nI (wC w + 1))) := by
  obtain ⟨⟨h1, h2, h3, h4⟩, h5, h6, h7, h8, h9⟩ := h
  refine ⟨⟨?_, ?_, ?_, ?_⟩, fun k hk => ?_, fun k hk => ?_, fun k hk => ?_, fun k hk => ?_, fun k hk => ?_⟩
  · simpa [sI, upd, wS, wC, wN, wP, wT, wG, wQ, wA, wB, wH, wE, wK] using h1
  · simp [sI, upd, wS, wC, wN, wP, wT, wG, wQ, wA, wB, wH, wE, wK]
  · simpa [sI, upd, wS, wC, wN, wP, wT, wG, wQ, wA, wB, wH, wE, wK] using h3
  · simpa [sI, upd, wS, wC, wN, wP, wT, wG, wQ, wA, wB, wH, wE, wK] using h4
  · simpa [sI, upd, wS, wC, wN, wP, wT, wG, wQ, wA, wB, wH, wE, wK] using h5 k hk
  · by_cases e : k = wC w
    · simp [sI, upd, va_up, e, wS, wC, wN, wP, wT, wG, wQ, wA, wB, wH, wE, wK]
    · have q := h6 k (by simp only [wC] at *; omega)
      simpa [sI, upd, va_up, e, wS, wC, wN, wP, wT, wG, wQ, wA, wB, wH, wE, wK] using q
  · simpa [sI, upd, wS, wC, wN, wP, wT, wG, wQ, wA, wB, wH, wE, wK] using h7 k hk
  · simpa [sI, upd, wS, wC, wN, wP, wT, wG, wQ, wA, wB, wH, wE, wK] using h8 k hk
  · simpa [sI, upd, wS, wC, wN, wP, wT, wG, wQ, wA, wB, wH, wE, wK] using h9 k hk
theorem ch_H1 {b : Nat} {w : WD} {σ : SS} (h : CH b w σ) (i x : Nat) : CH b (w.1, w.2.1, w.2.2.1, wQ w, wA w, wB w, va_up (wH w) i x, w.2.2.2.2.2.2.2) (sI σ (b + 6) i (nI x)) := by
  obtain ⟨⟨h1, h2, h3, h4⟩, h5, h6, h7, h8, h9⟩ := h
  refine ⟨⟨?_, ?_, ?_, ?_⟩, fun k hk => ?_, fun k hk => ?_, fun k hk => ?_, fun k hk => ?_, fun k hk => ?_⟩
  · simpa [sI, upd, wS, wC, wN, wP, wT, wG, wQ, wA, wB, wH, wE, wK] using h1
  · simpa [sI, upd, wS, wC, wN, wP, wT, wG, wQ, wA, wB, wH, wE, wK] using h2
  · simpa [sI, upd, wS, wC, wN, wP, wT, wG, wQ, wA, wB, wH, wE, wK] using h3
  · simpa [sI, upd, wS, wC, wN, wP, wT, wG, wQ, wA, wB, wH, wE, wK] using h4
  · simpa [sI, upd, wS, wC, wN, wP, wT, wG, wQ, wA, wB, wH, wE, wK] using h5 k hk
  · simpa [sI, upd, wS, wC, wN, wP, wT, wG, wQ, wA, wB, wH, wE, wK] using h6 k hk
  · by_cases e : k = i
    · simp [sI, upd, va_up, e, wS, wC, wN, wP, wT, wG, wQ, wA, wB, wH, wE, wK]
    · simpa [sI, upd, va_up, e, wS, wC, wN, wP, wT, wG, wQ, wA, wB, wH, wE, wK] using h7 k hk
  · simpa [sI, upd, wS, wC, wN, wP, wT, wG, wQ, wA, wB, wH, wE, wK] using h8 k hk
  · simpa [sI, upd, wS, wC, wN, wP, wT, wG, wQ, wA, wB, wH, wE, wK] using h9 k hk
theorem ch_E1 {b : Nat} {w : WD} {σ : SS} (h : CH b w σ) (i x : Nat) : CH b (w.1, w.2.1, w.2.2.1, wQ w, wA w, wB w, wH w, va_up (wE w) i x, wK w) (sI σ (b + 7) i (nI x)) := by
  obtain ⟨⟨h1, h2, h3, h4⟩, h5, h6, h7, h8, h9⟩ := h
  refine ⟨⟨?_, ?_, ?_, ?_⟩, fun k hk => ?_, fun k hk => ?_, fun k hk => ?_, fun k hk => ?_, fun k hk => ?_⟩
  · simpa [sI, upd, wS, wC, wN, wP, wT, wG, wQ, wA, wB, wH, wE, wK] using h1
  · simpa [sI, upd, wS, wC, wN, wP, wT, wG, wQ, wA, wB, wH, wE, wK] using h2
  · simpa [sI, upd, wS, wC, wN, wP, wT, wG, wQ, wA, wB, wH, wE, wK] using h3
  · simpa [sI, upd, wS, wC, wN, wP, wT, wG, wQ, wA, wB, wH, wE, wK] using h4
  · simpa [sI, upd, wS, wC, wN, wP, wT, wG, wQ, wA, wB, wH, wE, wK] using h5 k hk
  · simpa [sI, upd, wS, wC, wN, wP, wT, wG, wQ, wA, wB, wH, wE, wK] using h6 k hk
  · simpa [sI, upd, wS, wC, wN, wP, wT, wG, wQ, wA, wB, wH, wE, wK] using h7 k hk
  · by_cases e : k = i
    · simp [sI, upd, va_up, e, wS, wC, wN, wP, wT, wG, wQ, wA, wB, wH, wE, wK]
    · simpa [sI, upd, va_up, e, wS, wC, wN, wP, wT, wG, wQ, wA, wB, wH, wE, wK] using h8 k hk
  · simpa [sI, upd, wS, wC, wN, wP, wT, wG, wQ, wA, wB, wH, wE, wK] using h9 k hk
theorem ch_N1 {b : Nat} {w : WD} {σ : SS} (h : CH b w σ) (x : Nat) : CH b ((wS w, wC w, wN w + 1, wP w), w.2.1, w.2.2.1, wQ w, wA w, wB w, wH w, wE w, va_up (wK w) (wN w) x) (sI (sI σ (b + 8) (wN w) (nI x)) b 10 (nI (wN w + 1))) := by
  obtain ⟨⟨h1, h2, h3, h4⟩, h5, h6, h7, h8, h9⟩ := h
  refine ⟨⟨?_, ?_, ?_, ?_⟩, fun k hk => ?_, fun k hk => ?_, fun k hk => ?_, fun k hk => ?_, fun k hk => ?_⟩
  · simpa [sI, upd, wS, wC, wN, wP, wT, wG, wQ, wA, wB, wH, wE, wK] using h1
  · simpa [sI, upd, wS, wC, wN, wP, wT, wG, wQ, wA, wB, wH, wE, wK] using h2
  · simp [sI, upd, wS, wC, wN, wP, wT, wG, wQ, wA, wB, wH, wE, wK]
  · simpa [sI, upd, wS, wC, wN, wP, wT, wG, wQ, wA, wB, wH, wE, wK] using h4
  · simpa [sI, upd, wS, wC, wN, wP, wT, wG, wQ, wA, wB, wH, wE, wK] using h5 k hk
  · simpa [sI, upd, wS, wC, wN, wP, wT, wG, wQ, wA, wB, wH, wE, wK] using h6 k hk
  · simpa [sI, upd, wS, wC, wN, wP, wT, wG, wQ, wA, wB, wH, wE, wK] using h7 k hk
  · simpa [sI, upd, wS, wC, wN, wP, wT, wG, wQ, wA, wB, wH, wE, wK] using h8 k hk
  · by_cases e : k = wN w
    · simp [sI, upd, va_up, e, wS, wC, wN, wP, wT, wG, wQ, wA, wB, wH, wE, wK]
    · have q := h9 k (by simp only [wN] at *; omega)
      simpa [sI, upd, va_up, e, wS, wC, wN, wP, wT, wG, wQ, wA, wB, wH, wE, wK] using q
theorem ch_K1 {b : Nat} {w : WD} {σ : SS} (h : CH b w σ) (i x : Nat) : CH b (w.1, w.2.1, w.2.2.1, wQ w, wA w, wB w, wH w, wE w, va_up (wK w) i x) (sI σ (b + 8) i (nI x)) := by
  obtain ⟨⟨h1, h2, h3, h4⟩, h5, h6, h7, h8, h9⟩ := h
  refine ⟨⟨?_, ?_, ?_, ?_⟩, fun k hk => ?_, fun k hk => ?_, fun k hk => ?_, fun k hk => ?_, fun k hk => ?_⟩
  · simpa [sI, upd, wS, wC, wN, wP, wT, wG, wQ, wA, wB, wH, wE, wK] using h1
  · simpa [sI, upd, wS, wC, wN, wP, wT, wG, wQ, wA, wB, wH, wE, wK] using h2
  · simpa [sI, upd, wS, wC, wN, wP, wT, wG, wQ, wA, wB, wH, wE, wK] using h3
  · simpa [sI, upd, wS, wC, wN, wP, wT, wG, wQ, wA, wB, wH, wE, wK] using h4
  · simpa [sI, upd, wS, wC, wN, wP, wT, wG, wQ, wA, wB, wH, wE, wK] using h5 k hk
  · simpa [sI, upd, wS, wC, wN, wP, wT, wG, wQ, wA, wB, wH, wE, wK] using h6 k hk
  · simpa [sI, upd, wS, wC, wN, wP, wT, wG, wQ, wA, wB, wH, wE, wK] using h7 k hk
  · simpa [sI, upd, wS, wC, wN, wP, wT, wG, wQ, wA, wB, wH, wE, wK] using h8 k hk
  · by_cases e : k = i
    · simp [sI, upd, va_up, e, wS, wC, wN, wP, wT, wG, wQ, wA, wB, wH, wE, wK]
    · simpa [sI, upd, va_up, e, wS, wC, wN, wP, wT, wG, wQ, wA, wB, wH, wE, wK] using h9 k hk
theorem ch_P1 {b : Nat} {w : WD} {σ : SS} (h : CH b w σ) (x : Nat) : CH b ((wS w, wC w, wN w, x), w.2) (sI σ b 11 (nI x)) := by
  obtain ⟨⟨h1, h2, h3, h4⟩, h5, h6, h7, h8, h9⟩ := h
  refine ⟨⟨?_, ?_, ?_, ?_⟩, fun k hk => ?_, fun k hk => ?_, fun k hk => ?_, fun k hk => ?_, fun k hk => ?_⟩
  · simpa [sI, upd, wS, wC, wN, wP, wT, wG, wQ, wA, wB, wH, wE, wK] using h1
  · simpa [sI, upd, wS, wC, wN, wP, wT, wG, wQ, wA, wB, wH, wE, wK] using h2
  · simpa [sI, upd, wS, wC, wN, wP, wT, wG, wQ, wA, wB, wH, wE, wK] using h3
  · simp [sI, upd, wS, wC, wN, wP, wT, wG, wQ, wA, wB, wH, wE, wK]
  · simpa [sI, upd, wS, wC, wN, wP, wT, wG, wQ, wA, wB, wH, wE, wK] using h5 k hk
  · simpa [sI, upd, wS, wC, wN, wP, wT, wG, wQ, wA, wB, wH, wE, wK] using h6 k hk
  · simpa [sI, upd, wS, wC, wN, wP, wT, wG, wQ, wA, wB, wH, wE, wK] using h7 k hk
  · simpa [sI, upd, wS, wC, wN, wP, wT, wG, wQ, wA, wB, wH, wE, wK] using h8 k hk
  · simpa [sI, upd, wS, wC, wN, wP, wT, wG, wQ, wA, wB, wH, wE, wK] using h9 k hk
theorem ch_clear (b : Nat) (σ : SS) : Fr b σ (sF (sF (sI (sI (sI (sI σ b 8 0) b 9 0) b 10 0) b 11 12) (b + 6) (filled ((sI (sI (sI (sI σ b 8 0) b 9 0) b 10 0) b 11 12).1 (b + 6)) 288 0)) (b + 7) (filled ((sF (sI (sI (sI (sI σ b 8 0) b 9 0) b 10 0) b 11 12) (b + 6) (filled ((sI (sI (sI (sI σ b 8 0) b 9 0) b 10 0) b 11 12).1 (b + 6)) 288 0)).1 (b + 7)) 6 0)) ∧ CH b w00 (sF (sF (sI (sI (sI (sI σ b 8 0) b 9 0) b 10 0) b 11 12) (b + 6) (filled ((sI (sI (sI (sI σ b 8 0) b 9 0) b 10 0) b 11 12).1 (b + 6)) 288 0)) (b + 7) (filled ((sF (sI (sI (sI (sI σ b 8 0) b 9 0) b 10 0) b 11 12) (b + 6) (filled ((sI (sI (sI (sI σ b 8 0) b 9 0) b 10 0) b 11 12).1 (b + 6)) 288 0)).1 (b + 7)) 6 0)) := by
  refine ⟨?_, ?_⟩
  · exact (((((Fr.rf b σ).si (by omega) (by omega) 8 0).si (by omega) (by omega) 9 0).si (by omega) (by omega) 10 0).si (by omega) (by omega) 11 12 |>.sf (by omega) (by omega) _).sf (by omega) (by omega) _
  · refine ⟨⟨?_, ?_, ?_, ?_⟩, fun k hk => ?_, fun k hk => ?_, fun k hk => ?_, fun k hk => ?_, fun k hk => ?_⟩
    · simp [sI, sF, upd, w00, nI_0, wS, wC, wN, wP]
    · simp [sI, sF, upd, w00, nI_0, wS, wC, wN, wP]
    · simp [sI, sF, upd, w00, nI_0, wS, wC, wN, wP]
    · simp [sI, sF, upd, w00, wP]; rfl
    · simp [w00, wS, wC, wN] at hk
    · simp [w00, wS, wC, wN] at hk
    · simp [sI, sF, upd, w00, filled, hk, nI_0, wH, wE]
    · simp [sI, sF, upd, w00, filled, hk, nI_0, wH, wE]
    · simp [w00, wS, wC, wN] at hk
set_option maxRecDepth 100000 in
set_option maxHeartbeats 4000000 in
theorem s_X3_clear {v : EE} {b : Nat} (hb : isW b) {σ : SS} : SR v M_X3_clear [.ref (v.1 b)] σ none (fun σ' => Fr b σ σ' ∧ CH b w00 σ') := by
  refine Sp.of rfl (by decide) rfl (Nat.le_of_ble_eq_true rfl) ?_
  show V v M_X3_clear _ 0 [(0, .ref (v.1 b))] [] σ
  refine v_aload_n dX3_clear_0 rfl ?_
  refine v_iconst (x := 0) dX3_clear_1 rfl ?_
  refine pX3_8 hb dX3_clear_2 in_X3_clear_X3 fl_X3_clear_40 ?_
  refine v_aload_n dX3_clear_5 rfl ?_
  refine v_iconst (x := 0) dX3_clear_6 rfl ?_
  refine pX3_9 hb dX3_clear_7 in_X3_clear_X3 fl_X3_clear_43 ?_
  refine v_aload_n dX3_clear_10 rfl ?_
  refine v_iconst (x := 0) dX3_clear_11 rfl ?_
  refine pX3_10 hb dX3_clear_12 in_X3_clear_X3 fl_X3_clear_46 ?_
  refine v_aload_n dX3_clear_15 rfl ?_
  refine v_bipush (x := 12) dX3_clear_16 (by decide +kernel) ?_
  refine pX3_11 hb dX3_clear_18 in_X3_clear_X3 fl_X3_clear_36 ?_
  refine v_aload_n dX3_clear_21 rfl ?_
  refine v_get (j := 5) (iWO hb) rfl dX3_clear_22 (by decide) in_X3_clear_X3 fl_X3_clear_27 rfl ?_
  refine v_iconst (x := 0) dX3_clear_25 rfl ?_
  refine v_callSv (M' := M_J7_fill_53178) (As := [_, _]) (s_J7_fill_53178 (iW6 hb) (by decide)) dX3_clear_26 gX3_clear_J7_fill_53178 rfl nn_J7_fill_53178 ⟨rfl, rfl⟩ ⟨by decide, by decide⟩ rfl rfl (Nat.le_of_ble_eq_true rfl) ?_
  refine v_aload_n dX3_clear_29 rfl ?_
  refine v_get (j := 6) (iWO hb) rfl dX3_clear_30 (by decide) in_X3_clear_X3 fl_X3_clear_30 rfl ?_
  refine v_iconst (x := 0) dX3_clear_33 rfl ?_
  refine v_callSv (M' := M_J7_fill_53178) (As := [_, _]) (s_J7_fill_53178 (iW7 hb) (by decide)) dX3_clear_34 gX3_clear_J7_fill_53178 rfl nn_J7_fill_53178 ⟨rfl, rfl⟩ ⟨by decide, by decide⟩ rfl rfl (Nat.le_of_ble_eq_true rfl) ?_
  exact v_vret rfl dX3_clear_37 ⟨rfl, ch_clear b σ⟩
set_option maxRecDepth 100000 in
set_option maxHeartbeats 4000000 in
theorem s_X3_areWeeks {v : EE} {σ : SS} {a c : Nat} (ha : a < 1000) (hc : c < 1000) : S1 v M_X3_areWeeks [.int (nI a), .int (nI c)] σ (some (.int (bI (decide (a ≤ c ∧ c < 24))))) (σ) := by
  refine Sp.of rfl (by decide) rfl (Nat.le_of_ble_eq_true rfl) ?_
  show V v M_X3_areWeeks _ 0 [(0, .int (nI a)), (1, .int (nI c))] [] σ
  refine v_iload_n dX3_areWeeks_0 rfl ?_
  refine n_if_lt (tgt := 19) dX3_areWeeks_1 (by decide) (by omega) ?_
  refine v_iload_n dX3_areWeeks_4 rfl ?_
  refine v_iload_n dX3_areWeeks_5 rfl ?_
  refine n_icmp_gt (tgt := 19) dX3_areWeeks_6 (by decide) (by omega) (by omega) (fun c6 => ?_) (fun c6 => ?_)
  · refine v_iconst (x := nI 0) dX3_areWeeks_19 (by decide +kernel) ?_
    exact v_zret rfl (by decide) dX3_areWeeks_20 ⟨congrArg (fun z => some (Value.int z)) (bI_f (decide_eq_false (by omega))), rfl⟩
  · refine v_iload_n dX3_areWeeks_9 rfl ?_
    refine v_bipush (x := nI 24) dX3_areWeeks_10 (by decide +kernel) ?_
    refine n_icmp_ge (tgt := 19) dX3_areWeeks_12 (by decide) (by omega) (by omega) (fun c12 => ?_) (fun c12 => ?_)
    · refine v_iconst (x := nI 0) dX3_areWeeks_19 (by decide +kernel) ?_
      exact v_zret rfl (by decide) dX3_areWeeks_20 ⟨congrArg (fun z => some (Value.int z)) (bI_f (decide_eq_false (by omega))), rfl⟩
    · refine v_iconst (x := nI 1) dX3_areWeeks_15 (by decide +kernel) ?_
      refine v_goto (tgt := 20) dX3_areWeeks_16 (by decide) ?_
      exact v_zret rfl (by decide) dX3_areWeeks_20 ⟨congrArg (fun z => some (Value.int z)) (bI_t (decide_eq_true (by omega))), rfl⟩
set_option maxRecDepth 100000 in
set_option maxHeartbeats 4000000 in
theorem s_X3_addSign {v : EE} {b : Nat} (hb : isW b) {w : WD} {z : Nat} {σ : SS} (hw : CH b w σ) (hv : WV z w) {a c : Nat} (ha : a < 1000) (hc : c < 1000) : SR v M_X3_addSign [.ref (v.1 b), .int (nI a), .int (nI c)] σ (some (.int (bI (iG w a c).isSome))) (fun σ' => Fr b σ σ' ∧ ∀ w', iG w a c = some w' → CH b w' σ') := by
  refine Sp.of rfl (by decide) rfl (Nat.le_of_ble_eq_true rfl) ?_
  show V v M_X3_addSign _ 0 [(0, .ref (v.1 b)), (1, .int (nI a)), (2, .int (nI c))] [] σ
  have hS := wv_S hv
  refine v_aload_n dX3_addSign_0 rfl ?_
  refine v_get (j := 8) (iWO hb) rfl dX3_addSign_1 (by decide) in_X3_addSign_X3 fl_X3_addSign_40 rfl ?_
  refine v_top (ch_S hw) ?_
  refine v_bipush (x := nI 16) dX3_addSign_4 (by decide +kernel) ?_
  refine n_icmp_ge (tgt := 34) dX3_addSign_6 (by decide) (by omega) (by omega) (fun c6 => ?_) (fun c6 => ?_)
  · refine v_iconst (x := nI 0) dX3_addSign_34 (by decide +kernel) ?_
    exact v_zret rfl (by decide) dX3_addSign_35 ⟨congrArg (fun z => some (Value.int z)) (bI_f (by rw [iG, if_neg (by omega)]; rfl)), Fr.rf b σ, fun w9 h9 => by rw [iG, if_neg (by omega)] at h9; cases h9⟩
  · refine v_iload_n dX3_addSign_9 rfl ?_
    refine v_iconst (x := nI 1) dX3_addSign_10 (by decide +kernel) ?_
    refine n_icmp_lt (tgt := 34) dX3_addSign_11 (by decide) (by omega) (by omega) (fun c11 => ?_) (fun c11 => ?_)
    · refine v_iconst (x := nI 0) dX3_addSign_34 (by decide +kernel) ?_
      exact v_zret rfl (by decide) dX3_addSign_35 ⟨congrArg (fun z => some (Value.int z)) (bI_f (by rw [iG, if_neg (by omega)]; rfl)), Fr.rf b σ, fun w9 h9 => by rw [iG, if_neg (by omega)] at h9; cases h9⟩
    · refine v_iload_n dX3_addSign_14 rfl ?_
      refine v_bipush (x := nI 9) dX3_addSign_15 (by decide +kernel) ?_
      refine n_icmp_gt (tgt := 34) dX3_addSign_17 (by decide) (by omega) (by omega) (fun c17 => ?_) (fun c17 => ?_)
      · refine v_iconst (x := nI 0) dX3_addSign_34 (by decide +kernel) ?_
        exact v_zret rfl (by decide) dX3_addSign_35 ⟨congrArg (fun z => some (Value.int z)) (bI_f (by rw [iG, if_neg (by omega)]; rfl)), Fr.rf b σ, fun w9 h9 => by rw [iG, if_neg (by omega)] at h9; cases h9⟩
      · refine v_aload_n dX3_addSign_20 rfl ?_
        refine v_iload_n dX3_addSign_21 rfl ?_
        refine v_callVi (M' := M_X3_hasSign) (As := [_]) (iWO hb) (s_X3_hasSign hb hw hv _) dX3_addSign_22 gX3_addSign_X3_hasSign rfl rfl nn_X3_hasSign ⟨rfl, rfl⟩ ⟨by decide, by decide⟩ rfl rfl (Nat.le_of_ble_eq_true rfl) ?_
        refine v_top (by rw [isN_dec (by omega)]) ?_
        refine p_if_ne (tgt := 36) dX3_addSign_25 (by decide) (fun c25 => ?_) (fun c25 => ?_)
        · refine v_aload_n dX3_addSign_36 rfl ?_
          refine v_get (j := 0) (iWO hb) rfl dX3_addSign_37 (by decide) in_X3_addSign_X3 fl_X3_addSign_9 rfl ?_
          refine v_aload_n dX3_addSign_40 rfl ?_
          refine v_get (j := 8) (iWO hb) rfl dX3_addSign_41 (by decide) in_X3_addSign_X3 fl_X3_addSign_40 rfl ?_
          refine v_top (ch_S hw) ?_
          refine v_iload_n dX3_addSign_44 rfl ?_
          refine v_iastN (wS w) (iW1 hb) dX3_addSign_45 rfl (by omega) (by decide) ?_
          refine v_aload_n dX3_addSign_46 rfl ?_
          refine v_get (j := 1) (iWO hb) rfl dX3_addSign_47 (by decide) in_X3_addSign_X3 fl_X3_addSign_15 rfl ?_
          refine v_aload_n dX3_addSign_50 rfl ?_
          refine v_get (j := 8) (iWO hb) rfl dX3_addSign_51 (by decide) in_X3_addSign_X3 fl_X3_addSign_40 rfl ?_
          refine v_top ((sI_ne _ _ (by omega)).trans (ch_S hw)) ?_
          refine v_iload_n dX3_addSign_54 rfl ?_
          refine v_bipush (x := nI 99) dX3_addSign_55 (by decide +kernel) ?_
          refine n_icmp_ne (tgt := 65) dX3_addSign_57 (by decide) (by omega) (by omega) (fun c57 => ?_) (fun c57 => ?_)
          · refine v_iload_n dX3_addSign_65 rfl ?_
            refine v_iastN (wS w) (iW2 hb) dX3_addSign_66 rfl (by omega) (by decide) ?_
            refine v_aload_n dX3_addSign_67 rfl ?_
            refine v_dup dX3_addSign_68 rfl ?_
            refine v_get (j := 8) (iWO hb) rfl dX3_addSign_69 (by decide) in_X3_addSign_X3 fl_X3_addSign_40 rfl ?_
            refine v_top ((sI_ne _ _ (by omega)).trans ((sI_ne _ _ (by omega)).trans (ch_S hw))) ?_
            refine v_iconst (x := nI 1) dX3_addSign_72 (by decide +kernel) ?_
            refine n_iadd dX3_addSign_73 ?_
            refine pX3_8 hb dX3_addSign_74 in_X3_addSign_X3 fl_X3_addSign_40 ?_
            refine v_iconst (x := nI 1) dX3_addSign_77 (by decide +kernel) ?_
            exact v_zret rfl (by decide) dX3_addSign_78 ⟨congrArg (fun z => some (Value.int z)) (bI_t (by rw [iG, if_pos (by omega)]; rfl)), (((Fr.rf b σ).si (by omega) (by omega) _ _).si (by omega) (by omega) _ _).si (by omega) (by omega) _ _, fun w9 h9 => by rw [iG, if_pos (by omega)] at h9; cases h9; exact by rw [if_neg (by omega)]; exact ch_iG hw a _⟩
          · refine v_bipush (x := (-4)) dX3_addSign_60 (by decide +kernel) ?_
            refine v_goto (tgt := 66) dX3_addSign_62 (by decide) ?_
            refine v_iastN (wS w) (iW2 hb) dX3_addSign_66 rfl (by omega) (by decide) ?_
            refine v_aload_n dX3_addSign_67 rfl ?_
            refine v_dup dX3_addSign_68 rfl ?_
            refine v_get (j := 8) (iWO hb) rfl dX3_addSign_69 (by decide) in_X3_addSign_X3 fl_X3_addSign_40 rfl ?_
            refine v_top ((sI_ne _ _ (by omega)).trans ((sI_ne _ _ (by omega)).trans (ch_S hw))) ?_
            refine v_iconst (x := nI 1) dX3_addSign_72 (by decide +kernel) ?_
            refine n_iadd dX3_addSign_73 ?_
            refine pX3_8 hb dX3_addSign_74 in_X3_addSign_X3 fl_X3_addSign_40 ?_
            refine v_iconst (x := nI 1) dX3_addSign_77 (by decide +kernel) ?_
            exact v_zret rfl (by decide) dX3_addSign_78 ⟨congrArg (fun z => some (Value.int z)) (bI_t (by rw [iG, if_pos (by omega)]; rfl)), (((Fr.rf b σ).si (by omega) (by omega) _ _).si (by omega) (by omega) _ _).si (by omega) (by omega) _ _, fun w9 h9 => by rw [iG, if_pos (by omega)] at h9; cases h9; exact by rw [if_pos (by omega)]; exact ch_iG hw a _⟩
        · refine v_iload_n dX3_addSign_28 rfl ?_
          refine v_bipush (x := nI 99) dX3_addSign_29 (by decide +kernel) ?_
          refine n_icmp_eq (tgt := 36) dX3_addSign_31 (by decide) (by omega) (by omega) (fun c31 => ?_) (fun c31 => ?_)
          · refine v_aload_n dX3_addSign_36 rfl ?_
            refine v_get (j := 0) (iWO hb) rfl dX3_addSign_37 (by decide) in_X3_addSign_X3 fl_X3_addSign_9 rfl ?_
            refine v_aload_n dX3_addSign_40 rfl ?_
            refine v_get (j := 8) (iWO hb) rfl dX3_addSign_41 (by decide) in_X3_addSign_X3 fl_X3_addSign_40 rfl ?_
            refine v_top (ch_S hw) ?_
            refine v_iload_n dX3_addSign_44 rfl ?_
            refine v_iastN (wS w) (iW1 hb) dX3_addSign_45 rfl (by omega) (by decide) ?_
            refine v_aload_n dX3_addSign_46 rfl ?_
            refine v_get (j := 1) (iWO hb) rfl dX3_addSign_47 (by decide) in_X3_addSign_X3 fl_X3_addSign_15 rfl ?_
            refine v_aload_n dX3_addSign_50 rfl ?_
            refine v_get (j := 8) (iWO hb) rfl dX3_addSign_51 (by decide) in_X3_addSign_X3 fl_X3_addSign_40 rfl ?_
            refine v_top ((sI_ne _ _ (by omega)).trans (ch_S hw)) ?_
            refine v_iload_n dX3_addSign_54 rfl ?_
            refine v_bipush (x := nI 99) dX3_addSign_55 (by decide +kernel) ?_
            refine n_icmp_ne (tgt := 65) dX3_addSign_57 (by decide) (by omega) (by omega) (fun c57 => ?_) (fun c57 => ?_)
            · refine v_iload_n dX3_addSign_65 rfl ?_
              refine v_iastN (wS w) (iW2 hb) dX3_addSign_66 rfl (by omega) (by decide) ?_
              refine v_aload_n dX3_addSign_67 rfl ?_
              refine v_dup dX3_addSign_68 rfl ?_
              refine v_get (j := 8) (iWO hb) rfl dX3_addSign_69 (by decide) in_X3_addSign_X3 fl_X3_addSign_40 rfl ?_
              refine v_top ((sI_ne _ _ (by omega)).trans ((sI_ne _ _ (by omega)).trans (ch_S hw))) ?_
              refine v_iconst (x := nI 1) dX3_addSign_72 (by decide +kernel) ?_
              refine n_iadd dX3_addSign_73 ?_
              refine pX3_8 hb dX3_addSign_74 in_X3_addSign_X3 fl_X3_addSign_40 ?_
              refine v_iconst (x := nI 1) dX3_addSign_77 (by decide +kernel) ?_
              exact v_zret rfl (by decide) dX3_addSign_78 ⟨congrArg (fun z => some (Value.int z)) (bI_t (by rw [iG, if_pos (by omega)]; rfl)), (((Fr.rf b σ).si (by omega) (by omega) _ _).si (by omega) (by omega) _ _).si (by omega) (by omega) _ _, fun w9 h9 => by rw [iG, if_pos (by omega)] at h9; cases h9; exact by rw [if_neg (by omega)]; exact ch_iG hw a _⟩
            · refine v_bipush (x := (-4)) dX3_addSign_60 (by decide +kernel) ?_
              refine v_goto (tgt := 66) dX3_addSign_62 (by decide) ?_
              refine v_iastN (wS w) (iW2 hb) dX3_addSign_66 rfl (by omega) (by decide) ?_
              refine v_aload_n dX3_addSign_67 rfl ?_
              refine v_dup dX3_addSign_68 rfl ?_
              refine v_get (j := 8) (iWO hb) rfl dX3_addSign_69 (by decide) in_X3_addSign_X3 fl_X3_addSign_40 rfl ?_
              refine v_top ((sI_ne _ _ (by omega)).trans ((sI_ne _ _ (by omega)).trans (ch_S hw))) ?_
              refine v_iconst (x := nI 1) dX3_addSign_72 (by decide +kernel) ?_
              refine n_iadd dX3_addSign_73 ?_
              refine pX3_8 hb dX3_addSign_74 in_X3_addSign_X3 fl_X3_addSign_40 ?_
              refine v_iconst (x := nI 1) dX3_addSign_77 (by decide +kernel) ?_
              exact v_zret rfl (by decide) dX3_addSign_78 ⟨congrArg (fun z => some (Value.int z)) (bI_t (by rw [iG, if_pos (by omega)]; rfl)), (((Fr.rf b σ).si (by omega) (by omega) _ _).si (by omega) (by omega) _ _).si (by omega) (by omega) _ _, fun w9 h9 => by rw [iG, if_pos (by omega)] at h9; cases h9; exact by rw [if_pos (by omega)]; exact ch_iG hw a _⟩
          · refine v_iconst (x := nI 0) dX3_addSign_34 (by decide +kernel) ?_
            exact v_zret rfl (by decide) dX3_addSign_35 ⟨congrArg (fun z => some (Value.int z)) (bI_f (by rw [iG, if_neg (by omega)]; rfl)), Fr.rf b σ, fun w9 h9 => by rw [iG, if_neg (by omega)] at h9; cases h9⟩
set_option maxRecDepth 100000 in
set_option maxHeartbeats 4000000 in
theorem s_X3_addCourse {v : EE} {b : Nat} (hb : isW b) {w : WD} {z : Nat} {σ : SS} (hw : CH b w σ) (hv : WV z w) {a c d : Nat} (ha : a < 1000) (hc : c < 1000) (hd : d < 1000) : SR v M_X3_addCourse [.ref (v.1 b), .int (nI a), .int (nI c), .int (nI d)] σ (some (.int (bI (iC w a c d).isSome))) (fun σ' => Fr b σ σ' ∧ ∀ w', iC w a c d = some w' → CH b w' σ') := by
  refine Sp.of rfl (by decide) rfl (Nat.le_of_ble_eq_true rfl) ?_
  show V v M_X3_addCourse _ 0 [(0, .ref (v.1 b)), (1, .int (nI a)), (2, .int (nI c)), (3, .int (nI d))] [] σ
  have hS := wv_C hv
  refine v_aload_n dX3_addCourse_0 rfl ?_
  refine v_get (j := 9) (iWO hb) rfl dX3_addCourse_1 (by decide) in_X3_addCourse_X3 fl_X3_addCourse_43 rfl ?_
  refine v_top (ch_C hw) ?_
  refine v_bipush (x := nI 16) dX3_addCourse_4 (by decide +kernel) ?_
  refine n_icmp_ge (tgt := 27) dX3_addCourse_6 (by decide) (by omega) (by omega) (fun c6 => ?_) (fun c6 => ?_)
  · refine v_iconst (x := nI 0) dX3_addCourse_27 (by decide +kernel) ?_
    exact v_zret rfl (by decide) dX3_addCourse_28 ⟨congrArg (fun z => some (Value.int z)) (bI_f (by rw [iC, if_neg (by omega)]; rfl)), Fr.rf b σ, fun w9 h9 => by rw [iC, if_neg (by omega)] at h9; cases h9⟩
  · refine v_iload_n dX3_addCourse_9 rfl ?_
    refine n_if_lt (tgt := 27) dX3_addCourse_10 (by decide) (by omega) ?_
    refine v_iload_n dX3_addCourse_13 rfl ?_
    refine v_bipush (x := nI 6) dX3_addCourse_14 (by decide +kernel) ?_
    refine n_icmp_ge (tgt := 27) dX3_addCourse_16 (by decide) (by omega) (by omega) (fun c16 => ?_) (fun c16 => ?_)
    · refine v_iconst (x := nI 0) dX3_addCourse_27 (by decide +kernel) ?_
      exact v_zret rfl (by decide) dX3_addCourse_28 ⟨congrArg (fun z => some (Value.int z)) (bI_f (by rw [iC, if_neg (by omega)]; rfl)), Fr.rf b σ, fun w9 h9 => by rw [iC, if_neg (by omega)] at h9; cases h9⟩
    · refine v_iload_n dX3_addCourse_19 rfl ?_
      refine v_iload_n dX3_addCourse_20 rfl ?_
      refine v_callSi (M' := M_X3_areWeeks) (As := [_, _]) (s_X3_areWeeks hc hd) dX3_addCourse_21 gX3_addCourse_X3_areWeeks rfl nn_X3_areWeeks ⟨rfl, rfl⟩ ⟨by decide, by decide⟩ rfl rfl (Nat.le_of_ble_eq_true rfl) ?_
      refine p_if_ne (tgt := 29) dX3_addCourse_24 (by decide) (fun c24 => ?_) (fun c24 => ?_)
      · refine v_aload_n dX3_addCourse_29 rfl ?_
        refine v_get (j := 2) (iWO hb) rfl dX3_addCourse_30 (by decide) in_X3_addCourse_X3 fl_X3_addCourse_18 rfl ?_
        refine v_aload_n dX3_addCourse_33 rfl ?_
        refine v_get (j := 9) (iWO hb) rfl dX3_addCourse_34 (by decide) in_X3_addCourse_X3 fl_X3_addCourse_43 rfl ?_
        refine v_top (ch_C hw) ?_
        refine v_iload_n dX3_addCourse_37 rfl ?_
        refine v_iastN (wC w) (iW3 hb) dX3_addCourse_38 rfl (by omega) (by decide) ?_
        refine v_aload_n dX3_addCourse_39 rfl ?_
        refine v_get (j := 3) (iWO hb) rfl dX3_addCourse_40 (by decide) in_X3_addCourse_X3 fl_X3_addCourse_21 rfl ?_
        refine v_aload_n dX3_addCourse_43 rfl ?_
        refine v_get (j := 9) (iWO hb) rfl dX3_addCourse_44 (by decide) in_X3_addCourse_X3 fl_X3_addCourse_43 rfl ?_
        refine v_top ((sI_ne _ _ (by omega)).trans (ch_C hw)) ?_
        refine v_iload_n dX3_addCourse_47 rfl ?_
        refine v_iastN (wC w) (iW4 hb) dX3_addCourse_48 rfl (by omega) (by decide) ?_
        refine v_aload_n dX3_addCourse_49 rfl ?_
        refine v_get (j := 4) (iWO hb) rfl dX3_addCourse_50 (by decide) in_X3_addCourse_X3 fl_X3_addCourse_24 rfl ?_
        refine v_aload_n dX3_addCourse_53 rfl ?_
        refine v_get (j := 9) (iWO hb) rfl dX3_addCourse_54 (by decide) in_X3_addCourse_X3 fl_X3_addCourse_43 rfl ?_
        refine v_top ((sI_ne _ _ (by omega)).trans ((sI_ne _ _ (by omega)).trans (ch_C hw))) ?_
        refine v_iload_n dX3_addCourse_57 rfl ?_
        refine v_iastN (wC w) (iW5 hb) dX3_addCourse_58 rfl (by omega) (by decide) ?_
        refine v_aload_n dX3_addCourse_59 rfl ?_
        refine v_dup dX3_addCourse_60 rfl ?_
        refine v_get (j := 9) (iWO hb) rfl dX3_addCourse_61 (by decide) in_X3_addCourse_X3 fl_X3_addCourse_43 rfl ?_
        refine v_top ((sI_ne _ _ (by omega)).trans ((sI_ne _ _ (by omega)).trans ((sI_ne _ _ (by omega)).trans (ch_C hw)))) ?_
        refine v_iconst (x := nI 1) dX3_addCourse_64 (by decide +kernel) ?_
        refine n_iadd dX3_addCourse_65 ?_
        refine pX3_9 hb dX3_addCourse_66 in_X3_addCourse_X3 fl_X3_addCourse_43 ?_
        refine v_iconst (x := nI 1) dX3_addCourse_69 (by decide +kernel) ?_
        exact v_zret rfl (by decide) dX3_addCourse_70 ⟨congrArg (fun z => some (Value.int z)) (bI_t (by rw [iC, if_pos (by omega)]; rfl)), ((((Fr.rf b σ).si (by omega) (by omega) _ _).si (by omega) (by omega) _ _).si (by omega) (by omega) _ _).si (by omega) (by omega) _ _, fun w9 h9 => by rw [iC, if_pos (by omega)] at h9; cases h9; exact ch_iC hw a c d⟩
      · refine v_iconst (x := nI 0) dX3_addCourse_27 (by decide +kernel) ?_
        exact v_zret rfl (by decide) dX3_addCourse_28 ⟨congrArg (fun z => some (Value.int z)) (bI_f (by rw [iC, if_neg (by omega)]; rfl)), Fr.rf b σ, fun w9 h9 => by rw [iC, if_neg (by omega)] at h9; cases h9⟩
set_option maxRecDepth 100000 in
set_option maxHeartbeats 4000000 in
theorem s_X3_addAt {v : EE} {b : Nat} (hb : isW b) {w : WD} {z : Nat} {σ : SS} (hw : CH b w σ) (hv : WV z w) {c k : Nat} (hc : c < wC w) (hk : k < 18) {x : Int32} : S1 v M_X3_addAt [.ref (v.1 b), .int (nI c), .int (nI k), .int x] σ none (sI σ (b + 6) (c * 18 + k) (nI (wH w (c * 18 + k)) + x)) := by
  refine Sp.of rfl (by decide) rfl (Nat.le_of_ble_eq_true rfl) ?_
  show V v M_X3_addAt _ 0 [(0, .ref (v.1 b)), (1, .int (nI c)), (2, .int (nI k)), (3, .int x)] [] σ
  refine v_aload_n dX3_addAt_0 rfl ?_
  refine v_iload_n dX3_addAt_1 rfl ?_
  refine v_callVi (M' := M_X3_hasCourse) (As := [_]) (iWO hb) (s_X3_hasCourse hb hw hv _) dX3_addAt_2 gX3_addAt_X3_hasCourse rfl rfl nn_X3_hasCourse ⟨rfl, rfl⟩ ⟨by decide, by decide⟩ rfl rfl (Nat.le_of_ble_eq_true rfl) ?_
  refine v_if_eq (tgt := 33) dX3_addAt_5 (by decide) (fun c5 => absurd c5 (by rw [isN_of hc (by have := wv_C hv; omega)]; decide)) (fun c5 => ?_)
  refine v_iload_n dX3_addAt_8 rfl ?_
  refine v_if_lt (tgt := 33) dX3_addAt_9 (by decide) (fun c9 => absurd c9 (nI_pos (by omega))) (fun c9 => ?_)
  refine v_iload_n dX3_addAt_12 rfl ?_
  refine v_bipush (x := 18) dX3_addAt_13 (by decide +kernel) ?_
  refine v_icmp_ge (tgt := 33) dX3_addAt_15 (by decide) (fun c15 => absurd c15 (nI_ge hk (by decide))) (fun c15 => ?_)
  refine v_aload_n dX3_addAt_18 rfl ?_
  refine v_get (j := 5) (iWO hb) rfl dX3_addAt_19 (by decide) in_X3_addAt_X3 fl_X3_addAt_27 rfl ?_
  refine v_iload_n dX3_addAt_22 rfl ?_
  refine v_bipush (x := 18) dX3_addAt_23 (by decide +kernel) ?_
  refine v_imul dX3_addAt_25 ?_
  refine v_iload_n dX3_addAt_26 rfl ?_
  refine v_iadd dX3_addAt_27 ?_
  refine v_dup2 dX3_addAt_28 rfl rfl ?_
  refine v_ialdN (c * 18 + k) (iW6 hb) dX3_addAt_29 (by rw [show (18 : Int32) = nI 18 from rfl, pk_mul, nI_add]) (by have := wv_C hv; omega) (by decide) ?_
  refine v_top (ch_H hw (by have := wv_C hv; omega)) ?_
  refine v_iload_n dX3_addAt_30 rfl ?_
  refine v_iadd dX3_addAt_31 ?_
  refine v_iastN (c * 18 + k) (iW6 hb) dX3_addAt_32 (by rw [show (18 : Int32) = nI 18 from rfl, pk_mul, nI_add]) (by have := wv_C hv; omega) (by decide) ?_
  exact v_vret rfl dX3_addAt_33 ⟨rfl, rfl⟩
theorem kdN_col {z : Nat} {w : WD} (hv : WV z w) {c : Nat} (hc : c < 1000) : if c < wS w ∨ c = 98 ∨ c = 99 then colOf w (nI c) = nI (kdN c) ∧ kdN c < 18 else colOf w (nI c) = -4 := by
  have hS := wv_S hv
  have q98 : nI c = (98 : Int32) ↔ c = 98 := nI_eq (b := 98) (by omega) (by decide)
  have q99 : nI c = (99 : Int32) ↔ c = 99 := nI_eq (b := 99) (by omega) (by decide)
  by_cases h : c < wS w ∨ c = 98 ∨ c = 99
  · rw [if_pos h, colOf, kdN]
    by_cases h1 : c = 98
    · subst h1; exact ⟨rfl, by decide⟩
    · rw [if_neg (fun q => h1 (q98.mp q)), if_neg h1]
      by_cases h2 : c = 99
      · subst h2; exact ⟨rfl, by decide⟩
      · rw [if_neg (fun q => h2 (q99.mp q)), if_neg h2, if_pos (isN_of (by omega) (by omega))]
        exact ⟨rfl, by omega⟩
  · rw [if_neg h, colOf, if_neg (fun q => h (Or.inr (Or.inl (q98.mp q)))), if_neg (fun q => h (Or.inr (Or.inr (q99.mp q)))), if_neg]
    rw [isN_dec (by omega), decide_eq_true_eq]
    omega
set_option maxRecDepth 100000 in
set_option maxHeartbeats 4000000 in
theorem s_X3_addStones {v : EE} {b : Nat} (hb : isW b) {w : WD} {z : Nat} {σ : SS} (hw : CH b w σ) (hv : WV z w) {a c d : Nat} (ha : a < 1000) (hc : c < 1000) (hd : d < 1000) : SR v M_X3_addStones [.ref (v.1 b), .int (nI a), .int (nI c), .int (nI d)] σ (some (.int (bI (iT w a c d).isSome))) (fun σ' => Fr b σ σ' ∧ ∀ w', iT w a c d = some w' → CH b w' σ') := by
  refine Sp.of rfl (by decide) rfl (Nat.le_of_ble_eq_true rfl) ?_
  show V v M_X3_addStones _ 0 [(0, .ref (v.1 b)), (1, .int (nI a)), (2, .int (nI c)), (3, .int (nI d))] [] σ
  have hS := wv_C hv
  have ek := kdN_col hv hc
  refine v_aload_n dX3_addStones_0 rfl ?_
  refine v_iload_n dX3_addStones_1 rfl ?_
  refine v_callVi (M' := M_X3_columnOf) (As := [_]) (iWO hb) (s_X3_columnOf hb hw hv _) dX3_addStones_2 gX3_addStones_X3_columnOf rfl rfl nn_X3_columnOf ⟨rfl, rfl⟩ ⟨by decide, by decide⟩ rfl rfl (Nat.le_of_ble_eq_true rfl) ?_
  refine v_istore (L' := [(4, _), (0, _), (1, _), (2, _), (3, _)]) dX3_addStones_5 (by decide) rfl ?_
  refine v_aload_n dX3_addStones_7 rfl ?_
  refine v_iload_n dX3_addStones_8 rfl ?_
  refine v_callVi (M' := M_X3_hasCourse) (As := [_]) (iWO hb) (s_X3_hasCourse hb hw hv _) dX3_addStones_9 gX3_addStones_X3_hasCourse rfl rfl nn_X3_hasCourse ⟨rfl, rfl⟩ ⟨by decide, by decide⟩ rfl rfl (Nat.le_of_ble_eq_true rfl) ?_
  refine v_top (by rw [isN_dec (by omega)]) ?_
  refine p_if_eq (tgt := 31) dX3_addStones_12 (by decide) (fun c12 => ?_) (fun c12 => ?_)
  · refine v_iconst (x := nI 0) dX3_addStones_31 (by decide +kernel) ?_
    exact v_zret rfl (by decide) dX3_addStones_32 ⟨congrArg (fun z => some (Value.int z)) (bI_f (by rw [iT, if_neg (by omega)]; rfl)), Fr.rf b σ, fun w9 h9 => by rw [iT, if_neg (by omega)] at h9; cases h9⟩
  · by_cases hk9 : c < wS w ∨ c = 98 ∨ c = 99
    · rw [if_pos hk9] at ek
      refine v_loc (L' := [(4, .int (nI (kdN c))), (0, .ref (v.1 b)), (1, .int (nI a)), (2, .int (nI c)), (3, .int (nI d))]) (by rw [ek.1]) ?_
      have ek2 := ek.2
      refine v_iload dX3_addStones_15 rfl ?_
      refine n_if_lt (tgt := 31) dX3_addStones_17 (by decide) (by omega) ?_
      refine v_iload_n dX3_addStones_20 rfl ?_
      refine v_iconst (x := nI 1) dX3_addStones_21 (by decide +kernel) ?_
      refine n_icmp_lt (tgt := 31) dX3_addStones_22 (by decide) (by omega) (by omega) (fun c22 => ?_) (fun c22 => ?_)
      · refine v_iconst (x := nI 0) dX3_addStones_31 (by decide +kernel) ?_
        exact v_zret rfl (by decide) dX3_addStones_32 ⟨congrArg (fun z => some (Value.int z)) (bI_f (by rw [iT, if_neg (by omega)]; rfl)), Fr.rf b σ, fun w9 h9 => by rw [iT, if_neg (by omega)] at h9; cases h9⟩
      · refine v_iload_n dX3_addStones_25 rfl ?_
        refine v_bipush (x := nI 99) dX3_addStones_26 (by decide +kernel) ?_
        refine n_icmp_le (tgt := 33) dX3_addStones_28 (by decide) (by omega) (by omega) (fun c28 => ?_) (fun c28 => ?_)
        · refine v_aload_n dX3_addStones_33 rfl ?_
          refine v_iload_n dX3_addStones_34 rfl ?_
          refine v_iload dX3_addStones_35 rfl ?_
          refine v_iload_n dX3_addStones_37 rfl ?_
          refine v_callVv (M' := M_X3_addAt) (As := [_, _, _]) (iWO hb) (s_X3_addAt hb hw hv c12 ek.2 (x := nI d)) dX3_addStones_38 gX3_addStones_X3_addAt rfl rfl nn_X3_addAt ⟨rfl, rfl⟩ ⟨by decide, by decide⟩ rfl rfl (Nat.le_of_ble_eq_true rfl) ?_
          refine v_iconst (x := nI 1) dX3_addStones_41 (by decide +kernel) ?_
          exact v_zret rfl (by decide) dX3_addStones_42 ⟨congrArg (fun z => some (Value.int z)) (bI_t (by rw [iT, if_pos (by omega)]; rfl)), (Fr.rf b σ).si (by omega) (by omega) _ _, fun w9 h9 => by rw [iT, if_pos (by omega)] at h9; cases h9; exact by rw [nI_add]; exact ch_H1 hw _ _⟩
        · refine v_iconst (x := nI 0) dX3_addStones_31 (by decide +kernel) ?_
          exact v_zret rfl (by decide) dX3_addStones_32 ⟨congrArg (fun z => some (Value.int z)) (bI_f (by rw [iT, if_neg (by omega)]; rfl)), Fr.rf b σ, fun w9 h9 => by rw [iT, if_neg (by omega)] at h9; cases h9⟩
    · rw [if_neg hk9] at ek
      refine v_loc (L' := [(4, .int (-4)), (0, .ref (v.1 b)), (1, .int (nI a)), (2, .int (nI c)), (3, .int (nI d))]) (by rw [ek]) ?_
      refine v_iload dX3_addStones_15 rfl ?_
      refine v_if_lt (tgt := 31) dX3_addStones_17 (by decide) (fun c17 => ?_) (fun c17 => absurd (by decide) c17)
      refine v_iconst (x := nI 0) dX3_addStones_31 (by decide +kernel) ?_
      exact v_zret rfl (by decide) dX3_addStones_32 ⟨congrArg (fun z => some (Value.int z)) (bI_f (by rw [iT, if_neg (by omega)]; rfl)), Fr.rf b σ, fun w9 h9 => by rw [iT, if_neg (by omega)] at h9; cases h9⟩
set_option maxRecDepth 100000 in
set_option maxHeartbeats 4000000 in
theorem s_X3_addBegun {v : EE} {b : Nat} (hb : isW b) {w : WD} {z : Nat} {σ : SS} (hw : CH b w σ) (hv : WV z w) {a c : Nat} (ha : a < 1000) (hc : c < 1000) : SR v M_X3_addBegun [.ref (v.1 b), .int (nI a), .int (nI c)] σ (some (.int (bI (iB w a c).isSome))) (fun σ' => Fr b σ σ' ∧ ∀ w', iB w a c = some w' → CH b w' σ') := by
  refine Sp.of rfl (by decide) rfl (Nat.le_of_ble_eq_true rfl) ?_
  show V v M_X3_addBegun _ 0 [(0, .ref (v.1 b)), (1, .int (nI a)), (2, .int (nI c))] [] σ
  refine v_iload_n dX3_addBegun_0 rfl ?_
  refine n_if_lt (tgt := 25) dX3_addBegun_1 (by decide) (by omega) ?_
  refine v_iload_n dX3_addBegun_4 rfl ?_
  refine v_bipush (x := nI 6) dX3_addBegun_5 (by decide +kernel) ?_
  refine n_icmp_ge (tgt := 25) dX3_addBegun_7 (by decide) (by omega) (by omega) (fun c7 => ?_) (fun c7 => ?_)
  · refine v_iconst (x := nI 0) dX3_addBegun_25 (by decide +kernel) ?_
    exact v_zret rfl (by decide) dX3_addBegun_26 ⟨congrArg (fun z => some (Value.int z)) (bI_f (by rw [iB, if_neg (by omega)]; rfl)), Fr.rf b σ, fun w9 h9 => by rw [iB, if_neg (by omega)] at h9; cases h9⟩
  · refine v_iload_n dX3_addBegun_10 rfl ?_
    refine n_if_lt (tgt := 25) dX3_addBegun_11 (by decide) (by omega) ?_
    refine v_iload_n dX3_addBegun_14 rfl ?_
    refine v_bipush (x := nI 6) dX3_addBegun_15 (by decide +kernel) ?_
    refine n_icmp_ge (tgt := 25) dX3_addBegun_17 (by decide) (by omega) (by omega) (fun c17 => ?_) (fun c17 => ?_)
    · refine v_iconst (x := nI 0) dX3_addBegun_25 (by decide +kernel) ?_
      exact v_zret rfl (by decide) dX3_addBegun_26 ⟨congrArg (fun z => some (Value.int z)) (bI_f (by rw [iB, if_neg (by omega)]; rfl)), Fr.rf b σ, fun w9 h9 => by rw [iB, if_neg (by omega)] at h9; cases h9⟩
    · refine v_iload_n dX3_addBegun_20 rfl ?_
      refine v_iload_n dX3_addBegun_21 rfl ?_
      refine n_icmp_ne (tgt := 27) dX3_addBegun_22 (by decide) (by omega) (by omega) (fun c22 => ?_) (fun c22 => ?_)
      · refine v_aload_n dX3_addBegun_27 rfl ?_
        refine v_get (j := 6) (iWO hb) rfl dX3_addBegun_28 (by decide) in_X3_addBegun_X3 fl_X3_addBegun_30 rfl ?_
        refine v_iload_n dX3_addBegun_31 rfl ?_
        refine v_dup2 dX3_addBegun_32 rfl rfl ?_
        refine v_ialdN a (iW7 hb) dX3_addBegun_33 rfl (by omega) (by decide) ?_
        refine v_top (ch_E hw (by omega)) ?_
        refine v_iconst (x := nI 1) dX3_addBegun_34 (by decide +kernel) ?_
        refine v_iload_n dX3_addBegun_35 rfl ?_
        refine n_shl1 dX3_addBegun_36 (by omega) ?_
        refine n_ior dX3_addBegun_37 ?_
        refine v_iastN a (iW7 hb) dX3_addBegun_38 rfl (by omega) (by decide) ?_
        refine v_iconst (x := nI 1) dX3_addBegun_39 (by decide +kernel) ?_
        exact v_zret rfl (by decide) dX3_addBegun_40 ⟨congrArg (fun z => some (Value.int z)) (bI_t (by rw [iB, if_pos (by omega)]; rfl)), (Fr.rf b σ).si (by omega) (by omega) _ _, fun w9 h9 => by rw [iB, if_pos (by omega)] at h9; cases h9; exact ch_E1 hw _ _⟩
      · refine v_iconst (x := nI 0) dX3_addBegun_25 (by decide +kernel) ?_
        exact v_zret rfl (by decide) dX3_addBegun_26 ⟨congrArg (fun z => some (Value.int z)) (bI_f (by rw [iB, if_neg (by omega)]; rfl)), Fr.rf b σ, fun w9 h9 => by rw [iB, if_neg (by omega)] at h9; cases h9⟩
set_option maxRecDepth 100000 in
set_option maxHeartbeats 4000000 in
theorem s_X3_addName {v : EE} {b : Nat} (hb : isW b) {w : WD} {z : Nat} {σ : SS} (hw : CH b w σ) (hv : WV z w) {a c : Nat} (ha : a < 1000) (hc : c < 1000) : SR v M_X3_addName [.ref (v.1 b), .int (nI a), .int (nI c)] σ (some (.int (bI (iN w a c).isSome))) (fun σ' => Fr b σ σ' ∧ ∀ w', iN w a c = some w' → CH b w' σ') := by
  refine Sp.of rfl (by decide) rfl (Nat.le_of_ble_eq_true rfl) ?_
  show V v M_X3_addName _ 0 [(0, .ref (v.1 b)), (1, .int (nI a)), (2, .int (nI c))] [] σ
  have hS := wv_N hv
  refine v_aload_n dX3_addName_0 rfl ?_
  refine v_get (j := 10) (iWO hb) rfl dX3_addName_1 (by decide) in_X3_addName_X3 fl_X3_addName_46 rfl ?_
  refine v_top (ch_N hw) ?_
  refine v_bipush (x := nI 10) dX3_addName_4 (by decide +kernel) ?_
  refine n_icmp_ge (tgt := 17) dX3_addName_6 (by decide) (by omega) (by omega) (fun c6 => ?_) (fun c6 => ?_)
  · refine v_iconst (x := nI 0) dX3_addName_17 (by decide +kernel) ?_
    exact v_zret rfl (by decide) dX3_addName_18 ⟨congrArg (fun z => some (Value.int z)) (bI_f (by rw [iN, if_neg (by omega)]; rfl)), Fr.rf b σ, fun w9 h9 => by rw [iN, if_neg (by omega)] at h9; cases h9⟩
  · refine v_iload_n dX3_addName_9 rfl ?_
    refine v_iload_n dX3_addName_10 rfl ?_
    refine v_callSi (M' := M_X3_areWeeks) (As := [_, _]) (s_X3_areWeeks ha hc) dX3_addName_11 gX3_addName_X3_areWeeks rfl nn_X3_areWeeks ⟨rfl, rfl⟩ ⟨by decide, by decide⟩ rfl rfl (Nat.le_of_ble_eq_true rfl) ?_
    refine p_if_ne (tgt := 19) dX3_addName_14 (by decide) (fun c14 => ?_) (fun c14 => ?_)
    · refine v_aload_n dX3_addName_19 rfl ?_
      refine v_get (j := 7) (iWO hb) rfl dX3_addName_20 (by decide) in_X3_addName_X3 fl_X3_addName_33 rfl ?_
      refine v_aload_n dX3_addName_23 rfl ?_
      refine v_get (j := 10) (iWO hb) rfl dX3_addName_24 (by decide) in_X3_addName_X3 fl_X3_addName_46 rfl ?_
      refine v_top (ch_N hw) ?_
      refine v_iload_n dX3_addName_27 rfl ?_
      refine v_iload_n dX3_addName_28 rfl ?_
      refine v_callSi (M' := M_X3_weekBits) (As := [_, _]) (s_X3_weekBits c14.1 c14.2) dX3_addName_29 gX3_addName_X3_weekBits rfl nn_X3_weekBits ⟨rfl, rfl⟩ ⟨by decide, by decide⟩ rfl rfl (Nat.le_of_ble_eq_true rfl) ?_
      refine v_iastN (wN w) (iW8 hb) dX3_addName_32 rfl (by omega) (by decide) ?_
      refine v_aload_n dX3_addName_33 rfl ?_
      refine v_dup dX3_addName_34 rfl ?_
      refine v_get (j := 10) (iWO hb) rfl dX3_addName_35 (by decide) in_X3_addName_X3 fl_X3_addName_46 rfl ?_
      refine v_top ((sI_ne _ _ (by omega)).trans (ch_N hw)) ?_
      refine v_iconst (x := nI 1) dX3_addName_38 (by decide +kernel) ?_
      refine n_iadd dX3_addName_39 ?_
      refine pX3_10 hb dX3_addName_40 in_X3_addName_X3 fl_X3_addName_46 ?_
      refine v_iconst (x := nI 1) dX3_addName_43 (by decide +kernel) ?_
      exact v_zret rfl (by decide) dX3_addName_44 ⟨congrArg (fun z => some (Value.int z)) (bI_t (by rw [iN, if_pos (by omega)]; rfl)), ((Fr.rf b σ).si (by omega) (by omega) _ _).si (by omega) (by omega) _ _, fun w9 h9 => by rw [iN, if_pos (by omega)] at h9; cases h9; exact ch_N1 hw _⟩
    · refine v_iconst (x := nI 0) dX3_addName_17 (by decide +kernel) ?_
      exact v_zret rfl (by decide) dX3_addName_18 ⟨congrArg (fun z => some (Value.int z)) (bI_f (by rw [iN, if_neg (by omega)]; rfl)), Fr.rf b σ, fun w9 h9 => by rw [iN, if_neg (by omega)] at h9; cases h9⟩
set_option maxRecDepth 100000 in
set_option maxHeartbeats 4000000 in
theorem s_X3_addStay {v : EE} {b : Nat} (hb : isW b) {w : WD} {z : Nat} {σ : SS} (hw : CH b w σ) (hv : WV z w) {a c d : Nat} (ha : a < 1000) (hc : c < 1000) (hd : d < 1000) : SR v M_X3_addStay [.ref (v.1 b), .int (nI a), .int (nI c), .int (nI d)] σ (some (.int (bI (iA w a c d).isSome))) (fun σ' => Fr b σ σ' ∧ ∀ w', iA w a c d = some w' → CH b w' σ') := by
  refine Sp.of rfl (by decide) rfl (Nat.le_of_ble_eq_true rfl) ?_
  show V v M_X3_addStay _ 0 [(0, .ref (v.1 b)), (1, .int (nI a)), (2, .int (nI c)), (3, .int (nI d))] [] σ
  have hS := wv_N hv
  refine v_aload_n dX3_addStay_0 rfl ?_
  refine v_iload_n dX3_addStay_1 rfl ?_
  refine v_callVi (M' := M_X3_hasName) (As := [_]) (iWO hb) (s_X3_hasName hb hw hv _) dX3_addStay_2 gX3_addStay_X3_hasName rfl rfl nn_X3_hasName ⟨rfl, rfl⟩ ⟨by decide, by decide⟩ rfl rfl (Nat.le_of_ble_eq_true rfl) ?_
  refine v_top (by rw [isN_dec (by omega)]) ?_
  refine p_if_eq (tgt := 16) dX3_addStay_5 (by decide) (fun c5 => ?_) (fun c5 => ?_)
  · refine v_iconst (x := nI 0) dX3_addStay_16 (by decide +kernel) ?_
    exact v_zret rfl (by decide) dX3_addStay_17 ⟨congrArg (fun z => some (Value.int z)) (bI_f (by rw [iA, if_neg (by omega)]; rfl)), Fr.rf b σ, fun w9 h9 => by rw [iA, if_neg (by omega)] at h9; cases h9⟩
  · refine v_iload_n dX3_addStay_8 rfl ?_
    refine v_iload_n dX3_addStay_9 rfl ?_
    refine v_callSi (M' := M_X3_areWeeks) (As := [_, _]) (s_X3_areWeeks hc hd) dX3_addStay_10 gX3_addStay_X3_areWeeks rfl nn_X3_areWeeks ⟨rfl, rfl⟩ ⟨by decide, by decide⟩ rfl rfl (Nat.le_of_ble_eq_true rfl) ?_
    refine p_if_ne (tgt := 18) dX3_addStay_13 (by decide) (fun c13 => ?_) (fun c13 => ?_)
    · refine v_aload_n dX3_addStay_18 rfl ?_
      refine v_get (j := 7) (iWO hb) rfl dX3_addStay_19 (by decide) in_X3_addStay_X3 fl_X3_addStay_33 rfl ?_
      refine v_iload_n dX3_addStay_22 rfl ?_
      refine v_dup2 dX3_addStay_23 rfl rfl ?_
      refine v_ialdN a (iW8 hb) dX3_addStay_24 rfl (by omega) (by decide) ?_
      refine v_top (ch_K hw c5) ?_
      refine v_iload_n dX3_addStay_25 rfl ?_
      refine v_iload_n dX3_addStay_26 rfl ?_
      refine v_callSi (M' := M_X3_weekBits) (As := [_, _]) (s_X3_weekBits c13.1 c13.2) dX3_addStay_27 gX3_addStay_X3_weekBits rfl nn_X3_weekBits ⟨rfl, rfl⟩ ⟨by decide, by decide⟩ rfl rfl (Nat.le_of_ble_eq_true rfl) ?_
      refine n_ior dX3_addStay_30 ?_
      refine v_iastN a (iW8 hb) dX3_addStay_31 rfl (by omega) (by decide) ?_
      refine v_iconst (x := nI 1) dX3_addStay_32 (by decide +kernel) ?_
      exact v_zret rfl (by decide) dX3_addStay_33 ⟨congrArg (fun z => some (Value.int z)) (bI_t (by rw [iA, if_pos (by omega)]; rfl)), (Fr.rf b σ).si (by omega) (by omega) _ _, fun w9 h9 => by rw [iA, if_pos (by omega)] at h9; cases h9; exact ch_K1 hw _ _⟩
    · refine v_iconst (x := nI 0) dX3_addStay_16 (by decide +kernel) ?_
      exact v_zret rfl (by decide) dX3_addStay_17 ⟨congrArg (fun z => some (Value.int z)) (bI_f (by rw [iA, if_neg (by omega)]; rfl)), Fr.rf b σ, fun w9 h9 => by rw [iA, if_neg (by omega)] at h9; cases h9⟩
set_option maxRecDepth 100000 in
set_option maxHeartbeats 4000000 in
theorem s_X3_setPace {v : EE} {b : Nat} (hb : isW b) {w : WD} {z : Nat} {σ : SS} (hw : CH b w σ) (hv : WV z w) {a : Nat} (ha : a < 1000) : SR v M_X3_setPace [.ref (v.1 b), .int (nI a)] σ (some (.int (bI (iW w a).isSome))) (fun σ' => Fr b σ σ' ∧ ∀ w', iW w a = some w' → CH b w' σ') := by
  refine Sp.of rfl (by decide) rfl (Nat.le_of_ble_eq_true rfl) ?_
  show V v M_X3_setPace _ 0 [(0, .ref (v.1 b)), (1, .int (nI a))] [] σ
  refine v_iload_n dX3_setPace_0 rfl ?_
  refine v_iconst (x := nI 1) dX3_setPace_1 (by decide +kernel) ?_
  refine n_icmp_lt (tgt := 11) dX3_setPace_2 (by decide) (by omega) (by omega) (fun c2 => ?_) (fun c2 => ?_)
  · refine v_iconst (x := nI 0) dX3_setPace_11 (by decide +kernel) ?_
    exact v_zret rfl (by decide) dX3_setPace_12 ⟨congrArg (fun z => some (Value.int z)) (bI_f (by rw [iW, if_neg (by omega)]; rfl)), Fr.rf b σ, fun w9 h9 => by rw [iW, if_neg (by omega)] at h9; cases h9⟩
  · refine v_iload_n dX3_setPace_5 rfl ?_
    refine v_bipush (x := nI 99) dX3_setPace_6 (by decide +kernel) ?_
    refine n_icmp_le (tgt := 13) dX3_setPace_8 (by decide) (by omega) (by omega) (fun c8 => ?_) (fun c8 => ?_)
    · refine v_aload_n dX3_setPace_13 rfl ?_
      refine v_iload_n dX3_setPace_14 rfl ?_
      refine pX3_11 hb dX3_setPace_15 in_X3_setPace_X3 fl_X3_setPace_36 ?_
      refine v_iconst (x := nI 1) dX3_setPace_18 (by decide +kernel) ?_
      exact v_zret rfl (by decide) dX3_setPace_19 ⟨congrArg (fun z => some (Value.int z)) (bI_t (by rw [iW, if_pos (by omega)]; rfl)), (Fr.rf b σ).si (by omega) (by omega) _ _, fun w9 h9 => by rw [iW, if_pos (by omega)] at h9; cases h9; exact ch_P1 hw a⟩
    · refine v_iconst (x := nI 0) dX3_setPace_11 (by decide +kernel) ?_
      exact v_zret rfl (by decide) dX3_setPace_12 ⟨congrArg (fun z => some (Value.int z)) (bI_f (by rw [iW, if_neg (by omega)]; rfl)), Fr.rf b σ, fun w9 h9 => by rw [iW, if_neg (by omega)] at h9; cases h9⟩
set_option maxRecDepth 100000 in
set_option maxHeartbeats 4000000 in
theorem s_X3_accept_g {v : EE} {b : Nat} (hb : isW b) {w : WD} {z : Nat} {σ : SS} (hw : CH b w σ) (hv : WV z w) {a c : Nat} (ha : a < 1000) (hc : c < 1000) (d : Int32) : SR v M_X3_accept [.ref (v.1 b), .int (nI 103), .int (nI a), .int (nI c), .int d] σ (some (.int (bI (iG w a c).isSome))) (fun σ' => Fr b σ σ' ∧ ∀ w', iG w a c = some w' → CH b w' σ') := by
  refine Sp.of rfl (by decide) rfl (Nat.le_of_ble_eq_true rfl) ?_
  show V v M_X3_accept _ 0 [(0, .ref (v.1 b)), (1, .int (nI 103)), (2, .int (nI a)), (3, .int (nI c)), (4, .int d)] [] σ
  refine v_iload_n dX3_accept_0 rfl ?_
  refine v_tableIn (off := 107) (tgt := 108) dX3_accept_1 (by decide +kernel) (by decide +kernel) (by decide +kernel) (by decide) ?_
  refine v_aload_n dX3_accept_108 rfl ?_
  refine v_iload_n dX3_accept_109 rfl ?_
  refine v_iload_n dX3_accept_110 rfl ?_
  refine v_callVRi (M' := M_X3_addSign) (As := [_, _]) (iWO hb) (s_X3_addSign hb hw hv ha hc) dX3_accept_111 gX3_accept_X3_addSign rfl rfl nn_X3_addSign ⟨rfl, rfl⟩ ⟨by decide, by decide⟩ rfl rfl (Nat.le_of_ble_eq_true rfl) (fun s1 h1 => ?_)
  exact v_zret rfl (bI_01 _) dX3_accept_114 ⟨rfl, h1⟩
set_option maxRecDepth 100000 in
set_option maxHeartbeats 4000000 in
theorem s_X3_accept_c {v : EE} {b : Nat} (hb : isW b) {w : WD} {z : Nat} {σ : SS} (hw : CH b w σ) (hv : WV z w) {a c d : Nat} (ha : a < 1000) (hc : c < 1000) (hd : d < 1000) : SR v M_X3_accept [.ref (v.1 b), .int (nI 99), .int (nI a), .int (nI c), .int (nI d)] σ (some (.int (bI (iC w a c d).isSome))) (fun σ' => Fr b σ σ' ∧ ∀ w', iC w a c d = some w' → CH b w' σ') := by
  refine Sp.of rfl (by decide) rfl (Nat.le_of_ble_eq_true rfl) ?_
  show V v M_X3_accept _ 0 [(0, .ref (v.1 b)), (1, .int (nI 99)), (2, .int (nI a)), (3, .int (nI c)), (4, .int (nI d))] [] σ
  refine v_iload_n dX3_accept_0 rfl ?_
  refine v_tableIn (off := 114) (tgt := 115) dX3_accept_1 (by decide +kernel) (by decide +kernel) (by decide +kernel) (by decide) ?_
  refine v_aload_n dX3_accept_115 rfl ?_
  refine v_iload_n dX3_accept_116 rfl ?_
  refine v_iload_n dX3_accept_117 rfl ?_
  refine v_iload dX3_accept_118 rfl ?_
  refine v_callVRi (M' := M_X3_addCourse) (As := [_, _, _]) (iWO hb) (s_X3_addCourse hb hw hv ha hc hd) dX3_accept_120 gX3_accept_X3_addCourse rfl rfl nn_X3_addCourse ⟨rfl, rfl⟩ ⟨by decide, by decide⟩ rfl rfl (Nat.le_of_ble_eq_true rfl) (fun s1 h1 => ?_)
  exact v_zret rfl (bI_01 _) dX3_accept_123 ⟨rfl, h1⟩
set_option maxRecDepth 100000 in
set_option maxHeartbeats 4000000 in
theorem s_X3_accept_t {v : EE} {b : Nat} (hb : isW b) {w : WD} {z : Nat} {σ : SS} (hw : CH b w σ) (hv : WV z w) {a c d : Nat} (ha : a < 1000) (hc : c < 1000) (hd : d < 1000) : SR v M_X3_accept [.ref (v.1 b), .int (nI 116), .int (nI a), .int (nI c), .int (nI d)] σ (some (.int (bI (iT w a c d).isSome))) (fun σ' => Fr b σ σ' ∧ ∀ w', iT w a c d = some w' → CH b w' σ') := by
  refine Sp.of rfl (by decide) rfl (Nat.le_of_ble_eq_true rfl) ?_
  show V v M_X3_accept _ 0 [(0, .ref (v.1 b)), (1, .int (nI 116)), (2, .int (nI a)), (3, .int (nI c)), (4, .int (nI d))] [] σ
  refine v_iload_n dX3_accept_0 rfl ?_
  refine v_tableIn (off := 123) (tgt := 124) dX3_accept_1 (by decide +kernel) (by decide +kernel) (by decide +kernel) (by decide) ?_
  refine v_aload_n dX3_accept_124 rfl ?_
  refine v_iload_n dX3_accept_125 rfl ?_
  refine v_iload_n dX3_accept_126 rfl ?_
  refine v_iload dX3_accept_127 rfl ?_
  refine v_callVRi (M' := M_X3_addStones) (As := [_, _, _]) (iWO hb) (s_X3_addStones hb hw hv ha hc hd) dX3_accept_129 gX3_accept_X3_addStones rfl rfl nn_X3_addStones ⟨rfl, rfl⟩ ⟨by decide, by decide⟩ rfl rfl (Nat.le_of_ble_eq_true rfl) (fun s1 h1 => ?_)
  exact v_zret rfl (bI_01 _) dX3_accept_132 ⟨rfl, h1⟩
set_option maxRecDepth 100000 in
set_option maxHeartbeats 4000000 in
theorem s_X3_accept_b {v : EE} {b : Nat} (hb : isW b) {w : WD} {z : Nat} {σ : SS} (hw : CH b w σ) (hv : WV z w) {a c : Nat} (ha : a < 1000) (hc : c < 1000) (d : Int32) : SR v M_X3_accept [.ref (v.1 b), .int (nI 98), .int (nI a), .int (nI c), .int d] σ (some (.int (bI (iB w a c).isSome))) (fun σ' => Fr b σ σ' ∧ ∀ w', iB w a c = some w' → CH b w' σ') := by
  refine Sp.of rfl (by decide) rfl (Nat.le_of_ble_eq_true rfl) ?_
  show V v M_X3_accept _ 0 [(0, .ref (v.1 b)), (1, .int (nI 98)), (2, .int (nI a)), (3, .int (nI c)), (4, .int d)] [] σ
  refine v_iload_n dX3_accept_0 rfl ?_
  refine v_tableIn (off := 132) (tgt := 133) dX3_accept_1 (by decide +kernel) (by decide +kernel) (by decide +kernel) (by decide) ?_
  refine v_aload_n dX3_accept_133 rfl ?_
  refine v_iload_n dX3_accept_134 rfl ?_
  refine v_iload_n dX3_accept_135 rfl ?_
  refine v_callVRi (M' := M_X3_addBegun) (As := [_, _]) (iWO hb) (s_X3_addBegun hb hw hv ha hc) dX3_accept_136 gX3_accept_X3_addBegun rfl rfl nn_X3_addBegun ⟨rfl, rfl⟩ ⟨by decide, by decide⟩ rfl rfl (Nat.le_of_ble_eq_true rfl) (fun s1 h1 => ?_)
  exact v_zret rfl (bI_01 _) dX3_accept_139 ⟨rfl, h1⟩
set_option maxRecDepth 100000 in
set_option maxHeartbeats 4000000 in
theorem s_X3_accept_n {v : EE} {b : Nat} (hb : isW b) {w : WD} {z : Nat} {σ : SS} (hw : CH b w σ) (hv : WV z w) {a c : Nat} (ha : a < 1000) (hc : c < 1000) (d : Int32) : SR v M_X3_accept [.ref (v.1 b), .int (nI 110), .int (nI a), .int (nI c), .int d] σ (some (.int (bI (iN w a c).isSome))) (fun σ' => Fr b σ σ' ∧ ∀ w', iN w a c = some w' → CH b w' σ') := by
  refine Sp.of rfl (by decide) rfl (Nat.le_of_ble_eq_true rfl) ?_
  show V v M_X3_accept _ 0 [(0, .ref (v.1 b)), (1, .int (nI 110)), (2, .int (nI a)), (3, .int (nI c)), (4, .int d)] [] σ
  refine v_iload_n dX3_accept_0 rfl ?_
  refine v_tableIn (off := 139) (tgt := 140) dX3_accept_1 (by decide +kernel) (by decide +kernel) (by decide +kernel) (by decide) ?_
  refine v_aload_n dX3_accept_140 rfl ?_
  refine v_iload_n dX3_accept_141 rfl ?_
  refine v_iload_n dX3_accept_142 rfl ?_
  refine v_callVRi (M' := M_X3_addName) (As := [_, _]) (iWO hb) (s_X3_addName hb hw hv ha hc) dX3_accept_143 gX3_accept_X3_addName rfl rfl nn_X3_addName ⟨rfl, rfl⟩ ⟨by decide, by decide⟩ rfl rfl (Nat.le_of_ble_eq_true rfl) (fun s1 h1 => ?_)
  exact v_zret rfl (bI_01 _) dX3_accept_146 ⟨rfl, h1⟩
set_option maxRecDepth 100000 in
set_option maxHeartbeats 4000000 in
theorem s_X3_accept_a {v : EE} {b : Nat} (hb : isW b) {w : WD} {z : Nat} {σ : SS} (hw : CH b w σ) (hv : WV z w) {a c d : Nat} (ha : a < 1000) (hc : c < 1000) (hd : d < 1000) : SR v M_X3_accept [.ref (v.1 b), .int (nI 97), .int (nI a), .int (nI c), .int (nI d)] σ (some (.int (bI (iA w a c d).isSome))) (fun σ' => Fr b σ σ' ∧ ∀ w', iA w a c d = some w' → CH b w' σ') := by
  refine Sp.of rfl (by decide) rfl (Nat.le_of_ble_eq_true rfl) ?_
  show V v M_X3_accept _ 0 [(0, .ref (v.1 b)), (1, .int (nI 97)), (2, .int (nI a)), (3, .int (nI c)), (4, .int (nI d))] [] σ
  refine v_iload_n dX3_accept_0 rfl ?_
  refine v_tableIn (off := 146) (tgt := 147) dX3_accept_1 (by decide +kernel) (by decide +kernel) (by decide +kernel) (by decide) ?_
  refine v_aload_n dX3_accept_147 rfl ?_
  refine v_iload_n dX3_accept_148 rfl ?_
  refine v_iload_n dX3_accept_149 rfl ?_
  refine v_iload dX3_accept_150 rfl ?_
  refine v_callVRi (M' := M_X3_addStay) (As := [_, _, _]) (iWO hb) (s_X3_addStay hb hw hv ha hc hd) dX3_accept_152 gX3_accept_X3_addStay rfl rfl nn_X3_addStay ⟨rfl, rfl⟩ ⟨by decide, by decide⟩ rfl rfl (Nat.le_of_ble_eq_true rfl) (fun s1 h1 => ?_)
  exact v_zret rfl (bI_01 _) dX3_accept_155 ⟨rfl, h1⟩
set_option maxRecDepth 100000 in
set_option maxHeartbeats 4000000 in
theorem s_X3_accept_w {v : EE} {b : Nat} (hb : isW b) {w : WD} {z : Nat} {σ : SS} (hw : CH b w σ) (hv : WV z w) {a : Nat} (ha : a < 1000) (c d : Int32) : SR v M_X3_accept [.ref (v.1 b), .int (nI 119), .int (nI a), .int c, .int d] σ (some (.int (bI (iW w a).isSome))) (fun σ' => Fr b σ σ' ∧ ∀ w', iW w a = some w' → CH b w' σ') := by
  refine Sp.of rfl (by decide) rfl (Nat.le_of_ble_eq_true rfl) ?_
  show V v M_X3_accept _ 0 [(0, .ref (v.1 b)), (1, .int (nI 119)), (2, .int (nI a)), (3, .int c), (4, .int d)] [] σ
  refine v_iload_n dX3_accept_0 rfl ?_
  refine v_tableIn (off := 155) (tgt := 156) dX3_accept_1 (by decide +kernel) (by decide +kernel) (by decide +kernel) (by decide) ?_
  refine v_aload_n dX3_accept_156 rfl ?_
  refine v_iload_n dX3_accept_157 rfl ?_
  refine v_callVRi (M' := M_X3_setPace) (As := [_]) (iWO hb) (s_X3_setPace hb hw hv ha) dX3_accept_158 gX3_accept_X3_setPace rfl rfl nn_X3_setPace ⟨rfl, rfl⟩ ⟨by decide, by decide⟩ rfl rfl (Nat.le_of_ble_eq_true rfl) (fun s1 h1 => ?_)
  exact v_zret rfl (bI_01 _) dX3_accept_161 ⟨rfl, h1⟩
