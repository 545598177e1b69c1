theorem in_X2_append_X2 : ∀ w ∈ u_ws RX2 TX2 3, w ∈ mWs M_X2_append := by decide +kernel
theorem in_X4_fault_X4 : ∀ w ∈ u_ws RX4 TX4 8, w ∈ mWs M_X4_fault := by decide +kernel
theorem in_X4_lay_X3 : ∀ w ∈ u_ws RX3 TX3 12, w ∈ mWs M_X4_lay := by decide +kernel
theorem in_X4_lay_X4 : ∀ w ∈ u_ws RX4 TX4 8, w ∈ mWs M_X4_lay := by decide +kernel
theorem in_X4_wipe_X2 : ∀ w ∈ u_ws RX2 TX2 3, w ∈ mWs M_X4_wipe := by decide +kernel
theorem in_X4_wipe_X4 : ∀ w ∈ u_ws RX4 TX4 8, w ∈ mWs M_X4_wipe := by decide +kernel
theorem in_X4_write_X2 : ∀ w ∈ u_ws RX2 TX2 3, w ∈ mWs M_X4_write := by decide +kernel
theorem in_X4_write_X4 : ∀ w ∈ u_ws RX4 TX4 8, w ∈ mWs M_X4_write := by decide +kernel
theorem fl_X2_append_9 : Cond.fieldLink (mOwn M_X2_append) 9 (TX2 0).1 (TX2 0).2.1 (TX2 0).2.2.1 ∈ mWs M_X2_append := by decide +kernel
theorem fl_X2_append_19 : Cond.fieldLink (mOwn M_X2_append) 19 (TX2 2).1 (TX2 2).2.1 (TX2 2).2.2.1 ∈ mWs M_X2_append := by decide +kernel
theorem fl_X4_fault_12 : Cond.fieldLink (mOwn M_X4_fault) 12 (TX4 0).1 (TX4 0).2.1 (TX4 0).2.2.1 ∈ mWs M_X4_fault := by decide +kernel
theorem fl_X4_fault_46 : Cond.fieldLink (mOwn M_X4_fault) 46 (TX4 6).1 (TX4 6).2.1 (TX4 6).2.2.1 ∈ mWs M_X4_fault := by decide +kernel
theorem fl_X4_lay_12 : Cond.fieldLink (mOwn M_X4_lay) 12 (TX4 0).1 (TX4 0).2.1 (TX4 0).2.2.1 ∈ mWs M_X4_lay := by decide +kernel
theorem fl_X4_lay_42 : Cond.fieldLink (mOwn M_X4_lay) 42 (TX4 5).1 (TX4 5).2.1 (TX4 5).2.2.1 ∈ mWs M_X4_lay := by decide +kernel
theorem fl_X4_lay_46 : Cond.fieldLink (mOwn M_X4_lay) 46 (TX4 6).1 (TX4 6).2.1 (TX4 6).2.2.1 ∈ mWs M_X4_lay := by decide +kernel
theorem fl_X4_lay_49 : Cond.fieldLink (mOwn M_X4_lay) 49 (TX4 7).1 (TX4 7).2.1 (TX4 7).2.2.1 ∈ mWs M_X4_lay := by decide +kernel
theorem fl_X4_lay_64 : Cond.fieldLink (mOwn M_X4_lay) 64 (TX3 9).1 (TX3 9).2.1 (TX3 9).2.2.1 ∈ mWs M_X4_lay := by decide +kernel
theorem fl_X4_wipe_12 : Cond.fieldLink (mOwn M_X4_wipe) 12 (TX4 0).1 (TX4 0).2.1 (TX4 0).2.2.1 ∈ mWs M_X4_wipe := by decide +kernel
theorem fl_X4_wipe_53 : Cond.fieldLink (mOwn M_X4_wipe) 53 (TX2 2).1 (TX2 2).2.1 (TX2 2).2.2.1 ∈ mWs M_X4_wipe := by decide +kernel
theorem fl_X4_write_12 : Cond.fieldLink (mOwn M_X4_write) 12 (TX4 0).1 (TX4 0).2.1 (TX4 0).2.2.1 ∈ mWs M_X4_write := by decide +kernel
theorem fl_X4_write_53 : Cond.fieldLink (mOwn M_X4_write) 53 (TX2 2).1 (TX2 2).2.1 (TX2 2).2.2.1 ∈ mWs M_X4_write := by decide +kernel
theorem nn_X2_append : (mY M_X2_append).cls = mOwn M_X2_append ∧ (mY M_X2_append).cls ≠ "java/lang/invoke/MethodHandle" ∧ (mY M_X2_append).cls ≠ "java/lang/invoke/VarHandle" ∧ (parseMethodDescriptor (mY M_X2_append).desc).map (fun d => d.parameters.length) = some 2 := by decide +kernel
theorem nn_X2_tellTo : (mY M_X2_tellTo).cls = mOwn M_X2_tellTo ∧ (mY M_X2_tellTo).cls ≠ "java/lang/invoke/MethodHandle" ∧ (mY M_X2_tellTo).cls ≠ "java/lang/invoke/VarHandle" ∧ (parseMethodDescriptor (mY M_X2_tellTo).desc).map (fun d => d.parameters.length) = some 1 := by decide +kernel
/-! what an object is: its text, its wall, what is kept -/
abbrev AS : Type := (Nat → Nat) × Nat × WD × Nat × (Nat → Nat → Nat)
abbrev aU (s : AS) : Nat → Nat := s.1
abbrev aL (s : AS) : Nat := s.2.1
abbrev aW (s : AS) : WD := s.2.2.1
abbrev aK (s : AS) : Nat := s.2.2.2.1
abbrev aX (s : AS) : Nat → Nat → Nat := s.2.2.2.2
/-- of the class -/
def RC (s : AS) (σ : SS) : Prop := (isW σ.2.2.1 ∧ σ.2.2.2 = 53 - σ.2.2.1 ∧ σ.1 17 0 = 0) ∧ CT (aU s) (aL s) σ ∧ CH σ.2.2.1 (aW s) σ ∧ (σ.1 0 7 = nI (aK s) ∧ aK s ≤ 2) ∧ ∀ i j, i < aK s → j < 288 → σ.1 (20 + i) j = nI (aX s i j)
/-- of the reference -/
def RM (s : AS) (σ : SS) : Prop := MTx (aU s) (aL s) σ ∧ MH 0 (aW s) σ ∧ (σ.1 40 11 = nI (aK s) ∧ aK s ≤ 2) ∧ ∀ i j, i < aK s → j < 288 → σ.1 50 (288 * (i + 1) + j) = nI (aX s i j)
/-- what is sure of it -/
def PV (z : Nat) (s : AS) : Prop := aL s ≤ 500 ∧ WV z (aW s) ∧ aK s ≤ 2 ∧ ∀ i, i < aK s → (∀ j, j < 288 → aX s i j ≤ z) ∧ ∀ c k, c < 16 → wS (aW s) ≤ k → k < 16 → aX s i (c * 18 + k) = 0
def FC (σ σ' : SS) : Prop := (∀ a, 40 ≤ a ∧ a < 61 → σ'.1 a = σ.1 a) ∧ σ'.2.1 = σ.2.1
def FM (σ σ' : SS) : Prop := (∀ a, a < 40 → σ'.1 a = σ.1 a) ∧ σ'.2.2 = σ.2.2
theorem FC.rf (σ : SS) : FC σ σ := ⟨fun _ _ => rfl, rfl⟩
theorem FM.rf (σ : SS) : FM σ σ := ⟨fun _ _ => rfl, rfl⟩
theorem FC.rm {s : AS} {σ τ : SS} (h : FC σ τ) (hr : RM s σ) : RM s τ := by
  have e : ∀ a, 40 ≤ a ∧ a < 61 → τ.1 a = σ.1 a := h.1
  obtain ⟨h1, h2, h3, h4⟩ := hr
  refine ⟨⟨by rw [e 40 (by decide)]; exact h1.1, h1.2.1, fun j hj => by rw [e 41 (by decide)]; exact h1.2.2 j hj⟩, ?_, by rw [e 40 (by decide)]; exact h3, fun i j hi hj => by rw [e 50 (by decide)]; exact h4 i j hi hj⟩
  unfold MH at h2 ⊢
  rw [e 42 (by decide), e 43 (by decide), e 44 (by decide), e 45 (by decide), e 46 (by decide), e 47 (by decide), e 48 (by decide), e 49 (by decide), e 50 (by decide)]
  exact h2
theorem CH.of {b : Nat} {w : WD} {σ τ : SS} (h : CH b w σ) (e : ∀ i, i ≤ 8 → τ.1 (b + i) = σ.1 (b + i)) : CH b w τ := by
  obtain ⟨h1, h5, h6, h7, h8, h9⟩ := h
  have e0 : τ.1 b = σ.1 b := e 0 (by omega)
  refine ⟨by rw [e0]; exact h1, ?_, ?_, ?_, ?_, ?_⟩
  · rw [e 1 (by omega), e 2 (by omega)]; exact h5
  · rw [e 3 (by omega), e 4 (by omega), e 5 (by omega)]; exact h6
  · rw [e 6 (by omega)]; exact h7
  · rw [e 7 (by omega)]; exact h8
  · rw [e 8 (by omega)]; exact h9
theorem FM.rc {s : AS} {σ τ : SS} (h : FM σ τ) (hr : RC s σ) : RC s τ := by
  obtain ⟨⟨h1, h2⟩, h3, h4, h5, h6⟩ := hr
  have e : ∀ a, a < 40 → τ.1 a = σ.1 a := h.1
  have hw : σ.2.2.1 = 22 ∨ σ.2.2.1 = 31 := h1
  refine ⟨by rw [h.2, e 17 (by decide)]; exact ⟨h1, h2⟩, ⟨by rw [e 1 (by decide)]; exact h3.1, h3.2.1, fun j hj => by rw [e 2 (by decide)]; exact h3.2.2 j hj⟩, ?_, by rw [e 0 (by decide)]; exact h5, fun i j hi hj => ?_⟩
  · rw [h.2]
    exact h4.of (fun i hi => e _ (by omega))
  · rw [e _ (by have := h5.2; omega)]; exact h6 i j hi hj
theorem RC.la {s : AS} {σ : SS} (h : RC s σ) : isW σ.2.2.1 := h.1.1
theorem RC.dr {s : AS} {σ : SS} (h : RC s σ) : isW σ.2.2.2 := by
  have h1 := h.1.1
  have h2 := h.1.2.1
  rcases h1 with e | e
  · right; rw [h2, e]
  · left; rw [h2, e]
theorem RC.g0 {s : AS} {σ : SS} (h : RC s σ) : σ.1 17 0 = 0 := h.1.2.2
theorem RC.ct {s : AS} {σ : SS} (h : RC s σ) : CT (aU s) (aL s) σ := h.2.1
theorem RC.ch {s : AS} {σ : SS} (h : RC s σ) : CH σ.2.2.1 (aW s) σ := h.2.2.1
/-- one byte of a long, the i-th from below -/
def by8 (x : Int64) (i : Nat) : Nat := (x >>> (((8 : Int32) * nI i).toInt64 &&& 63)).toInt32.toBitVec.toNat % 256
def apU (u : Nat → Nat) (len n : Nat) (x : Int64) : Nat → Nat := fun j => if len ≤ j ∧ j < len + n then by8 x (n - 1 - (j - len)) else u j
/-- a row of bytes, t of n written -/
def apF (f : Nat → Int32) (len n : Nat) (x : Int64) (t : Nat) : Nat → Int32 := fun j => if len ≤ j ∧ j < len + t then sb_b (by8 x (n - 1 - (j - len))) else f j
theorem apF_0 (f : Nat → Int32) (len n : Nat) (x : Int64) : apF f len n x 0 = f := by
  funext j
  rw [apF, if_neg (by omega)]
theorem apF_s (f : Nat → Int32) (len n : Nat) (x : Int64) {t : Nat} (ht : t < n) : upd (apF f len n x t) (len + t) (sb_b (by8 x (n - 1 - t))) = apF f len n x (t + 1) := by
  funext j
  by_cases h : j = len + t
  · subst h
    rw [apF, if_pos (by omega), show n - 1 - (len + t - len) = n - 1 - t by omega]
    simp [upd]
  · simp only [upd, h, if_false, apF]
    by_cases c : len ≤ j ∧ j < len + t
    · rw [if_pos c, if_pos (by omega)]
    · rw [if_neg c, if_neg (by omega)]
def dn : Nat → Int32
  | 0 => -1
  | k + 1 => nI k
theorem dn_s (k : Nat) : dn (k + 1) + Int32.ofInt (-1) = dn k := by
  cases k with
  | zero => rfl
  | succ k => exact pk_m1 k
theorem sI_sF_ne (σ : SS) {q r : Nat} (h : q ≠ r) (f : Nat → Int32) (j : Nat) (x : Int32) : sI (sF σ r f) q j x = sF (sI σ q j x) r f := by
  simp only [sI, sF]
  congr 1
  funext a
  by_cases h1 : a = q
  · subst h1
    have h2 : ¬ a = r := h
    simp [h2]
  · by_cases h2 : a = r
    · simp [h1, h2]
      intro e; exact absurd e.symm h
    · simp [h1, h2]
theorem sF_row (σ : SS) (q : Nat) (f : Nat → Int32) : (sF σ q f).1 q = f := by simp [sF]
theorem sF_ne (σ : SS) {q a : Nat} (h : a ≠ q) (f : Nat → Int32) : (sF σ q f).1 a = σ.1 a := by simp [sF, h]
theorem sF_2 (σ : SS) (q : Nat) (f : Nat → Int32) : (sF σ q f).2 = σ.2 := rfl
theorem nar_by8 (x : Int64) (i : Nat) : vp_nar .byte ((x >>> (((8 : Int32) * nI i).toInt64 &&& 63)).toInt32.toInt8.toInt32) = sb_b (by8 x i) := by rw [pk_vb, byte_sb]; rfl
set_option maxRecDepth 100000 in
set_option maxHeartbeats 4000000 in
theorem s_X2_append {v : EE} {u : Nat → Nat} {len : Nat} {σ : SS} (hT : CT u len σ) {n : Nat} (hn : 1 ≤ n) (hl : len + n ≤ 500) {x : Int64} : S1 v M_X2_append [.ref (v.1 1), .int (nI n), .long x] σ none (sF (sF σ 2 (apF (σ.1 2) len n x n)) 1 (upd (σ.1 1) 2 (nI (len + n)))) := by
  refine Sp.of rfl (by decide) rfl (Nat.le_of_ble_eq_true rfl) ?_
  show V v M_X2_append _ 0 [(0, .ref (v.1 1)), (1, .int (nI n)), (2, .long x)] [] σ
  refine v_iload_n dX2_append_0 rfl ?_
  refine v_iconst (x := 1) dX2_append_1 rfl ?_
  refine v_isub dX2_append_2 ?_
  refine v_top (y := dn n) (by obtain ⟨k, rfl⟩ : ∃ k, n = k + 1 := ⟨n - 1, by omega⟩; exact nI_pred k) ?_
  refine v_istore (L' := [(4, _), (0, _), (1, _), (2, _)]) dX2_append_3 (by decide) rfl ?_
  refine v_st (σ' := sF (sF σ 2 (apF (σ.1 2) len n x 0)) 1 (upd (σ.1 1) 2 (nI (len + 0)))) (by rw [apF_0, sF_self, Nat.add_zero, ← hT.1, fa_upd_same rfl, sF_self]) ?_
  refine v_sub [1, 2, 3, 0] rfl ?_
  refine loopN (fun i => V v M_X2_append (zR v M_X2_append (fun r' σ' => r' = none ∧ σ' = (sF (sF σ 2 (apF (σ.1 2) len n x n)) 1 (upd (σ.1 1) 2 (nI (len + n)))))) 5 [(0, .ref (v.1 1)), (1, .int (nI n)), (2, .long x), (4, .int (dn (n - i)))] [] (sF (sF σ 2 (apF (σ.1 2) len n x i)) 1 (upd (σ.1 1) 2 (nI (len + i))))) n ?_ ?_
  · intro i hi ih
    obtain ⟨k, hk⟩ : ∃ k, n - i = k + 1 := ⟨n - i - 1, by omega⟩
    rw [hk]
    refine v_iload dX2_append_5 rfl ?_
    refine v_if_lt (tgt := 54) dX2_append_7 (by decide) (fun c7 => absurd c7 (nI_pos (by omega))) (fun c7 => ?_)
    refine v_aload_n dX2_append_10 rfl ?_
    refine v_get (j := 2) iO1 rfl dX2_append_11 (by decide) in_X2_append_X2 fl_X2_append_19 rfl ?_
    refine v_top (y := nI (len + i)) (by rw [sF_row]; simp [upd]) ?_
    refine v_sipush (x := 500) dX2_append_14 (by decide +kernel) ?_
    refine v_icmp_ge (tgt := 54) dX2_append_17 (by decide) (fun c17 => absurd c17 (nI_ge (show len + i < 500 by omega) (by decide))) (fun c17 => ?_)
    refine v_aload_n dX2_append_20 rfl ?_
    refine v_get (j := 0) iO1 rfl dX2_append_21 (by decide) in_X2_append_X2 fl_X2_append_9 rfl ?_
    refine v_aload_n dX2_append_24 rfl ?_
    refine v_get (j := 2) iO1 rfl dX2_append_25 (by decide) in_X2_append_X2 fl_X2_append_19 rfl ?_
    refine v_top (y := nI (len + i)) (by rw [sF_row]; simp [upd]) ?_
    refine v_lload_n dX2_append_28 rfl ?_
    refine v_bipush (x := 8) dX2_append_29 (by decide +kernel) ?_
    refine v_iload dX2_append_31 rfl ?_
    refine v_imul dX2_append_33 ?_
    refine v_lshr dX2_append_34 rfl ?_
    refine v_l2i dX2_append_35 ?_
    refine v_i2b dX2_append_36 ?_
    refine v_bastN (len + i) iB2 dX2_append_37 rfl (by omega) (by decide) ?_
    refine v_st (σ' := sF (sF σ 2 (apF (σ.1 2) len n x (i + 1))) 1 (upd (σ.1 1) 2 (nI (len + i)))) (by rw [show dn (k + 1) = nI k from rfl, nar_by8, sI_sF_ne _ (by decide), sI_sF, show k = n - 1 - i by omega, apF_s _ _ _ _ hi]) ?_
    refine v_aload_n dX2_append_38 rfl ?_
    refine v_dup dX2_append_39 rfl ?_
    refine v_get (j := 2) iO1 rfl dX2_append_40 (by decide) in_X2_append_X2 fl_X2_append_19 rfl ?_
    refine v_top (y := nI (len + i)) (by rw [sF_row]; simp [upd]) ?_
    refine v_iconst (x := 1) dX2_append_43 rfl ?_
    refine v_iadd dX2_append_44 ?_
    refine pX2_2 dX2_append_45 in_X2_append_X2 fl_X2_append_19 ?_
    refine v_st (σ' := sF (sF σ 2 (apF (σ.1 2) len n x (i + 1))) 1 (upd (σ.1 1) 2 (nI (len + (i + 1))))) (by rw [sI_sF, nI_1, fa_upd_twice]; rfl) ?_
    refine v_iinc (y := dn k) (L' := [(4, .int (dn k)), (0, _), (1, _), (2, _)]) dX2_append_48 rfl (dn_s k) (by decide) rfl ?_
    refine v_goto (tgt := 5) dX2_append_51 (by decide) ?_
    refine v_sub [1, 2, 3, 0] rfl ?_
    rw [show n - (i + 1) = k by omega] at ih
    exact ih
  · rw [Nat.sub_self]
    refine v_iload dX2_append_5 rfl ?_
    refine v_if_lt (tgt := 54) dX2_append_7 (by decide) (fun c7 => ?_) (fun c7 => absurd (by decide) c7)
    exact v_vret rfl dX2_append_54 ⟨rfl, rfl⟩
theorem by8_lt (x : Int64) (i : Nat) : by8 x i < 256 := Nat.mod_lt _ (by decide)
def q_write (s : AS) (n : Int32) (x : Int64) : Int32 × AS := if n < 1 ∨ 8 < n then (-1, s) else if 500 < aL s + n.toNatClampNeg then (-3, s) else (nI (aL s + n.toNatClampNeg), (apU (aU s) (aL s) n.toNatClampNeg x, aL s + n.toNatClampNeg, s.2.2))
theorem wr_cases (n : Int32) : (n < 1 ∨ 8 < n) ∨ ∃ k, 1 ≤ k ∧ k ≤ 8 ∧ n = nI k := by
  by_cases h : n < 1
  · exact Or.inl (Or.inl h)
  · by_cases h2 : 8 < n
    · exact Or.inl (Or.inr h2)
    · right
      obtain ⟨k, hk, e⟩ := nI_of (x := n) (by rw [Int32.lt_iff_toInt_lt] at h ⊢; rw [Int32.toInt_zero]; rw [Int32.toInt_one] at h; omega)
      subst e
      refine ⟨k, ?_, ?_, rfl⟩
      · exact Nat.not_lt.mp (fun q => h ((nI_ltI (b := 1) hk (by decide)).mpr q))
      · exact Nat.not_lt.mp (fun q => h2 ((nI_ltI (a := 8) (by decide) hk).mpr q))
theorem rc_write {s : AS} {σ : SS} (h : RC s σ) {n : Nat} (hl : aL s + n ≤ 500) (x : Int64) : RC (apU (aU s) (aL s) n x, aL s + n, s.2.2) (sF (sF σ 2 (apF (σ.1 2) (aL s) n x n)) 1 (upd (σ.1 1) 2 (nI (aL s + n)))) ∧ FC σ (sF (sF σ 2 (apF (σ.1 2) (aL s) n x n)) 1 (upd (σ.1 1) 2 (nI (aL s + n)))) := by
  obtain ⟨h1, h2, h3, h4, h5⟩ := h
  have hw : σ.2.2.1 = 22 ∨ σ.2.2.1 = 31 := h1.1
  have e : ∀ a, a ≠ 1 → a ≠ 2 → (sF (sF σ 2 (apF (σ.1 2) (aL s) n x n)) 1 (upd (σ.1 1) 2 (nI (aL s + n)))).1 a = σ.1 a := fun a g1 g2 => by rw [sF_ne _ g1, sF_ne _ g2]
  refine ⟨⟨h1, ⟨?_, hl, fun j hj => ?_⟩, ?_, ?_, fun i j hi hj => ?_⟩, fun a ha => e a (by omega) (by omega), rfl⟩
  · rw [sF_row]; simp [upd]
  · rw [sF_ne _ (by decide), sF_row]
    show apU (aU s) (aL s) n x j < 256 ∧ apF (σ.1 2) (aL s) n x n j = sb_b (apU (aU s) (aL s) n x j)
    have hj : j < aL s + n := hj
    rw [apU, apF]
    by_cases c : aL s ≤ j ∧ j < aL s + n
    · rw [if_pos c, if_pos c]; exact ⟨by8_lt _ _, rfl⟩
    · rw [if_neg c, if_neg c]; exact h2.2.2 j (by omega)
  · exact h3.of (fun i hi => e _ (by show σ.2.2.1 + i ≠ 1; omega) (by show σ.2.2.1 + i ≠ 2; omega))
  · rw [e 0 (by decide) (by decide)]; exact h4
  · rw [e _ (by omega) (by omega)]; exact h5 i j hi hj
set_option maxRecDepth 100000 in
set_option maxHeartbeats 4000000 in
theorem s_X4_write {v : EE} {s : AS} {σ : SS} (hr : RC s σ) (n : Int32) (x : Int64) : SR v M_X4_write [.ref (v.1 0), .int n, .long x] σ (some (.int (q_write s n x).1)) (fun σ' => RC (q_write s n x).2 σ' ∧ FC σ σ') := by
  refine Sp.of rfl (by decide) rfl (Nat.le_of_ble_eq_true rfl) ?_
  show V v M_X4_write _ 0 [(0, .ref (v.1 0)), (1, .int n), (2, .long x)] [] σ
  rcases wr_cases n with hb9 | ⟨k, h1, h8, rfl⟩
  · refine v_iload_n dX4_write_0 rfl ?_
    refine v_iconst (x := 1) dX4_write_1 rfl ?_
    refine v_icmp_lt (tgt := 11) dX4_write_2 (by decide) (fun c2 => ?_) (fun c2 => ?_)
    · refine v_iconst (x := (-1)) dX4_write_11 rfl ?_
      exact v_iret rfl dX4_write_12 ⟨congrArg (fun z => some (Value.int z)) (by rw [q_write, if_pos hb9]), by rw [q_write, if_pos hb9]; exact hr, FC.rf σ⟩
    · refine v_iload_n dX4_write_5 rfl ?_
      refine v_bipush (x := 8) dX4_write_6 (by decide +kernel) ?_
      refine v_icmp_le (tgt := 13) dX4_write_8 (by decide) (fun c8 => ?_) (fun c8 => ?_)
      · exact absurd hb9 (fun q => q.elim c2 (fun q => by rw [Int32.lt_iff_toInt_lt] at q; rw [Int32.le_iff_toInt_le] at c8; omega))
      · refine v_iconst (x := (-1)) dX4_write_11 rfl ?_
        exact v_iret rfl dX4_write_12 ⟨congrArg (fun z => some (Value.int z)) (by rw [q_write, if_pos hb9]), by rw [q_write, if_pos hb9]; exact hr, FC.rf σ⟩
  · have hl := hr.ct.2.1
    refine v_iload_n dX4_write_0 rfl ?_
    refine v_iconst (x := nI 1) dX4_write_1 (by decide +kernel) ?_
    refine n_icmp_lt (tgt := 11) dX4_write_2 (by decide) (by omega) (by omega) (fun c2 => absurd c2 (by omega)) (fun c2 => ?_)
    refine v_iload_n dX4_write_5 rfl ?_
    refine v_bipush (x := nI 8) dX4_write_6 (by decide +kernel) ?_
    refine n_icmp_le (tgt := 13) dX4_write_8 (by decide) (by omega) (by omega) (fun c8 => ?_) (fun c8 => absurd c8 (by omega))
    refine v_aload_n dX4_write_13 rfl ?_
    refine v_get (j := 0) iO0 rfl dX4_write_14 (by decide) in_X4_write_X4 fl_X4_write_12 rfl ?_
    refine v_get (j := 2) iO1 rfl dX4_write_17 (by decide) in_X4_write_X2 fl_X4_write_53 rfl ?_
    refine v_top hr.ct.1 ?_
    refine v_iload_n dX4_write_20 rfl ?_
    refine n_iadd dX4_write_21 ?_
    refine v_sipush (x := nI 500) dX4_write_22 (by decide +kernel) ?_
    refine n_icmp_le (tgt := 31) dX4_write_25 (by decide) (by omega) (by omega) (fun c25 => ?_) (fun c25 => ?_)
    · refine v_aload_n dX4_write_31 rfl ?_
      refine v_get (j := 0) iO0 rfl dX4_write_32 (by decide) in_X4_write_X4 fl_X4_write_12 rfl ?_
      refine v_iload_n dX4_write_35 rfl ?_
      refine v_lload_n dX4_write_36 rfl ?_
      refine v_callVv (M' := M_X2_append) (As := [_, _]) iO1 (s_X2_append hr.ct h1 (by omega)) dX4_write_37 gX4_write_X2_append rfl rfl nn_X2_append ⟨rfl, rfl⟩ ⟨by decide, by decide⟩ rfl rfl (Nat.le_of_ble_eq_true rfl) ?_
      refine v_aload_n dX4_write_40 rfl ?_
      refine v_get (j := 0) iO0 rfl dX4_write_41 (by decide) in_X4_write_X4 fl_X4_write_12 rfl ?_
      refine v_get (j := 2) iO1 rfl dX4_write_44 (by decide) in_X4_write_X2 fl_X4_write_53 rfl ?_
      refine v_top (y := nI (aL s + k)) (by rw [sF_row]; simp [upd]) ?_
      exact v_iret rfl dX4_write_47 ⟨congrArg (fun z => some (Value.int z)) (by rw [q_write, if_neg (show ¬ (nI k < 1 ∨ 8 < nI k) from fun q => q.elim (fun q => by have := (nI_ltI (b := 1) (by omega) (by decide)).mp q; omega) (fun q => by have := (nI_ltI (a := 8) (by decide) (by omega)).mp q; omega)), nI_clamp (by omega), if_neg (by omega)]), by rw [q_write, if_neg (show ¬ (nI k < 1 ∨ 8 < nI k) from fun q => q.elim (fun q => by have := (nI_ltI (b := 1) (by omega) (by decide)).mp q; omega) (fun q => by have := (nI_ltI (a := 8) (by decide) (by omega)).mp q; omega)), nI_clamp (by omega), if_neg (by omega)]; exact (rc_write hr (by omega) x).1, (rc_write hr (by omega) x).2⟩
    · refine v_bipush (x := (-3)) dX4_write_28 (by decide +kernel) ?_
      exact v_iret rfl dX4_write_30 ⟨congrArg (fun z => some (Value.int z)) (by rw [q_write, if_neg (show ¬ (nI k < 1 ∨ 8 < nI k) from fun q => q.elim (fun q => by have := (nI_ltI (b := 1) (by omega) (by decide)).mp q; omega) (fun q => by have := (nI_ltI (a := 8) (by decide) (by omega)).mp q; omega)), nI_clamp (by omega), if_pos (by omega)]), by rw [q_write, if_neg (show ¬ (nI k < 1 ∨ 8 < nI k) from fun q => q.elim (fun q => by have := (nI_ltI (b := 1) (by omega) (by decide)).mp q; omega) (fun q => by have := (nI_ltI (a := 8) (by decide) (by omega)).mp q; omega)), nI_clamp (by omega), if_pos (by omega)]; exact hr, FC.rf σ⟩
theorem rc_wipe {s : AS} {σ : SS} (h : RC s σ) : RC (aU s, 0, s.2.2) (sI σ 1 2 (nI 0)) ∧ FC σ (sI σ 1 2 (nI 0)) := by
  obtain ⟨h1, h2, h3, h4, h5⟩ := h
  have hw : σ.2.2.1 = 22 ∨ σ.2.2.1 = 31 := h1.1
  have e : ∀ a, a ≠ 1 → (sI σ 1 2 (nI 0)).1 a = σ.1 a := fun a g1 => sI_row σ _ g1
  refine ⟨⟨h1, ⟨sI_at _ _ _ _, Nat.zero_le _, fun j hj => absurd hj (Nat.not_lt_zero j)⟩, ?_, ?_, fun i j hi hj => ?_⟩, fun a ha => e a (by omega), rfl⟩
  · exact h3.of (fun i hi => e _ (by show σ.2.2.1 + i ≠ 1; omega))
  · rw [e 0 (by decide)]; exact h4
  · rw [e _ (by omega)]; exact h5 i j hi hj
set_option maxRecDepth 100000 in
set_option maxHeartbeats 4000000 in
theorem s_X4_wipe {v : EE} {s : AS} {σ : SS} (hr : RC s σ) : SR v M_X4_wipe [.ref (v.1 0)] σ (some (.int (nI (aL s)))) (fun σ' => RC (aU s, 0, s.2.2) σ' ∧ FC σ σ') := by
  refine Sp.of rfl (by decide) rfl (Nat.le_of_ble_eq_true rfl) ?_
  show V v M_X4_wipe _ 0 [(0, .ref (v.1 0))] [] σ
  refine v_aload_n dX4_wipe_0 rfl ?_
  refine v_get (j := 0) iO0 rfl dX4_wipe_1 (by decide) in_X4_wipe_X4 fl_X4_wipe_12 rfl ?_
  refine v_get (j := 2) iO1 rfl dX4_wipe_4 (by decide) in_X4_wipe_X2 fl_X4_wipe_53 rfl ?_
  refine v_top hr.ct.1 ?_
  refine v_istore_n (L' := [(1, _), (0, _)]) dX4_wipe_7 rfl (by decide) rfl ?_
  refine v_aload_n dX4_wipe_8 rfl ?_
  refine v_get (j := 0) iO0 rfl dX4_wipe_9 (by decide) in_X4_wipe_X4 fl_X4_wipe_12 rfl ?_
  refine v_iconst (x := nI 0) dX4_wipe_12 (by decide +kernel) ?_
  refine pX2_2 dX4_wipe_13 in_X4_wipe_X2 fl_X4_wipe_53 ?_
  refine v_iload_n dX4_wipe_16 rfl ?_
  exact v_iret rfl dX4_wipe_17 ⟨rfl, rc_wipe hr⟩
theorem RC.f2 {s : AS} {σ τ : SS} (h : RC s σ) (hF : F2 σ.2.2.2 σ τ) : RC s τ ∧ FC σ τ := by
  have hdr := h.dr
  obtain ⟨h1, h2, h3, h4, h5⟩ := h
  have hw : σ.2.2.1 = 22 ∨ σ.2.2.1 = 31 := h1.1
  have hd := h1.2.1
  have e2 := hF.2
  have e : ∀ a, a ≠ 3 → (a < σ.2.2.2 ∨ σ.2.2.2 + 8 < a) → τ.1 a = σ.1 a := hF.1
  refine ⟨⟨by rw [e2, e 17 (by decide) (by omega)]; exact h1, F2.ct hdr hF h2, ?_, by rw [e 0 (by decide) (by omega)]; exact h4, fun i j hi hj => ?_⟩, fun a ha => e a (by omega) (by omega), by rw [e2]⟩
  · rw [e2]; exact h3.of (fun i hi => e _ (by omega) (by omega))
  · rw [e (20 + i) (by omega) (by have := h4.2; omega)]; exact h5 i j hi hj
set_option maxRecDepth 100000 in
set_option maxHeartbeats 4000000 in
theorem s_X4_fault {v : EE} {s : AS} {σ : SS} (hr : RC s σ) : SR v M_X4_fault [.ref (v.1 0)] σ (some (.int (tlA (tell (aU s) (aL s))))) (fun σ' => RC s σ' ∧ FC σ σ') := by
  refine Sp.of rfl (by decide) rfl (Nat.le_of_ble_eq_true rfl) ?_
  show V v M_X4_fault _ 0 [(0, .ref (v.1 0))] [] σ
  have hdr := hr.dr
  refine v_aload_n dX4_fault_0 rfl ?_
  refine v_get (j := 0) iO0 rfl dX4_fault_1 (by decide) in_X4_fault_X4 fl_X4_fault_12 rfl ?_
  refine v_aload_n dX4_fault_4 rfl ?_
  refine v_get (j := 6) iO0 rfl dX4_fault_5 (by decide) in_X4_fault_X4 fl_X4_fault_46 rfl ?_
  refine v_callVRi (M' := M_X2_tellTo) (As := [_]) iO1 (s_X2_tellTo hdr hr.ct) dX4_fault_8 gX4_fault_X2_tellTo rfl rfl nn_X2_tellTo ⟨rfl, rfl⟩ ⟨by decide, by decide⟩ rfl rfl (Nat.le_of_ble_eq_true rfl) (fun s1 h1 => ?_)
  exact v_iret rfl dX4_fault_11 ⟨rfl, hr.f2 h1.1⟩
theorem tl_le {u : Nat → Nat} {len : Nat} : ∀ (f p : Nat) (w : WD) (q : Nat), p ≤ len → tl u len f p w = .inl q → q ≤ len
  | 0, p, _, q, hp, h => by cases h; exact hp
  | f + 1, p, w, q, hp, h => by
    rw [tl] at h
    by_cases c : p < len
    · rw [if_pos c] at h
      cases e : itemAt u len p w with
      | none => rw [e] at h; cases h; exact hp
      | some x =>
        obtain ⟨q1, w1⟩ := x
        rw [e] at h
        exact tl_le f q1 w1 q (itemAt_next e).2 h
    · rw [if_neg c] at h; cases h
def q_lay (s : AS) : Int32 × AS := match tell (aU s) (aL s) with
  | .inl _ => (-2, s)
  | .inr w => (nI (wC w), (aU s, aL s, w, 0, aX s))
theorem tlA_m4 {u : Nat → Nat} {len : Nat} (hl : len ≤ 500) : tlA (tell u len) = -4 ↔ ∃ w, tell u len = .inr w := by
  cases h : tell u len with
  | inr w => simp [tlA]
  | inl p =>
    constructor
    · intro q
      have hp : p ≤ len := tl_le 501 0 w00 p (Nat.zero_le _) h
      have := congrArg Int32.toInt (show nI p = -4 from q)
      rw [nI_toInt (by omega), show (-4 : Int32).toInt = -4 by decide] at this
      omega
    · rintro ⟨w, q⟩; cases q
theorem rc_lay {s : AS} {σ τ : SS} (h : RC s σ) (hF : F2 σ.2.2.2 σ τ) {w : WD} (hw : CH σ.2.2.2 w τ) : RC (aU s, aL s, w, 0, aX s) (sI (τ.1, τ.2.1, (τ.2.2.2, τ.2.2.1)) 0 7 (nI 0)) ∧ FC σ (sI (τ.1, τ.2.1, (τ.2.2.2, τ.2.2.1)) 0 7 (nI 0)) := by
  obtain ⟨r1, r2⟩ := h.f2 hF
  have hdr := h.dr
  obtain ⟨h1, h2, h3, h4, h5⟩ := r1
  have e2 := hF.2
  have hd := h.1
  have hw1 : σ.2.2.1 = 22 ∨ σ.2.2.1 = 31 := hd.1
  have hd2 := hd.2.1
  have et : τ.2.2 = σ.2.2 := by rw [e2]
  have e : ∀ a, a ≠ 0 → (sI (τ.1, τ.2.1, (τ.2.2.2, τ.2.2.1)) 0 7 (nI 0)).1 a = τ.1 a := fun a g1 => sI_row _ _ g1
  refine ⟨⟨⟨?_, ?_, ?_⟩, ⟨by rw [e 1 (by decide)]; exact h2.1, h2.2.1, fun j hj => by rw [e 2 (by decide)]; exact h2.2.2 j hj⟩, ?_, ⟨sI_at _ _ _ _, Nat.zero_le _⟩, fun i j hi hj => absurd hi (Nat.not_lt_zero i)⟩, fun a ha => (e a (by omega)).trans (r2.1 a ha), r2.2⟩
  · show isW τ.2.2.2; rw [et]; exact hdr
  · show τ.2.2.1 = 53 - τ.2.2.2; rw [et]; omega
  · rw [e 17 (by decide)]; exact h1.2.2
  · show CH τ.2.2.2 w _
    rw [et]
    exact hw.of (fun i hi => e _ (by omega))
set_option maxRecDepth 100000 in
set_option maxHeartbeats 4000000 in
theorem s_X4_lay {v : EE} {s : AS} {σ : SS} (hr : RC s σ) : SR v M_X4_lay [.ref (v.1 0)] σ (some (.int (q_lay s).1)) (fun σ' => RC (q_lay s).2 σ' ∧ FC σ σ') := by
  refine Sp.of rfl (by decide) rfl (Nat.le_of_ble_eq_true rfl) ?_
  show V v M_X4_lay _ 0 [(0, .ref (v.1 0))] [] σ
  have hdr := hr.dr
  refine v_aload_n dX4_lay_0 rfl ?_
  refine v_get (j := 0) iO0 rfl dX4_lay_1 (by decide) in_X4_lay_X4 fl_X4_lay_12 rfl ?_
  refine v_aload_n dX4_lay_4 rfl ?_
  refine v_get (j := 6) iO0 rfl dX4_lay_5 (by decide) in_X4_lay_X4 fl_X4_lay_46 rfl ?_
  refine v_callVRi (M' := M_X2_tellTo) (As := [_]) iO1 (s_X2_tellTo hdr hr.ct) dX4_lay_8 gX4_lay_X2_tellTo rfl rfl nn_X2_tellTo ⟨rfl, rfl⟩ ⟨by decide, by decide⟩ rfl rfl (Nat.le_of_ble_eq_true rfl) (fun s1 h1 => ?_)
  refine v_bipush (x := (-4)) dX4_lay_11 (by decide +kernel) ?_
  refine v_icmp_eq (tgt := 19) dX4_lay_13 (by decide) (fun c13 => ?_) (fun c13 => ?_)
  · obtain ⟨w, hw9⟩ := (tlA_m4 hr.ct.2.1).mp c13
    have hc9 := h1.2 w hw9
    have e9 : s1.2.2 = σ.2.2 := by rw [h1.1.2]
    have hla : isW s1.2.2.1 := by rw [e9]; exact hr.la
    have hdr : isW s1.2.2.2 := by rw [e9]; exact hr.dr
    refine v_aload_n dX4_lay_19 rfl ?_
    refine v_get (j := 5) iO0 rfl dX4_lay_20 (by decide) in_X4_lay_X4 fl_X4_lay_42 rfl ?_
    refine v_astore_n (L' := [(1, _), (0, _)]) dX4_lay_23 rfl (by decide) rfl ?_
    refine v_aload_n dX4_lay_24 rfl ?_
    refine v_aload_n dX4_lay_25 rfl ?_
    refine v_get (j := 6) iO0 rfl dX4_lay_26 (by decide) in_X4_lay_X4 fl_X4_lay_46 rfl ?_
    refine pX4_5 dX4_lay_29 in_X4_lay_X4 fl_X4_lay_42 ?_
    refine v_aload_n dX4_lay_32 rfl ?_
    refine v_aload_n dX4_lay_33 rfl ?_
    refine pX4_6 dX4_lay_34 in_X4_lay_X4 fl_X4_lay_46 ?_
    refine v_aload_n dX4_lay_37 rfl ?_
    refine v_iconst (x := 0) dX4_lay_38 rfl ?_
    refine pX4_7 dX4_lay_39 in_X4_lay_X4 fl_X4_lay_49 ?_
    refine v_aload_n dX4_lay_42 rfl ?_
    refine v_get (j := 5) iO0 rfl dX4_lay_43 (by decide) in_X4_lay_X4 fl_X4_lay_42 rfl ?_
    have hla : isW s1.2.2.2 := hdr
    refine v_get (j := 9) (iWO hla) rfl dX4_lay_46 (by decide) in_X4_lay_X3 fl_X4_lay_64 rfl ?_
    refine v_top (y := nI (wC w)) ((sI_ne _ _ (by have : s1.2.2.2 = 22 ∨ s1.2.2.2 = 31 := hdr; omega)).trans (by show s1.1 s1.2.2.2 9 = _; rw [e9]; exact ch_C hc9)) ?_
    exact v_iret rfl dX4_lay_49 ⟨by rw [q_lay, hw9], by rw [q_lay, hw9]; exact (rc_lay hr h1.1 hc9).1, (rc_lay hr h1.1 hc9).2⟩
  · have hf9 : ∃ p, tell (aU s) (aL s) = .inl p := by cases h : tell (aU s) (aL s) with | inl p => exact ⟨p, rfl⟩ | inr w => exact absurd ((tlA_m4 hr.ct.2.1).mpr ⟨w, h⟩) c13
    refine v_bipush (x := (-2)) dX4_lay_16 (by decide +kernel) ?_
    exact v_iret rfl dX4_lay_18 ⟨by rw [q_lay, show tell (aU s) (aL s) = .inl _ from hf9.choose_spec], by rw [q_lay, show tell (aU s) (aL s) = .inl _ from hf9.choose_spec]; exact (hr.f2 h1.1).1, (hr.f2 h1.1).2⟩
