theorem in_X5_best_X5 : ∀ w ∈ u_ws RX5 TX5 29, w ∈ mWs M_X5_best := by decide +kernel
theorem in_X5_lays_X5 : ∀ w ∈ u_ws RX5 TX5 29, w ∈ mWs M_X5_lays := by decide +kernel
theorem fl_X5_best_56 : Cond.fieldLink (mOwn M_X5_best) 56 (TX5 20).1 (TX5 20).2.1 (TX5 20).2.2.1 ∈ mWs M_X5_best := by decide +kernel
theorem fl_X5_best_186 : Cond.fieldLink (mOwn M_X5_best) 186 (TX5 13).1 (TX5 13).2.1 (TX5 13).2.2.1 ∈ mWs M_X5_best := by decide +kernel
theorem fl_X5_best_192 : Cond.fieldLink (mOwn M_X5_best) 192 (TX5 21).1 (TX5 21).2.1 (TX5 21).2.2.1 ∈ mWs M_X5_best := by decide +kernel
theorem fl_X5_best_195 : Cond.fieldLink (mOwn M_X5_best) 195 (TX5 22).1 (TX5 22).2.1 (TX5 22).2.2.1 ∈ mWs M_X5_best := by decide +kernel
theorem fl_X5_lays_13 : Cond.fieldLink (mOwn M_X5_lays) 13 (TX5 3).1 (TX5 3).2.1 (TX5 3).2.2.1 ∈ mWs M_X5_lays := by decide +kernel
theorem fl_X5_lays_17 : Cond.fieldLink (mOwn M_X5_lays) 17 (TX5 4).1 (TX5 4).2.1 (TX5 4).2.2.1 ∈ mWs M_X5_lays := by decide +kernel
theorem fl_X5_lays_26 : Cond.fieldLink (mOwn M_X5_lays) 26 (TX5 7).1 (TX5 7).2.1 (TX5 7).2.2.1 ∈ mWs M_X5_lays := by decide +kernel
theorem fl_X5_lays_41 : Cond.fieldLink (mOwn M_X5_lays) 41 (TX5 14).1 (TX5 14).2.1 (TX5 14).2.2.1 ∈ mWs M_X5_lays := by decide +kernel
theorem fl_X5_lays_44 : Cond.fieldLink (mOwn M_X5_lays) 44 (TX5 16).1 (TX5 16).2.1 (TX5 16).2.2.1 ∈ mWs M_X5_lays := by decide +kernel
theorem fl_X5_lays_47 : Cond.fieldLink (mOwn M_X5_lays) 47 (TX5 17).1 (TX5 17).2.1 (TX5 17).2.2.1 ∈ mWs M_X5_lays := by decide +kernel
theorem fl_X5_lays_50 : Cond.fieldLink (mOwn M_X5_lays) 50 (TX5 18).1 (TX5 18).2.1 (TX5 18).2.2.1 ∈ mWs M_X5_lays := by decide +kernel
theorem fl_X5_lays_186 : Cond.fieldLink (mOwn M_X5_lays) 186 (TX5 13).1 (TX5 13).2.1 (TX5 13).2.2.1 ∈ mWs M_X5_lays := by decide +kernel
theorem fl_X5_lays_189 : Cond.fieldLink (mOwn M_X5_lays) 189 (TX5 15).1 (TX5 15).2.1 (TX5 15).2.2.1 ∈ mWs M_X5_lays := by decide +kernel
theorem nn_X5_lays : (mY M_X5_lays).cls = mOwn M_X5_lays ∧ (mY M_X5_lays).cls ≠ "java/lang/invoke/MethodHandle" ∧ (mY M_X5_lays).cls ≠ "java/lang/invoke/VarHandle" ∧ (parseMethodDescriptor (mY M_X5_lays).desc).map (fun d => d.parameters.length) = some 0 := by decide +kernel
theorem nn_X5_orders : (mY M_X5_orders).cls = mOwn M_X5_orders ∧ (mY M_X5_orders).cls ≠ "java/lang/invoke/MethodHandle" ∧ (mY M_X5_orders).cls ≠ "java/lang/invoke/VarHandle" ∧ (parseMethodDescriptor (mY M_X5_orders).desc).map (fun d => d.parameters.length) = some 0 := by decide +kernel
theorem nn_X5_seeks : (mY M_X5_seeks).cls = mOwn M_X5_seeks ∧ (mY M_X5_seeks).cls ≠ "java/lang/invoke/MethodHandle" ∧ (mY M_X5_seeks).cls ≠ "java/lang/invoke/VarHandle" ∧ (parseMethodDescriptor (mY M_X5_seeks).desc).map (fun d => d.parameters.length) = some 0 := by decide +kernel
def FNo (σ τ : SS) : Prop := (∀ a, a < 51 → a ≠ 40 → τ.1 a = σ.1 a) ∧ (∀ j, j < 13 → τ.1 40 j = σ.1 40 j) ∧ τ.2 = σ.2
theorem FNo.rf (σ : SS) : FNo σ σ := ⟨fun _ _ _ => rfl, fun _ _ => rfl, rfl⟩
theorem FNo.tr {σ τ υ : SS} (h : FNo σ τ) (g : FNo τ υ) : FNo σ υ := ⟨fun a h1 h2 => (g.1 a h1 h2).trans (h.1 a h1 h2), fun j h1 => (g.2.1 j h1).trans (h.2.1 j h1), g.2.2.trans h.2.2⟩
theorem FQ.fn {σ τ : SS} (h : FQ σ τ) : FNo σ τ := ⟨fun a h1 h2 => h.1 a h2 (by omega) (by omega) (by omega), fun j h1 => h.2.1 j (by omega) (by omega), h.2.2⟩
theorem FNo.up {σ τ : SS} (h : FNo σ τ) {b : Nat} (hb : 50 < b) (j : Nat) (x : Int32) : FNo σ (sI τ b j x) := ⟨fun a h1 h2 => (sI_row _ _ (by omega)).trans (h.1 a h1 h2), fun i h1 => (sI_ne _ _ (Or.inl (by omega))).trans (h.2.1 i h1), h.2.2⟩
theorem FNo.u4 {σ τ : SS} (h : FNo σ τ) {j : Nat} (hj : 12 < j) (x : Int32) : FNo σ (sI τ 40 j x) := ⟨fun a h1 h2 => (sI_row _ _ h2).trans (h.1 a h1 h2), fun i h1 => (sI_ne _ _ (Or.inr (by omega))).trans (h.2.1 i h1), h.2.2⟩
theorem FNo.mh {w : WD} {σ τ : SS} (f : FNo σ τ) (h : MH 0 w σ) : MH 0 w τ := by
  have e : ∀ a, a < 51 → a ≠ 40 → τ.1 a = σ.1 a := f.1
  rw [MH, e 42 (by decide) (by decide), e 43 (by decide) (by decide), e 44 (by decide) (by decide), e 45 (by decide) (by decide), e 46 (by decide) (by decide), e 47 (by decide) (by decide), e 48 (by decide) (by decide), e 49 (by decide) (by decide), e 50 (by decide) (by decide)]
  exact h
theorem FNo.rm {s : AS} {σ τ : SS} (f : FNo σ τ) (h : RM s σ) : RM s τ := by
  obtain ⟨h1, h2, h3, h4⟩ := h
  refine ⟨⟨by rw [f.2.1 0 (by decide)]; exact h1.1, h1.2.1, fun j hj => by rw [f.1 41 (by decide) (by decide)]; exact h1.2.2 j hj⟩, f.mh h2, by rw [f.2.1 11 (by decide)]; exact h3, fun i j hi hj => by rw [f.1 50 (by decide) (by decide)]; exact h4 i j hi hj⟩
theorem FNo.fm {σ τ : SS} (f : FNo σ τ) : FM σ τ := ⟨fun a ha => f.1 a (by omega) (by omega), by rw [f.2.2]⟩
def bitsN (P p : Nat) : List Nat := fm (fun j => if P.testBit j then [j] else []) p
theorem bitsN_len (P : Nat) : ∀ p, (bitsN P p).length ≤ p
  | 0 => Nat.le_refl _
  | p + 1 => by
    have := bitsN_len P p
    rw [bitsN, fm, List.length_append, ← bitsN]
    split <;> simp <;> omega
theorem ofL_app {l : List Nat} {x i : Nat} (hi : i < l.length) : ofL (l ++ [x]) i = ofL l i := by simp [ofL, hi, List.getElem?_append_left hi]
theorem ofL_app2 {l : List Nat} {x : Nat} : ofL (l ++ [x]) l.length = x := by simp [ofL]
def lA (w : WD) (σ : SS) (p : Nat) (τ : SS) : Prop := τ.1 40 13 = nI (bitsN (pbits w) p).length ∧ (∀ i, i < (bitsN (pbits w) p).length → τ.1 51 i = nI (ofL (bitsN (pbits w) p) i)) ∧ (∀ j, j < p → τ.1 54 j = nI (wE w j &&& pbits w)) ∧ FNo σ τ
theorem lA_0 {w : WD} (σ : SS) : lA w σ 0 (sI σ 40 13 (nI 0)) := ⟨sI_at _ _ _ _, fun i hi => (by cases hi), fun j hj => (by omega), (FNo.rf σ).u4 (by decide) _⟩
theorem lA_54 {w : WD} {σ τ : SS} {p : Nat} (h : lA w σ p τ) : ∀ j, j < p + 1 → (sI τ 54 p (nI (wE w p &&& pbits w))).1 54 j = nI (wE w j &&& pbits w) := fun j hj => by
  by_cases c : j = p
  · subst c; rw [sI_at]
  · rw [sI_ne _ _ (Or.inr c)]; exact h.2.2.1 j (by omega)
theorem lA_no {w : WD} {σ τ : SS} {p : Nat} (h : lA w σ p τ) (hb : (pbits w).testBit p = false) : lA w σ (p + 1) (sI τ 54 p (nI (wE w p &&& pbits w))) := by
  have e : bitsN (pbits w) (p + 1) = bitsN (pbits w) p := by rw [bitsN, fm, hb]; simp [bitsN]
  refine ⟨?_, ?_, lA_54 h, h.2.2.2.up (by decide) _ _⟩
  · rw [e, sI_ne _ _ (Or.inl (by decide))]; exact h.1
  · rw [e]; intro i hi; rw [sI_ne _ _ (Or.inl (by decide))]; exact h.2.1 i hi
theorem lA_yes {w : WD} {σ τ : SS} {p : Nat} (h : lA w σ p τ) (hb : (pbits w).testBit p = true) : lA w σ (p + 1) (sI (sI (sI τ 54 p (nI (wE w p &&& pbits w))) 51 (bitsN (pbits w) p).length (nI p)) 40 13 (nI ((bitsN (pbits w) p).length + 1))) := by
  have e : bitsN (pbits w) (p + 1) = bitsN (pbits w) p ++ [p] := by rw [bitsN, fm, hb]; simp [bitsN]
  refine ⟨?_, ?_, ?_, ((h.2.2.2.up (by decide) _ _).up (by decide) _ _).u4 (by decide) _⟩
  · rw [e, sI_at, List.length_append]; rfl
  · rw [e]; intro i hi
    rw [List.length_append, List.length_singleton] at hi
    rw [sI_ne _ _ (Or.inl (by decide))]
    by_cases c : i = (bitsN (pbits w) p).length
    · subst c; rw [sI_at, ofL_app2]
    · rw [sI_ne _ _ (Or.inr c), sI_ne _ _ (Or.inl (by decide)), ofL_app (by omega)]; exact h.2.1 i (by omega)
  · intro j hj
    rw [sI_ne _ _ (Or.inl (by decide)), sI_ne _ _ (Or.inl (by decide))]
    exact lA_54 h j hj
def lB (w : WD) (σ : SS) (k : Nat) (τ : SS) : Prop := (τ.1 40 13 = nI (bits (pbits w)).length ∧ τ.1 40 15 = nI (wS w) ∧ (∀ p, p < 6 → τ.1 54 p = nI (wE w p &&& pbits w)) ∧ ∀ i, i < (bits (pbits w)).length → τ.1 51 i = nI (ofL (bits (pbits w)) i)) ∧ (∀ j, j < k → τ.1 52 j = nI (psh w j) ∧ τ.1 53 j = nI (wT w j)) ∧ FNo σ τ
theorem lB_0 {w : WD} {σ τ : SS} (h : lA w σ 6 τ) : lB w σ 0 (sI τ 40 15 (nI (wS w))) := ⟨⟨(sI_ne _ _ (Or.inr (by decide))).trans h.1, sI_at _ _ _ _, fun p hp => (sI_ne _ _ (Or.inl (by decide))).trans (h.2.2.1 p hp), fun i hi => (sI_ne _ _ (Or.inl (by decide))).trans (h.2.1 i hi)⟩, fun j hj => by omega, h.2.2.2.u4 (by decide) _⟩
theorem lB_s {w : WD} {σ τ : SS} {k : Nat} (h : lB w σ k τ) : lB w σ (k + 1) (sI (sI τ 52 k (nI (psh w k))) 53 k (nI (wT w k))) := by
  refine ⟨h.1, fun j hj => ?_, (h.2.2.up (by decide) _ _).up (by decide) _ _⟩
  by_cases c : j = k
  · subst c
    exact ⟨by rw [sI_ne _ _ (Or.inl (by decide)), sI_at], sI_at _ _ _ _⟩
  · rw [sI_ne _ _ (Or.inl (by decide)), sI_ne _ _ (Or.inr c), sI_ne _ _ (Or.inr c), sI_ne _ _ (Or.inl (by decide))]
    exact h.2.1 j (by omega)
theorem lB_om {w : WD} {σ τ : SS} (h : lB w σ (wS w) τ) : OM (odW w) τ := ⟨h.1.1, h.1.2.1, h.2.1, h.1.2.2.1, h.1.2.2.2⟩
set_option maxRecDepth 100000 in
set_option maxHeartbeats 4000000 in
theorem s_X5_lays {v : EE} {w : WD} {z : Nat} {σ : SS} (hw : MH 0 w σ) (hv : WV z w) (hz : z ≤ 1000000) : SR v M_X5_lays [.ref (v.1 40)] σ none (fun σ' => OM (odW w) σ' ∧ FNo σ σ') := by
  refine Sp.of rfl (by decide) rfl (Nat.le_of_ble_eq_true rfl) ?_
  show V v M_X5_lays _ 0 [(0, .ref (v.1 40))] [] σ
  refine v_aload_n dX5_lays_0 rfl ?_
  refine v_iconst (x := nI 0) dX5_lays_1 (by decide +kernel) ?_
  refine pX5_13 dX5_lays_2 in_X5_lays_X5 fl_X5_lays_186 ?_
  refine v_aload_n dX5_lays_5 rfl ?_
  refine v_callVi (M' := M_X5_thereAre) (As := []) iO40 (s_X5_thereAre ((lA_0 (w := w) σ).2.2.2.mh hw) hv) dX5_lays_6 gX5_lays_X5_thereAre rfl rfl nn_X5_thereAre ⟨rfl, rfl⟩ ⟨by decide, by decide⟩ rfl rfl (Nat.le_of_ble_eq_true rfl) ?_
  refine v_istore_n (L' := [(1, _), (0, _)]) dX5_lays_9 rfl (by decide) rfl ?_
  refine v_iconst (x := nI 0) dX5_lays_10 (by decide +kernel) ?_
  refine v_istore_n (L' := [(2, _), (1, _), (0, _)]) dX5_lays_11 rfl (by decide) rfl ?_
  refine v_sub [2, 1, 0] rfl ?_
  refine loopN (fun i => ∀ τ : SS, lA w σ i τ → V v M_X5_lays (zR v M_X5_lays (fun r' σ' => r' = none ∧ (OM (odW w) σ' ∧ FNo σ σ'))) 12 [(0, .ref (v.1 40)), (1, .int (nI (pbits w))), (2, .int (nI i))] [] τ) 6 ?_ ?_ _ (lA_0 σ)
  · intro i hi ih τ hinv
    have hl := bitsN_len (pbits w) i
    refine v_iload_n dX5_lays_12 rfl ?_
    refine v_bipush (x := nI 6) dX5_lays_13 (by decide +kernel) ?_
    refine n_icmp_ge (tgt := 67) dX5_lays_15 (by decide) (by omega) (by omega) (fun c15 => absurd c15 (by omega)) (fun c15 => ?_)
    refine v_aload_n dX5_lays_18 rfl ?_
    refine v_get (j := 18) iO40 rfl dX5_lays_19 (by decide) in_X5_lays_X5 fl_X5_lays_50 rfl ?_
    refine v_iload_n dX5_lays_22 rfl ?_
    refine v_aload_n dX5_lays_23 rfl ?_
    refine v_get (j := 7) iO40 rfl dX5_lays_24 (by decide) in_X5_lays_X5 fl_X5_lays_26 rfl ?_
    refine v_iload_n dX5_lays_27 rfl ?_
    refine v_ialdN i iI46 dX5_lays_28 rfl (by omega) (by decide) ?_
    refine v_top (mh_E (hinv.2.2.2.mh hw) hi) ?_
    refine v_iload_n dX5_lays_29 rfl ?_
    refine n_iand dX5_lays_30 ?_
    refine v_iastN i iI54 dX5_lays_31 rfl (by omega) (by decide) ?_
    refine v_iload_n dX5_lays_32 rfl ?_
    refine v_iload_n dX5_lays_33 rfl ?_
    refine n_ishr dX5_lays_34 (by have := pbits_lt hv; omega) (by omega) ?_
    refine v_iconst (x := nI 1) dX5_lays_35 (by decide +kernel) ?_
    refine n_and1 dX5_lays_36 ?_
    refine v_iconst (x := nI 1) dX5_lays_37 (by decide +kernel) ?_
    refine n_icmp_ne (tgt := 61) dX5_lays_38 (by decide) (by omega) (by omega) (fun c38 => ?_) (fun c38 => ?_)
    · refine n_iinc (n := 1) (L' := [(2, _), (0, _), (1, _)]) dX5_lays_61 rfl (by decide) rfl ?_
      refine v_goto (tgt := 12) dX5_lays_64 (by decide) ?_
      refine v_sub [1, 2, 0] rfl ?_
      first | exact ih _ (lA_yes hinv (by rw [tb_div]; simpa using c38)) | exact ih _ (lA_no hinv (by rw [tb_div]; simpa using c38))
    · refine v_aload_n dX5_lays_41 rfl ?_
      refine v_get (j := 14) iO40 rfl dX5_lays_42 (by decide) in_X5_lays_X5 fl_X5_lays_41 rfl ?_
      refine v_aload_n dX5_lays_45 rfl ?_
      refine v_get (j := 13) iO40 rfl dX5_lays_46 (by decide) in_X5_lays_X5 fl_X5_lays_186 rfl ?_
      refine v_top ((sI_ne _ _ (Or.inl (by decide))).trans hinv.1) ?_
      refine v_iload_n dX5_lays_49 rfl ?_
      refine v_iastN (bitsN (pbits w) i).length iI51 dX5_lays_50 rfl (by omega) (by decide) ?_
      refine v_aload_n dX5_lays_51 rfl ?_
      refine v_dup dX5_lays_52 rfl ?_
      refine v_get (j := 13) iO40 rfl dX5_lays_53 (by decide) in_X5_lays_X5 fl_X5_lays_186 rfl ?_
      refine v_top ((sI_ne _ _ (Or.inl (by decide))).trans ((sI_ne _ _ (Or.inl (by decide))).trans hinv.1)) ?_
      refine v_iconst (x := nI 1) dX5_lays_56 (by decide +kernel) ?_
      refine n_iadd dX5_lays_57 ?_
      refine pX5_13 dX5_lays_58 in_X5_lays_X5 fl_X5_lays_186 ?_
      refine n_iinc (n := 1) (L' := [(2, _), (0, _), (1, _)]) dX5_lays_61 rfl (by decide) rfl ?_
      refine v_goto (tgt := 12) dX5_lays_64 (by decide) ?_
      refine v_sub [1, 2, 0] rfl ?_
      first | exact ih _ (lA_yes hinv (by rw [tb_div]; simpa using c38)) | exact ih _ (lA_no hinv (by rw [tb_div]; simpa using c38))
  · intro τ hinv
    refine v_iload_n dX5_lays_12 rfl ?_
    refine v_bipush (x := nI 6) dX5_lays_13 (by decide +kernel) ?_
    refine n_icmp_ge (tgt := 67) dX5_lays_15 (by decide) (by omega) (by omega) (fun c15 => ?_) (fun c15 => absurd c15 (by omega))
    refine v_aload_n dX5_lays_67 rfl ?_
    refine v_aload_n dX5_lays_68 rfl ?_
    refine v_get (j := 3) iO40 rfl dX5_lays_69 (by decide) in_X5_lays_X5 fl_X5_lays_13 rfl ?_
    refine v_iconst (x := nI 0) dX5_lays_72 (by decide +kernel) ?_
    refine v_ialdN 0 iI42 dX5_lays_73 rfl (by decide) (by decide) ?_
    refine v_top (mh_S (hinv.2.2.2.mh hw)) ?_
    refine pX5_15 dX5_lays_74 in_X5_lays_X5 fl_X5_lays_189 ?_
    refine v_iconst (x := nI 0) dX5_lays_77 (by decide +kernel) ?_
    refine v_istore_n (L' := [(2, _), (0, _), (1, _)]) dX5_lays_78 rfl (by decide) rfl ?_
    refine v_sub [1, 0] rfl ?_
    refine loopN (fun k => ∀ τ : SS, lB w σ k τ → V v M_X5_lays (zR v M_X5_lays (fun r' σ' => r' = none ∧ (OM (odW w) σ' ∧ FNo σ σ'))) 79 [(0, .ref (v.1 40)), (2, .int (nI k))] [] τ) (wS w) ?_ ?_ _ (lB_0 hinv)
    · intro k hi ih τ hinv
      have hS := wv_S hv
      refine v_iload_n dX5_lays_79 rfl ?_
      refine v_aload_n dX5_lays_80 rfl ?_
      refine v_get (j := 15) iO40 rfl dX5_lays_81 (by decide) in_X5_lays_X5 fl_X5_lays_189 rfl ?_
      refine v_top hinv.1.2.1 ?_
      refine n_icmp_ge (tgt := 118) dX5_lays_84 (by decide) (by omega) (by omega) (fun c84 => absurd c84 (by omega)) (fun c84 => ?_)
      refine v_aload_n dX5_lays_87 rfl ?_
      refine v_get (j := 16) iO40 rfl dX5_lays_88 (by decide) in_X5_lays_X5 fl_X5_lays_44 rfl ?_
      refine v_iload_n dX5_lays_91 rfl ?_
      refine v_aload_n dX5_lays_92 rfl ?_
      refine v_iload_n dX5_lays_93 rfl ?_
      refine v_callVi (M' := M_X5_partsOf) (As := [_]) iO40 (s_X5_partsOf (hinv.2.2.mh hw) hv hz (by omega)) dX5_lays_94 gX5_lays_X5_partsOf rfl rfl nn_X5_partsOf ⟨rfl, rfl⟩ ⟨by decide, by decide⟩ rfl rfl (Nat.le_of_ble_eq_true rfl) ?_
      refine v_iastN k iI52 dX5_lays_97 rfl (by omega) (by decide) ?_
      refine v_aload_n dX5_lays_98 rfl ?_
      refine v_get (j := 17) iO40 rfl dX5_lays_99 (by decide) in_X5_lays_X5 fl_X5_lays_47 rfl ?_
      refine v_iload_n dX5_lays_102 rfl ?_
      refine v_aload_n dX5_lays_103 rfl ?_
      refine v_get (j := 4) iO40 rfl dX5_lays_104 (by decide) in_X5_lays_X5 fl_X5_lays_17 rfl ?_
      refine v_iconst (x := nI 2) dX5_lays_107 (by decide +kernel) ?_
      refine v_iload_n dX5_lays_108 rfl ?_
      refine n_imul dX5_lays_109 ?_
      refine v_ialdN (2 * k) iI43 dX5_lays_110 rfl (by omega) (by decide) ?_
      refine v_top ((by rw [sI_row _ _ (by decide)]; exact mh_T (hinv.2.2.mh hw) hi : (sI _ 52 _ _).1 43 (2 * k) = nI (wT w k))) ?_
      refine v_iastN k iI53 dX5_lays_111 rfl (by omega) (by decide) ?_
      refine n_iinc (n := 1) (L' := [(2, _), (0, _)]) dX5_lays_112 rfl (by decide) rfl ?_
      refine v_goto (tgt := 79) dX5_lays_115 (by decide) ?_
      refine v_sub [1, 0] rfl ?_
      exact ih _ (lB_s hinv)
    · intro τ hinv
      have hS := wv_S hv
      refine v_iload_n dX5_lays_79 rfl ?_
      refine v_aload_n dX5_lays_80 rfl ?_
      refine v_get (j := 15) iO40 rfl dX5_lays_81 (by decide) in_X5_lays_X5 fl_X5_lays_189 rfl ?_
      refine v_top hinv.1.2.1 ?_
      refine n_icmp_ge (tgt := 118) dX5_lays_84 (by decide) (by omega) (by omega) (fun c84 => ?_) (fun c84 => absurd c84 (by omega))
      exact v_vret rfl dX5_lays_118 ⟨rfl, lB_om hinv, hinv.2.2⟩
def SK (w : WD) (σ : SS) : Prop := OM (odW w) σ ∧ BM (odW w) (TL (odW w) 0) σ
set_option maxRecDepth 100000 in
set_option maxHeartbeats 4000000 in
theorem s_X5_seeks {v : EE} {w : WD} {z : Nat} {σ : SS} (hw : MH 0 w σ) (hv : WV z w) (hz : z ≤ 1000000) : SR v M_X5_seeks [.ref (v.1 40)] σ none (fun σ' => SK w σ' ∧ FNo σ σ') := by
  refine Sp.of rfl (by decide) rfl (Nat.le_of_ble_eq_true rfl) ?_
  show V v M_X5_seeks _ 0 [(0, .ref (v.1 40))] [] σ
  refine v_aload_n dX5_seeks_0 rfl ?_
  refine v_callVRv (M' := M_X5_lays) (As := []) iO40 (s_X5_lays hw hv hz) dX5_seeks_1 gX5_seeks_X5_lays rfl rfl nn_X5_lays ⟨rfl, rfl⟩ ⟨by decide, by decide⟩ rfl rfl (Nat.le_of_ble_eq_true rfl) (fun s1 h1 => ?_)
  refine v_aload_n dX5_seeks_4 rfl ?_
  refine v_callVRv (M' := M_X5_orders) (As := []) iO40 (s_X5_orders (ov_W hv) h1.1) dX5_seeks_5 gX5_seeks_X5_orders rfl rfl nn_X5_orders ⟨rfl, rfl⟩ ⟨by decide, by decide⟩ rfl rfl (Nat.le_of_ble_eq_true rfl) (fun s2 h2 => ?_)
  exact v_vret rfl dX5_seeks_8 ⟨rfl, ⟨h2.2.om h1.1, h2.1⟩, h1.2.tr h2.2.fn⟩
theorem pt_ge {l : List Nat} {i : Int32} (hl : l.length ≤ 6) (h : ¬ i < nI l.length) : ptA l i = -4 ∧ ¬ i = -1 ∧ ¬ i = -2 := by
  rw [Int32.lt_iff_toInt_lt, nI_toInt (by omega)] at h
  refine ⟨?_, fun e => ?_, fun e => ?_⟩
  · rw [ptA, if_neg (fun q => by rw [isN_iff] at q; omega)]
  · rw [e, show (-1 : Int32).toInt = -1 by decide] at h; omega
  · rw [e, show (-2 : Int32).toInt = -2 by decide] at h; omega
theorem pt_lt {i : Int32} {m : Nat} (hm : m ≤ 6) (h : i < nI m) (h1 : -2 ≤ i) (h2 : ¬ i = -2) (h3 : ¬ i = -1) : ∃ k, k < m ∧ i = nI k := by
  rw [Int32.lt_iff_toInt_lt, nI_toInt (by omega)] at h
  rw [Int32.le_iff_toInt_le, show (-2 : Int32).toInt = -2 by decide] at h1
  have h4 : i.toInt ≠ -2 := fun e => h2 (Int32.toInt_inj.mp (by rw [e]; decide))
  have h5 : i.toInt ≠ -1 := fun e => h3 (Int32.toInt_inj.mp (by rw [e]; decide))
  obtain ⟨j, hj, _, e⟩ := isN_nI (k := i) (n := m) (isN_iff.mpr ⟨by omega, h⟩)
  exact ⟨j, hj, e⟩
theorem SK.n {w : WD} {σ : SS} (h : SK w σ) : σ.1 40 21 = nI (nB w) := h.2.1
theorem SK.g {w : WD} {σ : SS} (h : SK w σ) (hn : TL (odW w) 0 ≠ []) : σ.1 40 22 = nI (few (odW w) 0) := by
  rw [h.2.2.1, few]
  cases e : TL (odW w) 0 with
  | nil => exact absurd e hn
  | cons x t => rfl
theorem SK.m {z : Nat} {w : WD} {σ : SS} (hv : WV z w) (h : SK w σ) (hn : TL (odW w) 0 ≠ []) : σ.1 40 13 = nI (fr (odW w) 0).length := by
  rw [h.1.1, fr_len' (ov_W hv) hn, (bits_len _ (ov_W hv).1).2]
theorem SK.m' {z : Nat} {w : WD} {σ : SS} (hv : WV z w) (h : SK w σ) : σ.1 40 13 = nI (pc (pbits w)) := by
  rw [h.1.1, (bits_len _ (ov_W hv).1).2]; rfl
theorem SK.r {z : Nat} {w : WD} {σ : SS} (hv : WV z w) (h : SK w σ) (hn : TL (odW w) 0 ≠ []) {k : Nat} (hk : k < (fr (odW w) 0).length) : σ.1 56 k = nI (ofL (fr (odW w) 0) k) := by
  have hl := fr_len (ov_W hv)
  have e : (bits (oP (odW w))).length = (fr (odW w) 0).length := by rw [fr_len' (ov_W hv) hn, (bits_len _ (ov_W hv).1).2]
  rw [(h.2.2.2.1 hn).1 k (by omega), bR, e, if_pos hk]; rfl
set_option maxRecDepth 100000 in
set_option maxHeartbeats 4000000 in
theorem s_X5_best {v : EE} {s : AS} {z : Nat} {σ : SS} (hr : RM s σ) (hv : WV z (aW s)) (hz : z ≤ 1000000) (i : Int32) : SR v M_X5_best [.ref (v.1 40), .int i] σ (some (.int (q_best (aW s) i))) (fun σ' => RM s σ' ∧ FM σ σ') := by
  refine Sp.of rfl (by decide) rfl (Nat.le_of_ble_eq_true rfl) ?_
  show V v M_X5_best _ 0 [(0, .ref (v.1 40)), (1, .int i)] [] σ
  refine v_iload_n dX5_best_0 rfl ?_
  refine v_bipush (x := (-2)) dX5_best_1 (by decide +kernel) ?_
  refine v_icmp_ge (tgt := 8) dX5_best_3 (by decide) (fun c3 => ?_) (fun c3 => ?_)
  · refine v_aload_n dX5_best_8 rfl ?_
    refine v_callVRv (M' := M_X5_seeks) (As := []) iO40 (s_X5_seeks hr.2.1 hv hz) dX5_best_9 gX5_best_X5_seeks rfl rfl nn_X5_seeks ⟨rfl, rfl⟩ ⟨by decide, by decide⟩ rfl rfl (Nat.le_of_ble_eq_true rfl) (fun s1 h1 => ?_)
    have ho := ov_W hv
    have hb := TL_b ho (A := 0) (by decide)
    have hl := fr_len ho
    have hnB : nB (aW s) = (TL (odW (aW s)) 0).length := rfl
    refine v_aload_n dX5_best_12 rfl ?_
    refine v_get (j := 21) iO40 rfl dX5_best_13 (by decide) in_X5_best_X5 fl_X5_best_192 rfl ?_
    refine v_top h1.1.n ?_
    refine n_if_eq (tgt := 27) dX5_best_16 (by decide) (by omega) (fun c16 => ?_) (fun c16 => ?_)
    · refine v_bipush (x := (-4)) dX5_best_27 (by decide +kernel) ?_
      refine v_goto (tgt := 63) dX5_best_29 (by decide) ?_
      exact v_iret rfl dX5_best_63 ⟨congrArg (fun z => some (Value.int z)) (by rw [q_best, if_pos c3, if_neg (by omega)]), h1.2.rm hr, h1.2.fm⟩
    · have hp : 0 < nB (aW s) := by omega
      have hn := pos_ne (hnB ▸ hp)
      refine v_iload_n dX5_best_19 rfl ?_
      refine v_aload_n dX5_best_20 rfl ?_
      refine v_get (j := 13) iO40 rfl dX5_best_21 (by decide) in_X5_best_X5 fl_X5_best_186 rfl ?_
      refine v_top (h1.1.m hv hn) ?_
      refine v_icmp_lt (tgt := 32) dX5_best_24 (by decide) (fun c24 => ?_) (fun c24 => ?_)
      · refine v_iload_n dX5_best_32 rfl ?_
        refine v_bipush (x := (-2)) dX5_best_33 (by decide +kernel) ?_
        refine v_icmp_ne (tgt := 45) dX5_best_35 (by decide) (fun c35 => ?_) (fun c35 => ?_)
        · refine v_iload_n dX5_best_45 rfl ?_
          refine v_iconst (x := (-1)) dX5_best_46 rfl ?_
          refine v_icmp_ne (tgt := 57) dX5_best_47 (by decide) (fun c47 => ?_) (fun c47 => ?_)
          · obtain ⟨k, hk, rfl⟩ := pt_lt hl c24 c3 c35 c47
            refine v_aload_n dX5_best_57 rfl ?_
            refine v_get (j := 20) iO40 rfl dX5_best_58 (by decide) in_X5_best_X5 fl_X5_best_56 rfl ?_
            refine v_iload_n dX5_best_61 rfl ?_
            refine v_ialdN k iI56 dX5_best_62 rfl (by omega) (by decide) ?_
            refine v_top (h1.1.r hv hn hk) ?_
            exact v_iret rfl dX5_best_63 ⟨congrArg (fun z => some (Value.int z)) (by rw [q_best, if_pos c3, if_pos hp, if_neg c47, if_neg c35, ptA_n (by omega), if_pos hk]), h1.2.rm hr, h1.2.fm⟩
          · refine v_aload_n dX5_best_50 rfl ?_
            refine v_get (j := 22) iO40 rfl dX5_best_51 (by decide) in_X5_best_X5 fl_X5_best_195 rfl ?_
            refine v_top (h1.1.g hn) ?_
            refine v_goto (tgt := 63) dX5_best_54 (by decide) ?_
            exact v_iret rfl dX5_best_63 ⟨congrArg (fun z => some (Value.int z)) (by rw [q_best, if_pos c3, if_pos hp, if_pos c47]), h1.2.rm hr, h1.2.fm⟩
        · refine v_aload_n dX5_best_38 rfl ?_
          refine v_get (j := 21) iO40 rfl dX5_best_39 (by decide) in_X5_best_X5 fl_X5_best_192 rfl ?_
          refine v_top h1.1.n ?_
          refine v_goto (tgt := 63) dX5_best_42 (by decide) ?_
          exact v_iret rfl dX5_best_63 ⟨congrArg (fun z => some (Value.int z)) (by rw [q_best, if_pos c3, if_pos hp, if_neg (by rw [c35]; decide), if_pos c35]), h1.2.rm hr, h1.2.fm⟩
      · refine v_bipush (x := (-4)) dX5_best_27 (by decide +kernel) ?_
        refine v_goto (tgt := 63) dX5_best_29 (by decide) ?_
        exact v_iret rfl dX5_best_63 ⟨congrArg (fun z => some (Value.int z)) (by rw [q_best, if_pos c3, if_pos hp, if_neg (pt_ge hl c24).2.1, if_neg (pt_ge hl c24).2.2, (pt_ge hl c24).1]), h1.2.rm hr, h1.2.fm⟩
  · refine v_iconst (x := (-1)) dX5_best_6 rfl ?_
    exact v_iret rfl dX5_best_7 ⟨congrArg (fun z => some (Value.int z)) (by rw [q_best, if_neg c3]), hr, FM.rf σ⟩
