theorem in_X1_listOwners_X1 : ∀ w ∈ u_ws RX1 TX1 7, w ∈ mWs M_X1_listOwners := by decide +kernel
theorem in_X1_onlyOwner_X1 : ∀ w ∈ u_ws RX1 TX1 7, w ∈ mWs M_X1_onlyOwner := by decide +kernel
theorem in_X1_ownersBehind_X1 : ∀ w ∈ u_ws RX1 TX1 7, w ∈ mWs M_X1_ownersBehind := by decide +kernel
theorem in_X1_signsWithOneOwner_X1 : ∀ w ∈ u_ws RX1 TX1 7, w ∈ mWs M_X1_signsWithOneOwner := by decide +kernel
theorem fl_X1_listOwners_18 : Cond.fieldLink (mOwn M_X1_listOwners) 18 (TX1 2).1 (TX1 2).2.1 (TX1 2).2.2.1 ∈ mWs M_X1_listOwners := by decide +kernel
theorem fl_X1_listOwners_21 : Cond.fieldLink (mOwn M_X1_listOwners) 21 (TX1 3).1 (TX1 3).2.1 (TX1 3).2.2.1 ∈ mWs M_X1_listOwners := by decide +kernel
theorem fl_X1_listOwners_39 : Cond.fieldLink (mOwn M_X1_listOwners) 39 (TX1 6).1 (TX1 6).2.1 (TX1 6).2.2.1 ∈ mWs M_X1_listOwners := by decide +kernel
theorem fl_X1_listOwners_40 : Cond.fieldLink (mOwn M_X1_listOwners) 40 (TX1 5).1 (TX1 5).2.1 (TX1 5).2.2.1 ∈ mWs M_X1_listOwners := by decide +kernel
theorem fl_X1_onlyOwner_9 : Cond.fieldLink (mOwn M_X1_onlyOwner) 9 (TX1 0).1 (TX1 0).2.1 (TX1 0).2.2.1 ∈ mWs M_X1_onlyOwner := by decide +kernel
theorem fl_X1_onlyOwner_18 : Cond.fieldLink (mOwn M_X1_onlyOwner) 18 (TX1 2).1 (TX1 2).2.1 (TX1 2).2.2.1 ∈ mWs M_X1_onlyOwner := by decide +kernel
theorem fl_X1_ownersBehind_24 : Cond.fieldLink (mOwn M_X1_ownersBehind) 24 (TX1 4).1 (TX1 4).2.1 (TX1 4).2.2.1 ∈ mWs M_X1_ownersBehind := by decide +kernel
theorem fl_X1_ownersBehind_39 : Cond.fieldLink (mOwn M_X1_ownersBehind) 39 (TX1 6).1 (TX1 6).2.1 (TX1 6).2.2.1 ∈ mWs M_X1_ownersBehind := by decide +kernel
theorem fl_X1_signsWithOneOwner_18 : Cond.fieldLink (mOwn M_X1_signsWithOneOwner) 18 (TX1 2).1 (TX1 2).2.1 (TX1 2).2.2.1 ∈ mWs M_X1_signsWithOneOwner := by decide +kernel
theorem fl_X1_signsWithOneOwner_40 : Cond.fieldLink (mOwn M_X1_signsWithOneOwner) 40 (TX1 5).1 (TX1 5).2.1 (TX1 5).2.2.1 ∈ mWs M_X1_signsWithOneOwner := by decide +kernel
theorem nn_J6_numberOfTrailingZeros_0f7a4 : (mY M_J6_numberOfTrailingZeros_0f7a4).cls ≠ "java/lang/invoke/MethodHandle" ∧ (mY M_J6_numberOfTrailingZeros_0f7a4).cls ≠ "java/lang/invoke/VarHandle" ∧ (parseMethodDescriptor (mY M_J6_numberOfTrailingZeros_0f7a4).desc).map (fun d => d.parameters.length) = some 1 := by decide +kernel
theorem nn_X1_ownersBehind : (mY M_X1_ownersBehind).cls = mOwn M_X1_ownersBehind ∧ (mY M_X1_ownersBehind).cls ≠ "java/lang/invoke/MethodHandle" ∧ (mY M_X1_ownersBehind).cls ≠ "java/lang/invoke/VarHandle" ∧ (parseMethodDescriptor (mY M_X1_ownersBehind).desc).map (fun d => d.parameters.length) = some 2 := by decide +kernel
def obF (w : WD) (S f m : Nat) : Nat := if f.testBit m ∧ 0 < TG (wN w) (av w) (nSh w) (S ||| 2 ^ m) then 2 ^ m else 0
def obd (w : WD) (S f : Nat) : Nat := om (obF w S f) (wN w)
def owF (w : WD) (q S : Nat) : Nat := if pc S = q ∧ 0 < GV (wN w) (av w) S then obd w S (dif (av w q) S) else 0
def own (w : WD) (q : Nat) : Nat := om (owF w q) (2 ^ wN w)
theorem obd_lt (w : WD) (S f : Nat) : obd w S f < 2 ^ wN w := om_lt (fun m hm => by
  rw [obF]; split
  · exact Nat.pow_lt_pow_right (by decide) hm
  · exact Nat.pow_pos (by decide))
theorem own_lt (w : WD) (q : Nat) : own w q < 2 ^ wN w := om_lt (fun S _ => by
  rw [owF]; split
  · exact obd_lt w _ _
  · exact Nat.pow_pos (by decide))
theorem sm_pos {f : Nat → Nat} {n : Nat} : 0 < sm f n ↔ ∃ k, k < n ∧ 0 < f k := by
  constructor
  · intro h
    apply Classical.byContradiction
    intro q
    have : sm f n = 0 := sm_zero.mpr (fun k hk => by
      apply Classical.byContradiction
      intro z
      exact q ⟨k, hk, by omega⟩)
    omega
  · rintro ⟨k, hk, h⟩
    apply Classical.byContradiction
    intro q
    have := sm_zero.mp (show sm f n = 0 by omega) k hk
    omega
theorem own_bit {z : Nat} {w : WD} (hv : WV z w) {q m : Nat} (hq : q < nSh w) : (own w q).testBit m = true ↔ m < wN w ∧ 0 < TT (wN w) (av w) (nSh w) q m := by
  have hN := wv_N hv
  constructor
  · intro h
    obtain ⟨S, hS, h1⟩ := om_bit.mp h
    rw [owF] at h1
    by_cases c : pc S = q ∧ 0 < GV (wN w) (av w) S
    · rw [if_pos c] at h1
      obtain ⟨x, hx, h2⟩ := om_bit.mp h1
      rw [obF] at h2
      by_cases d : (dif (av w q) S).testBit x ∧ 0 < TG (wN w) (av w) (nSh w) (S ||| 2 ^ x)
      · rw [if_pos d, tb_pow, decide_eq_true_eq] at h2
        subst h2
        refine ⟨hx, ?_⟩
        rw [← TT_cl hN hq hx]
        exact sm_pos.mpr ⟨S, hS, by rw [if_pos ⟨c.1, d.1⟩]; exact Nat.mul_pos c.2 d.2⟩
      · rw [if_neg d] at h2; exact (tb0 _ h2).elim
    · rw [if_neg c] at h1; exact (tb0 _ h1).elim
  · rintro ⟨hm, h⟩
    rw [← TT_cl hN hq hm] at h
    obtain ⟨S, hS, h1⟩ := sm_pos.mp h
    by_cases c : pc S = q ∧ (dif (av w q) S).testBit m = true
    · rw [if_pos c] at h1
      refine om_bit.mpr ⟨S, hS, ?_⟩
      rw [owF, if_pos ⟨c.1, Nat.pos_of_mul_pos_right h1⟩]
      refine om_bit.mpr ⟨m, hm, ?_⟩
      rw [obF, if_pos ⟨c.2, Nat.pos_of_mul_pos_left h1⟩, tb_pow]; simp
    · rw [if_neg c] at h1; omega
set_option maxRecDepth 100000 in
set_option maxHeartbeats 4000000 in
theorem s_X1_ownersBehind {v : EE} {w : WD} {z : Nat} {σ : SS} (hv : WV z w) (hr : RO w σ) {S f : Nat} (hS : S < 2 ^ wN w) (hf : f < 2 ^ wN w) : S1 v M_X1_ownersBehind [.ref (v.1 4), .int (nI S), .int (nI f)] σ (some (.int (nI (obd w S f)))) (σ) := by
  refine Sp.of rfl (by decide) rfl (Nat.le_of_ble_eq_true rfl) ?_
  show V v M_X1_ownersBehind _ 0 [(0, .ref (v.1 4)), (1, .int (nI S)), (2, .int (nI f))] [] σ
  have hN10 := wv_N hv
  have hp := p2N hv
  refine v_iconst (x := nI 0) dX1_ownersBehind_0 (by decide +kernel) ?_
  refine v_istore_n (L' := [(3, _), (0, _), (1, _), (2, _)]) dX1_ownersBehind_1 rfl (by decide) rfl ?_
  refine v_iconst (x := nI 0) dX1_ownersBehind_2 (by decide +kernel) ?_
  refine v_istore (L' := [(4, _), (3, _), (0, _), (1, _), (2, _)]) dX1_ownersBehind_3 (by decide) rfl ?_
  refine v_sub [2, 3, 4, 1, 0] rfl ?_
  refine loopN (fun i => V v M_X1_ownersBehind (zR v M_X1_ownersBehind (fun r' σ' => r' = (some (.int (nI (obd w S f)))) ∧ σ' = (σ))) 5 [(0, .ref (v.1 4)), (1, .int (nI S)), (2, .int (nI f)), (3, .int (nI (om (obF w S f) i))), (4, .int (nI i))] [] (σ)) (wN w) ?_ ?_
  · intro i hi ih
    refine v_iload dX1_ownersBehind_5 rfl ?_
    refine v_aload_n dX1_ownersBehind_7 rfl ?_
    refine v_get (j := 6) iO4 rfl dX1_ownersBehind_8 (by decide) in_X1_ownersBehind_X1 fl_X1_ownersBehind_39 rfl ?_
    refine v_top hr.1.2.1 ?_
    refine n_icmp_ge (tgt := 51) dX1_ownersBehind_11 (by decide) (by omega) (by omega) (fun c11 => absurd c11 (by omega)) (fun c11 => ?_)
    refine v_iload_n dX1_ownersBehind_14 rfl ?_
    refine v_iload dX1_ownersBehind_15 rfl ?_
    refine n_ishr dX1_ownersBehind_17 (by omega) (by omega) ?_
    refine v_iconst (x := nI 1) dX1_ownersBehind_18 (by decide +kernel) ?_
    refine n_and1 dX1_ownersBehind_19 ?_
    refine v_iconst (x := nI 1) dX1_ownersBehind_20 (by decide +kernel) ?_
    refine n_icmp_ne (tgt := 45) dX1_ownersBehind_21 (by decide) (by omega) (by omega) (fun c21 => ?_) (fun c21 => ?_)
    · have e : om (obF w S f) (i + 1) = om (obF w S f) i := by rw [om, obF, if_neg (fun h => c21 (by have := h.1; rw [tb_div] at this; simpa using this)), Nat.or_zero]
      rw [e] at ih
      refine n_iinc (n := 1) (L' := [(4, _), (0, _), (1, _), (2, _), (3, _)]) dX1_ownersBehind_45 rfl (by decide) rfl ?_
      refine v_goto (tgt := 5) dX1_ownersBehind_48 (by decide) ?_
      refine v_sub [1, 2, 3, 4, 0] rfl ?_
      exact ih
    · have hl2 : S ||| 2 ^ i < 2 ^ wN w := Nat.or_lt_two_pow hS (Nat.pow_lt_pow_right (by decide) hi)
      have hg2 := TG_le hN10 (a := av w) (n := nSh w) hl2
      refine v_aload_n dX1_ownersBehind_24 rfl ?_
      refine v_get (j := 4) iO4 rfl dX1_ownersBehind_25 (by decide) in_X1_ownersBehind_X1 fl_X1_ownersBehind_24 rfl ?_
      refine v_iload_n dX1_ownersBehind_28 rfl ?_
      refine v_iconst (x := nI 1) dX1_ownersBehind_29 (by decide +kernel) ?_
      refine v_iload dX1_ownersBehind_30 rfl ?_
      refine n_shl1 dX1_ownersBehind_32 (by omega) ?_
      refine n_ior dX1_ownersBehind_33 ?_
      refine v_ialdN (S ||| 2 ^ i) iI9 dX1_ownersBehind_34 rfl (by omega) (by decide) ?_
      refine v_top (hr.2.2.2 _ hl2) ?_
      refine n_if_le (tgt := 45) dX1_ownersBehind_35 (by decide) (by omega) (fun c35 => ?_) (fun c35 => ?_)
      · have e : om (obF w S f) (i + 1) = om (obF w S f) i := by rw [om, obF, if_neg (fun h => by have := h.2; omega), Nat.or_zero]
        rw [e] at ih
        refine n_iinc (n := 1) (L' := [(4, _), (0, _), (1, _), (2, _), (3, _)]) dX1_ownersBehind_45 rfl (by decide) rfl ?_
        refine v_goto (tgt := 5) dX1_ownersBehind_48 (by decide) ?_
        refine v_sub [1, 2, 3, 4, 0] rfl ?_
        exact ih
      · refine v_iload_n dX1_ownersBehind_38 rfl ?_
        refine v_iconst (x := nI 1) dX1_ownersBehind_39 (by decide +kernel) ?_
        refine v_iload dX1_ownersBehind_40 rfl ?_
        refine n_shl1 dX1_ownersBehind_42 (by omega) ?_
        refine n_ior dX1_ownersBehind_43 ?_
        refine v_istore_n (L' := [(3, _), (0, _), (1, _), (2, _), (4, _)]) dX1_ownersBehind_44 rfl (by decide) rfl ?_
        have e : om (obF w S f) (i + 1) = om (obF w S f) i ||| 2 ^ i := by rw [om, obF, if_pos ⟨by rw [tb_div]; simpa using c21, c35⟩]
        rw [e] at ih
        refine n_iinc (n := 1) (L' := [(4, _), (3, _), (0, _), (1, _), (2, _)]) dX1_ownersBehind_45 rfl (by decide) rfl ?_
        refine v_goto (tgt := 5) dX1_ownersBehind_48 (by decide) ?_
        refine v_sub [2, 3, 4, 1, 0] rfl ?_
        exact ih
  · refine v_iload dX1_ownersBehind_5 rfl ?_
    refine v_aload_n dX1_ownersBehind_7 rfl ?_
    refine v_get (j := 6) iO4 rfl dX1_ownersBehind_8 (by decide) in_X1_ownersBehind_X1 fl_X1_ownersBehind_39 rfl ?_
    refine v_top hr.1.2.1 ?_
    refine n_icmp_ge (tgt := 51) dX1_ownersBehind_11 (by decide) (by omega) (by omega) (fun c11 => ?_) (fun c11 => absurd c11 (by omega))
    refine v_iload_n dX1_ownersBehind_51 rfl ?_
    exact v_iret rfl dX1_ownersBehind_52 ⟨rfl, rfl⟩
def oL (w : WD) (σ : SS) (i : Nat) (τ : SS) : Prop := (∀ q, q < nSh w → τ.1 7 q = nI (om (owF w q) i)) ∧ (∀ a, a ≠ 7 → τ.1 a = σ.1 a) ∧ τ.2 = σ.2
theorem oL.ro {w : WD} {σ τ : SS} {i : Nat} (h : oL w σ i τ) (hr : RO w σ) : RO w τ := by
  refine ⟨hr.1.of (h.2.1 4 (by decide)) (h.2.1 6 (by decide)), ?_, ?_, ?_⟩
  · rw [h.2.1 5 (by decide)]; exact hr.2.1
  · rw [h.2.1 8 (by decide)]; exact hr.2.2.1
  · rw [h.2.1 9 (by decide)]; exact hr.2.2.2
theorem oL.fr {w : WD} {σ τ : SS} {i : Nat} (h : oL w σ i τ) : FRo σ τ := ⟨fun a ha => h.2.1 a (by omega), h.2.2⟩
theorem oL_0 {w : WD} (σ : SS) : oL w σ 0 (sF σ 7 (filled (σ.1 7) 16 0)) := ⟨fun q hq => by have := nSh_le w; simp [sF, filled, show q < 16 by omega]; rfl, fun a ha => by simp [sF, ha], rfl⟩
theorem oL_n {w : WD} {σ τ : SS} {i : Nat} (h : oL w σ i τ) (hn : ¬ (pc i < nSh w ∧ 0 < GV (wN w) (av w) i)) : oL w σ (i + 1) τ := ⟨fun q hq => by
  rw [om, owF, if_neg (fun z => hn ⟨by rw [z.1]; exact hq, z.2⟩), Nat.or_zero]; exact h.1 q hq, h.2⟩
theorem oL_y {w : WD} {σ τ : SS} {i : Nat} (h : oL w σ i τ) (hg : 0 < GV (wN w) (av w) i) : oL w σ (i + 1) (sI τ 7 (pc i) (nI (om (owF w (pc i)) i ||| obd w i (dif (av w (pc i)) i)))) := ⟨fun q hq => by
  by_cases c : q = pc i
  · subst c; rw [sI_at, om, owF, if_pos ⟨rfl, hg⟩]
  · rw [sI_ne _ _ (Or.inr c), om, owF, if_neg (fun z => c z.1.symm), Nat.or_zero]; exact h.1 q hq, fun a ha => (sI_row _ _ ha).trans (h.2.1 a ha), h.2.2⟩
set_option maxRecDepth 100000 in
set_option maxHeartbeats 4000000 in
theorem s_X1_listOwners {v : EE} {w : WD} {z : Nat} {σ : SS} (hv : WV z w) (hr : RO w σ) : SR v M_X1_listOwners [.ref (v.1 4)] σ none (fun σ' => oL w σ (2 ^ wN w) σ') := by
  refine Sp.of rfl (by decide) rfl (Nat.le_of_ble_eq_true rfl) ?_
  show V v M_X1_listOwners _ 0 [(0, .ref (v.1 4))] [] σ
  have hN10 := wv_N hv
  have hp := p2N hv
  have h16 := nSh_le w
  refine v_aload_n dX1_listOwners_0 rfl ?_
  refine v_get (j := 2) iO4 rfl dX1_listOwners_1 (by decide) in_X1_listOwners_X1 fl_X1_listOwners_18 rfl ?_
  refine v_iconst (x := 0) dX1_listOwners_4 rfl ?_
  refine v_callSv (M' := M_J7_fill_53178) (As := [_, _]) (s_J7_fill_53178 iI7 (by decide)) dX1_listOwners_5 gX1_listOwners_J7_fill_53178 rfl nn_J7_fill_53178 ⟨rfl, rfl⟩ ⟨by decide, by decide⟩ rfl rfl (Nat.le_of_ble_eq_true rfl) ?_
  refine v_iconst (x := nI 0) dX1_listOwners_8 (by decide +kernel) ?_
  refine v_istore_n (L' := [(1, _), (0, _)]) dX1_listOwners_9 rfl (by decide) rfl ?_
  refine v_sub [1, 0] rfl ?_
  refine loopN (fun i => ∀ τ : SS, oL w σ i τ → V v M_X1_listOwners (zR v M_X1_listOwners (fun r' σ' => r' = none ∧ (oL w σ (2 ^ wN w) σ'))) 10 [(0, .ref (v.1 4)), (1, .int (nI i))] [] τ) (2 ^ wN w) ?_ ?_ _ (oL_0 σ)
  · intro i hi ih τ hinv
    refine v_iload_n dX1_listOwners_10 rfl ?_
    refine v_iconst (x := nI 1) dX1_listOwners_11 (by decide +kernel) ?_
    refine v_aload_n dX1_listOwners_12 rfl ?_
    refine v_get (j := 6) iO4 rfl dX1_listOwners_13 (by decide) in_X1_listOwners_X1 fl_X1_listOwners_39 rfl ?_
    refine v_top (hinv.ro hr).1.2.1 ?_
    refine n_shl1 dX1_listOwners_16 (by omega) ?_
    refine n_icmp_ge (tgt := 77) dX1_listOwners_17 (by decide) (by omega) (by omega) (fun c17 => absurd c17 (by omega)) (fun c17 => ?_)
    refine v_iload_n dX1_listOwners_20 rfl ?_
    refine v_callSi (M' := M_J6_bitCount_0f7a4) (As := [_]) (s_J6_bitCount_0f7a4 (by omega)) dX1_listOwners_21 gX1_listOwners_J6_bitCount_0f7a4 rfl nn_J6_bitCount_0f7a4 ⟨rfl, rfl⟩ ⟨by decide, by decide⟩ rfl rfl (Nat.le_of_ble_eq_true rfl) ?_
    have hpl := pc_leN hN10 (show i < 2 ^ wN w by omega)
    have hg1 := GV_le hN10 (a := av w) (S := i) (by omega)
    refine v_istore_n (L' := [(2, _), (0, _), (1, _)]) dX1_listOwners_24 rfl (by decide) rfl ?_
    refine v_iload_n dX1_listOwners_25 rfl ?_
    refine v_aload_n dX1_listOwners_26 rfl ?_
    refine v_get (j := 5) iO4 rfl dX1_listOwners_27 (by decide) in_X1_listOwners_X1 fl_X1_listOwners_40 rfl ?_
    refine v_top (hinv.ro hr).1.1 ?_
    refine n_icmp_ge (tgt := 71) dX1_listOwners_30 (by decide) (by omega) (by omega) (fun c30 => ?_) (fun c30 => ?_)
    · refine n_iinc (n := 1) (L' := [(1, _), (2, _), (0, _)]) dX1_listOwners_71 rfl (by decide) rfl ?_
      refine v_goto (tgt := 10) dX1_listOwners_74 (by decide) ?_
      refine v_sub [2, 0] rfl ?_
      first | exact ih _ (oL_y hinv c45) | exact ih _ (oL_n hinv (by omega))
    · refine v_iload_n dX1_listOwners_33 rfl ?_
      refine v_bipush (x := nI 16) dX1_listOwners_34 (by decide +kernel) ?_
      refine n_icmp_ge (tgt := 71) dX1_listOwners_36 (by decide) (by omega) (by omega) (fun c36 => absurd c36 (by omega)) (fun c36 => ?_)
      refine v_aload_n dX1_listOwners_39 rfl ?_
      refine v_get (j := 3) iO4 rfl dX1_listOwners_40 (by decide) in_X1_listOwners_X1 fl_X1_listOwners_21 rfl ?_
      refine v_iload_n dX1_listOwners_43 rfl ?_
      refine v_ialdN i iI8 dX1_listOwners_44 rfl (by omega) (by decide) ?_
      refine v_top ((hinv.ro hr).2.2.1 i (by omega)) ?_
      refine n_if_le (tgt := 71) dX1_listOwners_45 (by decide) (by omega) (fun c45 => ?_) (fun c45 => ?_)
      · refine n_iinc (n := 1) (L' := [(1, _), (2, _), (0, _)]) dX1_listOwners_71 rfl (by decide) rfl ?_
        refine v_goto (tgt := 10) dX1_listOwners_74 (by decide) ?_
        refine v_sub [2, 0] rfl ?_
        first | exact ih _ (oL_y hinv c45) | exact ih _ (oL_n hinv (by omega))
      · refine v_aload_n dX1_listOwners_48 rfl ?_
        refine v_get (j := 2) iO4 rfl dX1_listOwners_49 (by decide) in_X1_listOwners_X1 fl_X1_listOwners_18 rfl ?_
        refine v_iload_n dX1_listOwners_52 rfl ?_
        refine v_dup2 dX1_listOwners_53 rfl rfl ?_
        refine v_ialdN (pc i) iI7 dX1_listOwners_54 rfl (by omega) (by decide) ?_
        refine v_top (hinv.1 _ c30) ?_
        refine v_aload_n dX1_listOwners_55 rfl ?_
        refine v_iload_n dX1_listOwners_56 rfl ?_
        refine v_aload_n dX1_listOwners_57 rfl ?_
        refine v_iload_n dX1_listOwners_58 rfl ?_
        refine v_callVi (M' := M_X1_mayOwnAt) (As := [_]) iO4 (s_X1_mayOwnAt (hinv.ro hr).1 (by omega)) dX1_listOwners_59 gX1_listOwners_X1_mayOwnAt rfl rfl nn_X1_mayOwnAt ⟨rfl, rfl⟩ ⟨by decide, by decide⟩ rfl rfl (Nat.le_of_ble_eq_true rfl) ?_
        refine v_iload_n dX1_listOwners_62 rfl ?_
        refine v_iconst (x := (-1)) dX1_listOwners_63 rfl ?_
        refine v_ixor dX1_listOwners_64 ?_
        refine n_dif dX1_listOwners_65 ?_
        refine v_callVi (M' := M_X1_ownersBehind) (As := [_, _]) iO4 (s_X1_ownersBehind hv (hinv.ro hr) (by omega) (Nat.lt_of_le_of_lt (dif_le _ _) (av_lt w _))) dX1_listOwners_66 gX1_listOwners_X1_ownersBehind rfl rfl nn_X1_ownersBehind ⟨rfl, rfl⟩ ⟨by decide, by decide⟩ rfl rfl (Nat.le_of_ble_eq_true rfl) ?_
        refine n_ior dX1_listOwners_69 ?_
        refine v_iastN (pc i) iI7 dX1_listOwners_70 rfl (by omega) (by decide) ?_
        refine n_iinc (n := 1) (L' := [(1, _), (2, _), (0, _)]) dX1_listOwners_71 rfl (by decide) rfl ?_
        refine v_goto (tgt := 10) dX1_listOwners_74 (by decide) ?_
        refine v_sub [2, 0] rfl ?_
        first | exact ih _ (oL_y hinv c45) | exact ih _ (oL_n hinv (by omega))
  · intro τ hinv
    refine v_iload_n dX1_listOwners_10 rfl ?_
    refine v_iconst (x := nI 1) dX1_listOwners_11 (by decide +kernel) ?_
    refine v_aload_n dX1_listOwners_12 rfl ?_
    refine v_get (j := 6) iO4 rfl dX1_listOwners_13 (by decide) in_X1_listOwners_X1 fl_X1_listOwners_39 rfl ?_
    refine v_top (hinv.ro hr).1.2.1 ?_
    refine n_shl1 dX1_listOwners_16 (by omega) ?_
    refine n_icmp_ge (tgt := 77) dX1_listOwners_17 (by decide) (by omega) (by omega) (fun c17 => ?_) (fun c17 => absurd c17 (by omega))
    exact v_vret rfl dX1_listOwners_77 ⟨rfl, hinv⟩
def oneF (w : WD) (q : Nat) : Nat := if pc (own w q) = 1 then 1 else 0
def OwS (w : WD) (σ : SS) : Prop := ∀ q, q < nSh w → σ.1 7 q = nI (own w q)
theorem own_24 {z : Nat} {w : WD} (hv : WV z w) (q : Nat) : own w q < 2 ^ 24 := by
  have := own_lt w q
  have := p2N hv
  omega
set_option maxRecDepth 100000 in
set_option maxHeartbeats 4000000 in
theorem s_X1_signsWithOneOwner {v : EE} {w : WD} {z : Nat} {σ : SS} (hv : WV z w) (hr : RO w σ) (ho : OwS w σ) : S1 v M_X1_signsWithOneOwner [.ref (v.1 4)] σ (some (.int (nI (sm (oneF w) (nSh w))))) (σ) := by
  refine Sp.of rfl (by decide) rfl (Nat.le_of_ble_eq_true rfl) ?_
  show V v M_X1_signsWithOneOwner _ 0 [(0, .ref (v.1 4))] [] σ
  have hN10 := wv_N hv
  have hp := p2N hv
  have h16 := nSh_le w
  refine v_iconst (x := nI 0) dX1_signsWithOneOwner_0 (by decide +kernel) ?_
  refine v_istore_n (L' := [(1, _), (0, _)]) dX1_signsWithOneOwner_1 rfl (by decide) rfl ?_
  refine v_iconst (x := nI 0) dX1_signsWithOneOwner_2 (by decide +kernel) ?_
  refine v_istore_n (L' := [(2, _), (1, _), (0, _)]) dX1_signsWithOneOwner_3 rfl (by decide) rfl ?_
  refine v_sub [2, 1, 0] rfl ?_
  refine loopN (fun i => V v M_X1_signsWithOneOwner (zR v M_X1_signsWithOneOwner (fun r' σ' => r' = (some (.int (nI (sm (oneF w) (nSh w))))) ∧ σ' = (σ))) 4 [(0, .ref (v.1 4)), (1, .int (nI (sm (oneF w) i))), (2, .int (nI i))] [] (σ)) (nSh w) ?_ ?_
  · intro i hi ih
    refine v_iload_n dX1_signsWithOneOwner_4 rfl ?_
    refine v_aload_n dX1_signsWithOneOwner_5 rfl ?_
    refine v_get (j := 5) iO4 rfl dX1_signsWithOneOwner_6 (by decide) in_X1_signsWithOneOwner_X1 fl_X1_signsWithOneOwner_40 rfl ?_
    refine v_top hr.1.1 ?_
    refine n_icmp_ge (tgt := 40) dX1_signsWithOneOwner_9 (by decide) (by omega) (by omega) (fun c9 => absurd c9 (by omega)) (fun c9 => ?_)
    refine v_iload_n dX1_signsWithOneOwner_12 rfl ?_
    refine v_bipush (x := nI 16) dX1_signsWithOneOwner_13 (by decide +kernel) ?_
    refine n_icmp_ge (tgt := 40) dX1_signsWithOneOwner_15 (by decide) (by omega) (by omega) (fun c15 => absurd c15 (by omega)) (fun c15 => ?_)
    refine v_aload_n dX1_signsWithOneOwner_18 rfl ?_
    refine v_get (j := 2) iO4 rfl dX1_signsWithOneOwner_19 (by decide) in_X1_signsWithOneOwner_X1 fl_X1_signsWithOneOwner_18 rfl ?_
    refine v_iload_n dX1_signsWithOneOwner_22 rfl ?_
    refine v_ialdN i iI7 dX1_signsWithOneOwner_23 rfl (by omega) (by decide) ?_
    refine v_top (ho i hi) ?_
    refine v_callSi (M' := M_J6_bitCount_0f7a4) (As := [_]) (s_J6_bitCount_0f7a4 (own_24 hv i)) dX1_signsWithOneOwner_24 gX1_signsWithOneOwner_J6_bitCount_0f7a4 rfl nn_J6_bitCount_0f7a4 ⟨rfl, rfl⟩ ⟨by decide, by decide⟩ rfl rfl (Nat.le_of_ble_eq_true rfl) ?_
    have hpl := pc_leN hN10 (own_lt w i)
    refine v_iconst (x := nI 1) dX1_signsWithOneOwner_27 (by decide +kernel) ?_
    refine n_icmp_ne (tgt := 34) dX1_signsWithOneOwner_28 (by decide) (by omega) (by omega) (fun c28 => ?_) (fun c28 => ?_)
    · have e : sm (oneF w) (i + 1) = sm (oneF w) i := by rw [sm, oneF, if_neg c28, Nat.add_zero]
      rw [e] at ih
      refine n_iinc (n := 1) (L' := [(2, _), (0, _), (1, _)]) dX1_signsWithOneOwner_34 rfl (by decide) rfl ?_
      refine v_goto (tgt := 4) dX1_signsWithOneOwner_37 (by decide) ?_
      refine v_sub [1, 2, 0] rfl ?_
      exact ih
    · refine n_iinc (n := 1) (L' := [(1, _), (0, _), (2, _)]) dX1_signsWithOneOwner_31 rfl (by decide) rfl ?_
      have e : sm (oneF w) (i + 1) = sm (oneF w) i + 1 := by rw [sm, oneF, if_pos c28]
      rw [e] at ih
      refine n_iinc (n := 1) (L' := [(2, _), (1, _), (0, _)]) dX1_signsWithOneOwner_34 rfl (by decide) rfl ?_
      refine v_goto (tgt := 4) dX1_signsWithOneOwner_37 (by decide) ?_
      refine v_sub [2, 1, 0] rfl ?_
      exact ih
  · refine v_iload_n dX1_signsWithOneOwner_4 rfl ?_
    refine v_aload_n dX1_signsWithOneOwner_5 rfl ?_
    refine v_get (j := 5) iO4 rfl dX1_signsWithOneOwner_6 (by decide) in_X1_signsWithOneOwner_X1 fl_X1_signsWithOneOwner_40 rfl ?_
    refine v_top hr.1.1 ?_
    refine n_icmp_ge (tgt := 40) dX1_signsWithOneOwner_9 (by decide) (by omega) (by omega) (fun c9 => ?_) (fun c9 => absurd c9 (by omega))
    refine v_iload_n dX1_signsWithOneOwner_40 rfl ?_
    exact v_iret rfl dX1_signsWithOneOwner_41 ⟨rfl, rfl⟩
set_option maxRecDepth 100000 in
set_option maxHeartbeats 4000000 in
theorem s_J6_numberOfTrailingZeros_0f7a4 {v : EE} {σ : SS} {m : Nat} (hm : m < 10) : S1 v M_J6_numberOfTrailingZeros_0f7a4 [.int (nI (2 ^ m))] σ (some (.int (nI m))) (σ) := by
  refine Sp.of rfl (by decide) rfl (Nat.le_of_ble_eq_true rfl) ?_
  show V v M_J6_numberOfTrailingZeros_0f7a4 _ 0 [(0, .int (nI (2 ^ m)))] [] σ
  rcases (by omega : m = 0 ∨ m = 1 ∨ m = 2 ∨ m = 3 ∨ m = 4 ∨ m = 5 ∨ m = 6 ∨ m = 7 ∨ m = 8 ∨ m = 9) with rfl | rfl | rfl | rfl | rfl | rfl | rfl | rfl | rfl | rfl
  · refine v_iload_n dJ6_numberOfTrailingZeros_0f7a4_0 rfl ?_
    refine v_iconst (x := (-1)) dJ6_numberOfTrailingZeros_0f7a4_1 rfl ?_
    refine v_ixor dJ6_numberOfTrailingZeros_0f7a4_2 ?_
    refine v_iload_n dJ6_numberOfTrailingZeros_0f7a4_3 rfl ?_
    refine v_iconst (x := 1) dJ6_numberOfTrailingZeros_0f7a4_4 rfl ?_
    refine v_isub dJ6_numberOfTrailingZeros_0f7a4_5 ?_
    refine v_iand dJ6_numberOfTrailingZeros_0f7a4_6 ?_
    refine v_top (y := 0) (by decide) ?_
    refine v_istore_n (L' := [(0, _)]) dJ6_numberOfTrailingZeros_0f7a4_7 rfl (by decide) rfl ?_
    refine v_iload_n dJ6_numberOfTrailingZeros_0f7a4_8 rfl ?_
    refine v_if_gt (tgt := 17) dJ6_numberOfTrailingZeros_0f7a4_9 (by decide) (fun c9 => absurd c9 (by decide)) (fun c9 => ?_)
    refine v_iload_n dJ6_numberOfTrailingZeros_0f7a4_12 rfl ?_
    refine v_bipush (x := 32) dJ6_numberOfTrailingZeros_0f7a4_13 (by decide +kernel) ?_
    refine v_iand dJ6_numberOfTrailingZeros_0f7a4_15 ?_
    exact v_iret rfl dJ6_numberOfTrailingZeros_0f7a4_16 ⟨by decide, rfl⟩
  · refine v_iload_n dJ6_numberOfTrailingZeros_0f7a4_0 rfl ?_
    refine v_iconst (x := (-1)) dJ6_numberOfTrailingZeros_0f7a4_1 rfl ?_
    refine v_ixor dJ6_numberOfTrailingZeros_0f7a4_2 ?_
    refine v_iload_n dJ6_numberOfTrailingZeros_0f7a4_3 rfl ?_
    refine v_iconst (x := 1) dJ6_numberOfTrailingZeros_0f7a4_4 rfl ?_
    refine v_isub dJ6_numberOfTrailingZeros_0f7a4_5 ?_
    refine v_iand dJ6_numberOfTrailingZeros_0f7a4_6 ?_
    refine v_top (y := 1) (by decide) ?_
    refine v_istore_n (L' := [(0, _)]) dJ6_numberOfTrailingZeros_0f7a4_7 rfl (by decide) rfl ?_
    refine v_iload_n dJ6_numberOfTrailingZeros_0f7a4_8 rfl ?_
    refine v_if_gt (tgt := 17) dJ6_numberOfTrailingZeros_0f7a4_9 (by decide) (fun c9 => ?_) (fun c9 => absurd (by decide) c9)
    refine v_iconst (x := 1) dJ6_numberOfTrailingZeros_0f7a4_17 rfl ?_
    refine v_istore_n (L' := [(1, _), (0, _)]) dJ6_numberOfTrailingZeros_0f7a4_18 rfl (by decide) rfl ?_
    refine v_iload_n dJ6_numberOfTrailingZeros_0f7a4_19 rfl ?_
    refine v_ldcw (x := (65536)) (by decide +kernel) dJ6_numberOfTrailingZeros_0f7a4_20 ?_
    refine v_icmp_le (tgt := 34) dJ6_numberOfTrailingZeros_0f7a4_23 (by decide) (fun c23 => ?_) (fun c23 => absurd (by decide) c23)
    refine v_iload_n dJ6_numberOfTrailingZeros_0f7a4_34 rfl ?_
    refine v_sipush (x := 256) dJ6_numberOfTrailingZeros_0f7a4_35 (by decide +kernel) ?_
    refine v_icmp_le (tgt := 49) dJ6_numberOfTrailingZeros_0f7a4_38 (by decide) (fun c38 => ?_) (fun c38 => absurd (by decide) c38)
    refine v_iload_n dJ6_numberOfTrailingZeros_0f7a4_49 rfl ?_
    refine v_bipush (x := 16) dJ6_numberOfTrailingZeros_0f7a4_50 (by decide +kernel) ?_
    refine v_icmp_le (tgt := 62) dJ6_numberOfTrailingZeros_0f7a4_52 (by decide) (fun c52 => ?_) (fun c52 => absurd (by decide) c52)
    refine v_iload_n dJ6_numberOfTrailingZeros_0f7a4_62 rfl ?_
    refine v_iconst (x := 4) dJ6_numberOfTrailingZeros_0f7a4_63 rfl ?_
    refine v_icmp_le (tgt := 74) dJ6_numberOfTrailingZeros_0f7a4_64 (by decide) (fun c64 => ?_) (fun c64 => absurd (by decide) c64)
    refine v_iload_n dJ6_numberOfTrailingZeros_0f7a4_74 rfl ?_
    refine v_iload_n dJ6_numberOfTrailingZeros_0f7a4_75 rfl ?_
    refine v_iconst (x := 1) dJ6_numberOfTrailingZeros_0f7a4_76 rfl ?_
    refine v_iushr dJ6_numberOfTrailingZeros_0f7a4_77 rfl ?_
    refine v_top (y := 0) (by decide) ?_
    refine v_iadd dJ6_numberOfTrailingZeros_0f7a4_78 ?_
    exact v_iret rfl dJ6_numberOfTrailingZeros_0f7a4_79 ⟨by decide, rfl⟩
  · refine v_iload_n dJ6_numberOfTrailingZeros_0f7a4_0 rfl ?_
    refine v_iconst (x := (-1)) dJ6_numberOfTrailingZeros_0f7a4_1 rfl ?_
    refine v_ixor dJ6_numberOfTrailingZeros_0f7a4_2 ?_
    refine v_iload_n dJ6_numberOfTrailingZeros_0f7a4_3 rfl ?_
    refine v_iconst (x := 1) dJ6_numberOfTrailingZeros_0f7a4_4 rfl ?_
    refine v_isub dJ6_numberOfTrailingZeros_0f7a4_5 ?_
    refine v_iand dJ6_numberOfTrailingZeros_0f7a4_6 ?_
    refine v_top (y := 3) (by decide) ?_
    refine v_istore_n (L' := [(0, _)]) dJ6_numberOfTrailingZeros_0f7a4_7 rfl (by decide) rfl ?_
    refine v_iload_n dJ6_numberOfTrailingZeros_0f7a4_8 rfl ?_
    refine v_if_gt (tgt := 17) dJ6_numberOfTrailingZeros_0f7a4_9 (by decide) (fun c9 => ?_) (fun c9 => absurd (by decide) c9)
    refine v_iconst (x := 1) dJ6_numberOfTrailingZeros_0f7a4_17 rfl ?_
    refine v_istore_n (L' := [(1, _), (0, _)]) dJ6_numberOfTrailingZeros_0f7a4_18 rfl (by decide) rfl ?_
    refine v_iload_n dJ6_numberOfTrailingZeros_0f7a4_19 rfl ?_
    refine v_ldcw (x := (65536)) (by decide +kernel) dJ6_numberOfTrailingZeros_0f7a4_20 ?_
    refine v_icmp_le (tgt := 34) dJ6_numberOfTrailingZeros_0f7a4_23 (by decide) (fun c23 => ?_) (fun c23 => absurd (by decide) c23)
    refine v_iload_n dJ6_numberOfTrailingZeros_0f7a4_34 rfl ?_
    refine v_sipush (x := 256) dJ6_numberOfTrailingZeros_0f7a4_35 (by decide +kernel) ?_
    refine v_icmp_le (tgt := 49) dJ6_numberOfTrailingZeros_0f7a4_38 (by decide) (fun c38 => ?_) (fun c38 => absurd (by decide) c38)
    refine v_iload_n dJ6_numberOfTrailingZeros_0f7a4_49 rfl ?_
    refine v_bipush (x := 16) dJ6_numberOfTrailingZeros_0f7a4_50 (by decide +kernel) ?_
    refine v_icmp_le (tgt := 62) dJ6_numberOfTrailingZeros_0f7a4_52 (by decide) (fun c52 => ?_) (fun c52 => absurd (by decide) c52)
    refine v_iload_n dJ6_numberOfTrailingZeros_0f7a4_62 rfl ?_
    refine v_iconst (x := 4) dJ6_numberOfTrailingZeros_0f7a4_63 rfl ?_
    refine v_icmp_le (tgt := 74) dJ6_numberOfTrailingZeros_0f7a4_64 (by decide) (fun c64 => ?_) (fun c64 => absurd (by decide) c64)
    refine v_iload_n dJ6_numberOfTrailingZeros_0f7a4_74 rfl ?_
    refine v_iload_n dJ6_numberOfTrailingZeros_0f7a4_75 rfl ?_
    refine v_iconst (x := 1) dJ6_numberOfTrailingZeros_0f7a4_76 rfl ?_
    refine v_iushr dJ6_numberOfTrailingZeros_0f7a4_77 rfl ?_
    refine v_top (y := 1) (by decide) ?_
    refine v_iadd dJ6_numberOfTrailingZeros_0f7a4_78 ?_
    exact v_iret rfl dJ6_numberOfTrailingZeros_0f7a4_79 ⟨by decide, rfl⟩
  · refine v_iload_n dJ6_numberOfTrailingZeros_0f7a4_0 rfl ?_
    refine v_iconst (x := (-1)) dJ6_numberOfTrailingZeros_0f7a4_1 rfl ?_
    refine v_ixor dJ6_numberOfTrailingZeros_0f7a4_2 ?_
    refine v_iload_n dJ6_numberOfTrailingZeros_0f7a4_3 rfl ?_
    refine v_iconst (x := 1) dJ6_numberOfTrailingZeros_0f7a4_4 rfl ?_
    refine v_isub dJ6_numberOfTrailingZeros_0f7a4_5 ?_
    refine v_iand dJ6_numberOfTrailingZeros_0f7a4_6 ?_
    refine v_top (y := 7) (by decide) ?_
    refine v_istore_n (L' := [(0, _)]) dJ6_numberOfTrailingZeros_0f7a4_7 rfl (by decide) rfl ?_
    refine v_iload_n dJ6_numberOfTrailingZeros_0f7a4_8 rfl ?_
    refine v_if_gt (tgt := 17) dJ6_numberOfTrailingZeros_0f7a4_9 (by decide) (fun c9 => ?_) (fun c9 => absurd (by decide) c9)
    refine v_iconst (x := 1) dJ6_numberOfTrailingZeros_0f7a4_17 rfl ?_
    refine v_istore_n (L' := [(1, _), (0, _)]) dJ6_numberOfTrailingZeros_0f7a4_18 rfl (by decide) rfl ?_
    refine v_iload_n dJ6_numberOfTrailingZeros_0f7a4_19 rfl ?_
    refine v_ldcw (x := (65536)) (by decide +kernel) dJ6_numberOfTrailingZeros_0f7a4_20 ?_
    refine v_icmp_le (tgt := 34) dJ6_numberOfTrailingZeros_0f7a4_23 (by decide) (fun c23 => ?_) (fun c23 => absurd (by decide) c23)
    refine v_iload_n dJ6_numberOfTrailingZeros_0f7a4_34 rfl ?_
    refine v_sipush (x := 256) dJ6_numberOfTrailingZeros_0f7a4_35 (by decide +kernel) ?_
    refine v_icmp_le (tgt := 49) dJ6_numberOfTrailingZeros_0f7a4_38 (by decide) (fun c38 => ?_) (fun c38 => absurd (by decide) c38)
    refine v_iload_n dJ6_numberOfTrailingZeros_0f7a4_49 rfl ?_
    refine v_bipush (x := 16) dJ6_numberOfTrailingZeros_0f7a4_50 (by decide +kernel) ?_
    refine v_icmp_le (tgt := 62) dJ6_numberOfTrailingZeros_0f7a4_52 (by decide) (fun c52 => ?_) (fun c52 => absurd (by decide) c52)
    refine v_iload_n dJ6_numberOfTrailingZeros_0f7a4_62 rfl ?_
    refine v_iconst (x := 4) dJ6_numberOfTrailingZeros_0f7a4_63 rfl ?_
    refine v_icmp_le (tgt := 74) dJ6_numberOfTrailingZeros_0f7a4_64 (by decide) (fun c64 => absurd c64 (by decide)) (fun c64 => ?_)
    refine v_iinc (y := 3) (L' := [(1, .int (3)), (0, _)]) dJ6_numberOfTrailingZeros_0f7a4_67 rfl (by decide) (by decide) rfl ?_
    refine v_iload_n dJ6_numberOfTrailingZeros_0f7a4_70 rfl ?_
    refine v_iconst (x := 2) dJ6_numberOfTrailingZeros_0f7a4_71 rfl ?_
    refine v_iushr dJ6_numberOfTrailingZeros_0f7a4_72 rfl ?_
    refine v_top (y := 1) (by decide) ?_
    refine v_istore_n (L' := [(0, _), (1, _)]) dJ6_numberOfTrailingZeros_0f7a4_73 rfl (by decide) rfl ?_
    refine v_iload_n dJ6_numberOfTrailingZeros_0f7a4_74 rfl ?_
    refine v_iload_n dJ6_numberOfTrailingZeros_0f7a4_75 rfl ?_
    refine v_iconst (x := 1) dJ6_numberOfTrailingZeros_0f7a4_76 rfl ?_
    refine v_iushr dJ6_numberOfTrailingZeros_0f7a4_77 rfl ?_
    refine v_top (y := 0) (by decide) ?_
    refine v_iadd dJ6_numberOfTrailingZeros_0f7a4_78 ?_
    exact v_iret rfl dJ6_numberOfTrailingZeros_0f7a4_79 ⟨by decide, rfl⟩
  · refine v_iload_n dJ6_numberOfTrailingZeros_0f7a4_0 rfl ?_
    refine v_iconst (x := (-1)) dJ6_numberOfTrailingZeros_0f7a4_1 rfl ?_
    refine v_ixor dJ6_numberOfTrailingZeros_0f7a4_2 ?_
    refine v_iload_n dJ6_numberOfTrailingZeros_0f7a4_3 rfl ?_
    refine v_iconst (x := 1) dJ6_numberOfTrailingZeros_0f7a4_4 rfl ?_
    refine v_isub dJ6_numberOfTrailingZeros_0f7a4_5 ?_
    refine v_iand dJ6_numberOfTrailingZeros_0f7a4_6 ?_
    refine v_top (y := 15) (by decide) ?_
    refine v_istore_n (L' := [(0, _)]) dJ6_numberOfTrailingZeros_0f7a4_7 rfl (by decide) rfl ?_
    refine v_iload_n dJ6_numberOfTrailingZeros_0f7a4_8 rfl ?_
    refine v_if_gt (tgt := 17) dJ6_numberOfTrailingZeros_0f7a4_9 (by decide) (fun c9 => ?_) (fun c9 => absurd (by decide) c9)
    refine v_iconst (x := 1) dJ6_numberOfTrailingZeros_0f7a4_17 rfl ?_
    refine v_istore_n (L' := [(1, _), (0, _)]) dJ6_numberOfTrailingZeros_0f7a4_18 rfl (by decide) rfl ?_
    refine v_iload_n dJ6_numberOfTrailingZeros_0f7a4_19 rfl ?_
    refine v_ldcw (x := (65536)) (by decide +kernel) dJ6_numberOfTrailingZeros_0f7a4_20 ?_
    refine v_icmp_le (tgt := 34) dJ6_numberOfTrailingZeros_0f7a4_23 (by decide) (fun c23 => ?_) (fun c23 => absurd (by decide) c23)
    refine v_iload_n dJ6_numberOfTrailingZeros_0f7a4_34 rfl ?_
    refine v_sipush (x := 256) dJ6_numberOfTrailingZeros_0f7a4_35 (by decide +kernel) ?_
    refine v_icmp_le (tgt := 49) dJ6_numberOfTrailingZeros_0f7a4_38 (by decide) (fun c38 => ?_) (fun c38 => absurd (by decide) c38)
    refine v_iload_n dJ6_numberOfTrailingZeros_0f7a4_49 rfl ?_
    refine v_bipush (x := 16) dJ6_numberOfTrailingZeros_0f7a4_50 (by decide +kernel) ?_
    refine v_icmp_le (tgt := 62) dJ6_numberOfTrailingZeros_0f7a4_52 (by decide) (fun c52 => ?_) (fun c52 => absurd (by decide) c52)
    refine v_iload_n dJ6_numberOfTrailingZeros_0f7a4_62 rfl ?_
    refine v_iconst (x := 4) dJ6_numberOfTrailingZeros_0f7a4_63 rfl ?_
    refine v_icmp_le (tgt := 74) dJ6_numberOfTrailingZeros_0f7a4_64 (by decide) (fun c64 => absurd c64 (by decide)) (fun c64 => ?_)
    refine v_iinc (y := 3) (L' := [(1, .int (3)), (0, _)]) dJ6_numberOfTrailingZeros_0f7a4_67 rfl (by decide) (by decide) rfl ?_
    refine v_iload_n dJ6_numberOfTrailingZeros_0f7a4_70 rfl ?_
    refine v_iconst (x := 2) dJ6_numberOfTrailingZeros_0f7a4_71 rfl ?_
    refine v_iushr dJ6_numberOfTrailingZeros_0f7a4_72 rfl ?_
    refine v_top (y := 3) (by decide) ?_
    refine v_istore_n (L' := [(0, _), (1, _)]) dJ6_numberOfTrailingZeros_0f7a4_73 rfl (by decide) rfl ?_
    refine v_iload_n dJ6_numberOfTrailingZeros_0f7a4_74 rfl ?_
    refine v_iload_n dJ6_numberOfTrailingZeros_0f7a4_75 rfl ?_
    refine v_iconst (x := 1) dJ6_numberOfTrailingZeros_0f7a4_76 rfl ?_
    refine v_iushr dJ6_numberOfTrailingZeros_0f7a4_77 rfl ?_
    refine v_top (y := 1) (by decide) ?_
    refine v_iadd dJ6_numberOfTrailingZeros_0f7a4_78 ?_
    exact v_iret rfl dJ6_numberOfTrailingZeros_0f7a4_79 ⟨by decide, rfl⟩
  · refine v_iload_n dJ6_numberOfTrailingZeros_0f7a4_0 rfl ?_
    refine v_iconst (x := (-1)) dJ6_numberOfTrailingZeros_0f7a4_1 rfl ?_
    refine v_ixor dJ6_numberOfTrailingZeros_0f7a4_2 ?_
    refine v_iload_n dJ6_numberOfTrailingZeros_0f7a4_3 rfl ?_
    refine v_iconst (x := 1) dJ6_numberOfTrailingZeros_0f7a4_4 rfl ?_
    refine v_isub dJ6_numberOfTrailingZeros_0f7a4_5 ?_
    refine v_iand dJ6_numberOfTrailingZeros_0f7a4_6 ?_
    refine v_top (y := 31) (by decide) ?_
    refine v_istore_n (L' := [(0, _)]) dJ6_numberOfTrailingZeros_0f7a4_7 rfl (by decide) rfl ?_
    refine v_iload_n dJ6_numberOfTrailingZeros_0f7a4_8 rfl ?_
    refine v_if_gt (tgt := 17) dJ6_numberOfTrailingZeros_0f7a4_9 (by decide) (fun c9 => ?_) (fun c9 => absurd (by decide) c9)
    refine v_iconst (x := 1) dJ6_numberOfTrailingZeros_0f7a4_17 rfl ?_
    refine v_istore_n (L' := [(1, _), (0, _)]) dJ6_numberOfTrailingZeros_0f7a4_18 rfl (by decide) rfl ?_
    refine v_iload_n dJ6_numberOfTrailingZeros_0f7a4_19 rfl ?_
    refine v_ldcw (x := (65536)) (by decide +kernel) dJ6_numberOfTrailingZeros_0f7a4_20 ?_
    refine v_icmp_le (tgt := 34) dJ6_numberOfTrailingZeros_0f7a4_23 (by decide) (fun c23 => ?_) (fun c23 => absurd (by decide) c23)
    refine v_iload_n dJ6_numberOfTrailingZeros_0f7a4_34 rfl ?_
    refine v_sipush (x := 256) dJ6_numberOfTrailingZeros_0f7a4_35 (by decide +kernel) ?_
    refine v_icmp_le (tgt := 49) dJ6_numberOfTrailingZeros_0f7a4_38 (by decide) (fun c38 => ?_) (fun c38 => absurd (by decide) c38)
    refine v_iload_n dJ6_numberOfTrailingZeros_0f7a4_49 rfl ?_
    refine v_bipush (x := 16) dJ6_numberOfTrailingZeros_0f7a4_50 (by decide +kernel) ?_
    refine v_icmp_le (tgt := 62) dJ6_numberOfTrailingZeros_0f7a4_52 (by decide) (fun c52 => absurd c52 (by decide)) (fun c52 => ?_)
    refine v_iinc (y := 5) (L' := [(1, .int (5)), (0, _)]) dJ6_numberOfTrailingZeros_0f7a4_55 rfl (by decide) (by decide) rfl ?_
    refine v_iload_n dJ6_numberOfTrailingZeros_0f7a4_58 rfl ?_
    refine v_iconst (x := 4) dJ6_numberOfTrailingZeros_0f7a4_59 rfl ?_
    refine v_iushr dJ6_numberOfTrailingZeros_0f7a4_60 rfl ?_
    refine v_top (y := 1) (by decide) ?_
    refine v_istore_n (L' := [(0, _), (1, _)]) dJ6_numberOfTrailingZeros_0f7a4_61 rfl (by decide) rfl ?_
    refine v_iload_n dJ6_numberOfTrailingZeros_0f7a4_62 rfl ?_
    refine v_iconst (x := 4) dJ6_numberOfTrailingZeros_0f7a4_63 rfl ?_
    refine v_icmp_le (tgt := 74) dJ6_numberOfTrailingZeros_0f7a4_64 (by decide) (fun c64 => ?_) (fun c64 => absurd (by decide) c64)
    refine v_iload_n dJ6_numberOfTrailingZeros_0f7a4_74 rfl ?_
    refine v_iload_n dJ6_numberOfTrailingZeros_0f7a4_75 rfl ?_
    refine v_iconst (x := 1) dJ6_numberOfTrailingZeros_0f7a4_76 rfl ?_
    refine v_iushr dJ6_numberOfTrailingZeros_0f7a4_77 rfl ?_
    refine v_top (y := 0) (by decide) ?_
    refine v_iadd dJ6_numberOfTrailingZeros_0f7a4_78 ?_
    exact v_iret rfl dJ6_numberOfTrailingZeros_0f7a4_79 ⟨by decide, rfl⟩
  · refine v_iload_n dJ6_numberOfTrailingZeros_0f7a4_0 rfl ?_
    refine v_iconst (x := (-1)) dJ6_numberOfTrailingZeros_0f7a4_1 rfl ?_
    refine v_ixor dJ6_numberOfTrailingZeros_0f7a4_2 ?_
    refine v_iload_n dJ6_numberOfTrailingZeros_0f7a4_3 rfl ?_
    refine v_iconst (x := 1) dJ6_numberOfTrailingZeros_0f7a4_4 rfl ?_
    refine v_isub dJ6_numberOfTrailingZeros_0f7a4_5 ?_
    refine v_iand dJ6_numberOfTrailingZeros_0f7a4_6 ?_
    refine v_top (y := 63) (by decide) ?_
    refine v_istore_n (L' := [(0, _)]) dJ6_numberOfTrailingZeros_0f7a4_7 rfl (by decide) rfl ?_
    refine v_iload_n dJ6_numberOfTrailingZeros_0f7a4_8 rfl ?_
    refine v_if_gt (tgt := 17) dJ6_numberOfTrailingZeros_0f7a4_9 (by decide) (fun c9 => ?_) (fun c9 => absurd (by decide) c9)
    refine v_iconst (x := 1) dJ6_numberOfTrailingZeros_0f7a4_17 rfl ?_
    refine v_istore_n (L' := [(1, _), (0, _)]) dJ6_numberOfTrailingZeros_0f7a4_18 rfl (by decide) rfl ?_
    refine v_iload_n dJ6_numberOfTrailingZeros_0f7a4_19 rfl ?_
    refine v_ldcw (x := (65536)) (by decide +kernel) dJ6_numberOfTrailingZeros_0f7a4_20 ?_
    refine v_icmp_le (tgt := 34) dJ6_numberOfTrailingZeros_0f7a4_23 (by decide) (fun c23 => ?_) (fun c23 => absurd (by decide) c23)
    refine v_iload_n dJ6_numberOfTrailingZeros_0f7a4_34 rfl ?_
    refine v_sipush (x := 256) dJ6_numberOfTrailingZeros_0f7a4_35 (by decide +kernel) ?_
    refine v_icmp_le (tgt := 49) dJ6_numberOfTrailingZeros_0f7a4_38 (by decide) (fun c38 => ?_) (fun c38 => absurd (by decide) c38)
    refine v_iload_n dJ6_numberOfTrailingZeros_0f7a4_49 rfl ?_
    refine v_bipush (x := 16) dJ6_numberOfTrailingZeros_0f7a4_50 (by decide +kernel) ?_
    refine v_icmp_le (tgt := 62) dJ6_numberOfTrailingZeros_0f7a4_52 (by decide) (fun c52 => absurd c52 (by decide)) (fun c52 => ?_)
    refine v_iinc (y := 5) (L' := [(1, .int (5)), (0, _)]) dJ6_numberOfTrailingZeros_0f7a4_55 rfl (by decide) (by decide) rfl ?_
    refine v_iload_n dJ6_numberOfTrailingZeros_0f7a4_58 rfl ?_
    refine v_iconst (x := 4) dJ6_numberOfTrailingZeros_0f7a4_59 rfl ?_
    refine v_iushr dJ6_numberOfTrailingZeros_0f7a4_60 rfl ?_
    refine v_top (y := 3) (by decide) ?_
    refine v_istore_n (L' := [(0, _), (1, _)]) dJ6_numberOfTrailingZeros_0f7a4_61 rfl (by decide) rfl ?_
    refine v_iload_n dJ6_numberOfTrailingZeros_0f7a4_62 rfl ?_
    refine v_iconst (x := 4) dJ6_numberOfTrailingZeros_0f7a4_63 rfl ?_
    refine v_icmp_le (tgt := 74) dJ6_numberOfTrailingZeros_0f7a4_64 (by decide) (fun c64 => ?_) (fun c64 => absurd (by decide) c64)
    refine v_iload_n dJ6_numberOfTrailingZeros_0f7a4_74 rfl ?_
    refine v_iload_n dJ6_numberOfTrailingZeros_0f7a4_75 rfl ?_
    refine v_iconst (x := 1) dJ6_numberOfTrailingZeros_0f7a4_76 rfl ?_
    refine v_iushr dJ6_numberOfTrailingZeros_0f7a4_77 rfl ?_
    refine v_top (y := 1) (by decide) ?_
    refine v_iadd dJ6_numberOfTrailingZeros_0f7a4_78 ?_
    exact v_iret rfl dJ6_numberOfTrailingZeros_0f7a4_79 ⟨by decide, rfl⟩
  · refine v_iload_n dJ6_numberOfTrailingZeros_0f7a4_0 rfl ?_
    refine v_iconst (x := (-1)) dJ6_numberOfTrailingZeros_0f7a4_1 rfl ?_
    refine v_ixor dJ6_numberOfTrailingZeros_0f7a4_2 ?_
    refine v_iload_n dJ6_numberOfTrailingZeros_0f7a4_3 rfl ?_
    refine v_iconst (x := 1) dJ6_numberOfTrailingZeros_0f7a4_4 rfl ?_
    refine v_isub dJ6_numberOfTrailingZeros_0f7a4_5 ?_
    refine v_iand dJ6_numberOfTrailingZeros_0f7a4_6 ?_
    refine v_top (y := 127) (by decide) ?_
    refine v_istore_n (L' := [(0, _)]) dJ6_numberOfTrailingZeros_0f7a4_7 rfl (by decide) rfl ?_
    refine v_iload_n dJ6_numberOfTrailingZeros_0f7a4_8 rfl ?_
    refine v_if_gt (tgt := 17) dJ6_numberOfTrailingZeros_0f7a4_9 (by decide) (fun c9 => ?_) (fun c9 => absurd (by decide) c9)
    refine v_iconst (x := 1) dJ6_numberOfTrailingZeros_0f7a4_17 rfl ?_
    refine v_istore_n (L' := [(1, _), (0, _)]) dJ6_numberOfTrailingZeros_0f7a4_18 rfl (by decide) rfl ?_
    refine v_iload_n dJ6_numberOfTrailingZeros_0f7a4_19 rfl ?_
    refine v_ldcw (x := (65536)) (by decide +kernel) dJ6_numberOfTrailingZeros_0f7a4_20 ?_
    refine v_icmp_le (tgt := 34) dJ6_numberOfTrailingZeros_0f7a4_23 (by decide) (fun c23 => ?_) (fun c23 => absurd (by decide) c23)
    refine v_iload_n dJ6_numberOfTrailingZeros_0f7a4_34 rfl ?_
    refine v_sipush (x := 256) dJ6_numberOfTrailingZeros_0f7a4_35 (by decide +kernel) ?_
    refine v_icmp_le (tgt := 49) dJ6_numberOfTrailingZeros_0f7a4_38 (by decide) (fun c38 => ?_) (fun c38 => absurd (by decide) c38)
    refine v_iload_n dJ6_numberOfTrailingZeros_0f7a4_49 rfl ?_
    refine v_bipush (x := 16) dJ6_numberOfTrailingZeros_0f7a4_50 (by decide +kernel) ?_
    refine v_icmp_le (tgt := 62) dJ6_numberOfTrailingZeros_0f7a4_52 (by decide) (fun c52 => absurd c52 (by decide)) (fun c52 => ?_)
    refine v_iinc (y := 5) (L' := [(1, .int (5)), (0, _)]) dJ6_numberOfTrailingZeros_0f7a4_55 rfl (by decide) (by decide) rfl ?_
    refine v_iload_n dJ6_numberOfTrailingZeros_0f7a4_58 rfl ?_
    refine v_iconst (x := 4) dJ6_numberOfTrailingZeros_0f7a4_59 rfl ?_
    refine v_iushr dJ6_numberOfTrailingZeros_0f7a4_60 rfl ?_
    refine v_top (y := 7) (by decide) ?_
    refine v_istore_n (L' := [(0, _), (1, _)]) dJ6_numberOfTrailingZeros_0f7a4_61 rfl (by decide) rfl ?_
    refine v_iload_n dJ6_numberOfTrailingZeros_0f7a4_62 rfl ?_
    refine v_iconst (x := 4) dJ6_numberOfTrailingZeros_0f7a4_63 rfl ?_
    refine v_icmp_le (tgt := 74) dJ6_numberOfTrailingZeros_0f7a4_64 (by decide) (fun c64 => absurd c64 (by decide)) (fun c64 => ?_)
    refine v_iinc (y := 7) (L' := [(1, .int (7)), (0, _)]) dJ6_numberOfTrailingZeros_0f7a4_67 rfl (by decide) (by decide) rfl ?_
    refine v_iload_n dJ6_numberOfTrailingZeros_0f7a4_70 rfl ?_
    refine v_iconst (x := 2) dJ6_numberOfTrailingZeros_0f7a4_71 rfl ?_
    refine v_iushr dJ6_numberOfTrailingZeros_0f7a4_72 rfl ?_
    refine v_top (y := 1) (by decide) ?_
    refine v_istore_n (L' := [(0, _), (1, _)]) dJ6_numberOfTrailingZeros_0f7a4_73 rfl (by decide) rfl ?_
    refine v_iload_n dJ6_numberOfTrailingZeros_0f7a4_74 rfl ?_
    refine v_iload_n dJ6_numberOfTrailingZeros_0f7a4_75 rfl ?_
    refine v_iconst (x := 1) dJ6_numberOfTrailingZeros_0f7a4_76 rfl ?_
    refine v_iushr dJ6_numberOfTrailingZeros_0f7a4_77 rfl ?_
    refine v_top (y := 0) (by decide) ?_
    refine v_iadd dJ6_numberOfTrailingZeros_0f7a4_78 ?_
    exact v_iret rfl dJ6_numberOfTrailingZeros_0f7a4_79 ⟨by decide, rfl⟩
  · refine v_iload_n dJ6_numberOfTrailingZeros_0f7a4_0 rfl ?_
    refine v_iconst (x := (-1)) dJ6_numberOfTrailingZeros_0f7a4_1 rfl ?_
    refine v_ixor dJ6_numberOfTrailingZeros_0f7a4_2 ?_
    refine v_iload_n dJ6_numberOfTrailingZeros_0f7a4_3 rfl ?_
    refine v_iconst (x := 1) dJ6_numberOfTrailingZeros_0f7a4_4 rfl ?_
    refine v_isub dJ6_numberOfTrailingZeros_0f7a4_5 ?_
    refine v_iand dJ6_numberOfTrailingZeros_0f7a4_6 ?_
    refine v_top (y := 255) (by decide) ?_
    refine v_istore_n (L' := [(0, _)]) dJ6_numberOfTrailingZeros_0f7a4_7 rfl (by decide) rfl ?_
    refine v_iload_n dJ6_numberOfTrailingZeros_0f7a4_8 rfl ?_
    refine v_if_gt (tgt := 17) dJ6_numberOfTrailingZeros_0f7a4_9 (by decide) (fun c9 => ?_) (fun c9 => absurd (by decide) c9)
    refine v_iconst (x := 1) dJ6_numberOfTrailingZeros_0f7a4_17 rfl ?_
    refine v_istore_n (L' := [(1, _), (0, _)]) dJ6_numberOfTrailingZeros_0f7a4_18 rfl (by decide) rfl ?_
    refine v_iload_n dJ6_numberOfTrailingZeros_0f7a4_19 rfl ?_
    refine v_ldcw (x := (65536)) (by decide +kernel) dJ6_numberOfTrailingZeros_0f7a4_20 ?_
    refine v_icmp_le (tgt := 34) dJ6_numberOfTrailingZeros_0f7a4_23 (by decide) (fun c23 => ?_) (fun c23 => absurd (by decide) c23)
    refine v_iload_n dJ6_numberOfTrailingZeros_0f7a4_34 rfl ?_
    refine v_sipush (x := 256) dJ6_numberOfTrailingZeros_0f7a4_35 (by decide +kernel) ?_
    refine v_icmp_le (tgt := 49) dJ6_numberOfTrailingZeros_0f7a4_38 (by decide) (fun c38 => ?_) (fun c38 => absurd (by decide) c38)
    refine v_iload_n dJ6_numberOfTrailingZeros_0f7a4_49 rfl ?_
    refine v_bipush (x := 16) dJ6_numberOfTrailingZeros_0f7a4_50 (by decide +kernel) ?_
    refine v_icmp_le (tgt := 62) dJ6_numberOfTrailingZeros_0f7a4_52 (by decide) (fun c52 => absurd c52 (by decide)) (fun c52 => ?_)
    refine v_iinc (y := 5) (L' := [(1, .int (5)), (0, _)]) dJ6_numberOfTrailingZeros_0f7a4_55 rfl (by decide) (by decide) rfl ?_
    refine v_iload_n dJ6_numberOfTrailingZeros_0f7a4_58 rfl ?_
    refine v_iconst (x := 4) dJ6_numberOfTrailingZeros_0f7a4_59 rfl ?_
    refine v_iushr dJ6_numberOfTrailingZeros_0f7a4_60 rfl ?_
    refine v_top (y := 15) (by decide) ?_
    refine v_istore_n (L' := [(0, _), (1, _)]) dJ6_numberOfTrailingZeros_0f7a4_61 rfl (by decide) rfl ?_
    refine v_iload_n dJ6_numberOfTrailingZeros_0f7a4_62 rfl ?_
    refine v_iconst (x := 4) dJ6_numberOfTrailingZeros_0f7a4_63 rfl ?_
    refine v_icmp_le (tgt := 74) dJ6_numberOfTrailingZeros_0f7a4_64 (by decide) (fun c64 => absurd c64 (by decide)) (fun c64 => ?_)
    refine v_iinc (y := 7) (L' := [(1, .int (7)), (0, _)]) dJ6_numberOfTrailingZeros_0f7a4_67 rfl (by decide) (by decide) rfl ?_
    refine v_iload_n dJ6_numberOfTrailingZeros_0f7a4_70 rfl ?_
    refine v_iconst (x := 2) dJ6_numberOfTrailingZeros_0f7a4_71 rfl ?_
    refine v_iushr dJ6_numberOfTrailingZeros_0f7a4_72 rfl ?_
    refine v_top (y := 3) (by decide) ?_
    refine v_istore_n (L' := [(0, _), (1, _)]) dJ6_numberOfTrailingZeros_0f7a4_73 rfl (by decide) rfl ?_
    refine v_iload_n dJ6_numberOfTrailingZeros_0f7a4_74 rfl ?_
    refine v_iload_n dJ6_numberOfTrailingZeros_0f7a4_75 rfl ?_
    refine v_iconst (x := 1) dJ6_numberOfTrailingZeros_0f7a4_76 rfl ?_
    refine v_iushr dJ6_numberOfTrailingZeros_0f7a4_77 rfl ?_
    refine v_top (y := 1) (by decide) ?_
    refine v_iadd dJ6_numberOfTrailingZeros_0f7a4_78 ?_
    exact v_iret rfl dJ6_numberOfTrailingZeros_0f7a4_79 ⟨by decide, rfl⟩
  · refine v_iload_n dJ6_numberOfTrailingZeros_0f7a4_0 rfl ?_
    refine v_iconst (x := (-1)) dJ6_numberOfTrailingZeros_0f7a4_1 rfl ?_
    refine v_ixor dJ6_numberOfTrailingZeros_0f7a4_2 ?_
    refine v_iload_n dJ6_numberOfTrailingZeros_0f7a4_3 rfl ?_
    refine v_iconst (x := 1) dJ6_numberOfTrailingZeros_0f7a4_4 rfl ?_
    refine v_isub dJ6_numberOfTrailingZeros_0f7a4_5 ?_
    refine v_iand dJ6_numberOfTrailingZeros_0f7a4_6 ?_
    refine v_top (y := 511) (by decide) ?_
    refine v_istore_n (L' := [(0, _)]) dJ6_numberOfTrailingZeros_0f7a4_7 rfl (by decide) rfl ?_
    refine v_iload_n dJ6_numberOfTrailingZeros_0f7a4_8 rfl ?_
    refine v_if_gt (tgt := 17) dJ6_numberOfTrailingZeros_0f7a4_9 (by decide) (fun c9 => ?_) (fun c9 => absurd (by decide) c9)
    refine v_iconst (x := 1) dJ6_numberOfTrailingZeros_0f7a4_17 rfl ?_
    refine v_istore_n (L' := [(1, _), (0, _)]) dJ6_numberOfTrailingZeros_0f7a4_18 rfl (by decide) rfl ?_
    refine v_iload_n dJ6_numberOfTrailingZeros_0f7a4_19 rfl ?_
    refine v_ldcw (x := (65536)) (by decide +kernel) dJ6_numberOfTrailingZeros_0f7a4_20 ?_
    refine v_icmp_le (tgt := 34) dJ6_numberOfTrailingZeros_0f7a4_23 (by decide) (fun c23 => ?_) (fun c23 => absurd (by decide) c23)
    refine v_iload_n dJ6_numberOfTrailingZeros_0f7a4_34 rfl ?_
    refine v_sipush (x := 256) dJ6_numberOfTrailingZeros_0f7a4_35 (by decide +kernel) ?_
    refine v_icmp_le (tgt := 49) dJ6_numberOfTrailingZeros_0f7a4_38 (by decide) (fun c38 => absurd c38 (by decide)) (fun c38 => ?_)
    refine v_iinc (y := 9) (L' := [(1, .int (9)), (0, _)]) dJ6_numberOfTrailingZeros_0f7a4_41 rfl (by decide) (by decide) rfl ?_
    refine v_iload_n dJ6_numberOfTrailingZeros_0f7a4_44 rfl ?_
    refine v_bipush (x := 8) dJ6_numberOfTrailingZeros_0f7a4_45 (by decide +kernel) ?_
    refine v_iushr dJ6_numberOfTrailingZeros_0f7a4_47 rfl ?_
    refine v_top (y := 1) (by decide) ?_
    refine v_istore_n (L' := [(0, _), (1, _)]) dJ6_numberOfTrailingZeros_0f7a4_48 rfl (by decide) rfl ?_
    refine v_iload_n dJ6_numberOfTrailingZeros_0f7a4_49 rfl ?_
    refine v_bipush (x := 16) dJ6_numberOfTrailingZeros_0f7a4_50 (by decide +kernel) ?_
    refine v_icmp_le (tgt := 62) dJ6_numberOfTrailingZeros_0f7a4_52 (by decide) (fun c52 => ?_) (fun c52 => absurd (by decide) c52)
    refine v_iload_n dJ6_numberOfTrailingZeros_0f7a4_62 rfl ?_
    refine v_iconst (x := 4) dJ6_numberOfTrailingZeros_0f7a4_63 rfl ?_
    refine v_icmp_le (tgt := 74) dJ6_numberOfTrailingZeros_0f7a4_64 (by decide) (fun c64 => ?_) (fun c64 => absurd (by decide) c64)
    refine v_iload_n dJ6_numberOfTrailingZeros_0f7a4_74 rfl ?_
    refine v_iload_n dJ6_numberOfTrailingZeros_0f7a4_75 rfl ?_
    refine v_iconst (x := 1) dJ6_numberOfTrailingZeros_0f7a4_76 rfl ?_
    refine v_iushr dJ6_numberOfTrailingZeros_0f7a4_77 rfl ?_
    refine v_top (y := 0) (by decide) ?_
    refine v_iadd dJ6_numberOfTrailingZeros_0f7a4_78 ?_
    exact v_iret rfl dJ6_numberOfTrailingZeros_0f7a4_79 ⟨by decide, rfl⟩
theorem pc1 : ∀ x, x < 1024 → pc x = 1 → x = 2 ^ Nat.log2 x ∧ Nat.log2 x < 10 := by decide +kernel
def onI (x : Nat) : Int32 := if pc x = 1 then nI (Nat.log2 x) else -4
def nmI (w : WD) (k : Nat) : Int32 := if sh w k then onI (own w (shl w k).length) else -4
set_option maxRecDepth 100000 in
set_option maxHeartbeats 4000000 in
theorem s_X1_onlyOwner {v : EE} {w : WD} {z : Nat} {σ : SS} (hv : WV z w) (hr : RO w σ) (ho : OwS w σ) {k : Nat} (hk : k < 16) : S1 v M_X1_onlyOwner [.ref (v.1 4), .int (nI k)] σ (some (.int (nmI w k))) (σ) := by
  refine Sp.of rfl (by decide) rfl (Nat.le_of_ble_eq_true rfl) ?_
  show V v M_X1_onlyOwner _ 0 [(0, .ref (v.1 4)), (1, .int (nI k))] [] σ
  refine v_aload_n dX1_onlyOwner_0 rfl ?_
  refine v_iload_n dX1_onlyOwner_1 rfl ?_
  refine v_callVi (M' := M_X1_isShown) (As := [_]) iO4 (s_X1_isShown hv hr hk) dX1_onlyOwner_2 gX1_onlyOwner_X1_isShown rfl rfl nn_X1_isShown ⟨rfl, rfl⟩ ⟨by decide, by decide⟩ rfl rfl (Nat.le_of_ble_eq_true rfl) ?_
  refine b_if_eq (tgt := 22) dX1_onlyOwner_5 (by decide) (fun c5 => ?_) (fun c5 => ?_)
  · refine v_iconst (x := 0) dX1_onlyOwner_22 rfl ?_
    refine v_istore_n (L' := [(2, _), (0, _), (1, _)]) dX1_onlyOwner_23 rfl (by decide) rfl ?_
    refine v_iload_n dX1_onlyOwner_24 rfl ?_
    refine v_top (y := nI 0) rfl ?_
    refine v_callSi (M' := M_J6_bitCount_0f7a4) (As := [_]) (s_J6_bitCount_0f7a4 (by decide)) dX1_onlyOwner_25 gX1_onlyOwner_J6_bitCount_0f7a4 rfl nn_J6_bitCount_0f7a4 ⟨rfl, rfl⟩ ⟨by decide, by decide⟩ rfl rfl (Nat.le_of_ble_eq_true rfl) ?_
    refine v_iconst (x := nI 1) dX1_onlyOwner_28 (by decide +kernel) ?_
    refine n_icmp_ne (tgt := 39) dX1_onlyOwner_29 (by decide) (by rw [pc_0]; decide) (by decide) (fun c29 => ?_) (fun c29 => absurd c29 (by rw [pc_0]; decide))
    refine v_bipush (x := (-4)) dX1_onlyOwner_39 (by decide +kernel) ?_
    exact v_iret rfl dX1_onlyOwner_41 ⟨congrArg (fun z => some (Value.int z)) (by rw [nmI, c5]; rfl), rfl⟩
  · have ha := shl_at hk c5
    have hl := shl_len w k
    have hp := p2N hv
    have ho1 := own_lt w (shl w k).length
    have hpl := pc_leN (wv_N hv) ho1
    have hN10 := wv_N hv
    refine v_aload_n dX1_onlyOwner_8 rfl ?_
    refine v_get (j := 2) iO4 rfl dX1_onlyOwner_9 (by decide) in_X1_onlyOwner_X1 fl_X1_onlyOwner_18 rfl ?_
    refine v_aload_n dX1_onlyOwner_12 rfl ?_
    refine v_get (j := 0) iO4 rfl dX1_onlyOwner_13 (by decide) in_X1_onlyOwner_X1 fl_X1_onlyOwner_9 rfl ?_
    refine v_iload_n dX1_onlyOwner_16 rfl ?_
    refine v_ialdN k iI5 dX1_onlyOwner_17 rfl hk (by decide) ?_
    refine v_top (y := nI (shl w k).length) ((hr.2.1 k hk).trans (by rw [pl, c5]; rfl)) ?_
    refine v_ialdN (shl w k).length iI7 dX1_onlyOwner_18 rfl (by omega) (by decide) ?_
    refine v_top (ho _ ha.1) ?_
    refine v_goto (tgt := 23) dX1_onlyOwner_19 (by decide) ?_
    refine v_istore_n (L' := [(2, _), (0, _), (1, _)]) dX1_onlyOwner_23 rfl (by decide) rfl ?_
    refine v_iload_n dX1_onlyOwner_24 rfl ?_
    refine v_callSi (M' := M_J6_bitCount_0f7a4) (As := [_]) (s_J6_bitCount_0f7a4 (own_24 hv _)) dX1_onlyOwner_25 gX1_onlyOwner_J6_bitCount_0f7a4 rfl nn_J6_bitCount_0f7a4 ⟨rfl, rfl⟩ ⟨by decide, by decide⟩ rfl rfl (Nat.le_of_ble_eq_true rfl) ?_
    refine v_iconst (x := nI 1) dX1_onlyOwner_28 (by decide +kernel) ?_
    refine n_icmp_ne (tgt := 39) dX1_onlyOwner_29 (by decide) (by omega) (by decide) (fun c29 => ?_) (fun c29 => ?_)
    · refine v_bipush (x := (-4)) dX1_onlyOwner_39 (by decide +kernel) ?_
      exact v_iret rfl dX1_onlyOwner_41 ⟨congrArg (fun z => some (Value.int z)) (by rw [nmI, c5, if_pos rfl, onI, if_neg c29]), rfl⟩
    · have h2 := pc1 (own w (shl w k).length) (by omega) c29
      refine v_iload_n dX1_onlyOwner_32 rfl ?_
      refine v_top (y := nI (2 ^ Nat.log2 (own w (shl w k).length))) (by rw [← h2.1]) ?_
      refine v_callSi (M' := M_J6_numberOfTrailingZeros_0f7a4) (As := [_]) (s_J6_numberOfTrailingZeros_0f7a4 h2.2) dX1_onlyOwner_33 gX1_onlyOwner_J6_numberOfTrailingZeros_0f7a4 rfl nn_J6_numberOfTrailingZeros_0f7a4 ⟨rfl, rfl⟩ ⟨by decide, by decide⟩ rfl rfl (Nat.le_of_ble_eq_true rfl) ?_
      refine v_goto (tgt := 41) dX1_onlyOwner_36 (by decide) ?_
      exact v_iret rfl dX1_onlyOwner_41 ⟨congrArg (fun z => some (Value.int z)) (by rw [nmI, c5, if_pos rfl, onI, if_pos c29]), rfl⟩
