theorem in_X1_countGiven_X1 : ∀ w ∈ u_ws RX1 TX1 7, w ∈ mWs M_X1_countGiven := by decide +kernel
theorem in_X1_countToGive_X1 : ∀ w ∈ u_ws RX1 TX1 7, w ∈ mWs M_X1_countToGive := by decide +kernel
theorem in_X1_cuttersOf_X1 : ∀ w ∈ u_ws RX1 TX1 7, w ∈ mWs M_X1_cuttersOf := by decide +kernel
theorem in_X1_mayOwnAt_X1 : ∀ w ∈ u_ws RX1 TX1 7, w ∈ mWs M_X1_mayOwnAt := by decide +kernel
theorem fl_X1_countGiven_21 : Cond.fieldLink (mOwn M_X1_countGiven) 21 (TX1 3).1 (TX1 3).2.1 (TX1 3).2.2.1 ∈ mWs M_X1_countGiven := by decide +kernel
theorem fl_X1_countGiven_39 : Cond.fieldLink (mOwn M_X1_countGiven) 39 (TX1 6).1 (TX1 6).2.1 (TX1 6).2.2.1 ∈ mWs M_X1_countGiven := by decide +kernel
theorem fl_X1_countToGive_24 : Cond.fieldLink (mOwn M_X1_countToGive) 24 (TX1 4).1 (TX1 4).2.1 (TX1 4).2.2.1 ∈ mWs M_X1_countToGive := by decide +kernel
theorem fl_X1_countToGive_39 : Cond.fieldLink (mOwn M_X1_countToGive) 39 (TX1 6).1 (TX1 6).2.1 (TX1 6).2.2.1 ∈ mWs M_X1_countToGive := by decide +kernel
theorem fl_X1_countToGive_40 : Cond.fieldLink (mOwn M_X1_countToGive) 40 (TX1 5).1 (TX1 5).2.1 (TX1 5).2.2.1 ∈ mWs M_X1_countToGive := by decide +kernel
theorem fl_X1_cuttersOf_39 : Cond.fieldLink (mOwn M_X1_cuttersOf) 39 (TX1 6).1 (TX1 6).2.1 (TX1 6).2.2.1 ∈ mWs M_X1_cuttersOf := by decide +kernel
theorem fl_X1_mayOwnAt_15 : Cond.fieldLink (mOwn M_X1_mayOwnAt) 15 (TX1 1).1 (TX1 1).2.1 (TX1 1).2.2.1 ∈ mWs M_X1_mayOwnAt := by decide +kernel
theorem fl_X1_mayOwnAt_40 : Cond.fieldLink (mOwn M_X1_mayOwnAt) 40 (TX1 5).1 (TX1 5).2.1 (TX1 5).2.2.1 ∈ mWs M_X1_mayOwnAt := by decide +kernel
theorem nn_X1_mayOwnAt : (mY M_X1_mayOwnAt).cls = mOwn M_X1_mayOwnAt ∧ (mY M_X1_mayOwnAt).cls ≠ "java/lang/invoke/MethodHandle" ∧ (mY M_X1_mayOwnAt).cls ≠ "java/lang/invoke/VarHandle" ∧ (parseMethodDescriptor (mY M_X1_mayOwnAt).desc).map (fun d => d.parameters.length) = some 1 := by decide +kernel
def sh (w : WD) (k : Nat) : Bool := decide (k < wS w) && decide (0 < sms w k)
def shl (w : WD) (i : Nat) : List Nat := fm (fun k => if sh w k then [k] else []) i
def nSh (w : WD) : Nat := (shl w 16).length
def cut (w : WD) (k : Nat) : Nat := om (fun m => if mayc w m k then 2 ^ m else 0) (wN w)
def av (w : WD) (j : Nat) : Nat := if j < nSh w then cut w (ofL (shl w 16) j) else 0
def pl (w : WD) (k : Nat) : Int32 := if sh w k then nI (shl w k).length else -4
theorem shl_y {w : WD} {k : Nat} (h : sh w k = true) : shl w (k + 1) = shl w k ++ [k] := by rw [shl, fm, if_pos h]; rfl
theorem shl_n {w : WD} {k : Nat} (h : sh w k = false) : shl w (k + 1) = shl w k := by rw [shl, fm, if_neg (by rw [h]; decide), List.append_nil]; rfl
theorem shl_len (w : WD) : ∀ i, (shl w i).length ≤ i
  | 0 => Nat.le_refl _
  | i + 1 => by
    have := shl_len w i
    cases h : sh w i with
    | true => rw [shl_y h, List.length_append]; simp; omega
    | false => rw [shl_n h]; omega
theorem nSh_le (w : WD) : nSh w ≤ 16 := shl_len w 16
theorem shl_up {w : WD} {i j : Nat} (h : j < (shl w i).length) : ∀ d, j < (shl w (i + d)).length ∧ ofL (shl w (i + d)) j = ofL (shl w i) j
  | 0 => ⟨h, rfl⟩
  | d + 1 => by
    have ih := shl_up h d
    rw [show i + (d + 1) = (i + d) + 1 by omega]
    cases q : sh w (i + d) with
    | true => rw [shl_y q, ofL_app ih.1]; exact ⟨by rw [List.length_append]; omega, ih.2⟩
    | false => rw [shl_n q]; exact ih
theorem shl_at {w : WD} {k : Nat} (hk : k < 16) (h : sh w k = true) : (shl w k).length < nSh w ∧ ofL (shl w 16) (shl w k).length = k := by
  have h1 : (shl w k).length < (shl w (k + 1)).length := by rw [shl_y h, List.length_append]; simp
  have := shl_up h1 (15 - k)
  rw [show k + 1 + (15 - k) = 16 by omega] at this
  refine ⟨this.1, ?_⟩
  rw [this.2, shl_y h, ofL_app2]
theorem av_at {w : WD} {k : Nat} (hk : k < 16) (h : sh w k = true) : av w (shl w k).length = cut w k := by
  have := shl_at hk h
  rw [av, if_pos this.1, this.2]
theorem av_hi {w : WD} {j : Nat} (h : nSh w ≤ j) : av w j = 0 := if_neg (by omega)
theorem cut_lt (w : WD) (k : Nat) : cut w k < 2 ^ wN w := om_lt (fun m hm => by
  split
  · exact Nat.pow_lt_pow_right (by decide) hm
  · exact Nat.pow_pos (by decide))
theorem av_lt (w : WD) (j : Nat) : av w j < 2 ^ wN w := by
  rw [av]; split
  · exact cut_lt w _
  · exact Nat.pow_pos (by decide)
theorem p2N {z : Nat} {w : WD} (hv : WV z w) : 2 ^ wN w ≤ 1024 := pow_le10 (wv_N hv)
theorem cut_bit {w : WD} {k m : Nat} : (cut w k).testBit m = (decide (m < wN w) && mayc w m k) := by
  apply Bool.eq_iff_iff.mpr
  rw [cut, om_bit, Bool.and_eq_true, decide_eq_true_eq]
  constructor
  · rintro ⟨j, h1, h2⟩
    by_cases c : mayc w j k = true
    · rw [if_pos c, tb_pow, decide_eq_true_eq] at h2; subst h2; exact ⟨h1, c⟩
    · rw [if_neg c] at h2; exact (tb0 _ h2).elim
  · rintro ⟨h1, h2⟩; exact ⟨m, h1, by rw [if_pos h2, tb_pow]; simp⟩
def FRo (σ τ : SS) : Prop := (∀ a, a < 4 ∨ 9 < a → τ.1 a = σ.1 a) ∧ τ.2 = σ.2
theorem FRo.rf (σ : SS) : FRo σ σ := ⟨fun _ _ => rfl, rfl⟩
theorem FRo.tr {σ τ υ : SS} (h : FRo σ τ) (g : FRo τ υ) : FRo σ υ := ⟨fun a h1 => (g.1 a h1).trans (h.1 a h1), g.2.trans h.2⟩
theorem FRo.up {σ τ : SS} (h : FRo σ τ) {b : Nat} (hb : 4 ≤ b ∧ b ≤ 9) (j : Nat) (x : Int32) : FRo σ (sI τ b j x) := ⟨fun a h1 => (sI_row _ _ (by omega)).trans (h.1 a h1), h.2⟩
theorem FRo.ch {b : Nat} {w : WD} {σ τ : SS} (h : FRo σ τ) (hb : isW b) (hw : CH b w σ) : CH b w τ := hw.of (fun i hi => h.1 _ (by rcases hb with rfl | rfl <;> omega))
theorem FRo.rc {s : AS} {σ τ : SS} (h : FRo σ τ) (hr : RC s σ) : RC s τ := by
  obtain ⟨⟨h1, h2⟩, h3, h4, h5, h6⟩ := hr
  have e : ∀ a, a < 4 ∨ 9 < a → τ.1 a = σ.1 a := h.1
  have hw : σ.2.2.1 = 22 ∨ σ.2.2.1 = 31 := h1
  refine ⟨by rw [h.2, e 17 (by decide)]; exact ⟨h1, h2⟩, ⟨by rw [e 1 (by decide)]; exact h3.1, h3.2.1, fun j hj => by rw [e 2 (by decide)]; exact h3.2.2 j hj⟩, ?_, by rw [e 0 (by decide)]; exact h5, fun i j hi hj => ?_⟩
  · rw [h.2]
    exact h4.of (fun i hi => e _ (by omega))
  · rw [e _ (by omega)]; exact h6 i j hi hj
theorem FRo.fc {σ τ : SS} (h : FRo σ τ) : FC σ τ := ⟨fun a ha => h.1 a (by omega), by rw [h.2]⟩
def ROa (w : WD) (σ : SS) : Prop := σ.1 4 5 = nI (nSh w) ∧ σ.1 4 6 = nI (wN w) ∧ ∀ j, j < nSh w → σ.1 6 j = nI (av w j)
theorem ROa.of {w : WD} {σ τ : SS} (h : ROa w σ) (h4 : τ.1 4 = σ.1 4) (h6 : τ.1 6 = σ.1 6) : ROa w τ := by rw [ROa, h4, h6]; exact h
set_option maxRecDepth 100000 in
set_option maxHeartbeats 4000000 in
theorem s_X1_cuttersOf {v : EE} {b : Nat} (hb : isW b) {w : WD} {z : Nat} {σ : SS} (hw : CH b w σ) (hv : WV z w) (hz : z ≤ 1000000) (hN : σ.1 4 6 = nI (wN w)) {k : Nat} (hk : k < 18) : S1 v M_X1_cuttersOf [.ref (v.1 4), .ref (v.1 b), .int (nI k)] σ (some (.int (nI (cut w k)))) (σ) := by
  refine Sp.of rfl (by decide) rfl (Nat.le_of_ble_eq_true rfl) ?_
  show V v M_X1_cuttersOf _ 0 [(0, .ref (v.1 4)), (1, .ref (v.1 b)), (2, .int (nI k))] [] σ
  refine v_iconst (x := nI 0) dX1_cuttersOf_0 (by decide +kernel) ?_
  refine v_istore_n (L' := [(3, _), (0, _), (1, _), (2, _)]) dX1_cuttersOf_1 rfl (by decide) rfl ?_
  refine v_iconst (x := nI 0) dX1_cuttersOf_2 (by decide +kernel) ?_
  refine v_istore (L' := [(4, _), (3, _), (0, _), (1, _), (2, _)]) dX1_cuttersOf_3 (by decide) rfl ?_
  refine v_sub [2, 3, 4, 1, 0] rfl ?_
  refine loopN (fun i => V v M_X1_cuttersOf (zR v M_X1_cuttersOf (fun r' σ' => r' = (some (.int (nI (cut w k)))) ∧ σ' = (σ))) 5 [(0, .ref (v.1 4)), (1, .ref (v.1 b)), (2, .int (nI k)), (3, .int (nI (om (fun m => if mayc w m k then 2 ^ m else 0) i))), (4, .int (nI i))] [] (σ)) (wN w) ?_ ?_
  · intro i hi ih
    have hN10 := wv_N hv
    refine v_iload dX1_cuttersOf_5 rfl ?_
    refine v_aload_n dX1_cuttersOf_7 rfl ?_
    refine v_get (j := 6) iO4 rfl dX1_cuttersOf_8 (by decide) in_X1_cuttersOf_X1 fl_X1_cuttersOf_39 rfl ?_
    refine v_top hN ?_
    refine n_icmp_ge (tgt := 37) dX1_cuttersOf_11 (by decide) (by omega) (by omega) (fun c11 => absurd c11 (by omega)) (fun c11 => ?_)
    refine v_aload_n dX1_cuttersOf_14 rfl ?_
    refine v_iload dX1_cuttersOf_15 rfl ?_
    refine v_iload_n dX1_cuttersOf_17 rfl ?_
    refine v_callVi (M' := M_X3_mayHaveCut) (As := [_, _]) (iWO hb) (s_X3_mayHaveCut hb hw hv hz hi hk) dX1_cuttersOf_18 gX1_cuttersOf_X3_mayHaveCut rfl rfl nn_X3_mayHaveCut ⟨rfl, rfl⟩ ⟨by decide, by decide⟩ rfl rfl (Nat.le_of_ble_eq_true rfl) ?_
    refine b_if_eq (tgt := 31) dX1_cuttersOf_21 (by decide) (fun c21 => ?_) (fun c21 => ?_)
    · have e : om (fun m => if mayc w m k then 2 ^ m else 0) (i + 1) = om (fun m => if mayc w m k then 2 ^ m else 0) i := by rw [om, if_neg (by rw [c21]; decide), Nat.or_zero]
      rw [e] at ih
      refine n_iinc (n := 1) (L' := [(4, _), (0, _), (1, _), (2, _), (3, _)]) dX1_cuttersOf_31 rfl (by decide) rfl ?_
      refine v_goto (tgt := 5) dX1_cuttersOf_34 (by decide) ?_
      refine v_sub [1, 2, 3, 4, 0] rfl ?_
      exact ih
    · refine v_iload_n dX1_cuttersOf_24 rfl ?_
      refine v_iconst (x := nI 1) dX1_cuttersOf_25 (by decide +kernel) ?_
      refine v_iload dX1_cuttersOf_26 rfl ?_
      refine n_shl1 dX1_cuttersOf_28 (by omega) ?_
      refine n_ior dX1_cuttersOf_29 ?_
      refine v_istore_n (L' := [(3, _), (0, _), (1, _), (2, _), (4, _)]) dX1_cuttersOf_30 rfl (by decide) rfl ?_
      have e : om (fun m => if mayc w m k then 2 ^ m else 0) (i + 1) = om (fun m => if mayc w m k then 2 ^ m else 0) i ||| 2 ^ i := by rw [om, if_pos c21]
      rw [e] at ih
      refine n_iinc (n := 1) (L' := [(4, _), (3, _), (0, _), (1, _), (2, _)]) dX1_cuttersOf_31 rfl (by decide) rfl ?_
      refine v_goto (tgt := 5) dX1_cuttersOf_34 (by decide) ?_
      refine v_sub [2, 3, 4, 1, 0] rfl ?_
      exact ih
  · have hN10 := wv_N hv
    refine v_iload dX1_cuttersOf_5 rfl ?_
    refine v_aload_n dX1_cuttersOf_7 rfl ?_
    refine v_get (j := 6) iO4 rfl dX1_cuttersOf_8 (by decide) in_X1_cuttersOf_X1 fl_X1_cuttersOf_39 rfl ?_
    refine v_top hN ?_
    refine n_icmp_ge (tgt := 37) dX1_cuttersOf_11 (by decide) (by omega) (by omega) (fun c11 => ?_) (fun c11 => absurd c11 (by omega))
    refine v_iload_n dX1_cuttersOf_37 rfl ?_
    exact v_iret rfl dX1_cuttersOf_38 ⟨rfl, rfl⟩
set_option maxRecDepth 100000 in
set_option maxHeartbeats 4000000 in
theorem s_X1_mayOwnAt {v : EE} {w : WD} {σ : SS} (hr : ROa w σ) {j : Nat} (hj : j < 2 ^ 31) : S1 v M_X1_mayOwnAt [.ref (v.1 4), .int (nI j)] σ (some (.int (nI (av w j)))) (σ) := by
  refine Sp.of rfl (by decide) rfl (Nat.le_of_ble_eq_true rfl) ?_
  show V v M_X1_mayOwnAt _ 0 [(0, .ref (v.1 4)), (1, .int (nI j))] [] σ
  have h16 := nSh_le w
  refine v_iload_n dX1_mayOwnAt_0 rfl ?_
  refine n_if_lt (tgt := 27) dX1_mayOwnAt_1 (by decide) hj ?_
  refine v_iload_n dX1_mayOwnAt_4 rfl ?_
  refine v_aload_n dX1_mayOwnAt_5 rfl ?_
  refine v_get (j := 5) iO4 rfl dX1_mayOwnAt_6 (by decide) in_X1_mayOwnAt_X1 fl_X1_mayOwnAt_40 rfl ?_
  refine v_top hr.1 ?_
  refine n_icmp_ge (tgt := 27) dX1_mayOwnAt_9 (by decide) hj (by omega) (fun c9 => ?_) (fun c9 => ?_)
  · refine v_iconst (x := nI 0) dX1_mayOwnAt_27 (by decide +kernel) ?_
    exact v_iret rfl dX1_mayOwnAt_28 ⟨congrArg (fun z => some (Value.int z)) (by rw [av_hi c9]), rfl⟩
  · refine v_iload_n dX1_mayOwnAt_12 rfl ?_
    refine v_bipush (x := nI 16) dX1_mayOwnAt_13 (by decide +kernel) ?_
    refine n_icmp_ge (tgt := 27) dX1_mayOwnAt_15 (by decide) hj (by omega) (fun c15 => absurd c15 (by omega)) (fun c15 => ?_)
    refine v_aload_n dX1_mayOwnAt_18 rfl ?_
    refine v_get (j := 1) iO4 rfl dX1_mayOwnAt_19 (by decide) in_X1_mayOwnAt_X1 fl_X1_mayOwnAt_15 rfl ?_
    refine v_iload_n dX1_mayOwnAt_22 rfl ?_
    refine v_ialdN j iI6 dX1_mayOwnAt_23 rfl (by omega) (by decide) ?_
    refine v_top (hr.2.2 j c9) ?_
    refine v_goto (tgt := 28) dX1_mayOwnAt_24 (by decide) ?_
    exact v_iret rfl dX1_mayOwnAt_28 ⟨rfl, rfl⟩
def G1 (w : WD) (n : Nat) (σ τ : SS) : Prop := (∀ S, S < n → τ.1 8 S = nI (GV (wN w) (av w) S)) ∧ (∀ a, a ≠ 8 → τ.1 a = σ.1 a) ∧ τ.2 = σ.2
theorem G1.ro {w : WD} {n : Nat} {σ τ : SS} (h : G1 w n σ τ) (hr : ROa w σ) : ROa w τ := hr.of (h.2.1 4 (by decide)) (h.2.1 6 (by decide))
theorem G1.s {w : WD} {n : Nat} {σ τ : SS} (h : G1 w n σ τ) : G1 w (n + 1) σ (sI τ 8 n (nI (GV (wN w) (av w) n))) := ⟨fun S hS => by
  by_cases c : S = n
  · subst c; rw [sI_at]
  · rw [sI_ne _ _ (Or.inr c)]; exact h.1 S (by omega), fun a ha => (sI_row _ _ ha).trans (h.2.1 a ha), h.2.2⟩
theorem GV_0 (N : Nat) (a : Nat → Nat) : GV N a 0 = 1 := by rw [GV, pc_0]; rfl
theorem dif_lt {S m : Nat} (h : S.testBit m = true) : dif S (2 ^ m) < S := by
  have h1 := dif_le S (2 ^ m)
  have h2 : dif S (2 ^ m) ≠ S := fun e => by
    have := tb_difm (S := S) (m := m)
    rw [e, h] at this; cases this
  omega
theorem G1_0 {w : WD} (σ : SS) : G1 w 1 σ (sI σ 8 0 (nI 1)) := ⟨fun S hS => by rw [show S = 0 by omega, sI_at, GV_0], fun a ha => sI_row _ _ ha, rfl⟩
def gF (w : WD) (S m : Nat) : Nat := if (av w (pc S - 1) &&& S).testBit m then GV (wN w) (av w) (dif S (2 ^ m)) else 0
theorem pc_pos {N S : Nat} (h0 : S ≠ 0) (h : S < 2 ^ N) (hN : N ≤ 10) : 1 ≤ pc S := by
  apply Classical.byContradiction
  intro q
  have c : pc S = 0 := by omega
  exact h0 (Nat.eq_of_testBit_eq (fun i => by
    rw [Nat.zero_testBit]
    by_cases hi : i < N
    · rw [pc_N hN h] at c
      have := sm_zero.mp c i hi
      cases e : S.testBit i with
      | false => rfl
      | true => rw [e] at this; simp at this
    · exact Nat.testBit_lt_two_pow (Nat.lt_of_lt_of_le h (Nat.pow_le_pow_right (by decide) (by omega)))))
set_option maxRecDepth 100000 in
set_option maxHeartbeats 4000000 in
theorem s_X1_countGiven {v : EE} {w : WD} {z : Nat} {σ : SS} (hv : WV z w) (hr : ROa w σ) : SR v M_X1_countGiven [.ref (v.1 4)] σ none (fun σ' => G1 w (2 ^ wN w) σ σ') := by
  refine Sp.of rfl (by decide) rfl (Nat.le_of_ble_eq_true rfl) ?_
  show V v M_X1_countGiven _ 0 [(0, .ref (v.1 4))] [] σ
  refine v_aload_n dX1_countGiven_0 rfl ?_
  refine v_get (j := 3) iO4 rfl dX1_countGiven_1 (by decide) in_X1_countGiven_X1 fl_X1_countGiven_21 rfl ?_
  refine v_iconst (x := nI 0) dX1_countGiven_4 (by decide +kernel) ?_
  refine v_iconst (x := nI 1) dX1_countGiven_5 (by decide +kernel) ?_
  refine v_iastN 0 iI8 dX1_countGiven_6 rfl (by decide) (by decide) ?_
  refine v_iconst (x := nI 1) dX1_countGiven_7 (by decide +kernel) ?_
  refine v_istore_n (L' := [(1, _), (0, _)]) dX1_countGiven_8 rfl (by decide) rfl ?_
  refine v_sub [1, 0] rfl ?_
  refine loopN (fun i => ∀ τ : SS, G1 w (i + 1) σ τ → V v M_X1_countGiven (zR v M_X1_countGiven (fun r' σ' => r' = none ∧ (G1 w (2 ^ wN w) σ σ'))) 9 [(0, .ref (v.1 4)), (1, .int (nI (i + 1)))] [] τ) (2 ^ wN w - 1) ?_ ?_ _ (G1_0 σ)
  · intro i hi ih τ hinv
    have hN10 := wv_N hv
    have hp := p2N hv
    have ih0 := ih
    refine v_iload_n dX1_countGiven_9 rfl ?_
    refine v_iconst (x := nI 1) dX1_countGiven_10 (by decide +kernel) ?_
    refine v_aload_n dX1_countGiven_11 rfl ?_
    refine v_get (j := 6) iO4 rfl dX1_countGiven_12 (by decide) in_X1_countGiven_X1 fl_X1_countGiven_39 rfl ?_
    refine v_top (hinv.ro hr).2.1 ?_
    refine n_shl1 dX1_countGiven_15 (by omega) ?_
    refine n_icmp_ge (tgt := 91) dX1_countGiven_16 (by decide) (by omega) (by omega) (fun c16 => absurd c16 (by omega)) (fun c16 => ?_)
    refine v_aload_n dX1_countGiven_19 rfl ?_
    refine v_iload_n dX1_countGiven_20 rfl ?_
    refine v_callSi (M' := M_J6_bitCount_0f7a4) (As := [_]) (s_J6_bitCount_0f7a4 (by omega)) dX1_countGiven_21 gX1_countGiven_J6_bitCount_0f7a4 rfl nn_J6_bitCount_0f7a4 ⟨rfl, rfl⟩ ⟨by decide, by decide⟩ rfl rfl (Nat.le_of_ble_eq_true rfl) ?_
    refine v_iconst (x := nI 1) dX1_countGiven_24 (by decide +kernel) ?_
    refine n_isub dX1_countGiven_25 (pc_pos (by omega) (show i + 1 < 2 ^ wN w by omega) hN10) ?_
    refine v_callVi (M' := M_X1_mayOwnAt) (As := [_]) iO4 (s_X1_mayOwnAt (hinv.ro hr) (by have := pc_leN hN10 (show i + 1 < 2 ^ wN w by omega); omega)) dX1_countGiven_26 gX1_countGiven_X1_mayOwnAt rfl rfl nn_X1_mayOwnAt ⟨rfl, rfl⟩ ⟨by decide, by decide⟩ rfl rfl (Nat.le_of_ble_eq_true rfl) ?_
    refine v_iload_n dX1_countGiven_29 rfl ?_
    refine n_iand dX1_countGiven_30 ?_
    refine v_istore_n (L' := [(2, _), (0, _), (1, _)]) dX1_countGiven_31 rfl (by decide) rfl ?_
    refine v_iconst (x := nI 0) dX1_countGiven_32 (by decide +kernel) ?_
    refine v_istore_n (L' := [(3, _), (2, _), (0, _), (1, _)]) dX1_countGiven_33 rfl (by decide) rfl ?_
    refine v_iconst (x := nI 0) dX1_countGiven_34 (by decide +kernel) ?_
    refine v_istore (L' := [(4, _), (3, _), (2, _), (0, _), (1, _)]) dX1_countGiven_35 (by decide) rfl ?_
    refine v_sub [3, 4, 2, 1, 0] rfl ?_
    refine loopN (fun m => V v M_X1_countGiven (zR v M_X1_countGiven (fun r' σ' => r' = none ∧ (G1 w (2 ^ wN w) σ σ'))) 37 [(0, .ref (v.1 4)), (1, .int (nI (i + 1))), (2, .int (nI (av w (pc (i + 1) - 1) &&& (i + 1)))), (3, .int (nI (sm (gF w (i + 1)) m))), (4, .int (nI m))] [] (τ)) (wN w) ?_ ?_
    · intro m hi ih
      refine v_iload dX1_countGiven_37 rfl ?_
      refine v_aload_n dX1_countGiven_39 rfl ?_
      refine v_get (j := 6) iO4 rfl dX1_countGiven_40 (by decide) in_X1_countGiven_X1 fl_X1_countGiven_39 rfl ?_
      refine v_top (hinv.ro hr).2.1 ?_
      refine n_icmp_ge (tgt := 78) dX1_countGiven_43 (by decide) (by omega) (by omega) (fun c43 => absurd c43 (by omega)) (fun c43 => ?_)
      refine v_iload_n dX1_countGiven_46 rfl ?_
      refine v_iload dX1_countGiven_47 rfl ?_
      refine n_ishr dX1_countGiven_49 (Nat.lt_of_le_of_lt Nat.and_le_left (by have := av_lt w (pc (i + 1) - 1); omega)) (by omega) ?_
      refine v_iconst (x := nI 1) dX1_countGiven_50 (by decide +kernel) ?_
      refine n_and1 dX1_countGiven_51 ?_
      refine v_iconst (x := nI 1) dX1_countGiven_52 (by decide +kernel) ?_
      refine n_icmp_ne (tgt := 72) dX1_countGiven_53 (by decide) (by omega) (by omega) (fun c53 => ?_) (fun c53 => ?_)
      · have e : sm (gF w (i + 1)) (m + 1) = sm (gF w (i + 1)) m := by rw [sm, gF, if_neg (by rw [tb_div]; simpa using c53), Nat.add_zero]
        rw [e] at ih
        refine n_iinc (n := 1) (L' := [(4, _), (0, _), (1, _), (2, _), (3, _)]) dX1_countGiven_72 rfl (by decide) rfl ?_
        refine v_goto (tgt := 37) dX1_countGiven_75 (by decide) ?_
        refine v_sub [1, 2, 3, 4, 0] rfl ?_
        exact ih
      · have hb : (av w (pc (i + 1) - 1) &&& (i + 1)).testBit m = true := by rw [tb_div]; simpa using c53
        have e : sm (gF w (i + 1)) (m + 1) = sm (gF w (i + 1)) m + GV (wN w) (av w) (dif (i + 1) (2 ^ m)) := by rw [sm, gF, if_pos hb]
        rw [e] at ih
        have hb2 := hb
        rw [Nat.testBit_and, Bool.and_eq_true] at hb2
        have hd := dif_lt hb2.2
        refine v_iload_n dX1_countGiven_56 rfl ?_
        refine v_aload_n dX1_countGiven_57 rfl ?_
        refine v_get (j := 3) iO4 rfl dX1_countGiven_58 (by decide) in_X1_countGiven_X1 fl_X1_countGiven_21 rfl ?_
        refine v_iload_n dX1_countGiven_61 rfl ?_
        refine v_iconst (x := nI 1) dX1_countGiven_62 (by decide +kernel) ?_
        refine v_iload dX1_countGiven_63 rfl ?_
        refine n_shl1 dX1_countGiven_65 (by omega) ?_
        refine v_iconst (x := (-1)) dX1_countGiven_66 rfl ?_
        refine v_ixor dX1_countGiven_67 ?_
        refine n_dif dX1_countGiven_68 ?_
        refine v_ialdN (dif (i + 1) (2 ^ m)) iI8 dX1_countGiven_69 rfl (by omega) (by decide) ?_
        refine v_top (hinv.1 _ (by omega)) ?_
        refine n_iadd dX1_countGiven_70 ?_
        refine v_istore_n (L' := [(3, _), (0, _), (1, _), (2, _), (4, _)]) dX1_countGiven_71 rfl (by decide) rfl ?_
        refine n_iinc (n := 1) (L' := [(4, _), (3, _), (0, _), (1, _), (2, _)]) dX1_countGiven_72 rfl (by decide) rfl ?_
        refine v_goto (tgt := 37) dX1_countGiven_75 (by decide) ?_
        refine v_sub [2, 3, 4, 1, 0] rfl ?_
        exact ih
    · refine v_iload dX1_countGiven_37 rfl ?_
      refine v_aload_n dX1_countGiven_39 rfl ?_
      refine v_get (j := 6) iO4 rfl dX1_countGiven_40 (by decide) in_X1_countGiven_X1 fl_X1_countGiven_39 rfl ?_
      refine v_top (hinv.ro hr).2.1 ?_
      refine n_icmp_ge (tgt := 78) dX1_countGiven_43 (by decide) (by omega) (by omega) (fun c43 => ?_) (fun c43 => absurd c43 (by omega))
      refine v_aload_n dX1_countGiven_78 rfl ?_
      refine v_get (j := 3) iO4 rfl dX1_countGiven_79 (by decide) in_X1_countGiven_X1 fl_X1_countGiven_21 rfl ?_
      refine v_iload_n dX1_countGiven_82 rfl ?_
      refine v_iload_n dX1_countGiven_83 rfl ?_
      refine v_top (y := nI (GV (wN w) (av w) (i + 1))) (by rw [GV_s (wv_N hv) (by omega) (by omega)]; rfl) ?_
      refine v_iastN (i + 1) iI8 dX1_countGiven_84 rfl (by omega) (by decide) ?_
      refine n_iinc (n := 1) (L' := [(1, _), (0, _), (2, _), (3, _), (4, _)]) dX1_countGiven_85 rfl (by decide) rfl ?_
      refine v_goto (tgt := 9) dX1_countGiven_88 (by decide) ?_
      refine v_sub [1, 0] rfl ?_
      exact ih0 _ hinv.s
  · intro τ hinv
    have hN10 := wv_N hv
    have hp := p2N hv
    have hp1 : 0 < 2 ^ wN w := Nat.pow_pos (by decide)
    refine v_iload_n dX1_countGiven_9 rfl ?_
    refine v_iconst (x := nI 1) dX1_countGiven_10 (by decide +kernel) ?_
    refine v_aload_n dX1_countGiven_11 rfl ?_
    refine v_get (j := 6) iO4 rfl dX1_countGiven_12 (by decide) in_X1_countGiven_X1 fl_X1_countGiven_39 rfl ?_
    refine v_top (hinv.ro hr).2.1 ?_
    refine n_shl1 dX1_countGiven_15 (by omega) ?_
    refine n_icmp_ge (tgt := 91) dX1_countGiven_16 (by decide) (by omega) (by omega) (fun c16 => ?_) (fun c16 => absurd c16 (by omega))
    exact v_vret rfl dX1_countGiven_91 ⟨rfl, by rw [show 2 ^ wN w - 1 + 1 = 2 ^ wN w by omega] at hinv; exact hinv⟩
def T1 (w : WD) (n : Nat) (σ τ : SS) : Prop := (∀ S, n ≤ S → S < 2 ^ wN w → τ.1 9 S = nI (TG (wN w) (av w) (nSh w) S)) ∧ (∀ a, a ≠ 9 → τ.1 a = σ.1 a) ∧ τ.2 = σ.2
theorem T1.ro {w : WD} {n : Nat} {σ τ : SS} (h : T1 w n σ τ) (hr : ROa w σ) : ROa w τ := hr.of (h.2.1 4 (by decide)) (h.2.1 6 (by decide))
theorem T1.s {w : WD} {n : Nat} {σ τ : SS} (h : T1 w (n + 1) σ τ) : T1 w n σ (sI τ 9 n (nI (TG (wN w) (av w) (nSh w) n))) := ⟨fun S hS h2 => by
  by_cases c : S = n
  · subst c; rw [sI_at]
  · rw [sI_ne _ _ (Or.inr c)]; exact h.1 S (by omega) h2, fun a ha => (sI_row _ _ ha).trans (h.2.1 a ha), h.2.2⟩
def tF (w : WD) (S m : Nat) : Nat := if (dif (av w (pc S)) S).testBit m then TG (wN w) (av w) (nSh w) (S ||| 2 ^ m) else 0
set_option maxRecDepth 100000 in
set_option maxHeartbeats 4000000 in
theorem s_X1_countToGive {v : EE} {w : WD} {z : Nat} {σ : SS} (hv : WV z w) (hr : ROa w σ) : SR v M_X1_countToGive [.ref (v.1 4)] σ none (fun σ' => T1 w 0 σ σ') := by
  refine Sp.of rfl (by decide) rfl (Nat.le_of_ble_eq_true rfl) ?_
  show V v M_X1_countToGive _ 0 [(0, .ref (v.1 4))] [] σ
  have hN10 := wv_N hv
  have hp := p2N hv
  have hp1 : 0 < 2 ^ wN w := Nat.pow_pos (by decide)
  refine v_iconst (x := nI 1) dX1_countToGive_0 (by decide +kernel) ?_
  refine v_aload_n dX1_countToGive_1 rfl ?_
  refine v_get (j := 6) iO4 rfl dX1_countToGive_2 (by decide) in_X1_countToGive_X1 fl_X1_countToGive_39 rfl ?_
  refine v_top hr.2.1 ?_
  refine n_shl1 dX1_countToGive_5 (by omega) ?_
  refine v_iconst (x := 1) dX1_countToGive_6 rfl ?_
  refine v_isub dX1_countToGive_7 ?_
  refine v_top (y := nI (2 ^ wN w - 0) - 1) rfl ?_
  refine v_istore_n (L' := [(1, _), (0, _)]) dX1_countToGive_8 rfl (by decide) rfl ?_
  refine v_sub [1, 0] rfl ?_
  refine loopN (fun i => ∀ τ : SS, T1 w (2 ^ wN w - i) σ τ → V v M_X1_countToGive (zR v M_X1_countToGive (fun r' σ' => r' = none ∧ (T1 w 0 σ σ'))) 9 [(0, .ref (v.1 4)), (1, .int (nI (2 ^ wN w - i) - 1))] [] τ) (2 ^ wN w) ?_ ?_ _ ⟨fun S h1 h2 => by omega, fun _ _ => rfl, rfl⟩
  · intro i hi ih τ hinv
    have hN10 := wv_N hv
    have hp := p2N hv
    obtain ⟨A, hA⟩ : ∃ A, 2 ^ wN w - i = A + 1 := ⟨2 ^ wN w - i - 1, by omega⟩
    rw [hA] at hinv ⊢
    rw [nI_s1]
    rw [show 2 ^ wN w - (i + 1) = A by omega] at ih
    have ih0 := ih
    refine v_iload_n dX1_countToGive_9 rfl ?_
    refine n_if_lt (tgt := 99) dX1_countToGive_10 (by decide) (by omega) ?_
    refine v_iload_n dX1_countToGive_13 rfl ?_
    refine v_callSi (M' := M_J6_bitCount_0f7a4) (As := [_]) (s_J6_bitCount_0f7a4 (by omega)) dX1_countToGive_14 gX1_countToGive_J6_bitCount_0f7a4 rfl nn_J6_bitCount_0f7a4 ⟨rfl, rfl⟩ ⟨by decide, by decide⟩ rfl rfl (Nat.le_of_ble_eq_true rfl) ?_
    have hpl := pc_leN hN10 (show A < 2 ^ wN w by omega)
    refine v_istore_n (L' := [(2, _), (0, _), (1, _)]) dX1_countToGive_17 rfl (by decide) rfl ?_
    refine v_iload_n dX1_countToGive_18 rfl ?_
    refine v_aload_n dX1_countToGive_19 rfl ?_
    refine v_get (j := 5) iO4 rfl dX1_countToGive_20 (by decide) in_X1_countToGive_X1 fl_X1_countToGive_40 rfl ?_
    refine v_top (hinv.ro hr).1 ?_
    refine n_icmp_ne (tgt := 30) dX1_countToGive_23 (by decide) (by omega) (by have := nSh_le w; omega) (fun c23 => ?_) (fun c23 => ?_)
    · refine v_iconst (x := nI 0) dX1_countToGive_30 (by decide +kernel) ?_
      refine v_istore_n (L' := [(3, _), (2, _), (0, _), (1, _)]) dX1_countToGive_31 rfl (by decide) rfl ?_
      refine v_aload_n dX1_countToGive_32 rfl ?_
      refine v_iload_n dX1_countToGive_33 rfl ?_
      refine v_callVi (M' := M_X1_mayOwnAt) (As := [_]) iO4 (s_X1_mayOwnAt (hinv.ro hr) (by omega)) dX1_countToGive_34 gX1_countToGive_X1_mayOwnAt rfl rfl nn_X1_mayOwnAt ⟨rfl, rfl⟩ ⟨by decide, by decide⟩ rfl rfl (Nat.le_of_ble_eq_true rfl) ?_
      refine v_iload_n dX1_countToGive_37 rfl ?_
      refine v_iconst (x := (-1)) dX1_countToGive_38 rfl ?_
      refine v_ixor dX1_countToGive_39 ?_
      refine n_dif dX1_countToGive_40 ?_
      refine v_istore (L' := [(4, _), (3, _), (2, _), (0, _), (1, _)]) dX1_countToGive_41 (by decide) rfl ?_
      refine v_iconst (x := nI 0) dX1_countToGive_43 (by decide +kernel) ?_
      refine v_istore (L' := [(5, _), (4, _), (3, _), (2, _), (0, _), (1, _)]) dX1_countToGive_44 (by decide) rfl ?_
      refine v_sub [4, 5, 2, 1, 0] rfl ?_
      refine loopN (fun m => V v M_X1_countToGive (zR v M_X1_countToGive (fun r' σ' => r' = none ∧ (T1 w 0 σ σ'))) 46 [(0, .ref (v.1 4)), (1, .int (nI A)), (3, .int (nI (0 + sm (tF w A) m))), (4, .int (nI (dif (av w (pc A)) A))), (5, .int (nI m))] [] (τ)) (wN w) ?_ ?_
      · intro m hi ih
        refine v_iload dX1_countToGive_46 rfl ?_
        refine v_aload_n dX1_countToGive_48 rfl ?_
        refine v_get (j := 6) iO4 rfl dX1_countToGive_49 (by decide) in_X1_countToGive_X1 fl_X1_countToGive_39 rfl ?_
        refine v_top (hinv.ro hr).2.1 ?_
        refine n_icmp_ge (tgt := 86) dX1_countToGive_52 (by decide) (by omega) (by omega) (fun c52 => absurd c52 (by omega)) (fun c52 => ?_)
        refine v_iload dX1_countToGive_55 rfl ?_
        refine v_iload dX1_countToGive_57 rfl ?_
        refine n_ishr dX1_countToGive_59 (by have := dif_le (av w (pc A)) A; have := av_lt w (pc A); omega) (by omega) ?_
        refine v_iconst (x := nI 1) dX1_countToGive_60 (by decide +kernel) ?_
        refine n_and1 dX1_countToGive_61 ?_
        refine v_iconst (x := nI 1) dX1_countToGive_62 (by decide +kernel) ?_
        refine n_icmp_ne (tgt := 80) dX1_countToGive_63 (by decide) (by omega) (by omega) (fun c63 => ?_) (fun c63 => ?_)
        · have e : sm (tF w A) (m + 1) = sm (tF w A) m := by rw [sm, tF, if_neg (by rw [tb_div]; simpa using c63), Nat.add_zero]
          rw [e] at ih
          refine n_iinc (n := 1) (L' := [(5, _), (0, _), (1, _), (3, _), (4, _)]) dX1_countToGive_80 rfl (by decide) rfl ?_
          refine v_goto (tgt := 46) dX1_countToGive_83 (by decide) ?_
          refine v_sub [1, 2, 3, 4, 0] rfl ?_
          exact ih
        · have hb : (dif (av w (pc A)) A).testBit m = true := by rw [tb_div]; simpa using c63
          have e : sm (tF w A) (m + 1) = sm (tF w A) m + TG (wN w) (av w) (nSh w) (A ||| 2 ^ m) := by rw [sm, tF, if_pos hb]
          rw [e, ← Nat.add_assoc] at ih
          rw [tb_dif, Bool.and_eq_true, Bool.not_eq_true'] at hb
          have hg := or_gt hb.2
          have hl2 : A ||| 2 ^ m < 2 ^ wN w := Nat.or_lt_two_pow (by omega) (Nat.pow_lt_pow_right (by decide) hi)
          refine v_iload_n dX1_countToGive_66 rfl ?_
          refine v_aload_n dX1_countToGive_67 rfl ?_
          refine v_get (j := 4) iO4 rfl dX1_countToGive_68 (by decide) in_X1_countToGive_X1 fl_X1_countToGive_24 rfl ?_
          refine v_iload_n dX1_countToGive_71 rfl ?_
          refine v_iconst (x := nI 1) dX1_countToGive_72 (by decide +kernel) ?_
          refine v_iload dX1_countToGive_73 rfl ?_
          refine n_shl1 dX1_countToGive_75 (by omega) ?_
          refine n_ior dX1_countToGive_76 ?_
          refine v_ialdN (A ||| 2 ^ m) iI9 dX1_countToGive_77 rfl (by omega) (by decide) ?_
          refine v_top (hinv.1 _ (by omega) hl2) ?_
          refine n_iadd dX1_countToGive_78 ?_
          refine v_istore_n (L' := [(3, _), (0, _), (1, _), (4, _), (5, _)]) dX1_countToGive_79 rfl (by decide) rfl ?_
          refine n_iinc (n := 1) (L' := [(5, _), (3, _), (0, _), (1, _), (4, _)]) dX1_countToGive_80 rfl (by decide) rfl ?_
          refine v_goto (tgt := 46) dX1_countToGive_83 (by decide) ?_
          refine v_sub [2, 3, 1, 4, 0] rfl ?_
          exact ih
      · refine v_iload dX1_countToGive_46 rfl ?_
        refine v_aload_n dX1_countToGive_48 rfl ?_
        refine v_get (j := 6) iO4 rfl dX1_countToGive_49 (by decide) in_X1_countToGive_X1 fl_X1_countToGive_39 rfl ?_
        refine v_top (hinv.ro hr).2.1 ?_
        refine n_icmp_ge (tgt := 86) dX1_countToGive_52 (by decide) (by omega) (by omega) (fun c52 => ?_) (fun c52 => absurd c52 (by omega))
        refine v_aload_n dX1_countToGive_86 rfl ?_
        refine v_get (j := 4) iO4 rfl dX1_countToGive_87 (by decide) in_X1_countToGive_X1 fl_X1_countToGive_24 rfl ?_
        refine v_iload_n dX1_countToGive_90 rfl ?_
        refine v_iload_n dX1_countToGive_91 rfl ?_
        refine v_top (y := nI (TG (wN w) (av w) (nSh w) A)) (by rw [TG_s (wv_N hv) (fun j hj => av_hi hj), if_neg c23]; rfl) ?_
        refine v_iastN A iI9 dX1_countToGive_92 rfl (by omega) (by decide) ?_
        refine v_iinc (y := nI A - 1) (L' := [(1, .int (nI A - 1)), (0, _), (3, _), (4, _), (5, _)]) dX1_countToGive_93 rfl (nI_m1 A) (by decide) rfl ?_
        refine v_goto (tgt := 9) dX1_countToGive_96 (by decide) ?_
        refine v_sub [1, 0] rfl ?_
        exact ih0 _ hinv.s
    · refine v_iconst (x := nI 1) dX1_countToGive_26 (by decide +kernel) ?_
      refine v_goto (tgt := 31) dX1_countToGive_27 (by decide) ?_
      refine v_istore_n (L' := [(3, _), (2, _), (0, _), (1, _)]) dX1_countToGive_31 rfl (by decide) rfl ?_
      refine v_aload_n dX1_countToGive_32 rfl ?_
      refine v_iload_n dX1_countToGive_33 rfl ?_
      refine v_callVi (M' := M_X1_mayOwnAt) (As := [_]) iO4 (s_X1_mayOwnAt (hinv.ro hr) (by omega)) dX1_countToGive_34 gX1_countToGive_X1_mayOwnAt rfl rfl nn_X1_mayOwnAt ⟨rfl, rfl⟩ ⟨by decide, by decide⟩ rfl rfl (Nat.le_of_ble_eq_true rfl) ?_
      refine v_iload_n dX1_countToGive_37 rfl ?_
      refine v_iconst (x := (-1)) dX1_countToGive_38 rfl ?_
      refine v_ixor dX1_countToGive_39 ?_
      refine n_dif dX1_countToGive_40 ?_
      refine v_istore (L' := [(4, _), (3, _), (2, _), (0, _), (1, _)]) dX1_countToGive_41 (by decide) rfl ?_
      refine v_iconst (x := nI 0) dX1_countToGive_43 (by decide +kernel) ?_
      refine v_istore (L' := [(5, _), (4, _), (3, _), (2, _), (0, _), (1, _)]) dX1_countToGive_44 (by decide) rfl ?_
      refine v_sub [4, 5, 2, 1, 0] rfl ?_
      refine loopN (fun m => V v M_X1_countToGive (zR v M_X1_countToGive (fun r' σ' => r' = none ∧ (T1 w 0 σ σ'))) 46 [(0, .ref (v.1 4)), (1, .int (nI A)), (3, .int (nI (1 + sm (tF w A) m))), (4, .int (nI (dif (av w (pc A)) A))), (5, .int (nI m))] [] (τ)) (wN w) ?_ ?_
      · intro m hi ih
        refine v_iload dX1_countToGive_46 rfl ?_
        refine v_aload_n dX1_countToGive_48 rfl ?_
        refine v_get (j := 6) iO4 rfl dX1_countToGive_49 (by decide) in_X1_countToGive_X1 fl_X1_countToGive_39 rfl ?_
        refine v_top (hinv.ro hr).2.1 ?_
        refine n_icmp_ge (tgt := 86) dX1_countToGive_52 (by decide) (by omega) (by omega) (fun c52 => absurd c52 (by omega)) (fun c52 => ?_)
        refine v_iload dX1_countToGive_55 rfl ?_
        refine v_iload dX1_countToGive_57 rfl ?_
        refine n_ishr dX1_countToGive_59 (by have := dif_le (av w (pc A)) A; have := av_lt w (pc A); omega) (by omega) ?_
        refine v_iconst (x := nI 1) dX1_countToGive_60 (by decide +kernel) ?_
        refine n_and1 dX1_countToGive_61 ?_
        refine v_iconst (x := nI 1) dX1_countToGive_62 (by decide +kernel) ?_
        refine n_icmp_ne (tgt := 80) dX1_countToGive_63 (by decide) (by omega) (by omega) (fun c63 => ?_) (fun c63 => ?_)
        · have e : sm (tF w A) (m + 1) = sm (tF w A) m := by rw [sm, tF, if_neg (by rw [tb_div]; simpa using c63), Nat.add_zero]
          rw [e] at ih
          refine n_iinc (n := 1) (L' := [(5, _), (0, _), (1, _), (3, _), (4, _)]) dX1_countToGive_80 rfl (by decide) rfl ?_
          refine v_goto (tgt := 46) dX1_countToGive_83 (by decide) ?_
          refine v_sub [1, 2, 3, 4, 0] rfl ?_
          exact ih
        · have hb : (dif (av w (pc A)) A).testBit m = true := by rw [tb_div]; simpa using c63
          have e : sm (tF w A) (m + 1) = sm (tF w A) m + TG (wN w) (av w) (nSh w) (A ||| 2 ^ m) := by rw [sm, tF, if_pos hb]
          rw [e, ← Nat.add_assoc] at ih
          rw [tb_dif, Bool.and_eq_true, Bool.not_eq_true'] at hb
          have hg := or_gt hb.2
          have hl2 : A ||| 2 ^ m < 2 ^ wN w := Nat.or_lt_two_pow (by omega) (Nat.pow_lt_pow_right (by decide) hi)
          refine v_iload_n dX1_countToGive_66 rfl ?_
          refine v_aload_n dX1_countToGive_67 rfl ?_
          refine v_get (j := 4) iO4 rfl dX1_countToGive_68 (by decide) in_X1_countToGive_X1 fl_X1_countToGive_24 rfl ?_
          refine v_iload_n dX1_countToGive_71 rfl ?_
          refine v_iconst (x := nI 1) dX1_countToGive_72 (by decide +kernel) ?_
          refine v_iload dX1_countToGive_73 rfl ?_
          refine n_shl1 dX1_countToGive_75 (by omega) ?_
          refine n_ior dX1_countToGive_76 ?_
          refine v_ialdN (A ||| 2 ^ m) iI9 dX1_countToGive_77 rfl (by omega) (by decide) ?_
          refine v_top (hinv.1 _ (by omega) hl2) ?_
          refine n_iadd dX1_countToGive_78 ?_
          refine v_istore_n (L' := [(3, _), (0, _), (1, _), (4, _), (5, _)]) dX1_countToGive_79 rfl (by decide) rfl ?_
          refine n_iinc (n := 1) (L' := [(5, _), (3, _), (0, _), (1, _), (4, _)]) dX1_countToGive_80 rfl (by decide) rfl ?_
          refine v_goto (tgt := 46) dX1_countToGive_83 (by decide) ?_
          refine v_sub [2, 3, 1, 4, 0] rfl ?_
          exact ih
      · refine v_iload dX1_countToGive_46 rfl ?_
        refine v_aload_n dX1_countToGive_48 rfl ?_
        refine v_get (j := 6) iO4 rfl dX1_countToGive_49 (by decide) in_X1_countToGive_X1 fl_X1_countToGive_39 rfl ?_
        refine v_top (hinv.ro hr).2.1 ?_
        refine n_icmp_ge (tgt := 86) dX1_countToGive_52 (by decide) (by omega) (by omega) (fun c52 => ?_) (fun c52 => absurd c52 (by omega))
        refine v_aload_n dX1_countToGive_86 rfl ?_
        refine v_get (j := 4) iO4 rfl dX1_countToGive_87 (by decide) in_X1_countToGive_X1 fl_X1_countToGive_24 rfl ?_
        refine v_iload_n dX1_countToGive_90 rfl ?_
        refine v_iload_n dX1_countToGive_91 rfl ?_
        refine v_top (y := nI (TG (wN w) (av w) (nSh w) A)) (by rw [TG_s (wv_N hv) (fun j hj => av_hi hj), if_pos c23]; rfl) ?_
        refine v_iastN A iI9 dX1_countToGive_92 rfl (by omega) (by decide) ?_
        refine v_iinc (y := nI A - 1) (L' := [(1, .int (nI A - 1)), (0, _), (3, _), (4, _), (5, _)]) dX1_countToGive_93 rfl (nI_m1 A) (by decide) rfl ?_
        refine v_goto (tgt := 9) dX1_countToGive_96 (by decide) ?_
        refine v_sub [1, 0] rfl ?_
        exact ih0 _ hinv.s
  · intro τ hinv
    rw [Nat.sub_self] at hinv ⊢
    refine v_iload_n dX1_countToGive_9 rfl ?_
    refine v_if_lt (tgt := 99) dX1_countToGive_10 (by decide) (fun c10 => ?_) (fun c10 => absurd (by decide) c10)
    exact v_vret rfl dX1_countToGive_99 ⟨rfl, hinv⟩
