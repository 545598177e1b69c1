theorem in_X0_gatherSigns_X0 : ∀ w ∈ u_ws RX0 TX0 10, w ∈ mWs M_X0_gatherSigns := by decide +kernel
theorem in_X0_traceFirstRow_X0 : ∀ w ∈ u_ws RX0 TX0 10, w ∈ mWs M_X0_traceFirstRow := by decide +kernel
theorem in_X0_weigh_X0 : ∀ w ∈ u_ws RX0 TX0 10, w ∈ mWs M_X0_weigh := by decide +kernel
theorem fl_X0_gatherSigns_9 : Cond.fieldLink (mOwn M_X0_gatherSigns) 9 (TX0 0).1 (TX0 0).2.1 (TX0 0).2.2.1 ∈ mWs M_X0_gatherSigns := by decide +kernel
theorem fl_X0_gatherSigns_30 : Cond.fieldLink (mOwn M_X0_gatherSigns) 30 (TX0 6).1 (TX0 6).2.1 (TX0 6).2.2.1 ∈ mWs M_X0_gatherSigns := by decide +kernel
theorem fl_X0_traceFirstRow_33 : Cond.fieldLink (mOwn M_X0_traceFirstRow) 33 (TX0 7).1 (TX0 7).2.1 (TX0 7).2.2.1 ∈ mWs M_X0_traceFirstRow := by decide +kernel
theorem fl_X0_traceFirstRow_36 : Cond.fieldLink (mOwn M_X0_traceFirstRow) 36 (TX0 9).1 (TX0 9).2.1 (TX0 9).2.2.1 ∈ mWs M_X0_traceFirstRow := by decide +kernel
theorem fl_X0_traceFirstRow_90 : Cond.fieldLink (mOwn M_X0_traceFirstRow) 90 (TX0 8).1 (TX0 8).2.1 (TX0 8).2.2.1 ∈ mWs M_X0_traceFirstRow := by decide +kernel
theorem fl_X0_weigh_36 : Cond.fieldLink (mOwn M_X0_weigh) 36 (TX0 9).1 (TX0 9).2.1 (TX0 9).2.2.1 ∈ mWs M_X0_weigh := by decide +kernel
theorem nn_X0_firstBestStep : (mY M_X0_firstBestStep).cls = mOwn M_X0_firstBestStep ∧ (mY M_X0_firstBestStep).cls ≠ "java/lang/invoke/MethodHandle" ∧ (mY M_X0_firstBestStep).cls ≠ "java/lang/invoke/VarHandle" ∧ (parseMethodDescriptor (mY M_X0_firstBestStep).desc).map (fun d => d.parameters.length) = some 1 := by decide +kernel
theorem nn_X0_gatherSigns : (mY M_X0_gatherSigns).cls = mOwn M_X0_gatherSigns ∧ (mY M_X0_gatherSigns).cls ≠ "java/lang/invoke/MethodHandle" ∧ (mY M_X0_gatherSigns).cls ≠ "java/lang/invoke/VarHandle" ∧ (parseMethodDescriptor (mY M_X0_gatherSigns).desc).map (fun d => d.parameters.length) = some 0 := by decide +kernel
theorem nn_X0_isBestStep : (mY M_X0_isBestStep).cls = mOwn M_X0_isBestStep ∧ (mY M_X0_isBestStep).cls ≠ "java/lang/invoke/MethodHandle" ∧ (mY M_X0_isBestStep).cls ≠ "java/lang/invoke/VarHandle" ∧ (parseMethodDescriptor (mY M_X0_isBestStep).desc).map (fun d => d.parameters.length) = some 2 := by decide +kernel
theorem nn_X0_weighSet : (mY M_X0_weighSet).cls = mOwn M_X0_weighSet ∧ (mY M_X0_weighSet).cls ≠ "java/lang/invoke/MethodHandle" ∧ (mY M_X0_weighSet).cls ≠ "java/lang/invoke/VarHandle" ∧ (parseMethodDescriptor (mY M_X0_weighSet).desc).map (fun d => d.parameters.length) = some 1 := by decide +kernel
def FW (σ τ : SS) : Prop := (∀ a, a ≠ 14 → a ≠ 15 → τ.1 a = σ.1 a) ∧ τ.2 = σ.2
def FG (σ τ : SS) : Prop := (∀ a, a ≠ 17 → τ.1 a = σ.1 a) ∧ τ.1 17 0 = σ.1 17 0 ∧ τ.2 = σ.2
def FV (σ τ : SS) : Prop := (∀ a, a ≠ 14 → a ≠ 15 → a ≠ 17 → τ.1 a = σ.1 a) ∧ τ.1 17 0 = σ.1 17 0 ∧ τ.2 = σ.2
def FO (σ τ : SS) : Prop := (∀ a, a < 10 ∨ 18 < a → τ.1 a = σ.1 a) ∧ τ.2 = σ.2 ∧ τ.1 17 0 = σ.1 17 0
theorem FW.rf (σ : SS) : FW σ σ := ⟨fun _ _ _ => rfl, rfl⟩
theorem FO.rf (σ : SS) : FO σ σ := ⟨fun _ _ => rfl, rfl, rfl⟩
theorem FW.tr {σ τ υ : SS} (h : FW σ τ) (g : FW τ υ) : FW σ υ := ⟨fun a h1 h2 => (g.1 a h1 h2).trans (h.1 a h1 h2), g.2.trans h.2⟩
theorem FO.tr {σ τ υ : SS} (h : FO σ τ) (g : FO τ υ) : FO σ υ := ⟨fun a h1 => (g.1 a h1).trans (h.1 a h1), g.2.1.trans h.2.1, g.2.2.trans h.2.2⟩
theorem FW.fo {σ τ : SS} (h : FW σ τ) : FO σ τ := ⟨fun a h1 => h.1 a (by omega) (by omega), h.2, by rw [h.1 17 (by decide) (by decide)]⟩
theorem FV.fo {σ τ : SS} (h : FV σ τ) : FO σ τ := ⟨fun a h1 => h.1 a (by omega) (by omega) (by omega), h.2.2, h.2.1⟩
theorem FG.fv {σ τ υ : SS} (h : FG σ τ) (g : FW τ υ) : FV σ υ := ⟨fun a h1 h2 h3 => (g.1 a h1 h2).trans (h.1 a h3), by rw [g.1 17 (by decide) (by decide)]; exact h.2.1, g.2.trans h.2.2⟩
theorem OC0.of {o : OD} {σ τ : SS} (hc : OC0 o σ) (h0 : τ.1 10 9 = σ.1 10 9) (h1 : τ.1 11 = σ.1 11) (h2 : τ.1 12 = σ.1 12) (h3 : τ.1 13 = σ.1 13) : OC0 o τ := by
  rw [OC0, h0, h1, h2, h3]; exact hc
theorem FG.o0 {o : OD} {σ τ : SS} (h : FG σ τ) (hc : OC0 o σ) : OC0 o τ := hc.of (by rw [h.1 10 (by decide)]) (h.1 11 (by decide)) (h.1 12 (by decide)) (h.1 13 (by decide))
theorem FV.o0 {o : OD} {σ τ : SS} (h : FV σ τ) (hc : OC0 o σ) : OC0 o τ := hc.of (by rw [h.1 10 (by decide) (by decide) (by decide)]) (h.1 11 (by decide) (by decide) (by decide)) (h.1 12 (by decide) (by decide) (by decide)) (h.1 13 (by decide) (by decide) (by decide))
theorem FW.sw {σ τ : SS} (h : FW σ τ) (A : Nat) (x y : Int32) : FW σ (sw τ A x y) := ⟨fun a h1 h2 => (sw_row τ A x y h1 h2).trans (h.1 a h1 h2), h.2⟩
theorem OC.of {o : OD} {σ τ : SS} (hc : OC o σ) (h0 : τ.1 10 9 = σ.1 10 9) (h1 : τ.1 11 = σ.1 11) (h2 : τ.1 12 = σ.1 12) (h3 : τ.1 13 = σ.1 13) (h4 : τ.1 17 = σ.1 17) : OC o τ := by
  rw [OC, h0, h1, h2, h3, h4]; exact hc
theorem FW.oc {o : OD} {σ τ : SS} (h : FW σ τ) (hc : OC o σ) : OC o τ := hc.of (by rw [h.1 10 (by decide) (by decide)]) (h.1 11 (by decide) (by decide)) (h.1 12 (by decide) (by decide)) (h.1 13 (by decide) (by decide)) (h.1 17 (by decide) (by decide))
def OT (o : OD) (σ : SS) : Prop := ∀ B, sub B (oP o) → OTb o σ B
theorem OT.of {o : OD} {σ τ : SS} (h : OT o σ) (h1 : τ.1 14 = σ.1 14) (h2 : τ.1 15 = σ.1 15) : OT o τ := fun B hB => by rw [OTb, h1, h2]; exact h B hB
def ORw (o : OD) (σ : SS) : Prop := σ.1 10 8 = nI (fr o 0).length ∧ ∀ j, j < (fr o 0).length → σ.1 18 j = nI (ofL (fr o 0) j)
theorem nI_s1 (A : Nat) : nI (A + 1) - 1 = nI A := pk_sub (a := A + 1) (b := 1) (by omega)
theorem nI_m1 (A : Nat) : nI A + Int32.ofInt (-1) = nI A - 1 := by rw [Int32.sub_eq_add_neg]; rfl
def wI (o : OD) (σ τ : SS) (i : Nat) : Prop := (∀ B, oP o + 1 - i ≤ B → sub B (oP o) → OTb o τ B) ∧ FW σ τ
theorem wI_no {o : OD} {σ τ : SS} {i A : Nat} (h : wI o σ τ i) (hA : oP o + 1 - i = A + 1) (hn : dif A (oP o) ≠ 0) (h64 : A < 64) : wI o σ τ (i + 1) := ⟨fun B h1 h2 => by
  by_cases c : B = A
  · subst c; exact absurd ((sub_dif h64).mpr h2) hn
  · exact h.1 B (by omega) h2, h.2⟩
theorem wI_ht {o : OD} {σ τ : SS} {i A : Nat} (h : wI o σ τ i) (hA : oP o + 1 - i = A + 1) (hn : dif A (oP o) = 0) (h64 : A < 64) : ∀ p, p < 6 → (oP o).testBit p = true → A.testBit p = false → OTb o τ (A ||| 2 ^ p) := fun p hp h1 h2 => h.1 _ (by have := or_gt h2; omega) (sub_or ((sub_dif h64).mp hn) hp h1)
theorem wI_yes {o : OD} {σ τ : SS} {i A : Nat} (h : wI o σ τ i) (hA : oP o + 1 - i = A + 1) : wI o σ (sw τ A (nI (few o A)) (nI (TL o A).length)) (i + 1) := ⟨fun B h1 h2 => by
  by_cases c : B = A
  · subst c; exact sw_self τ B
  · exact sw_tb _ _ c (h.1 B (by omega) h2), h.2.sw A _ _⟩
theorem sub_lt {B P : Nat} (h : sub B P) : B ≤ P := by
  have e : B = B &&& P := Nat.eq_of_testBit_eq (fun i => by
    rw [Nat.testBit_and]
    cases q : B.testBit i with
    | false => rfl
    | true => rw [h.2 i q]; rfl)
  rw [e]; exact Nat.and_le_right
theorem sub_0 (P : Nat) : sub 0 P := ⟨by decide, fun i h => by rw [Nat.zero_testBit] at h; cases h⟩
theorem wI_0 {o : OD} (σ : SS) : wI o σ σ 0 := ⟨fun B h1 h2 => by have := sub_lt h2; omega, FW.rf σ⟩
def gI (o : OD) (σ τ : SS) (n : Nat) : Prop := (∀ S, S < n → τ.1 17 S = nI (sgs o S)) ∧ FG σ τ
theorem gI_0 {o : OD} {σ : SS} (hg : σ.1 17 0 = 0) : gI o σ σ (2 ^ 0) := ⟨fun S hS => by
  have h0 : S = 0 := by
    have : S < 1 := hS
    omega
  rw [h0, sgs_0]
  exact hg.trans rfl, fun _ _ => rfl, rfl, rfl⟩
theorem gI_s {o : OD} {σ τ : SS} {i k : Nat} (hi : i < 6) (hk : k < 2 ^ i) (h : gI o σ τ (2 ^ i + k)) : gI o σ (sI τ 17 (k ||| 2 ^ i) (nI (sgs o k ||| sgo o i))) (2 ^ i + (k + 1)) := by
  have h2 : 0 < 2 ^ i := Nat.pow_pos (by decide)
  refine ⟨fun S hS => ?_, fun a ha => ?_, ?_, h.2.2.2⟩
  · by_cases c : S = 2 ^ i + k
    · rw [c, or_two hk, sI_at, ← or_two hk, sgs_or o hi]
    · rw [sI_ne _ _ (Or.inr (by rw [or_two hk]; exact c))]
      exact h.1 S (by omega)
  · rw [sI_row _ _ ha]; exact h.2.1 a ha
  · rw [sI_ne _ _ (Or.inr (by rw [or_two hk]; omega))]; exact h.2.2.1
theorem gI_d {o : OD} {σ τ : SS} {i : Nat} (h : gI o σ τ (2 ^ i + 2 ^ i)) : gI o σ τ (2 ^ (i + 1)) := by
  rw [Nat.pow_succ, Nat.mul_two]; exact h
theorem two_32 {i : Nat} (hi : i < 6) : 2 ^ i ≤ 32 := Nat.le_trans (Nat.pow_le_pow_right (by decide) (show i ≤ 5 by omega)) (by decide)
set_option maxRecDepth 100000 in
set_option maxHeartbeats 4000000 in
theorem s_X0_gatherSigns {v : EE} {o : OD} {σ : SS} (hc : OC0 o σ) (hg : σ.1 17 0 = 0) : SR v M_X0_gatherSigns [.ref (v.1 10)] σ none (fun σ' => OC o σ' ∧ FG σ σ') := by
  refine Sp.of rfl (by decide) rfl (Nat.le_of_ble_eq_true rfl) ?_
  show V v M_X0_gatherSigns _ 0 [(0, .ref (v.1 10))] [] σ
  refine v_iconst (x := nI 0) dX0_gatherSigns_0 (by decide +kernel) ?_
  refine v_istore_n (L' := [(1, _), (0, _)]) dX0_gatherSigns_1 rfl (by decide) rfl ?_
  refine v_sub [1, 0] rfl ?_
  refine loopN (fun i => ∀ τ : SS, gI o σ τ (2 ^ i) → V v M_X0_gatherSigns (zR v M_X0_gatherSigns (fun r' σ' => r' = none ∧ (OC o σ' ∧ FG σ σ'))) 2 [(0, .ref (v.1 10)), (1, .int (nI i))] [] τ) 6 ?_ ?_ _ (gI_0 hg)
  · intro i hi ih τ hinv
    have hi0 := hi
    have ih0 := ih
    have h32 := two_32 hi
    refine v_iload_n dX0_gatherSigns_2 rfl ?_
    refine v_bipush (x := nI 6) dX0_gatherSigns_3 (by decide +kernel) ?_
    refine n_icmp_ge (tgt := 52) dX0_gatherSigns_5 (by decide) (by omega) (by omega) (fun c5 => absurd c5 (by omega)) (fun c5 => ?_)
    refine v_iconst (x := nI 0) dX0_gatherSigns_8 (by decide +kernel) ?_
    refine v_istore_n (L' := [(2, _), (0, _), (1, _)]) dX0_gatherSigns_9 rfl (by decide) rfl ?_
    refine v_sub [1, 2, 0] rfl ?_
    refine loopN (fun k => ∀ υ : SS, gI o σ υ (2 ^ i + k) → V v M_X0_gatherSigns (zR v M_X0_gatherSigns (fun r' σ' => r' = none ∧ (OC o σ' ∧ FG σ σ'))) 10 [(0, .ref (v.1 10)), (1, .int (nI i)), (2, .int (nI k))] [] υ) (2 ^ i) ?_ ?_ _ hinv
    · intro k hi ih υ hinv
      refine v_iload_n dX0_gatherSigns_10 rfl ?_
      refine v_iconst (x := nI 1) dX0_gatherSigns_11 (by decide +kernel) ?_
      refine v_iload_n dX0_gatherSigns_12 rfl ?_
      refine n_shl1 dX0_gatherSigns_13 (by omega) ?_
      refine n_icmp_ge (tgt := 46) dX0_gatherSigns_14 (by decide) (by omega) (by omega) (fun c14 => absurd c14 (by omega)) (fun c14 => ?_)
      refine v_aload_n dX0_gatherSigns_17 rfl ?_
      refine v_get (j := 6) iO10 rfl dX0_gatherSigns_18 (by decide) in_X0_gatherSigns_X0 fl_X0_gatherSigns_30 rfl ?_
      refine v_iload_n dX0_gatherSigns_21 rfl ?_
      refine v_iconst (x := nI 1) dX0_gatherSigns_22 (by decide +kernel) ?_
      refine v_iload_n dX0_gatherSigns_23 rfl ?_
      refine n_shl1 dX0_gatherSigns_24 (by omega) ?_
      refine n_ior dX0_gatherSigns_25 ?_
      refine v_aload_n dX0_gatherSigns_26 rfl ?_
      refine v_get (j := 6) iO10 rfl dX0_gatherSigns_27 (by decide) in_X0_gatherSigns_X0 fl_X0_gatherSigns_30 rfl ?_
      refine v_iload_n dX0_gatherSigns_30 rfl ?_
      refine v_ialdN k iI17 dX0_gatherSigns_31 rfl (by omega) (by decide) ?_
      refine v_top (hinv.1 k (by omega)) ?_
      refine v_aload_n dX0_gatherSigns_32 rfl ?_
      refine v_get (j := 0) iO10 rfl dX0_gatherSigns_33 (by decide) in_X0_gatherSigns_X0 fl_X0_gatherSigns_9 rfl ?_
      refine v_iload_n dX0_gatherSigns_36 rfl ?_
      refine v_ialdN i iI11 dX0_gatherSigns_37 rfl (by omega) (by decide) ?_
      refine v_top (y := nI (sgo o i)) (by rw [hinv.2.1 11 (by decide)]; exact hc.2.1 i hi0) ?_
      refine n_ior dX0_gatherSigns_38 ?_
      refine v_iastN (k ||| 2 ^ i) iI17 dX0_gatherSigns_39 rfl (or_64 (by omega) hi0) (by decide) ?_
      refine n_iinc (n := 1) (L' := [(2, _), (0, _), (1, _)]) dX0_gatherSigns_40 rfl (by decide) rfl ?_
      refine v_goto (tgt := 10) dX0_gatherSigns_43 (by decide) ?_
      refine v_sub [1, 2, 0] rfl ?_
      exact ih _ (gI_s hi0 hi hinv)
    · intro υ hinv
      refine v_iload_n dX0_gatherSigns_10 rfl ?_
      refine v_iconst (x := nI 1) dX0_gatherSigns_11 (by decide +kernel) ?_
      refine v_iload_n dX0_gatherSigns_12 rfl ?_
      refine n_shl1 dX0_gatherSigns_13 (by omega) ?_
      refine n_icmp_ge (tgt := 46) dX0_gatherSigns_14 (by decide) (by omega) (by omega) (fun c14 => ?_) (fun c14 => absurd c14 (by omega))
      refine n_iinc (n := 1) (L' := [(1, _), (0, _), (2, _)]) dX0_gatherSigns_46 rfl (by decide) rfl ?_
      refine v_goto (tgt := 2) dX0_gatherSigns_49 (by decide) ?_
      refine v_sub [1, 0] rfl ?_
      exact ih0 _ (gI_d hinv)
  · intro τ hinv
    refine v_iload_n dX0_gatherSigns_2 rfl ?_
    refine v_bipush (x := nI 6) dX0_gatherSigns_3 (by decide +kernel) ?_
    refine n_icmp_ge (tgt := 52) dX0_gatherSigns_5 (by decide) (by omega) (by omega) (fun c5 => ?_) (fun c5 => absurd c5 (by omega))
    exact v_vret rfl dX0_gatherSigns_52 ⟨rfl, (hinv.2.o0 hc).g (fun S hS => hinv.1 S hS), hinv.2⟩
set_option maxRecDepth 100000 in
set_option maxHeartbeats 4000000 in
theorem s_X0_weigh {v : EE} {o : OD} {σ : SS} (ho : OV o) (hc : OC0 o σ) (hg : σ.1 17 0 = 0) : SR v M_X0_weigh [.ref (v.1 10)] σ none (fun σ' => OT o σ' ∧ OC o σ' ∧ FV σ σ') := by
  refine Sp.of rfl (by decide) rfl (Nat.le_of_ble_eq_true rfl) ?_
  show V v M_X0_weigh _ 0 [(0, .ref (v.1 10))] [] σ
  refine v_aload_n dX0_weigh_0 rfl ?_
  refine v_callVRv (M' := M_X0_gatherSigns) (As := []) iO10 (s_X0_gatherSigns hc hg) dX0_weigh_1 gX0_weigh_X0_gatherSigns rfl rfl nn_X0_gatherSigns ⟨rfl, rfl⟩ ⟨by decide, by decide⟩ rfl rfl (Nat.le_of_ble_eq_true rfl) (fun s0 h0 => ?_)
  refine v_aload_n dX0_weigh_4 rfl ?_
  refine v_get (j := 9) iO10 rfl dX0_weigh_5 (by decide) in_X0_weigh_X0 fl_X0_weigh_36 rfl ?_
  refine v_top h0.1.1 ?_
  refine v_top (y := nI (oP o + 1 - 0) - 1) (nI_s1 _).symm ?_
  refine v_istore_n (L' := [(1, _), (0, _)]) dX0_weigh_8 rfl (by decide) rfl ?_
  refine v_sub [1, 0] rfl ?_
  refine loopN (fun i => ∀ τ : SS, wI o s0 τ i → V v M_X0_weigh (zR v M_X0_weigh (fun r' σ' => r' = none ∧ (OT o σ' ∧ OC o σ' ∧ FV σ σ'))) 9 [(0, .ref (v.1 10)), (1, .int (nI (oP o + 1 - i) - 1))] [] τ) (oP o + 1) ?_ ?_ _ (wI_0 s0)
  · intro i hi ih τ hinv
    obtain ⟨A, hA⟩ : ∃ A, oP o + 1 - i = A + 1 := ⟨oP o - i, by omega⟩
    have h64 := ho.1
    rw [hA, nI_s1]
    rw [show oP o + 1 - (i + 1) = A by omega] at ih
    refine v_iload_n dX0_weigh_9 rfl ?_
    refine n_if_lt (tgt := 35) dX0_weigh_10 (by decide) (by omega) ?_
    refine v_iload_n dX0_weigh_13 rfl ?_
    refine v_aload_n dX0_weigh_14 rfl ?_
    refine v_get (j := 9) iO10 rfl dX0_weigh_15 (by decide) in_X0_weigh_X0 fl_X0_weigh_36 rfl ?_
    refine v_top (hinv.2.oc h0.1).1 ?_
    refine v_iconst (x := (-1)) dX0_weigh_18 rfl ?_
    refine v_ixor dX0_weigh_19 ?_
    refine n_dif dX0_weigh_20 ?_
    refine n_if_ne (tgt := 29) dX0_weigh_21 (by decide) (by have := dif_le A (oP o); omega) (fun c21 => ?_) (fun c21 => ?_)
    · refine v_iinc (y := nI A - 1) (L' := [(1, .int (nI A - 1)), (0, _)]) dX0_weigh_29 rfl (nI_m1 A) (by decide) rfl ?_
      refine v_goto (tgt := 9) dX0_weigh_32 (by decide) ?_
      refine v_sub [1, 0] rfl ?_
      first | exact ih _ (wI_no hinv hA c21 (by omega)) | exact ih _ (wI_yes hinv hA)
    · refine v_aload_n dX0_weigh_24 rfl ?_
      refine v_iload_n dX0_weigh_25 rfl ?_
      refine v_callVv (M' := M_X0_weighSet) (As := [_]) iO10 (s_X0_weighSet ho (hinv.2.oc h0.1) (by omega) (wI_ht hinv hA c21 (by omega))) dX0_weigh_26 gX0_weigh_X0_weighSet rfl rfl nn_X0_weighSet ⟨rfl, rfl⟩ ⟨by decide, by decide⟩ rfl rfl (Nat.le_of_ble_eq_true rfl) ?_
      refine v_iinc (y := nI A - 1) (L' := [(1, .int (nI A - 1)), (0, _)]) dX0_weigh_29 rfl (nI_m1 A) (by decide) rfl ?_
      refine v_goto (tgt := 9) dX0_weigh_32 (by decide) ?_
      refine v_sub [1, 0] rfl ?_
      first | exact ih _ (wI_no hinv hA c21 (by omega)) | exact ih _ (wI_yes hinv hA)
  · intro τ hinv
    rw [Nat.sub_self]
    refine v_iload_n dX0_weigh_9 rfl ?_
    refine v_if_lt (tgt := 35) dX0_weigh_10 (by decide) (fun c10 => ?_) (fun c10 => absurd (by decide) c10)
    exact v_vret rfl dX0_weigh_35 ⟨rfl, fun B hB => hinv.1 B (by omega) hB, hinv.2.oc h0.1, h0.2.fv hinv.2⟩
def fbR (f : Nat → Bool) (r : Int32) : Prop := (∃ p, p < 6 ∧ f p = true ∧ (∀ x, x < p → f x = false) ∧ r = nI p) ∨ ((∀ x, x < 6 → f x = false) ∧ r = -4)
theorem fbR_i {f : Nat → Bool} {r : Int32} (hr : fbR f r) {i : Nat} (hi : i < 6) (h : f i = true) (hal : ∀ x, x < i → f x = false) : nI i = r := by
  rcases hr with ⟨p, h1, h2, h3, h4⟩ | ⟨h1, _⟩
  · rcases Nat.lt_trichotomy p i with q | q | q
    · rw [hal p q] at h2; cases h2
    · rw [h4, q]
    · rw [h3 i q] at h; cases h
  · rw [h1 i hi] at h; cases h
theorem fbR_n {f : Nat → Bool} {r : Int32} (hr : fbR f r) (hal : ∀ x, x < 6 → f x = false) : -4 = r := by
  rcases hr with ⟨p, h1, h2, _⟩ | ⟨_, h⟩
  · rw [hal p h1] at h2; cases h2
  · exact h.symm
theorem all_s {f : Nat → Bool} {b : Bool} {i : Nat} (hal : ∀ x, x < i → f x = b) (h : f i = b) : ∀ x, x < i + 1 → f x = b := fun x hx => by
  by_cases q : x = i
  · rw [q]; exact h
  · exact hal x (by omega)
set_option maxRecDepth 100000 in
set_option maxHeartbeats 4000000 in
theorem s_X0_firstBestStep {v : EE} {o : OD} {σ : SS} (ho : OV o) (hc : OC o σ) {A : Nat} (hA : A < 64) (h0 : OTb o σ A) (ht : ∀ p, p < 6 → (oP o).testBit p = true → A.testBit p = false → OTb o σ (A ||| 2 ^ p)) {r : Int32} (hr : fbR (bst o A) r) : S1 v M_X0_firstBestStep [.ref (v.1 10), .int (nI A)] σ (some (.int r)) (σ) := by
  refine Sp.of rfl (by decide) rfl (Nat.le_of_ble_eq_true rfl) ?_
  show V v M_X0_firstBestStep _ 0 [(0, .ref (v.1 10)), (1, .int (nI A))] [] σ
  refine v_iconst (x := nI 0) dX0_firstBestStep_0 (by decide +kernel) ?_
  refine v_istore_n (L' := [(2, _), (0, _), (1, _)]) dX0_firstBestStep_1 rfl (by decide) rfl ?_
  refine v_sub [1, 2, 0] rfl ?_
  refine loopN (fun i => (∀ x, x < i → bst o A x = false) → V v M_X0_firstBestStep (zR v M_X0_firstBestStep (fun r' σ' => r' = (some (.int r)) ∧ σ' = (σ))) 2 [(0, .ref (v.1 10)), (1, .int (nI A)), (2, .int (nI i))] [] (σ)) 6 ?_ ?_ (fun x hx => by omega)
  · intro i hi ih hal
    refine v_iload_n dX0_firstBestStep_2 rfl ?_
    refine v_bipush (x := nI 6) dX0_firstBestStep_3 (by decide +kernel) ?_
    refine n_icmp_ge (tgt := 25) dX0_firstBestStep_5 (by decide) (by omega) (by omega) (fun c5 => absurd c5 (by omega)) (fun c5 => ?_)
    refine v_aload_n dX0_firstBestStep_8 rfl ?_
    refine v_iload_n dX0_firstBestStep_9 rfl ?_
    refine v_iload_n dX0_firstBestStep_10 rfl ?_
    refine v_callVi (M' := M_X0_isBestStep) (As := [_, _]) iO10 (s_X0_isBestStep ho hc hA hi h0 (ht i hi)) dX0_firstBestStep_11 gX0_firstBestStep_X0_isBestStep rfl rfl nn_X0_isBestStep ⟨rfl, rfl⟩ ⟨by decide, by decide⟩ rfl rfl (Nat.le_of_ble_eq_true rfl) ?_
    refine b_if_eq (tgt := 19) dX0_firstBestStep_14 (by decide) (fun c14 => ?_) (fun c14 => ?_)
    · refine n_iinc (n := 1) (L' := [(2, _), (0, _), (1, _)]) dX0_firstBestStep_19 rfl (by decide) rfl ?_
      refine v_goto (tgt := 2) dX0_firstBestStep_22 (by decide) ?_
      refine v_sub [1, 2, 0] rfl ?_
      exact ih (all_s hal c14)
    · refine v_iload_n dX0_firstBestStep_17 rfl ?_
      exact v_iret rfl dX0_firstBestStep_18 ⟨congrArg (fun z => some (Value.int z)) (fbR_i hr hi c14 hal), rfl⟩
  · intro hal
    refine v_iload_n dX0_firstBestStep_2 rfl ?_
    refine v_bipush (x := nI 6) dX0_firstBestStep_3 (by decide +kernel) ?_
    refine n_icmp_ge (tgt := 25) dX0_firstBestStep_5 (by decide) (by omega) (by omega) (fun c5 => ?_) (fun c5 => absurd c5 (by omega))
    refine v_bipush (x := (-4)) dX0_firstBestStep_25 (by decide +kernel) ?_
    exact v_iret rfl dX0_firstBestStep_27 ⟨congrArg (fun z => some (Value.int z)) (fbR_n hr hal), rfl⟩
def mkA (l : List Nat) (i : Nat) : Nat := om (fun j => 2 ^ ofL l j) i
theorem mkA_s (l : List Nat) (i : Nat) : mkA l (i + 1) = mkA l i ||| 2 ^ ofL l i := rfl
def FT (σ τ : SS) : Prop := (∀ a, a ≠ 10 → a ≠ 18 → τ.1 a = σ.1 a) ∧ τ.1 10 9 = σ.1 10 9 ∧ τ.2 = σ.2
theorem FT.fo {σ τ : SS} (h : FT σ τ) : FO σ τ := ⟨fun a h1 => h.1 a (by omega) (by omega), h.2.2, by rw [h.1 17 (by decide) (by decide)]⟩
theorem FT.oc {o : OD} {σ τ : SS} (h : FT σ τ) (hc : OC o σ) : OC o τ := hc.of h.2.1 (h.1 11 (by decide) (by decide)) (h.1 12 (by decide) (by decide)) (h.1 13 (by decide) (by decide)) (h.1 17 (by decide) (by decide))
theorem FT.ot {o : OD} {σ τ : SS} (h : FT σ τ) (hc : OT o σ) : OT o τ := hc.of (h.1 14 (by decide) (by decide)) (h.1 15 (by decide) (by decide))
theorem drop_cons {l : List Nat} {i p : Nat} {t : List Nat} (h : l.drop i = p :: t) : ofL l i = p ∧ l.drop (i + 1) = t ∧ i < l.length := by
  have hi : i < l.length := by
    apply Classical.byContradiction
    intro q
    rw [List.drop_eq_nil_of_le (by omega)] at h
    cases h
  rw [List.drop_eq_getElem_cons hi] at h
  injection h with h1 h2
  exact ⟨by rw [← h1]; simp [ofL, hi], h2, hi⟩
theorem tr_in {o : OD} (ho : OV o) (hn : TL o 0 ≠ []) : ∀ i, i ≤ (fr o 0).length → sub (mkA (fr o 0) i) (oP o) ∧ fr o (mkA (fr o 0) i) = (fr o 0).drop i ∧ TL o (mkA (fr o 0) i) ≠ []
  | 0, _ => ⟨sub_0 _, rfl, hn⟩
  | i + 1, h => by
    obtain ⟨h1, h2, h3⟩ := tr_in ho hn i (by omega)
    have hP : mkA (fr o 0) i ≠ oP o := fun e => by
      rw [e, fr, TL_P ho.1] at h2
      have := congrArg List.length h2
      rw [List.length_drop] at this
      simp at this
      omega
    obtain ⟨p, hp, hb, _, hf⟩ := fr_step h1.1 hP h3
    rw [hf] at h2
    obtain ⟨e1, e2, _⟩ := drop_cons h2.symm
    rw [mkA_s, e1]
    exact ⟨sub_or h1 hp (bst_sub hb).1, e2.symm, (bst_ok hb).2⟩
theorem tr_st {o : OD} (ho : OV o) (hn : TL o 0 ≠ []) {i : Nat} (hi : i < (fr o 0).length) : mkA (fr o 0) i ≠ oP o ∧ ofL (fr o 0) i < 6 ∧ bst o (mkA (fr o 0) i) (ofL (fr o 0) i) = true ∧ ∀ x, x < ofL (fr o 0) i → bst o (mkA (fr o 0) i) x = false := by
  obtain ⟨h1, h2, h3⟩ := tr_in ho hn i (by omega)
  have hP : mkA (fr o 0) i ≠ oP o := fun e => by
    rw [e, fr, TL_P ho.1] at h2
    have := congrArg List.length h2
    rw [List.length_drop] at this
    simp at this
    omega
  obtain ⟨p, hp, hb, hx, hf⟩ := fr_step h1.1 hP h3
  rw [hf] at h2
  obtain ⟨e1, _, _⟩ := drop_cons h2.symm
  rw [e1]
  exact ⟨hP, hp, hb, hx⟩
theorem tr_en {o : OD} (ho : OV o) (hn : TL o 0 ≠ []) : mkA (fr o 0) (fr o 0).length = oP o := by
  obtain ⟨h1, h2, h3⟩ := tr_in ho hn _ (Nat.le_refl _)
  apply Classical.byContradiction
  intro hP
  obtain ⟨p, hp, hb, hx, hf⟩ := fr_step h1.1 hP h3
  rw [hf, List.drop_length] at h2
  cases h2
theorem fr_mem {o : OD} (hn : TL o 0 ≠ []) : fr o 0 ∈ TL o 0 := by
  rw [fr]
  cases e : TL o 0 with
  | nil => exact absurd e hn
  | cons l t => exact List.mem_cons_self
theorem pr_len {P : Nat} (hP : P < 64) {l : List Nat} (h : l ∈ pr P 64 0) : l.length = (bits P).length := by
  have := List.all_eq_true.mp (chain_all P hP).2.2.1 l h
  exact eq_of_beq this
theorem bits_len : ∀ P, P < 64 → (bits P).length ≤ 6 ∧ (bits P).length = pc P := by decide +kernel
theorem fr_len {o : OD} (ho : OV o) : (fr o 0).length ≤ 6 := by
  by_cases hn : TL o 0 = []
  · rw [fr, hn]; exact Nat.zero_le _
  · rw [pr_len ho.1 (TL_mem ho.1 (by decide) (fr_mem hn))]; exact (bits_len _ ho.1).1
theorem fr_len' {o : OD} (ho : OV o) (hn : TL o 0 ≠ []) : (fr o 0).length = pc (oP o) := by
  rw [pr_len ho.1 (TL_mem ho.1 (by decide) (fr_mem hn))]; exact (bits_len _ ho.1).2
def tI (o : OD) (σ τ : SS) (i : Nat) : Prop := τ.1 10 8 = nI i ∧ (∀ j, j < i → τ.1 18 j = nI (ofL (fr o 0) j)) ∧ FT σ τ
theorem tI_s {o : OD} {σ τ : SS} {i : Nat} (h : tI o σ τ i) : tI o σ (sI (sI τ 18 i (nI (ofL (fr o 0) i))) 10 8 (nI (i + 1))) (i + 1) := by
  refine ⟨by simp [sI, upd], fun j hj => ?_, fun a h1 h2 => ?_, ?_, h.2.2.2.2⟩
  · by_cases c : j = i
    · subst c; simp [sI, upd]
    · have := h.2.1 j (by omega)
      simp [sI, upd, c, this]
  · rw [← h.2.2.1 a h1 h2]; simp [sI, h1, h2]
  · rw [← h.2.2.2.1]; simp [sI, upd]
theorem tI_0 {o : OD} (σ : SS) : tI o σ (sI σ 10 8 0) 0 := ⟨by simp [sI, upd]; rfl, fun j hj => by omega, fun a h1 h2 => by simp [sI, h1], by simp [sI, upd], rfl⟩
theorem tI_rw {o : OD} {σ τ : SS} (h : tI o σ τ (fr o 0).length) : ORw o τ ∧ FT σ τ := ⟨⟨h.1, h.2.1⟩, h.2.2⟩
set_option maxRecDepth 100000 in
set_option maxHeartbeats 4000000 in
theorem s_X0_traceFirstRow {v : EE} {o : OD} {σ : SS} (ho : OV o) (hc : OC o σ) (hot : OT o σ) : SR v M_X0_traceFirstRow [.ref (v.1 10)] σ none (fun σ' => ORw o σ' ∧ FT σ σ') := by
  refine Sp.of rfl (by decide) rfl (Nat.le_of_ble_eq_true rfl) ?_
  show V v M_X0_traceFirstRow _ 0 [(0, .ref (v.1 10))] [] σ
  refine v_aload_n dX0_traceFirstRow_0 rfl ?_
  refine v_iconst (x := nI 0) dX0_traceFirstRow_1 (by decide +kernel) ?_
  refine pX0_8 dX0_traceFirstRow_2 in_X0_traceFirstRow_X0 fl_X0_traceFirstRow_90 ?_
  refine v_iconst (x := nI 0) dX0_traceFirstRow_5 (by decide +kernel) ?_
  refine v_istore_n (L' := [(1, _), (0, _)]) dX0_traceFirstRow_6 rfl (by decide) rfl ?_
  refine v_iconst (x := nI 0) dX0_traceFirstRow_7 (by decide +kernel) ?_
  refine v_istore_n (L' := [(2, _), (1, _), (0, _)]) dX0_traceFirstRow_8 rfl (by decide) rfl ?_
  have hl := fr_len ho
  by_cases hn : TL o 0 = []
  · have h0P : 0 ≠ oP o := fun e => by have := TL_P ho.1; rw [← e, hn] at this; cases this
    refine v_iload_n dX0_traceFirstRow_9 rfl ?_
    refine v_bipush (x := nI 6) dX0_traceFirstRow_10 (by decide +kernel) ?_
    refine n_icmp_ge (tgt := 60) dX0_traceFirstRow_12 (by decide) (by omega) (by omega) (fun c12 => absurd c12 (by omega)) (fun c12 => ?_)
    refine v_iload_n dX0_traceFirstRow_15 rfl ?_
    refine v_aload_n dX0_traceFirstRow_16 rfl ?_
    refine v_get (j := 9) iO10 rfl dX0_traceFirstRow_17 (by decide) in_X0_traceFirstRow_X0 fl_X0_traceFirstRow_36 rfl ?_
    refine v_top ((tI_0 (o := o) σ).2.2.oc hc).1 ?_
    refine n_icmp_eq (tgt := 60) dX0_traceFirstRow_20 (by decide) (by omega) (by have := ho.1; omega) (fun c20 => absurd c20 h0P) (fun c20 => ?_)
    refine v_aload_n dX0_traceFirstRow_23 rfl ?_
    refine v_iload_n dX0_traceFirstRow_24 rfl ?_
    refine v_callVi (M' := M_X0_firstBestStep) (As := [_]) iO10 (s_X0_firstBestStep ho ((tI_0 (o := o) σ).2.2.oc hc) (by decide) ((tI_0 (o := o) σ).2.2.ot hot _ (sub_0 _)) (fun p hp q1 q2 => (tI_0 (o := o) σ).2.2.ot hot _ (sub_or (sub_0 _) hp q1)) (r := -4) (Or.inr ⟨bst_none hn (by decide) h0P, rfl⟩)) dX0_traceFirstRow_25 gX0_traceFirstRow_X0_firstBestStep rfl rfl nn_X0_firstBestStep ⟨rfl, rfl⟩ ⟨by decide, by decide⟩ rfl rfl (Nat.le_of_ble_eq_true rfl) ?_
    refine v_istore_n (L' := [(3, _), (2, _), (1, _), (0, _)]) dX0_traceFirstRow_28 rfl (by decide) rfl ?_
    refine v_iload_n dX0_traceFirstRow_29 rfl ?_
    refine v_if_ge (tgt := 34) dX0_traceFirstRow_30 (by decide) (fun c30 => absurd c30 (by decide)) (fun c30 => ?_)
    exact v_vret rfl dX0_traceFirstRow_33 ⟨rfl, tI_rw (o := o) (by rw [show (fr o 0).length = 0 by rw [fr, hn]; rfl]; exact tI_0 σ)⟩
  · refine v_sub [2, 1, 0] rfl ?_
    refine loopN (fun i => ∀ τ : SS, tI o σ τ i → V v M_X0_traceFirstRow (zR v M_X0_traceFirstRow (fun r' σ' => r' = none ∧ (ORw o σ' ∧ FT σ σ'))) 9 [(0, .ref (v.1 10)), (1, .int (nI (mkA (fr o 0) i))), (2, .int (nI i))] [] τ) (fr o 0).length ?_ ?_ _ (tI_0 σ)
    · intro i hi ih τ hinv
      have hs := tr_st ho hn hi
      have h1 := (tr_in ho hn i (by omega)).1
      have h64 := h1.1
      have hP := ho.1
      have h9 := hinv.2.2.ot hot
      refine v_iload_n dX0_traceFirstRow_9 rfl ?_
      refine v_bipush (x := nI 6) dX0_traceFirstRow_10 (by decide +kernel) ?_
      refine n_icmp_ge (tgt := 60) dX0_traceFirstRow_12 (by decide) (by omega) (by omega) (fun c12 => absurd c12 (by omega)) (fun c12 => ?_)
      refine v_iload_n dX0_traceFirstRow_15 rfl ?_
      refine v_aload_n dX0_traceFirstRow_16 rfl ?_
      refine v_get (j := 9) iO10 rfl dX0_traceFirstRow_17 (by decide) in_X0_traceFirstRow_X0 fl_X0_traceFirstRow_36 rfl ?_
      refine v_top (hinv.2.2.oc hc).1 ?_
      refine n_icmp_eq (tgt := 60) dX0_traceFirstRow_20 (by decide) (by omega) (by omega) (fun c20 => absurd c20 hs.1) (fun c20 => ?_)
      refine v_aload_n dX0_traceFirstRow_23 rfl ?_
      refine v_iload_n dX0_traceFirstRow_24 rfl ?_
      refine v_callVi (M' := M_X0_firstBestStep) (As := [_]) iO10 (s_X0_firstBestStep ho (hinv.2.2.oc hc) h64 (h9 _ h1) (fun p hp q1 q2 => h9 _ (sub_or h1 hp q1)) (Or.inl ⟨_, hs.2.1, hs.2.2.1, hs.2.2.2, rfl⟩)) dX0_traceFirstRow_25 gX0_traceFirstRow_X0_firstBestStep rfl rfl nn_X0_firstBestStep ⟨rfl, rfl⟩ ⟨by decide, by decide⟩ rfl rfl (Nat.le_of_ble_eq_true rfl) ?_
      refine v_istore_n (L' := [(3, _), (0, _), (1, _), (2, _)]) dX0_traceFirstRow_28 rfl (by decide) rfl ?_
      refine v_iload_n dX0_traceFirstRow_29 rfl ?_
      refine n_if_ge (tgt := 34) dX0_traceFirstRow_30 (by decide) (by omega) ?_
      refine v_aload_n dX0_traceFirstRow_34 rfl ?_
      refine v_get (j := 7) iO10 rfl dX0_traceFirstRow_35 (by decide) in_X0_traceFirstRow_X0 fl_X0_traceFirstRow_33 rfl ?_
      refine v_iload_n dX0_traceFirstRow_38 rfl ?_
      refine v_iload_n dX0_traceFirstRow_39 rfl ?_
      refine v_iastN i iI18 dX0_traceFirstRow_40 rfl (by omega) (by decide) ?_
      refine v_aload_n dX0_traceFirstRow_41 rfl ?_
      refine v_iload_n dX0_traceFirstRow_42 rfl ?_
      refine v_iconst (x := nI 1) dX0_traceFirstRow_43 (by decide +kernel) ?_
      refine n_iadd dX0_traceFirstRow_44 ?_
      refine pX0_8 dX0_traceFirstRow_45 in_X0_traceFirstRow_X0 fl_X0_traceFirstRow_90 ?_
      refine v_iload_n dX0_traceFirstRow_48 rfl ?_
      refine v_iconst (x := nI 1) dX0_traceFirstRow_49 (by decide +kernel) ?_
      refine v_iload_n dX0_traceFirstRow_50 rfl ?_
      refine n_shl1 dX0_traceFirstRow_51 (by have := hs.2.1; omega) ?_
      refine n_ior dX0_traceFirstRow_52 ?_
      refine v_istore_n (L' := [(1, _), (3, _), (0, _), (2, _)]) dX0_traceFirstRow_53 rfl (by decide) rfl ?_
      refine n_iinc (n := 1) (L' := [(2, _), (1, _), (3, _), (0, _)]) dX0_traceFirstRow_54 rfl (by decide) rfl ?_
      refine v_goto (tgt := 9) dX0_traceFirstRow_57 (by decide) ?_
      refine v_sub [3, 1, 0] rfl ?_
      exact ih _ (tI_s hinv)
    · intro τ hinv
      have hP := ho.1
      have h64 := (tr_in ho hn _ (Nat.le_refl _)).1.1
      refine v_iload_n dX0_traceFirstRow_9 rfl ?_
      refine v_bipush (x := nI 6) dX0_traceFirstRow_10 (by decide +kernel) ?_
      refine n_icmp_ge (tgt := 60) dX0_traceFirstRow_12 (by decide) (by omega) (by omega) (fun c12 => ?_) (fun c12 => ?_)
      · exact v_vret rfl dX0_traceFirstRow_60 ⟨rfl, tI_rw hinv⟩
      · refine v_iload_n dX0_traceFirstRow_15 rfl ?_
        refine v_aload_n dX0_traceFirstRow_16 rfl ?_
        refine v_get (j := 9) iO10 rfl dX0_traceFirstRow_17 (by decide) in_X0_traceFirstRow_X0 fl_X0_traceFirstRow_36 rfl ?_
        refine v_top (hinv.2.2.oc hc).1 ?_
        refine n_icmp_eq (tgt := 60) dX0_traceFirstRow_20 (by decide) (by omega) (by omega) (fun c20 => ?_) (fun c20 => absurd (tr_en ho hn) c20)
        exact v_vret rfl dX0_traceFirstRow_60 ⟨rfl, tI_rw hinv⟩
