theorem in_X3_allStones_X3 : ∀ w ∈ u_ws RX3 TX3 12, w ∈ mWs M_X3_allStones := by decide +kernel
theorem in_X3_hasCourse_X3 : ∀ w ∈ u_ws RX3 TX3 12, w ∈ mWs M_X3_hasCourse := by decide +kernel
theorem in_X3_hasName_X3 : ∀ w ∈ u_ws RX3 TX3 12, w ∈ mWs M_X3_hasName := by decide +kernel
theorem in_X3_hasSign_X3 : ∀ w ∈ u_ws RX3 TX3 12, w ∈ mWs M_X3_hasSign := by decide +kernel
theorem in_X3_partBits_X3 : ∀ w ∈ u_ws RX3 TX3 12, w ∈ mWs M_X3_partBits := by decide +kernel
theorem in_X3_partsShowing_X3 : ∀ w ∈ u_ws RX3 TX3 12, w ∈ mWs M_X3_partsShowing := by decide +kernel
theorem in_X3_signsIn_X3 : ∀ w ∈ u_ws RX3 TX3 12, w ∈ mWs M_X3_signsIn := by decide +kernel
theorem in_X3_signsShownBy_X3 : ∀ w ∈ u_ws RX3 TX3 12, w ∈ mWs M_X3_signsShownBy := by decide +kernel
theorem in_X3_stonesAt_X3 : ∀ w ∈ u_ws RX3 TX3 12, w ∈ mWs M_X3_stonesAt := by decide +kernel
theorem in_X3_stonesOfPart_X3 : ∀ w ∈ u_ws RX3 TX3 12, w ∈ mWs M_X3_stonesOfPart := by decide +kernel
theorem in_X3_stonesShowing_X3 : ∀ w ∈ u_ws RX3 TX3 12, w ∈ mWs M_X3_stonesShowing := by decide +kernel
theorem in_X3_strokesOf_X3 : ∀ w ∈ u_ws RX3 TX3 12, w ∈ mWs M_X3_strokesOf := by decide +kernel
theorem in_X3_weeksOfCourse_X3 : ∀ w ∈ u_ws RX3 TX3 12, w ∈ mWs M_X3_weeksOfCourse := by decide +kernel
theorem fl_X3_allStones_43 : Cond.fieldLink (mOwn M_X3_allStones) 43 (TX3 9).1 (TX3 9).2.1 (TX3 9).2.2.1 ∈ mWs M_X3_allStones := by decide +kernel
theorem fl_X3_hasCourse_43 : Cond.fieldLink (mOwn M_X3_hasCourse) 43 (TX3 9).1 (TX3 9).2.1 (TX3 9).2.2.1 ∈ mWs M_X3_hasCourse := by decide +kernel
theorem fl_X3_hasName_46 : Cond.fieldLink (mOwn M_X3_hasName) 46 (TX3 10).1 (TX3 10).2.1 (TX3 10).2.2.1 ∈ mWs M_X3_hasName := by decide +kernel
theorem fl_X3_hasSign_40 : Cond.fieldLink (mOwn M_X3_hasSign) 40 (TX3 8).1 (TX3 8).2.1 (TX3 8).2.2.1 ∈ mWs M_X3_hasSign := by decide +kernel
theorem fl_X3_partBits_18 : Cond.fieldLink (mOwn M_X3_partBits) 18 (TX3 2).1 (TX3 2).2.1 (TX3 2).2.2.1 ∈ mWs M_X3_partBits := by decide +kernel
theorem fl_X3_partBits_43 : Cond.fieldLink (mOwn M_X3_partBits) 43 (TX3 9).1 (TX3 9).2.1 (TX3 9).2.2.1 ∈ mWs M_X3_partBits := by decide +kernel
theorem fl_X3_partsShowing_18 : Cond.fieldLink (mOwn M_X3_partsShowing) 18 (TX3 2).1 (TX3 2).2.1 (TX3 2).2.2.1 ∈ mWs M_X3_partsShowing := by decide +kernel
theorem fl_X3_partsShowing_43 : Cond.fieldLink (mOwn M_X3_partsShowing) 43 (TX3 9).1 (TX3 9).2.1 (TX3 9).2.2.1 ∈ mWs M_X3_partsShowing := by decide +kernel
theorem fl_X3_signsIn_18 : Cond.fieldLink (mOwn M_X3_signsIn) 18 (TX3 2).1 (TX3 2).2.1 (TX3 2).2.2.1 ∈ mWs M_X3_signsIn := by decide +kernel
theorem fl_X3_signsIn_43 : Cond.fieldLink (mOwn M_X3_signsIn) 43 (TX3 9).1 (TX3 9).2.1 (TX3 9).2.2.1 ∈ mWs M_X3_signsIn := by decide +kernel
theorem fl_X3_signsShownBy_40 : Cond.fieldLink (mOwn M_X3_signsShownBy) 40 (TX3 8).1 (TX3 8).2.1 (TX3 8).2.2.1 ∈ mWs M_X3_signsShownBy := by decide +kernel
theorem fl_X3_stonesAt_27 : Cond.fieldLink (mOwn M_X3_stonesAt) 27 (TX3 5).1 (TX3 5).2.1 (TX3 5).2.2.1 ∈ mWs M_X3_stonesAt := by decide +kernel
theorem fl_X3_stonesOfPart_18 : Cond.fieldLink (mOwn M_X3_stonesOfPart) 18 (TX3 2).1 (TX3 2).2.1 (TX3 2).2.2.1 ∈ mWs M_X3_stonesOfPart := by decide +kernel
theorem fl_X3_stonesOfPart_43 : Cond.fieldLink (mOwn M_X3_stonesOfPart) 43 (TX3 9).1 (TX3 9).2.1 (TX3 9).2.2.1 ∈ mWs M_X3_stonesOfPart := by decide +kernel
theorem fl_X3_stonesShowing_43 : Cond.fieldLink (mOwn M_X3_stonesShowing) 43 (TX3 9).1 (TX3 9).2.1 (TX3 9).2.2.1 ∈ mWs M_X3_stonesShowing := by decide +kernel
theorem fl_X3_strokesOf_9 : Cond.fieldLink (mOwn M_X3_strokesOf) 9 (TX3 0).1 (TX3 0).2.1 (TX3 0).2.2.1 ∈ mWs M_X3_strokesOf := by decide +kernel
theorem fl_X3_strokesOf_40 : Cond.fieldLink (mOwn M_X3_strokesOf) 40 (TX3 8).1 (TX3 8).2.1 (TX3 8).2.2.1 ∈ mWs M_X3_strokesOf := by decide +kernel
theorem fl_X3_weeksOfCourse_21 : Cond.fieldLink (mOwn M_X3_weeksOfCourse) 21 (TX3 3).1 (TX3 3).2.1 (TX3 3).2.2.1 ∈ mWs M_X3_weeksOfCourse := by decide +kernel
theorem fl_X3_weeksOfCourse_24 : Cond.fieldLink (mOwn M_X3_weeksOfCourse) 24 (TX3 4).1 (TX3 4).2.1 (TX3 4).2.2.1 ∈ mWs M_X3_weeksOfCourse := by decide +kernel
theorem nn_X3_hasCourse : (mY M_X3_hasCourse).cls = mOwn M_X3_hasCourse ∧ (mY M_X3_hasCourse).cls ≠ "java/lang/invoke/MethodHandle" ∧ (mY M_X3_hasCourse).cls ≠ "java/lang/invoke/VarHandle" ∧ (parseMethodDescriptor (mY M_X3_hasCourse).desc).map (fun d => d.parameters.length) = some 1 := by decide +kernel
theorem nn_X3_hasSign : (mY M_X3_hasSign).cls = mOwn M_X3_hasSign ∧ (mY M_X3_hasSign).cls ≠ "java/lang/invoke/MethodHandle" ∧ (mY M_X3_hasSign).cls ≠ "java/lang/invoke/VarHandle" ∧ (parseMethodDescriptor (mY M_X3_hasSign).desc).map (fun d => d.parameters.length) = some 1 := by decide +kernel
theorem nn_X3_partBits : (mY M_X3_partBits).cls = mOwn M_X3_partBits ∧ (mY M_X3_partBits).cls ≠ "java/lang/invoke/MethodHandle" ∧ (mY M_X3_partBits).cls ≠ "java/lang/invoke/VarHandle" ∧ (parseMethodDescriptor (mY M_X3_partBits).desc).map (fun d => d.parameters.length) = some 0 := by decide +kernel
theorem nn_X3_signsShownBy : (mY M_X3_signsShownBy).cls = mOwn M_X3_signsShownBy ∧ (mY M_X3_signsShownBy).cls ≠ "java/lang/invoke/MethodHandle" ∧ (mY M_X3_signsShownBy).cls ≠ "java/lang/invoke/VarHandle" ∧ (parseMethodDescriptor (mY M_X3_signsShownBy).desc).map (fun d => d.parameters.length) = some 1 := by decide +kernel
theorem nn_X3_stonesAt : (mY M_X3_stonesAt).cls = mOwn M_X3_stonesAt ∧ (mY M_X3_stonesAt).cls ≠ "java/lang/invoke/MethodHandle" ∧ (mY M_X3_stonesAt).cls ≠ "java/lang/invoke/VarHandle" ∧ (parseMethodDescriptor (mY M_X3_stonesAt).desc).map (fun d => d.parameters.length) = some 2 := by decide +kernel
theorem nn_X3_stonesOfCourse : (mY M_X3_stonesOfCourse).cls = mOwn M_X3_stonesOfCourse ∧ (mY M_X3_stonesOfCourse).cls ≠ "java/lang/invoke/MethodHandle" ∧ (mY M_X3_stonesOfCourse).cls ≠ "java/lang/invoke/VarHandle" ∧ (parseMethodDescriptor (mY M_X3_stonesOfCourse).desc).map (fun d => d.parameters.length) = some 1 := by decide +kernel
theorem ch_S {b : Nat} {w : WD} {σ : SS} (h : CH b w σ) : σ.1 b 8 = nI (wS w) := h.1.1
theorem ch_C {b : Nat} {w : WD} {σ : SS} (h : CH b w σ) : σ.1 b 9 = nI (wC w) := h.1.2.1
theorem ch_N {b : Nat} {w : WD} {σ : SS} (h : CH b w σ) : σ.1 b 10 = nI (wN w) := h.1.2.2.1
theorem ch_P {b : Nat} {w : WD} {σ : SS} (h : CH b w σ) : σ.1 b 11 = nI (wP w) := h.1.2.2.2
theorem ch_T {b : Nat} {w : WD} {σ : SS} (h : CH b w σ) {k : Nat} (hk : k < wS w) : σ.1 (b + 1) k = nI (wT w k) := (h.2.1 k hk).1
theorem ch_G {b : Nat} {w : WD} {σ : SS} (h : CH b w σ) {k : Nat} (hk : k < wS w) : σ.1 (b + 2) k = wG w k := (h.2.1 k hk).2
theorem ch_Q {b : Nat} {w : WD} {σ : SS} (h : CH b w σ) {c : Nat} (hk : c < wC w) : σ.1 (b + 3) c = nI (wQ w c) := (h.2.2.1 c hk).1
theorem ch_A {b : Nat} {w : WD} {σ : SS} (h : CH b w σ) {c : Nat} (hk : c < wC w) : σ.1 (b + 4) c = nI (wA w c) := (h.2.2.1 c hk).2.1
theorem ch_B {b : Nat} {w : WD} {σ : SS} (h : CH b w σ) {c : Nat} (hk : c < wC w) : σ.1 (b + 5) c = nI (wB w c) := (h.2.2.1 c hk).2.2
theorem ch_H {b : Nat} {w : WD} {σ : SS} (h : CH b w σ) {j : Nat} (hk : j < 288) : σ.1 (b + 6) j = nI (wH w j) := h.2.2.2.1 j hk
theorem ch_E {b : Nat} {w : WD} {σ : SS} (h : CH b w σ) {p : Nat} (hk : p < 6) : σ.1 (b + 7) p = nI (wE w p) := h.2.2.2.2.1 p hk
theorem ch_K {b : Nat} {w : WD} {σ : SS} (h : CH b w σ) {m : Nat} (hk : m < wN w) : σ.1 (b + 8) m = nI (wK w m) := h.2.2.2.2.2 m hk
theorem wv_S {z : Nat} {w : WD} (h : WV z w) : wS w ≤ 16 := h.1.1
theorem wv_C {z : Nat} {w : WD} (h : WV z w) : wC w ≤ 16 := h.1.2.1
theorem wv_N {z : Nat} {w : WD} (h : WV z w) : wN w ≤ 10 := h.1.2.2.1
theorem wv_P {z : Nat} {w : WD} (h : WV z w) : 1 ≤ wP w ∧ wP w ≤ 99 := h.1.2.2.2
theorem wv_T {z : Nat} {w : WD} (h : WV z w) {k : Nat} (hk : k < wS w) : 1 ≤ wT w k ∧ wT w k ≤ 9 := ⟨(h.2.1 k hk).1, (h.2.1 k hk).2.1⟩
theorem wv_Q {z : Nat} {w : WD} (h : WV z w) {c : Nat} (hk : c < wC w) : wQ w c < 6 := (h.2.2.1 c hk).1
theorem wv_A {z : Nat} {w : WD} (h : WV z w) {c : Nat} (hk : c < wC w) : wA w c ≤ wB w c ∧ wB w c < 24 := (h.2.2.1 c hk).2
theorem wv_H {z : Nat} {w : WD} (h : WV z w) {j : Nat} (hk : j < 288) : wH w j ≤ z := h.2.2.2.1 j hk
theorem isN_lt0 {k : Int32} {n : Nat} (h : k < 0) : isN k n = false := by
  rw [Int32.lt_iff_toInt_lt, Int32.toInt_zero] at h
  simp only [isN, decide_eq_false_iff_not]; omega
theorem isN_ge {k : Int32} {n : Nat} (hn : n < 2 ^ 31) (h : nI n ≤ k) : isN k n = false := by
  rw [Int32.le_iff_toInt_le, nI_toInt hn] at h
  simp only [isN, decide_eq_false_iff_not]; omega
theorem isN_in {k : Int32} {n : Nat} (hn : n < 2 ^ 31) (h0 : ¬ k < 0) (h : ¬ nI n ≤ k) : isN k n = true := by
  rw [Int32.lt_iff_toInt_lt, Int32.toInt_zero] at h0
  rw [Int32.le_iff_toInt_le, nI_toInt hn] at h
  simp only [isN, decide_eq_true_eq]; omega
theorem nI_le_up {k : Int32} {n m : Nat} (h : n ≤ m) (hm : m < 2 ^ 31) (h2 : nI m ≤ k) : nI n ≤ k := by
  rw [Int32.le_iff_toInt_le, nI_toInt hm] at h2
  rw [Int32.le_iff_toInt_le, nI_toInt (by omega)]
  omega
set_option maxRecDepth 100000 in
set_option maxHeartbeats 4000000 in
theorem s_X3_hasSign {v : EE} {b : Nat} (hb : isW b) {w : WD} {z : Nat} {σ : SS} (hw : CH b w σ) (hv : WV z w) (k : Int32) : S1 v M_X3_hasSign [.ref (v.1 b), .int k] σ (some (.int (bI (isN k (wS w))))) (σ) := by
  refine Sp.of rfl (by decide) rfl (Nat.le_of_ble_eq_true rfl) ?_
  show V v M_X3_hasSign _ 0 [(0, .ref (v.1 b)), (1, .int k)] [] σ
  refine v_iload_n dX3_hasSign_0 rfl ?_
  refine v_if_lt (tgt := 22) dX3_hasSign_1 (by decide) (fun c1 => ?_) (fun c1 => ?_)
  · refine v_iconst (x := 0) dX3_hasSign_22 rfl ?_
    exact v_zret rfl (by decide) dX3_hasSign_23 ⟨congrArg (fun z => some (Value.int z)) (bI_f (isN_lt0 c1)), rfl⟩
  · refine v_iload_n dX3_hasSign_4 rfl ?_
    refine v_aload_n dX3_hasSign_5 rfl ?_
    refine v_get (j := 8) (iWO hb) rfl dX3_hasSign_6 (by decide) in_X3_hasSign_X3 fl_X3_hasSign_40 rfl ?_
    refine v_top (ch_S hw) ?_
    refine v_icmp_ge (tgt := 22) dX3_hasSign_9 (by decide) (fun c9 => ?_) (fun c9 => ?_)
    · refine v_iconst (x := 0) dX3_hasSign_22 rfl ?_
      exact v_zret rfl (by decide) dX3_hasSign_23 ⟨congrArg (fun z => some (Value.int z)) (bI_f (isN_ge (by have := wv_S hv; omega) c9)), rfl⟩
    · refine v_iload_n dX3_hasSign_12 rfl ?_
      refine v_bipush (x := 16) dX3_hasSign_13 (by decide +kernel) ?_
      refine v_icmp_ge (tgt := 22) dX3_hasSign_15 (by decide) (fun c15 => absurd c15 (fun h9 => c9 (nI_le_up (by have := wv_S hv; omega) (by decide) h9))) (fun c15 => ?_)
      refine v_iconst (x := 1) dX3_hasSign_18 rfl ?_
      refine v_goto (tgt := 23) dX3_hasSign_19 (by decide) ?_
      exact v_zret rfl (by decide) dX3_hasSign_23 ⟨congrArg (fun z => some (Value.int z)) (bI_t (isN_in (by have := wv_S hv; omega) c1 c9)), rfl⟩
set_option maxRecDepth 100000 in
set_option maxHeartbeats 4000000 in
theorem s_X3_hasCourse {v : EE} {b : Nat} (hb : isW b) {w : WD} {z : Nat} {σ : SS} (hw : CH b w σ) (hv : WV z w) (k : Int32) : S1 v M_X3_hasCourse [.ref (v.1 b), .int k] σ (some (.int (bI (isN k (wC w))))) (σ) := by
  refine Sp.of rfl (by decide) rfl (Nat.le_of_ble_eq_true rfl) ?_
  show V v M_X3_hasCourse _ 0 [(0, .ref (v.1 b)), (1, .int k)] [] σ
  refine v_iload_n dX3_hasCourse_0 rfl ?_
  refine v_if_lt (tgt := 22) dX3_hasCourse_1 (by decide) (fun c1 => ?_) (fun c1 => ?_)
  · refine v_iconst (x := 0) dX3_hasCourse_22 rfl ?_
    exact v_zret rfl (by decide) dX3_hasCourse_23 ⟨congrArg (fun z => some (Value.int z)) (bI_f (isN_lt0 c1)), rfl⟩
  · refine v_iload_n dX3_hasCourse_4 rfl ?_
    refine v_aload_n dX3_hasCourse_5 rfl ?_
    refine v_get (j := 9) (iWO hb) rfl dX3_hasCourse_6 (by decide) in_X3_hasCourse_X3 fl_X3_hasCourse_43 rfl ?_
    refine v_top (ch_C hw) ?_
    refine v_icmp_ge (tgt := 22) dX3_hasCourse_9 (by decide) (fun c9 => ?_) (fun c9 => ?_)
    · refine v_iconst (x := 0) dX3_hasCourse_22 rfl ?_
      exact v_zret rfl (by decide) dX3_hasCourse_23 ⟨congrArg (fun z => some (Value.int z)) (bI_f (isN_ge (by have := wv_C hv; omega) c9)), rfl⟩
    · refine v_iload_n dX3_hasCourse_12 rfl ?_
      refine v_bipush (x := 16) dX3_hasCourse_13 (by decide +kernel) ?_
      refine v_icmp_ge (tgt := 22) dX3_hasCourse_15 (by decide) (fun c15 => absurd c15 (fun h9 => c9 (nI_le_up (by have := wv_C hv; omega) (by decide) h9))) (fun c15 => ?_)
      refine v_iconst (x := 1) dX3_hasCourse_18 rfl ?_
      refine v_goto (tgt := 23) dX3_hasCourse_19 (by decide) ?_
      exact v_zret rfl (by decide) dX3_hasCourse_23 ⟨congrArg (fun z => some (Value.int z)) (bI_t (isN_in (by have := wv_C hv; omega) c1 c9)), rfl⟩
set_option maxRecDepth 100000 in
set_option maxHeartbeats 4000000 in
theorem s_X3_hasName {v : EE} {b : Nat} (hb : isW b) {w : WD} {z : Nat} {σ : SS} (hw : CH b w σ) (hv : WV z w) (k : Int32) : S1 v M_X3_hasName [.ref (v.1 b), .int k] σ (some (.int (bI (isN k (wN w))))) (σ) := by
  refine Sp.of rfl (by decide) rfl (Nat.le_of_ble_eq_true rfl) ?_
  show V v M_X3_hasName _ 0 [(0, .ref (v.1 b)), (1, .int k)] [] σ
  refine v_iload_n dX3_hasName_0 rfl ?_
  refine v_if_lt (tgt := 22) dX3_hasName_1 (by decide) (fun c1 => ?_) (fun c1 => ?_)
  · refine v_iconst (x := 0) dX3_hasName_22 rfl ?_
    exact v_zret rfl (by decide) dX3_hasName_23 ⟨congrArg (fun z => some (Value.int z)) (bI_f (isN_lt0 c1)), rfl⟩
  · refine v_iload_n dX3_hasName_4 rfl ?_
    refine v_aload_n dX3_hasName_5 rfl ?_
    refine v_get (j := 10) (iWO hb) rfl dX3_hasName_6 (by decide) in_X3_hasName_X3 fl_X3_hasName_46 rfl ?_
    refine v_top (ch_N hw) ?_
    refine v_icmp_ge (tgt := 22) dX3_hasName_9 (by decide) (fun c9 => ?_) (fun c9 => ?_)
    · refine v_iconst (x := 0) dX3_hasName_22 rfl ?_
      exact v_zret rfl (by decide) dX3_hasName_23 ⟨congrArg (fun z => some (Value.int z)) (bI_f (isN_ge (by have := wv_N hv; omega) c9)), rfl⟩
    · refine v_iload_n dX3_hasName_12 rfl ?_
      refine v_bipush (x := 10) dX3_hasName_13 (by decide +kernel) ?_
      refine v_icmp_ge (tgt := 22) dX3_hasName_15 (by decide) (fun c15 => absurd c15 (fun h9 => c9 (nI_le_up (by have := wv_N hv; omega) (by decide) h9))) (fun c15 => ?_)
      refine v_iconst (x := 1) dX3_hasName_18 rfl ?_
      refine v_goto (tgt := 23) dX3_hasName_19 (by decide) ?_
      exact v_zret rfl (by decide) dX3_hasName_23 ⟨congrArg (fun z => some (Value.int z)) (bI_t (isN_in (by have := wv_N hv; omega) c1 c9)), rfl⟩
def pbits (w : WD) : Nat := om (fun c => 2 ^ wQ w c) (wC w)
set_option maxRecDepth 100000 in
set_option maxHeartbeats 4000000 in
theorem s_X3_partBits {v : EE} {b : Nat} (hb : isW b) {w : WD} {z : Nat} {σ : SS} (hw : CH b w σ) (hv : WV z w) : S1 v M_X3_partBits [.ref (v.1 b)] σ (some (.int (nI (pbits w)))) (σ) := by
  refine Sp.of rfl (by decide) rfl (Nat.le_of_ble_eq_true rfl) ?_
  show V v M_X3_partBits _ 0 [(0, .ref (v.1 b))] [] σ
  refine v_iconst (x := 0) dX3_partBits_0 rfl ?_
  refine v_istore_n (L' := [(1, _), (0, _)]) dX3_partBits_1 rfl (by decide) rfl ?_
  refine v_iconst (x := 0) dX3_partBits_2 rfl ?_
  refine v_istore_n (L' := [(2, _), (1, _), (0, _)]) dX3_partBits_3 rfl (by decide) rfl ?_
  refine v_sub [2, 1, 0] rfl ?_
  refine loopN (fun i => V v M_X3_partBits (zR v M_X3_partBits (fun r' σ' => r' = (some (.int (nI (pbits w)))) ∧ σ' = (σ))) 4 [(0, .ref (v.1 b)), (1, .int (nI (om (fun c => 2 ^ wQ w c) i))), (2, .int (nI i))] [] (σ)) (wC w) ?_ ?_
  · intro i hi ih
    refine v_iload_n dX3_partBits_4 rfl ?_
    refine v_aload_n dX3_partBits_5 rfl ?_
    refine v_get (j := 9) (iWO hb) rfl dX3_partBits_6 (by decide) in_X3_partBits_X3 fl_X3_partBits_43 rfl ?_
    refine v_top (ch_C hw) ?_
    refine v_icmp_ge (tgt := 29) dX3_partBits_9 (by decide) (fun c9 => absurd c9 (nI_ge hi (by have := wv_C hv; omega))) (fun c9 => ?_)
    refine v_iload_n dX3_partBits_12 rfl ?_
    refine v_iconst (x := 1) dX3_partBits_13 rfl ?_
    refine v_aload_n dX3_partBits_14 rfl ?_
    refine v_get (j := 2) (iWO hb) rfl dX3_partBits_15 (by decide) in_X3_partBits_X3 fl_X3_partBits_18 rfl ?_
    refine v_iload_n dX3_partBits_18 rfl ?_
    refine v_ialdN i (iW3 hb) dX3_partBits_19 rfl (by have := wv_C hv; omega) (by decide) ?_
    refine v_top (ch_Q hw hi) ?_
    refine v_ishl dX3_partBits_20 ?_
    refine v_ior dX3_partBits_21 ?_
    refine v_top (by rw [nI_shl1 _ (by have := wv_Q hv hi; omega), fa_or]) ?_
    refine v_istore_n (L' := [(1, _), (0, _), (2, _)]) dX3_partBits_22 rfl (by decide) rfl ?_
    refine v_iinc (y := nI (i + 1)) (L' := [(2, .int (nI (i + 1))), (1, _), (0, _)]) dX3_partBits_23 rfl (nI_1 i) (by decide) rfl ?_
    refine v_goto (tgt := 4) dX3_partBits_26 (by decide) ?_
    refine v_sub [2, 1, 0] rfl ?_
    exact ih
  · refine v_iload_n dX3_partBits_4 rfl ?_
    refine v_aload_n dX3_partBits_5 rfl ?_
    refine v_get (j := 9) (iWO hb) rfl dX3_partBits_6 (by decide) in_X3_partBits_X3 fl_X3_partBits_43 rfl ?_
    refine v_top (ch_C hw) ?_
    refine v_icmp_ge (tgt := 29) dX3_partBits_9 (by decide) (fun c9 => ?_) (fun c9 => absurd (nI_le (Nat.le_refl _) (by have := wv_C hv; omega)) c9)
    refine v_iload_n dX3_partBits_29 rfl ?_
    exact v_iret rfl dX3_partBits_30 ⟨congrArg (fun z => some (Value.int z)) (rfl), rfl⟩
theorem pbits_lt {z : Nat} {w : WD} (hv : WV z w) : pbits w < 2 ^ 6 := om_lt (fun k hk => Nat.pow_lt_pow_right (by decide) (wv_Q hv hk))
def isP (w : WD) (p : Int32) : Bool := isN p 6 && (pbits w).testBit p.toNatClampNeg
set_option maxRecDepth 100000 in
set_option maxHeartbeats 4000000 in
theorem s_X3_hasPart {v : EE} {b : Nat} (hb : isW b) {w : WD} {z : Nat} {σ : SS} (hw : CH b w σ) (hv : WV z w) (p : Int32) : S1 v M_X3_hasPart [.ref (v.1 b), .int p] σ (some (.int (bI (isP w p)))) (σ) := by
  refine Sp.of rfl (by decide) rfl (Nat.le_of_ble_eq_true rfl) ?_
  show V v M_X3_hasPart _ 0 [(0, .ref (v.1 b)), (1, .int p)] [] σ
  refine v_iload_n dX3_hasPart_0 rfl ?_
  refine v_if_lt (tgt := 26) dX3_hasPart_1 (by decide) (fun c1 => ?_) (fun c1 => ?_)
  · refine v_iconst (x := 0) dX3_hasPart_26 rfl ?_
    exact v_zret rfl (by decide) dX3_hasPart_27 ⟨congrArg (fun z => some (Value.int z)) (bI_f (by rw [isP, isN_lt0 c1]; rfl)), rfl⟩
  · refine v_iload_n dX3_hasPart_4 rfl ?_
    refine v_bipush (x := 6) dX3_hasPart_5 (by decide +kernel) ?_
    refine v_icmp_ge (tgt := 26) dX3_hasPart_7 (by decide) (fun c7 => ?_) (fun c7 => ?_)
    · refine v_iconst (x := 0) dX3_hasPart_26 rfl ?_
      exact v_zret rfl (by decide) dX3_hasPart_27 ⟨congrArg (fun z => some (Value.int z)) (bI_f (by rw [isP, isN_ge (n := 6) (by decide) c7]; rfl)), rfl⟩
    · obtain ⟨j, hj, hj2, rfl⟩ := isN_nI (isN_in (n := 6) (by decide) c1 c7)
      refine v_aload_n dX3_hasPart_10 rfl ?_
      refine v_callVi (M' := M_X3_partBits) (As := []) (iWO hb) (s_X3_partBits hb hw hv) dX3_hasPart_11 gX3_hasPart_X3_partBits rfl rfl nn_X3_partBits ⟨rfl, rfl⟩ ⟨by decide, by decide⟩ rfl rfl (Nat.le_of_ble_eq_true rfl) ?_
      refine v_iload_n dX3_hasPart_14 rfl ?_
      refine v_ishr dX3_hasPart_15 ?_
      refine v_iconst (x := 1) dX3_hasPart_16 rfl ?_
      refine v_iand dX3_hasPart_17 ?_
      refine v_top (nI_tb (Nat.lt_of_lt_of_le (pbits_lt hv) (by decide)) (by omega)) ?_
      refine v_iconst (x := 1) dX3_hasPart_18 rfl ?_
      refine v_icmp_ne (tgt := 26) dX3_hasPart_19 (by decide) (fun c19 => ?_) (fun c19 => ?_)
      · refine v_iconst (x := 0) dX3_hasPart_26 rfl ?_
        exact v_zret rfl (by decide) dX3_hasPart_27 ⟨congrArg (fun z => some (Value.int z)) (bI_f (by rw [isP, isN_of hj (by decide), nI_clamp hj2]; cases h : (pbits w).testBit j with | false => rfl | true => exact absurd (by rw [h]; rfl) c19)), rfl⟩
      · refine v_iconst (x := 1) dX3_hasPart_22 rfl ?_
        refine v_goto (tgt := 27) dX3_hasPart_23 (by decide) ?_
        exact v_zret rfl (by decide) dX3_hasPart_27 ⟨congrArg (fun z => some (Value.int z)) (bI_t (by rw [isP, isN_of hj (by decide), nI_clamp hj2]; cases h : (pbits w).testBit j with | true => rfl | false => exact absurd c19 (by rw [h]; decide))), rfl⟩
def colOf (w : WD) (k : Int32) : Int32 := if k = 98 then 16 else if k = 99 then 17 else if isN k (wS w) then k else -4
set_option maxRecDepth 100000 in
set_option maxHeartbeats 4000000 in
theorem s_X3_columnOf {v : EE} {b : Nat} (hb : isW b) {w : WD} {z : Nat} {σ : SS} (hw : CH b w σ) (hv : WV z w) (k : Int32) : S1 v M_X3_columnOf [.ref (v.1 b), .int k] σ (some (.int (colOf w k))) (σ) := by
  refine Sp.of rfl (by decide) rfl (Nat.le_of_ble_eq_true rfl) ?_
  show V v M_X3_columnOf _ 0 [(0, .ref (v.1 b)), (1, .int k)] [] σ
  refine v_iload_n dX3_columnOf_0 rfl ?_
  refine v_bipush (x := 98) dX3_columnOf_1 (by decide +kernel) ?_
  refine v_icmp_ne (tgt := 9) dX3_columnOf_3 (by decide) (fun c3 => ?_) (fun c3 => ?_)
  · refine v_iload_n dX3_columnOf_9 rfl ?_
    refine v_bipush (x := 99) dX3_columnOf_10 (by decide +kernel) ?_
    refine v_icmp_ne (tgt := 18) dX3_columnOf_12 (by decide) (fun c12 => ?_) (fun c12 => ?_)
    · refine v_aload_n dX3_columnOf_18 rfl ?_
      refine v_iload_n dX3_columnOf_19 rfl ?_
      refine v_callVi (M' := M_X3_hasSign) (As := [_]) (iWO hb) (s_X3_hasSign hb hw hv _) dX3_columnOf_20 gX3_columnOf_X3_hasSign rfl rfl nn_X3_hasSign ⟨rfl, rfl⟩ ⟨by decide, by decide⟩ rfl rfl (Nat.le_of_ble_eq_true rfl) ?_
      refine v_if_eq (tgt := 30) dX3_columnOf_23 (by decide) (fun c23 => ?_) (fun c23 => ?_)
      · refine v_bipush (x := (-4)) dX3_columnOf_30 (by decide +kernel) ?_
        exact v_iret rfl dX3_columnOf_32 ⟨congrArg (fun z => some (Value.int z)) (by rw [colOf, if_neg c3, if_neg c12, if_neg (by rw [bI_0.mp c23]; decide)]), rfl⟩
      · refine v_iload_n dX3_columnOf_26 rfl ?_
        refine v_goto (tgt := 32) dX3_columnOf_27 (by decide) ?_
        exact v_iret rfl dX3_columnOf_32 ⟨congrArg (fun z => some (Value.int z)) (by rw [colOf, if_neg c3, if_neg c12, if_pos (bI_n0.mp c23)]), rfl⟩
    · refine v_bipush (x := 17) dX3_columnOf_15 (by decide +kernel) ?_
      exact v_iret rfl dX3_columnOf_17 ⟨congrArg (fun z => some (Value.int z)) (by rw [colOf, if_neg c3, if_pos c12]), rfl⟩
  · refine v_bipush (x := 16) dX3_columnOf_6 (by decide +kernel) ?_
    exact v_iret rfl dX3_columnOf_8 ⟨congrArg (fun z => some (Value.int z)) (by rw [colOf, if_pos c3]), rfl⟩
set_option maxRecDepth 100000 in
set_option maxHeartbeats 4000000 in
theorem s_X3_stonesAt {v : EE} {b : Nat} (hb : isW b) {w : WD} {z : Nat} {σ : SS} (hw : CH b w σ) (hv : WV z w) {c k : Nat} (hc : c < wC w) (hk : k < 18) : S1 v M_X3_stonesAt [.ref (v.1 b), .int (nI c), .int (nI k)] σ (some (.int (nI (wH w (c * 18 + k))))) (σ) := by
  refine Sp.of rfl (by decide) rfl (Nat.le_of_ble_eq_true rfl) ?_
  show V v M_X3_stonesAt _ 0 [(0, .ref (v.1 b)), (1, .int (nI c)), (2, .int (nI k))] [] σ
  refine v_aload_n dX3_stonesAt_0 rfl ?_
  refine v_iload_n dX3_stonesAt_1 rfl ?_
  refine v_callVi (M' := M_X3_hasCourse) (As := [_]) (iWO hb) (s_X3_hasCourse hb hw hv _) dX3_stonesAt_2 gX3_stonesAt_X3_hasCourse rfl rfl nn_X3_hasCourse ⟨rfl, rfl⟩ ⟨by decide, by decide⟩ rfl rfl (Nat.le_of_ble_eq_true rfl) ?_
  refine v_if_eq (tgt := 22) dX3_stonesAt_5 (by decide) (fun c5 => absurd c5 (by rw [isN_of hc (by have := wv_C hv; omega)]; decide)) (fun c5 => ?_)
  refine v_iload_n dX3_stonesAt_8 rfl ?_
  refine v_if_lt (tgt := 22) dX3_stonesAt_9 (by decide) (fun c9 => absurd c9 (nI_pos (by omega))) (fun c9 => ?_)
  refine v_iload_n dX3_stonesAt_12 rfl ?_
  refine v_bipush (x := 18) dX3_stonesAt_13 (by decide +kernel) ?_
  refine v_icmp_ge (tgt := 22) dX3_stonesAt_15 (by decide) (fun c15 => absurd c15 (nI_ge hk (by decide))) (fun c15 => ?_)
  refine v_iconst (x := 1) dX3_stonesAt_18 rfl ?_
  refine v_goto (tgt := 23) dX3_stonesAt_19 (by decide) ?_
  refine v_istore_n (L' := [(3, _), (0, _), (1, _), (2, _)]) dX3_stonesAt_23 rfl (by decide) rfl ?_
  refine v_iload_n dX3_stonesAt_24 rfl ?_
  refine v_if_eq (tgt := 42) dX3_stonesAt_25 (by decide) (fun c25 => absurd c25 (by decide)) (fun c25 => ?_)
  refine v_aload_n dX3_stonesAt_28 rfl ?_
  refine v_get (j := 5) (iWO hb) rfl dX3_stonesAt_29 (by decide) in_X3_stonesAt_X3 fl_X3_stonesAt_27 rfl ?_
  refine v_iload_n dX3_stonesAt_32 rfl ?_
  refine v_bipush (x := 18) dX3_stonesAt_33 (by decide +kernel) ?_
  refine v_imul dX3_stonesAt_35 ?_
  refine v_iload_n dX3_stonesAt_36 rfl ?_
  refine v_iadd dX3_stonesAt_37 ?_
  refine v_ialdN (c * 18 + k) (iW6 hb) dX3_stonesAt_38 (by rw [show (18 : Int32) = nI 18 from rfl, pk_mul, nI_add]) (by have := wv_C hv; omega) (by decide) ?_
  refine v_top (ch_H hw (by have := wv_C hv; omega)) ?_
  refine v_goto (tgt := 43) dX3_stonesAt_39 (by decide) ?_
  exact v_iret rfl dX3_stonesAt_43 ⟨rfl, rfl⟩
theorem nI_le0 {a : Nat} (ha : a < 2 ^ 31) : nI a ≤ 0 ↔ a = 0 := by
  rw [Int32.le_iff_toInt_le, nI_toInt ha, Int32.toInt_zero]
  omega
theorem nI_eqI {a b : Nat} (ha : a < 2 ^ 31) (hb : b < 2 ^ 31) : nI a = nI b ↔ a = b := nI_eq ha hb
theorem nI_max {a b : Nat} (ha : a < 2 ^ 31) (hb : b < 2 ^ 31) : (if nI a < nI b then nI b else nI a) = nI (max a b) := by
  by_cases h : a < b
  · rw [if_pos ((nI_ltI ha hb).mpr h), Nat.max_eq_right (Nat.le_of_lt h)]
  · rw [if_neg (fun q => h ((nI_ltI ha hb).mp q)), Nat.max_eq_left (Nat.not_lt.mp h)]
def smc (w : WD) (c : Nat) : Nat := sm (fun k => wH w (c * 18 + k)) 18
def smp (w : WD) (p k : Nat) : Nat := sm (fun c => if wQ w c = p then wH w (c * 18 + k) else 0) (wC w)
def sms (w : WD) (k : Nat) : Nat := sm (fun c => wH w (c * 18 + k)) (wC w)
def sma (w : WD) : Nat := sm (fun c => smc w c) (wC w)
def psh (w : WD) (k : Nat) : Nat := om (fun c => if 0 < wH w (c * 18 + k) then 2 ^ wQ w c else 0) (wC w)
def ssb (w : WD) (c : Nat) : Nat := om (fun k => if 0 < wH w (c * 18 + k) then 2 ^ k else 0) (wS w)
def sgi (w : WD) (p : Nat) : Nat := om (fun c => if wQ w c = p then ssb w c else 0) (wC w)
def stk (w : WD) (bits : Nat) : Nat := sm (fun k => bits / 2 ^ k % 2 * wT w k) (wS w)
def wks (w : WD) (c : Nat) : Nat := wB w c - wA w c + 1
def wbt (w : WD) (c : Nat) : Nat := 2 ^ (wB w c + 1) - 2 ^ wA w c
def upd' (a d : Nat) : Nat := (a + d - 1) / d
def allB (f : Nat → Bool) : Nat → Bool
  | 0 => true
  | n + 1 => allB f n && f n
def anyB (f : Nat → Bool) : Nat → Bool
  | 0 => false
  | n + 1 => anyB f n || f n
theorem allB_f {f : Nat → Bool} {i : Nat} : ∀ {n : Nat}, i < n → f i = false → allB f n = false
  | 0, h, _ => absurd h (Nat.not_lt_zero i)
  | n + 1, h, e => by
    rw [allB]
    by_cases q : i = n
    · subst q; rw [e, Bool.and_false]
    · rw [allB_f (by omega) e, Bool.false_and]
theorem anyB_t {f : Nat → Bool} {i : Nat} : ∀ {n : Nat}, i < n → f i = true → anyB f n = true
  | 0, h, _ => absurd h (Nat.not_lt_zero i)
  | n + 1, h, e => by
    rw [anyB]
    by_cases q : i = n
    · subst q; rw [e, Bool.or_true]
    · rw [anyB_t (by omega) e, Bool.true_or]
theorem allB_iff {f : Nat → Bool} : ∀ {n : Nat}, allB f n = true ↔ ∀ i, i < n → f i = true
  | 0 => by simp [allB]
  | n + 1 => by
    rw [allB, Bool.and_eq_true, allB_iff]
    constructor
    · rintro ⟨h1, h2⟩ i hi
      by_cases q : i = n
      · subst q; exact h2
      · exact h1 i (by omega)
    · intro h
      exact ⟨fun i hi => h i (by omega), h n (by omega)⟩
theorem anyB_iff {f : Nat → Bool} : ∀ {n : Nat}, anyB f n = true ↔ ∃ i, i < n ∧ f i = true
  | 0 => by simp [anyB]
  | n + 1 => by
    rw [anyB, Bool.or_eq_true, anyB_iff]
    constructor
    · rintro (⟨i, h1, h2⟩ | h)
      · exact ⟨i, by omega, h2⟩
      · exact ⟨n, by omega, h⟩
    · rintro ⟨i, h1, h2⟩
      by_cases q : i = n
      · subst q; exact Or.inr h2
      · exact Or.inl ⟨i, by omega, h2⟩
set_option maxRecDepth 100000 in
set_option maxHeartbeats 4000000 in
theorem s_X3_stonesOfCourse {v : EE} {b : Nat} (hb : isW b) {w : WD} {z : Nat} {σ : SS} (hw : CH b w σ) (hv : WV z w) {c : Nat} (hc : c < wC w) : S1 v M_X3_stonesOfCourse [.ref (v.1 b), .int (nI c)] σ (some (.int (nI (smc w c)))) (σ) := by
  refine Sp.of rfl (by decide) rfl (Nat.le_of_ble_eq_true rfl) ?_
  show V v M_X3_stonesOfCourse _ 0 [(0, .ref (v.1 b)), (1, .int (nI c))] [] σ
  refine v_iconst (x := 0) dX3_stonesOfCourse_0 rfl ?_
  refine v_istore_n (L' := [(2, _), (0, _), (1, _)]) dX3_stonesOfCourse_1 rfl (by decide) rfl ?_
  refine v_iconst (x := 0) dX3_stonesOfCourse_2 rfl ?_
  refine v_istore_n (L' := [(3, _), (2, _), (0, _), (1, _)]) dX3_stonesOfCourse_3 rfl (by decide) rfl ?_
  refine v_sub [2, 3, 1, 0] rfl ?_
  refine loopN (fun i => V v M_X3_stonesOfCourse (zR v M_X3_stonesOfCourse (fun r' σ' => r' = (some (.int (nI (smc w c)))) ∧ σ' = (σ))) 4 [(0, .ref (v.1 b)), (1, .int (nI c)), (2, .int (nI (sm (fun k => wH w (c * 18 + k)) i))), (3, .int (nI i))] [] (σ)) 18 ?_ ?_
  · intro i hi ih
    refine v_iload_n dX3_stonesOfCourse_4 rfl ?_
    refine v_bipush (x := 18) dX3_stonesOfCourse_5 (by decide +kernel) ?_
    refine v_icmp_ge (tgt := 25) dX3_stonesOfCourse_7 (by decide) (fun c7 => absurd c7 (nI_ge hi (by decide))) (fun c7 => ?_)
    refine v_iload_n dX3_stonesOfCourse_10 rfl ?_
    refine v_aload_n dX3_stonesOfCourse_11 rfl ?_
    refine v_iload_n dX3_stonesOfCourse_12 rfl ?_
    refine v_iload_n dX3_stonesOfCourse_13 rfl ?_
    refine v_callVi (M' := M_X3_stonesAt) (As := [_, _]) (iWO hb) (s_X3_stonesAt hb hw hv hc hi) dX3_stonesOfCourse_14 gX3_stonesOfCourse_X3_stonesAt rfl rfl nn_X3_stonesAt ⟨rfl, rfl⟩ ⟨by decide, by decide⟩ rfl rfl (Nat.le_of_ble_eq_true rfl) ?_
    refine v_iadd dX3_stonesOfCourse_17 ?_
    refine v_top (nI_add _ _) ?_
    refine v_istore_n (L' := [(2, _), (0, _), (1, _), (3, _)]) dX3_stonesOfCourse_18 rfl (by decide) rfl ?_
    refine v_iinc (y := nI (i + 1)) (L' := [(3, .int (nI (i + 1))), (2, _), (0, _), (1, _)]) dX3_stonesOfCourse_19 rfl (nI_1 i) (by decide) rfl ?_
    refine v_goto (tgt := 4) dX3_stonesOfCourse_22 (by decide) ?_
    refine v_sub [2, 3, 1, 0] rfl ?_
    exact ih
  · refine v_iload_n dX3_stonesOfCourse_4 rfl ?_
    refine v_bipush (x := 18) dX3_stonesOfCourse_5 (by decide +kernel) ?_
    refine v_icmp_ge (tgt := 25) dX3_stonesOfCourse_7 (by decide) (fun c7 => ?_) (fun c7 => absurd (nI_le (Nat.le_refl _) (by decide)) c7)
    refine v_iload_n dX3_stonesOfCourse_25 rfl ?_
    exact v_iret rfl dX3_stonesOfCourse_26 ⟨rfl, rfl⟩
set_option maxRecDepth 100000 in
set_option maxHeartbeats 4000000 in
theorem s_X3_stonesShowing {v : EE} {b : Nat} (hb : isW b) {w : WD} {z : Nat} {σ : SS} (hw : CH b w σ) (hv : WV z w) {k : Nat} (hk : k < 18) : S1 v M_X3_stonesShowing [.ref (v.1 b), .int (nI k)] σ (some (.int (nI (sms w k)))) (σ) := by
  refine Sp.of rfl (by decide) rfl (Nat.le_of_ble_eq_true rfl) ?_
  show V v M_X3_stonesShowing _ 0 [(0, .ref (v.1 b)), (1, .int (nI k))] [] σ
  refine v_iconst (x := 0) dX3_stonesShowing_0 rfl ?_
  refine v_istore_n (L' := [(2, _), (0, _), (1, _)]) dX3_stonesShowing_1 rfl (by decide) rfl ?_
  refine v_iconst (x := 0) dX3_stonesShowing_2 rfl ?_
  refine v_istore_n (L' := [(3, _), (2, _), (0, _), (1, _)]) dX3_stonesShowing_3 rfl (by decide) rfl ?_
  refine v_sub [2, 3, 1, 0] rfl ?_
  refine loopN (fun i => V v M_X3_stonesShowing (zR v M_X3_stonesShowing (fun r' σ' => r' = (some (.int (nI (sms w k)))) ∧ σ' = (σ))) 4 [(0, .ref (v.1 b)), (1, .int (nI k)), (2, .int (nI (sm (fun c => wH w (c * 18 + k)) i))), (3, .int (nI i))] [] (σ)) (wC w) ?_ ?_
  · intro i hi ih
    refine v_iload_n dX3_stonesShowing_4 rfl ?_
    refine v_aload_n dX3_stonesShowing_5 rfl ?_
    refine v_get (j := 9) (iWO hb) rfl dX3_stonesShowing_6 (by decide) in_X3_stonesShowing_X3 fl_X3_stonesShowing_43 rfl ?_
    refine v_top (ch_C hw) ?_
    refine v_icmp_ge (tgt := 27) dX3_stonesShowing_9 (by decide) (fun c9 => absurd c9 (nI_ge hi (by have := wv_C hv; omega))) (fun c9 => ?_)
    refine v_iload_n dX3_stonesShowing_12 rfl ?_
    refine v_aload_n dX3_stonesShowing_13 rfl ?_
    refine v_iload_n dX3_stonesShowing_14 rfl ?_
    refine v_iload_n dX3_stonesShowing_15 rfl ?_
    refine v_callVi (M' := M_X3_stonesAt) (As := [_, _]) (iWO hb) (s_X3_stonesAt hb hw hv hi hk) dX3_stonesShowing_16 gX3_stonesShowing_X3_stonesAt rfl rfl nn_X3_stonesAt ⟨rfl, rfl⟩ ⟨by decide, by decide⟩ rfl rfl (Nat.le_of_ble_eq_true rfl) ?_
    refine v_iadd dX3_stonesShowing_19 ?_
    refine v_top (nI_add _ _) ?_
    refine v_istore_n (L' := [(2, _), (0, _), (1, _), (3, _)]) dX3_stonesShowing_20 rfl (by decide) rfl ?_
    refine v_iinc (y := nI (i + 1)) (L' := [(3, .int (nI (i + 1))), (2, _), (0, _), (1, _)]) dX3_stonesShowing_21 rfl (nI_1 i) (by decide) rfl ?_
    refine v_goto (tgt := 4) dX3_stonesShowing_24 (by decide) ?_
    refine v_sub [2, 3, 1, 0] rfl ?_
    exact ih
  · refine v_iload_n dX3_stonesShowing_4 rfl ?_
    refine v_aload_n dX3_stonesShowing_5 rfl ?_
    refine v_get (j := 9) (iWO hb) rfl dX3_stonesShowing_6 (by decide) in_X3_stonesShowing_X3 fl_X3_stonesShowing_43 rfl ?_
    refine v_top (ch_C hw) ?_
    refine v_icmp_ge (tgt := 27) dX3_stonesShowing_9 (by decide) (fun c9 => ?_) (fun c9 => absurd (nI_le (Nat.le_refl _) (by have := wv_C hv; omega)) c9)
    refine v_iload_n dX3_stonesShowing_27 rfl ?_
    exact v_iret rfl dX3_stonesShowing_28 ⟨rfl, rfl⟩
set_option maxRecDepth 100000 in
set_option maxHeartbeats 4000000 in
theorem s_X3_allStones {v : EE} {b : Nat} (hb : isW b) {w : WD} {z : Nat} {σ : SS} (hw : CH b w σ) (hv : WV z w) : S1 v M_X3_allStones [.ref (v.1 b)] σ (some (.int (nI (sma w)))) (σ) := by
  refine Sp.of rfl (by decide) rfl (Nat.le_of_ble_eq_true rfl) ?_
  show V v M_X3_allStones _ 0 [(0, .ref (v.1 b))] [] σ
  refine v_iconst (x := 0) dX3_allStones_0 rfl ?_
  refine v_istore_n (L' := [(1, _), (0, _)]) dX3_allStones_1 rfl (by decide) rfl ?_
  refine v_iconst (x := 0) dX3_allStones_2 rfl ?_
  refine v_istore_n (L' := [(2, _), (1, _), (0, _)]) dX3_allStones_3 rfl (by decide) rfl ?_
  refine v_sub [2, 1, 0] rfl ?_
  refine loopN (fun i => V v M_X3_allStones (zR v M_X3_allStones (fun r' σ' => r' = (some (.int (nI (sma w)))) ∧ σ' = (σ))) 4 [(0, .ref (v.1 b)), (1, .int (nI (sm (fun c => smc w c) i))), (2, .int (nI i))] [] (σ)) (wC w) ?_ ?_
  · intro i hi ih
    refine v_iload_n dX3_allStones_4 rfl ?_
    refine v_aload_n dX3_allStones_5 rfl ?_
    refine v_get (j := 9) (iWO hb) rfl dX3_allStones_6 (by decide) in_X3_allStones_X3 fl_X3_allStones_43 rfl ?_
    refine v_top (ch_C hw) ?_
    refine v_icmp_ge (tgt := 26) dX3_allStones_9 (by decide) (fun c9 => absurd c9 (nI_ge hi (by have := wv_C hv; omega))) (fun c9 => ?_)
    refine v_iload_n dX3_allStones_12 rfl ?_
    refine v_aload_n dX3_allStones_13 rfl ?_
    refine v_iload_n dX3_allStones_14 rfl ?_
    refine v_callVi (M' := M_X3_stonesOfCourse) (As := [_]) (iWO hb) (s_X3_stonesOfCourse hb hw hv hi) dX3_allStones_15 gX3_allStones_X3_stonesOfCourse rfl rfl nn_X3_stonesOfCourse ⟨rfl, rfl⟩ ⟨by decide, by decide⟩ rfl rfl (Nat.le_of_ble_eq_true rfl) ?_
    refine v_iadd dX3_allStones_18 ?_
    refine v_top (nI_add _ _) ?_
    refine v_istore_n (L' := [(1, _), (0, _), (2, _)]) dX3_allStones_19 rfl (by decide) rfl ?_
    refine v_iinc (y := nI (i + 1)) (L' := [(2, .int (nI (i + 1))), (1, _), (0, _)]) dX3_allStones_20 rfl (nI_1 i) (by decide) rfl ?_
    refine v_goto (tgt := 4) dX3_allStones_23 (by decide) ?_
    refine v_sub [2, 1, 0] rfl ?_
    exact ih
  · refine v_iload_n dX3_allStones_4 rfl ?_
    refine v_aload_n dX3_allStones_5 rfl ?_
    refine v_get (j := 9) (iWO hb) rfl dX3_allStones_6 (by decide) in_X3_allStones_X3 fl_X3_allStones_43 rfl ?_
    refine v_top (ch_C hw) ?_
    refine v_icmp_ge (tgt := 26) dX3_allStones_9 (by decide) (fun c9 => ?_) (fun c9 => absurd (nI_le (Nat.le_refl _) (by have := wv_C hv; omega)) c9)
    refine v_iload_n dX3_allStones_26 rfl ?_
    exact v_iret rfl dX3_allStones_27 ⟨rfl, rfl⟩
set_option maxRecDepth 100000 in
set_option maxHeartbeats 4000000 in
theorem s_X3_stonesOfPart {v : EE} {b : Nat} (hb : isW b) {w : WD} {z : Nat} {σ : SS} (hw : CH b w σ) (hv : WV z w) {p k : Nat} (hp : p < 6) (hk : k < 18) : S1 v M_X3_stonesOfPart [.ref (v.1 b), .int (nI p), .int (nI k)] σ (some (.int (nI (smp w p k)))) (σ) := by
  refine Sp.of rfl (by decide) rfl (Nat.le_of_ble_eq_true rfl) ?_
  show V v M_X3_stonesOfPart _ 0 [(0, .ref (v.1 b)), (1, .int (nI p)), (2, .int (nI k))] [] σ
  refine v_iconst (x := 0) dX3_stonesOfPart_0 rfl ?_
  refine v_istore_n (L' := [(3, _), (0, _), (1, _), (2, _)]) dX3_stonesOfPart_1 rfl (by decide) rfl ?_
  refine v_iconst (x := 0) dX3_stonesOfPart_2 rfl ?_
  refine v_istore (L' := [(4, _), (3, _), (0, _), (1, _), (2, _)]) dX3_stonesOfPart_3 (by decide) rfl ?_
  refine v_sub [2, 3, 4, 1, 0] rfl ?_
  refine loopN (fun i => V v M_X3_stonesOfPart (zR v M_X3_stonesOfPart (fun r' σ' => r' = (some (.int (nI (smp w p k)))) ∧ σ' = (σ))) 5 [(0, .ref (v.1 b)), (1, .int (nI p)), (2, .int (nI k)), (3, .int (nI (sm (fun c => if wQ w c = p then wH w (c * 18 + k) else 0) i))), (4, .int (nI i))] [] (σ)) (wC w) ?_ ?_
  · intro i hi ih
    refine v_iload dX3_stonesOfPart_5 rfl ?_
    refine v_aload_n dX3_stonesOfPart_7 rfl ?_
    refine v_get (j := 9) (iWO hb) rfl dX3_stonesOfPart_8 (by decide) in_X3_stonesOfPart_X3 fl_X3_stonesOfPart_43 rfl ?_
    refine v_top (ch_C hw) ?_
    refine v_icmp_ge (tgt := 41) dX3_stonesOfPart_11 (by decide) (fun c11 => absurd c11 (nI_ge hi (by have := wv_C hv; omega))) (fun c11 => ?_)
    refine v_aload_n dX3_stonesOfPart_14 rfl ?_
    refine v_get (j := 2) (iWO hb) rfl dX3_stonesOfPart_15 (by decide) in_X3_stonesOfPart_X3 fl_X3_stonesOfPart_18 rfl ?_
    refine v_iload dX3_stonesOfPart_18 rfl ?_
    refine v_ialdN i (iW3 hb) dX3_stonesOfPart_20 rfl (by have := wv_C hv; omega) (by decide) ?_
    refine v_top (ch_Q hw hi) ?_
    refine v_iload_n dX3_stonesOfPart_21 rfl ?_
    refine v_icmp_ne (tgt := 35) dX3_stonesOfPart_22 (by decide) (fun c22 => ?_) (fun c22 => ?_)
    · have e : sm (fun c => if wQ w c = p then wH w (c * 18 + k) else 0) (i + 1) = sm (fun c => if wQ w c = p then wH w (c * 18 + k) else 0) i := by rw [sm, if_neg (fun q => c22 (by rw [q]))]; rfl
      rw [e] at ih
      refine v_iinc (y := nI (i + 1)) (L' := [(4, .int (nI (i + 1))), (0, _), (1, _), (2, _), (3, _)]) dX3_stonesOfPart_35 rfl (nI_1 i) (by decide) rfl ?_
      refine v_goto (tgt := 5) dX3_stonesOfPart_38 (by decide) ?_
      refine v_sub [1, 2, 3, 4, 0] rfl ?_
      exact ih
    · refine v_iload_n dX3_stonesOfPart_25 rfl ?_
      refine v_aload_n dX3_stonesOfPart_26 rfl ?_
      refine v_iload dX3_stonesOfPart_27 rfl ?_
      refine v_iload_n dX3_stonesOfPart_29 rfl ?_
      refine v_callVi (M' := M_X3_stonesAt) (As := [_, _]) (iWO hb) (s_X3_stonesAt hb hw hv hi hk) dX3_stonesOfPart_30 gX3_stonesOfPart_X3_stonesAt rfl rfl nn_X3_stonesAt ⟨rfl, rfl⟩ ⟨by decide, by decide⟩ rfl rfl (Nat.le_of_ble_eq_true rfl) ?_
      refine v_iadd dX3_stonesOfPart_33 ?_
      refine v_top (nI_add _ _) ?_
      refine v_istore_n (L' := [(3, _), (0, _), (1, _), (2, _), (4, _)]) dX3_stonesOfPart_34 rfl (by decide) rfl ?_
      have e : sm (fun c => if wQ w c = p then wH w (c * 18 + k) else 0) (i + 1) = sm (fun c => if wQ w c = p then wH w (c * 18 + k) else 0) i + wH w (i * 18 + k) := by rw [sm, if_pos ((nI_eq (by have := wv_Q hv hi; omega) (by omega)).mp c22)]
      rw [e] at ih
      refine v_iinc (y := nI (i + 1)) (L' := [(4, .int (nI (i + 1))), (3, _), (0, _), (1, _), (2, _)]) dX3_stonesOfPart_35 rfl (nI_1 i) (by decide) rfl ?_
      refine v_goto (tgt := 5) dX3_stonesOfPart_38 (by decide) ?_
      refine v_sub [2, 3, 4, 1, 0] rfl ?_
      exact ih
  · refine v_iload dX3_stonesOfPart_5 rfl ?_
    refine v_aload_n dX3_stonesOfPart_7 rfl ?_
    refine v_get (j := 9) (iWO hb) rfl dX3_stonesOfPart_8 (by decide) in_X3_stonesOfPart_X3 fl_X3_stonesOfPart_43 rfl ?_
    refine v_top (ch_C hw) ?_
    refine v_icmp_ge (tgt := 41) dX3_stonesOfPart_11 (by decide) (fun c11 => ?_) (fun c11 => absurd (nI_le (Nat.le_refl _) (by have := wv_C hv; omega)) c11)
    refine v_iload_n dX3_stonesOfPart_41 rfl ?_
    exact v_iret rfl dX3_stonesOfPart_42 ⟨rfl, rfl⟩
set_option maxRecDepth 100000 in
set_option maxHeartbeats 4000000 in
theorem s_X3_partsShowing {v : EE} {b : Nat} (hb : isW b) {w : WD} {z : Nat} {σ : SS} (hw : CH b w σ) (hv : WV z w) (hz : z ≤ 1000000) {k : Nat} (hk : k < 18) : S1 v M_X3_partsShowing [.ref (v.1 b), .int (nI k)] σ (some (.int (nI (psh w k)))) (σ) := by
  refine Sp.of rfl (by decide) rfl (Nat.le_of_ble_eq_true rfl) ?_
  show V v M_X3_partsShowing _ 0 [(0, .ref (v.1 b)), (1, .int (nI k))] [] σ
  refine v_iconst (x := 0) dX3_partsShowing_0 rfl ?_
  refine v_istore_n (L' := [(2, _), (0, _), (1, _)]) dX3_partsShowing_1 rfl (by decide) rfl ?_
  refine v_iconst (x := 0) dX3_partsShowing_2 rfl ?_
  refine v_istore_n (L' := [(3, _), (2, _), (0, _), (1, _)]) dX3_partsShowing_3 rfl (by decide) rfl ?_
  refine v_sub [2, 3, 1, 0] rfl ?_
  refine loopN (fun i => V v M_X3_partsShowing (zR v M_X3_partsShowing (fun r' σ' => r' = (some (.int (nI (psh w k)))) ∧ σ' = (σ))) 4 [(0, .ref (v.1 b)), (1, .int (nI k)), (2, .int (nI (om (fun c => if 0 < wH w (c * 18 + k) then 2 ^ wQ w c else 0) i))), (3, .int (nI i))] [] (σ)) (wC w) ?_ ?_
  · intro i hi ih
    refine v_iload_n dX3_partsShowing_4 rfl ?_
    refine v_aload_n dX3_partsShowing_5 rfl ?_
    refine v_get (j := 9) (iWO hb) rfl dX3_partsShowing_6 (by decide) in_X3_partsShowing_X3 fl_X3_partsShowing_43 rfl ?_
    refine v_top (ch_C hw) ?_
    refine v_icmp_ge (tgt := 38) dX3_partsShowing_9 (by decide) (fun c9 => absurd c9 (nI_ge hi (by have := wv_C hv; omega))) (fun c9 => ?_)
    refine v_aload_n dX3_partsShowing_12 rfl ?_
    refine v_iload_n dX3_partsShowing_13 rfl ?_
    refine v_iload_n dX3_partsShowing_14 rfl ?_
    refine v_callVi (M' := M_X3_stonesAt) (As := [_, _]) (iWO hb) (s_X3_stonesAt hb hw hv hi hk) dX3_partsShowing_15 gX3_partsShowing_X3_stonesAt rfl rfl nn_X3_stonesAt ⟨rfl, rfl⟩ ⟨by decide, by decide⟩ rfl rfl (Nat.le_of_ble_eq_true rfl) ?_
    refine v_if_le (tgt := 32) dX3_partsShowing_18 (by decide) (fun c18 => ?_) (fun c18 => ?_)
    · have e : om (fun c => if 0 < wH w (c * 18 + k) then 2 ^ wQ w c else 0) (i + 1) = om (fun c => if 0 < wH w (c * 18 + k) then 2 ^ wQ w c else 0) i := by rw [om, if_neg (by rw [nI_le0 (by have := wv_H hv (j := i * 18 + k) (by have := wv_C hv; omega); omega)] at c18; omega), Nat.or_zero]
      rw [e] at ih
      refine v_iinc (y := nI (i + 1)) (L' := [(3, .int (nI (i + 1))), (0, _), (1, _), (2, _)]) dX3_partsShowing_32 rfl (nI_1 i) (by decide) rfl ?_
      refine v_goto (tgt := 4) dX3_partsShowing_35 (by decide) ?_
      refine v_sub [1, 2, 3, 0] rfl ?_
      exact ih
    · refine v_iload_n dX3_partsShowing_21 rfl ?_
      refine v_iconst (x := 1) dX3_partsShowing_22 rfl ?_
      refine v_aload_n dX3_partsShowing_23 rfl ?_
      refine v_get (j := 2) (iWO hb) rfl dX3_partsShowing_24 (by decide) in_X3_partsShowing_X3 fl_X3_partsShowing_18 rfl ?_
      refine v_iload_n dX3_partsShowing_27 rfl ?_
      refine v_ialdN i (iW3 hb) dX3_partsShowing_28 rfl (by have := wv_C hv; omega) (by decide) ?_
      refine v_top (ch_Q hw hi) ?_
      refine v_ishl dX3_partsShowing_29 ?_
      refine v_ior dX3_partsShowing_30 ?_
      refine v_top (by rw [nI_shl1 _ (by have := wv_Q hv hi; omega), fa_or]) ?_
      refine v_istore_n (L' := [(2, _), (0, _), (1, _), (3, _)]) dX3_partsShowing_31 rfl (by decide) rfl ?_
      have e : om (fun c => if 0 < wH w (c * 18 + k) then 2 ^ wQ w c else 0) (i + 1) = om (fun c => if 0 < wH w (c * 18 + k) then 2 ^ wQ w c else 0) i ||| 2 ^ wQ w i := by rw [om, if_pos (by rw [nI_le0 (by have := wv_H hv (j := i * 18 + k) (by have := wv_C hv; omega); omega)] at c18; omega)]
      rw [e] at ih
      refine v_iinc (y := nI (i + 1)) (L' := [(3, .int (nI (i + 1))), (2, _), (0, _), (1, _)]) dX3_partsShowing_32 rfl (nI_1 i) (by decide) rfl ?_
      refine v_goto (tgt := 4) dX3_partsShowing_35 (by decide) ?_
      refine v_sub [2, 3, 1, 0] rfl ?_
      exact ih
  · refine v_iload_n dX3_partsShowing_4 rfl ?_
    refine v_aload_n dX3_partsShowing_5 rfl ?_
    refine v_get (j := 9) (iWO hb) rfl dX3_partsShowing_6 (by decide) in_X3_partsShowing_X3 fl_X3_partsShowing_43 rfl ?_
    refine v_top (ch_C hw) ?_
    refine v_icmp_ge (tgt := 38) dX3_partsShowing_9 (by decide) (fun c9 => ?_) (fun c9 => absurd (nI_le (Nat.le_refl _) (by have := wv_C hv; omega)) c9)
    refine v_iload_n dX3_partsShowing_38 rfl ?_
    exact v_iret rfl dX3_partsShowing_39 ⟨rfl, rfl⟩
set_option maxRecDepth 100000 in
set_option maxHeartbeats 4000000 in
theorem s_X3_signsShownBy {v : EE} {b : Nat} (hb : isW b) {w : WD} {z : Nat} {σ : SS} (hw : CH b w σ) (hv : WV z w) (hz : z ≤ 1000000) {c : Nat} (hc : c < wC w) : S1 v M_X3_signsShownBy [.ref (v.1 b), .int (nI c)] σ (some (.int (nI (ssb w c)))) (σ) := by
  refine Sp.of rfl (by decide) rfl (Nat.le_of_ble_eq_true rfl) ?_
  show V v M_X3_signsShownBy _ 0 [(0, .ref (v.1 b)), (1, .int (nI c))] [] σ
  refine v_iconst (x := 0) dX3_signsShownBy_0 rfl ?_
  refine v_istore_n (L' := [(2, _), (0, _), (1, _)]) dX3_signsShownBy_1 rfl (by decide) rfl ?_
  refine v_iconst (x := 0) dX3_signsShownBy_2 rfl ?_
  refine v_istore_n (L' := [(3, _), (2, _), (0, _), (1, _)]) dX3_signsShownBy_3 rfl (by decide) rfl ?_
  refine v_sub [2, 3, 1, 0] rfl ?_
  refine loopN (fun i => V v M_X3_signsShownBy (zR v M_X3_signsShownBy (fun r' σ' => r' = (some (.int (nI (ssb w c)))) ∧ σ' = (σ))) 4 [(0, .ref (v.1 b)), (1, .int (nI c)), (2, .int (nI (om (fun k => if 0 < wH w (c * 18 + k) then 2 ^ k else 0) i))), (3, .int (nI i))] [] (σ)) (wS w) ?_ ?_
  · intro i hi ih
    refine v_iload_n dX3_signsShownBy_4 rfl ?_
    refine v_aload_n dX3_signsShownBy_5 rfl ?_
    refine v_get (j := 8) (iWO hb) rfl dX3_signsShownBy_6 (by decide) in_X3_signsShownBy_X3 fl_X3_signsShownBy_40 rfl ?_
    refine v_top (ch_S hw) ?_
    refine v_icmp_ge (tgt := 33) dX3_signsShownBy_9 (by decide) (fun c9 => absurd c9 (nI_ge hi (by have := wv_S hv; omega))) (fun c9 => ?_)
    refine v_aload_n dX3_signsShownBy_12 rfl ?_
    refine v_iload_n dX3_signsShownBy_13 rfl ?_
    refine v_iload_n dX3_signsShownBy_14 rfl ?_
    refine v_callVi (M' := M_X3_stonesAt) (As := [_, _]) (iWO hb) (s_X3_stonesAt hb hw hv hc (by have := wv_S hv; omega)) dX3_signsShownBy_15 gX3_signsShownBy_X3_stonesAt rfl rfl nn_X3_stonesAt ⟨rfl, rfl⟩ ⟨by decide, by decide⟩ rfl rfl (Nat.le_of_ble_eq_true rfl) ?_
    refine v_if_le (tgt := 27) dX3_signsShownBy_18 (by decide) (fun c18 => ?_) (fun c18 => ?_)
    · have e : om (fun k => if 0 < wH w (c * 18 + k) then 2 ^ k else 0) (i + 1) = om (fun k => if 0 < wH w (c * 18 + k) then 2 ^ k else 0) i := by rw [om, if_neg (by rw [nI_le0 (by have := wv_H hv (j := c * 18 + i) (by have := wv_C hv; have := wv_S hv; omega); omega)] at c18; omega), Nat.or_zero]
      rw [e] at ih
      refine v_iinc (y := nI (i + 1)) (L' := [(3, .int (nI (i + 1))), (0, _), (1, _), (2, _)]) dX3_signsShownBy_27 rfl (nI_1 i) (by decide) rfl ?_
      refine v_goto (tgt := 4) dX3_signsShownBy_30 (by decide) ?_
      refine v_sub [1, 2, 3, 0] rfl ?_
      exact ih
    · refine v_iload_n dX3_signsShownBy_21 rfl ?_
      refine v_iconst (x := 1) dX3_signsShownBy_22 rfl ?_
      refine v_iload_n dX3_signsShownBy_23 rfl ?_
      refine v_ishl dX3_signsShownBy_24 ?_
      refine v_ior dX3_signsShownBy_25 ?_
      refine v_top (by rw [nI_shl1 _ (by have := wv_S hv; omega), fa_or]) ?_
      refine v_istore_n (L' := [(2, _), (0, _), (1, _), (3, _)]) dX3_signsShownBy_26 rfl (by decide) rfl ?_
      have e : om (fun k => if 0 < wH w (c * 18 + k) then 2 ^ k else 0) (i + 1) = om (fun k => if 0 < wH w (c * 18 + k) then 2 ^ k else 0) i ||| 2 ^ i := by rw [om, if_pos (by rw [nI_le0 (by have := wv_H hv (j := c * 18 + i) (by have := wv_C hv; have := wv_S hv; omega); omega)] at c18; omega)]
      rw [e] at ih
      refine v_iinc (y := nI (i + 1)) (L' := [(3, .int (nI (i + 1))), (2, _), (0, _), (1, _)]) dX3_signsShownBy_27 rfl (nI_1 i) (by decide) rfl ?_
      refine v_goto (tgt := 4) dX3_signsShownBy_30 (by decide) ?_
      refine v_sub [2, 3, 1, 0] rfl ?_
      exact ih
  · refine v_iload_n dX3_signsShownBy_4 rfl ?_
    refine v_aload_n dX3_signsShownBy_5 rfl ?_
    refine v_get (j := 8) (iWO hb) rfl dX3_signsShownBy_6 (by decide) in_X3_signsShownBy_X3 fl_X3_signsShownBy_40 rfl ?_
    refine v_top (ch_S hw) ?_
    refine v_icmp_ge (tgt := 33) dX3_signsShownBy_9 (by decide) (fun c9 => ?_) (fun c9 => absurd (nI_le (Nat.le_refl _) (by have := wv_S hv; omega)) c9)
    refine v_iload_n dX3_signsShownBy_33 rfl ?_
    exact v_iret rfl dX3_signsShownBy_34 ⟨rfl, rfl⟩
set_option maxRecDepth 100000 in
set_option maxHeartbeats 4000000 in
theorem s_X3_signsIn {v : EE} {b : Nat} (hb : isW b) {w : WD} {z : Nat} {σ : SS} (hw : CH b w σ) (hv : WV z w) (hz : z ≤ 1000000) {p : Nat} (hp : p < 6) : S1 v M_X3_signsIn [.ref (v.1 b), .int (nI p)] σ (some (.int (nI (sgi w p)))) (σ) := by
  refine Sp.of rfl (by decide) rfl (Nat.le_of_ble_eq_true rfl) ?_
  show V v M_X3_signsIn _ 0 [(0, .ref (v.1 b)), (1, .int (nI p))] [] σ
  refine v_iconst (x := 0) dX3_signsIn_0 rfl ?_
  refine v_istore_n (L' := [(2, _), (0, _), (1, _)]) dX3_signsIn_1 rfl (by decide) rfl ?_
  refine v_iconst (x := 0) dX3_signsIn_2 rfl ?_
  refine v_istore_n (L' := [(3, _), (2, _), (0, _), (1, _)]) dX3_signsIn_3 rfl (by decide) rfl ?_
  refine v_sub [2, 3, 1, 0] rfl ?_
  refine loopN (fun i => V v M_X3_signsIn (zR v M_X3_signsIn (fun r' σ' => r' = (some (.int (nI (sgi w p)))) ∧ σ' = (σ))) 4 [(0, .ref (v.1 b)), (1, .int (nI p)), (2, .int (nI (om (fun c => if wQ w c = p then ssb w c else 0) i))), (3, .int (nI i))] [] (σ)) (wC w) ?_ ?_
  · intro i hi ih
    refine v_iload_n dX3_signsIn_4 rfl ?_
    refine v_aload_n dX3_signsIn_5 rfl ?_
    refine v_get (j := 9) (iWO hb) rfl dX3_signsIn_6 (by decide) in_X3_signsIn_X3 fl_X3_signsIn_43 rfl ?_
    refine v_top (ch_C hw) ?_
    refine v_icmp_ge (tgt := 36) dX3_signsIn_9 (by decide) (fun c9 => absurd c9 (nI_ge hi (by have := wv_C hv; omega))) (fun c9 => ?_)
    refine v_aload_n dX3_signsIn_12 rfl ?_
    refine v_get (j := 2) (iWO hb) rfl dX3_signsIn_13 (by decide) in_X3_signsIn_X3 fl_X3_signsIn_18 rfl ?_
    refine v_iload_n dX3_signsIn_16 rfl ?_
    refine v_ialdN i (iW3 hb) dX3_signsIn_17 rfl (by have := wv_C hv; omega) (by decide) ?_
    refine v_top (ch_Q hw hi) ?_
    refine v_iload_n dX3_signsIn_18 rfl ?_
    refine v_icmp_ne (tgt := 30) dX3_signsIn_19 (by decide) (fun c19 => ?_) (fun c19 => ?_)
    · have e : om (fun c => if wQ w c = p then ssb w c else 0) (i + 1) = om (fun c => if wQ w c = p then ssb w c else 0) i := by rw [om, if_neg (by exact fun q => c19 (by rw [q])), Nat.or_zero]
      rw [e] at ih
      refine v_iinc (y := nI (i + 1)) (L' := [(3, .int (nI (i + 1))), (0, _), (1, _), (2, _)]) dX3_signsIn_30 rfl (nI_1 i) (by decide) rfl ?_
      refine v_goto (tgt := 4) dX3_signsIn_33 (by decide) ?_
      refine v_sub [1, 2, 3, 0] rfl ?_
      exact ih
    · refine v_iload_n dX3_signsIn_22 rfl ?_
      refine v_aload_n dX3_signsIn_23 rfl ?_
      refine v_iload_n dX3_signsIn_24 rfl ?_
      refine v_callVi (M' := M_X3_signsShownBy) (As := [_]) (iWO hb) (s_X3_signsShownBy hb hw hv hz hi) dX3_signsIn_25 gX3_signsIn_X3_signsShownBy rfl rfl nn_X3_signsShownBy ⟨rfl, rfl⟩ ⟨by decide, by decide⟩ rfl rfl (Nat.le_of_ble_eq_true rfl) ?_
      refine v_ior dX3_signsIn_28 ?_
      refine v_top (by rw [fa_or]) ?_
      refine v_istore_n (L' := [(2, _), (0, _), (1, _), (3, _)]) dX3_signsIn_29 rfl (by decide) rfl ?_
      have e : om (fun c => if wQ w c = p then ssb w c else 0) (i + 1) = om (fun c => if wQ w c = p then ssb w c else 0) i ||| ssb w i := by rw [om, if_pos (by exact (nI_eq (by have := wv_Q hv hi; omega) (by omega)).mp c19)]
      rw [e] at ih
      refine v_iinc (y := nI (i + 1)) (L' := [(3, .int (nI (i + 1))), (2, _), (0, _), (1, _)]) dX3_signsIn_30 rfl (nI_1 i) (by decide) rfl ?_
      refine v_goto (tgt := 4) dX3_signsIn_33 (by decide) ?_
      refine v_sub [2, 3, 1, 0] rfl ?_
      exact ih
  · refine v_iload_n dX3_signsIn_4 rfl ?_
    refine v_aload_n dX3_signsIn_5 rfl ?_
    refine v_get (j := 9) (iWO hb) rfl dX3_signsIn_6 (by decide) in_X3_signsIn_X3 fl_X3_signsIn_43 rfl ?_
    refine v_top (ch_C hw) ?_
    refine v_icmp_ge (tgt := 36) dX3_signsIn_9 (by decide) (fun c9 => ?_) (fun c9 => absurd (nI_le (Nat.le_refl _) (by have := wv_C hv; omega)) c9)
    refine v_iload_n dX3_signsIn_36 rfl ?_
    exact v_iret rfl dX3_signsIn_37 ⟨rfl, rfl⟩
set_option maxRecDepth 100000 in
set_option maxHeartbeats 4000000 in
theorem s_X3_strokesOf {v : EE} {b : Nat} (hb : isW b) {w : WD} {z : Nat} {σ : SS} (hw : CH b w σ) (hv : WV z w) {bits : Nat} (hbt : bits < 2 ^ 31) : S1 v M_X3_strokesOf [.ref (v.1 b), .int (nI bits)] σ (some (.int (nI (stk w bits)))) (σ) := by
  refine Sp.of rfl (by decide) rfl (Nat.le_of_ble_eq_true rfl) ?_
  show V v M_X3_strokesOf _ 0 [(0, .ref (v.1 b)), (1, .int (nI bits))] [] σ
  refine v_iconst (x := 0) dX3_strokesOf_0 rfl ?_
  refine v_istore_n (L' := [(2, _), (0, _), (1, _)]) dX3_strokesOf_1 rfl (by decide) rfl ?_
  refine v_iconst (x := 0) dX3_strokesOf_2 rfl ?_
  refine v_istore_n (L' := [(3, _), (2, _), (0, _), (1, _)]) dX3_strokesOf_3 rfl (by decide) rfl ?_
  refine v_sub [2, 3, 1, 0] rfl ?_
  refine loopN (fun i => V v M_X3_strokesOf (zR v M_X3_strokesOf (fun r' σ' => r' = (some (.int (nI (stk w bits)))) ∧ σ' = (σ))) 4 [(0, .ref (v.1 b)), (1, .int (nI bits)), (2, .int (nI (sm (fun k => bits / 2 ^ k % 2 * wT w k) i))), (3, .int (nI i))] [] (σ)) (wS w) ?_ ?_
  · intro i hi ih
    refine v_iload_n dX3_strokesOf_4 rfl ?_
    refine v_aload_n dX3_strokesOf_5 rfl ?_
    refine v_get (j := 8) (iWO hb) rfl dX3_strokesOf_6 (by decide) in_X3_strokesOf_X3 fl_X3_strokesOf_40 rfl ?_
    refine v_top (ch_S hw) ?_
    refine v_icmp_ge (tgt := 33) dX3_strokesOf_9 (by decide) (fun c9 => absurd c9 (nI_ge hi (by have := wv_S hv; omega))) (fun c9 => ?_)
    refine v_iload_n dX3_strokesOf_12 rfl ?_
    refine v_iload_n dX3_strokesOf_13 rfl ?_
    refine v_iload_n dX3_strokesOf_14 rfl ?_
    refine v_ishr dX3_strokesOf_15 ?_
    refine v_iconst (x := 1) dX3_strokesOf_16 rfl ?_
    refine v_iand dX3_strokesOf_17 ?_
    refine v_top (nI_bit hbt (by have := wv_S hv; omega)) ?_
    refine v_aload_n dX3_strokesOf_18 rfl ?_
    refine v_get (j := 0) (iWO hb) rfl dX3_strokesOf_19 (by decide) in_X3_strokesOf_X3 fl_X3_strokesOf_9 rfl ?_
    refine v_iload_n dX3_strokesOf_22 rfl ?_
    refine v_ialdN i (iW1 hb) dX3_strokesOf_23 rfl (by have := wv_S hv; omega) (by decide) ?_
    refine v_top (ch_T hw hi) ?_
    refine v_imul dX3_strokesOf_24 ?_
    refine v_top (pk_mul _ _) ?_
    refine v_iadd dX3_strokesOf_25 ?_
    refine v_top (nI_add _ _) ?_
    refine v_istore_n (L' := [(2, _), (0, _), (1, _), (3, _)]) dX3_strokesOf_26 rfl (by decide) rfl ?_
    refine v_iinc (y := nI (i + 1)) (L' := [(3, .int (nI (i + 1))), (2, _), (0, _), (1, _)]) dX3_strokesOf_27 rfl (nI_1 i) (by decide) rfl ?_
    refine v_goto (tgt := 4) dX3_strokesOf_30 (by decide) ?_
    refine v_sub [2, 3, 1, 0] rfl ?_
    exact ih
  · refine v_iload_n dX3_strokesOf_4 rfl ?_
    refine v_aload_n dX3_strokesOf_5 rfl ?_
    refine v_get (j := 8) (iWO hb) rfl dX3_strokesOf_6 (by decide) in_X3_strokesOf_X3 fl_X3_strokesOf_40 rfl ?_
    refine v_top (ch_S hw) ?_
    refine v_icmp_ge (tgt := 33) dX3_strokesOf_9 (by decide) (fun c9 => ?_) (fun c9 => absurd (nI_le (Nat.le_refl _) (by have := wv_S hv; omega)) c9)
    refine v_iload_n dX3_strokesOf_33 rfl ?_
    exact v_iret rfl dX3_strokesOf_34 ⟨rfl, rfl⟩
set_option maxRecDepth 100000 in
set_option maxHeartbeats 4000000 in
theorem s_X3_weeksOfCourse {v : EE} {b : Nat} (hb : isW b) {w : WD} {z : Nat} {σ : SS} (hw : CH b w σ) (hv : WV z w) {c : Nat} (hc : c < wC w) : S1 v M_X3_weeksOfCourse [.ref (v.1 b), .int (nI c)] σ (some (.int (nI (wks w c)))) (σ) := by
  refine Sp.of rfl (by decide) rfl (Nat.le_of_ble_eq_true rfl) ?_
  show V v M_X3_weeksOfCourse _ 0 [(0, .ref (v.1 b)), (1, .int (nI c))] [] σ
  refine v_aload_n dX3_weeksOfCourse_0 rfl ?_
  refine v_iload_n dX3_weeksOfCourse_1 rfl ?_
  refine v_callVi (M' := M_X3_hasCourse) (As := [_]) (iWO hb) (s_X3_hasCourse hb hw hv _) dX3_weeksOfCourse_2 gX3_weeksOfCourse_X3_hasCourse rfl rfl nn_X3_hasCourse ⟨rfl, rfl⟩ ⟨by decide, by decide⟩ rfl rfl (Nat.le_of_ble_eq_true rfl) ?_
  refine v_if_eq (tgt := 26) dX3_weeksOfCourse_5 (by decide) (fun c5 => absurd c5 (by rw [isN_of hc (by have := wv_C hv; omega)]; decide)) (fun c5 => ?_)
  refine v_aload_n dX3_weeksOfCourse_8 rfl ?_
  refine v_get (j := 4) (iWO hb) rfl dX3_weeksOfCourse_9 (by decide) in_X3_weeksOfCourse_X3 fl_X3_weeksOfCourse_24 rfl ?_
  refine v_iload_n dX3_weeksOfCourse_12 rfl ?_
  refine v_ialdN c (iW5 hb) dX3_weeksOfCourse_13 rfl (by have := wv_C hv; omega) (by decide) ?_
  refine v_top (ch_B hw hc) ?_
  refine v_aload_n dX3_weeksOfCourse_14 rfl ?_
  refine v_get (j := 3) (iWO hb) rfl dX3_weeksOfCourse_15 (by decide) in_X3_weeksOfCourse_X3 fl_X3_weeksOfCourse_21 rfl ?_
  refine v_iload_n dX3_weeksOfCourse_18 rfl ?_
  refine v_ialdN c (iW4 hb) dX3_weeksOfCourse_19 rfl (by have := wv_C hv; omega) (by decide) ?_
  refine v_top (ch_A hw hc) ?_
  refine v_isub dX3_weeksOfCourse_20 ?_
  refine v_top (pk_sub (wv_A hv hc).1) ?_
  refine v_iconst (x := 1) dX3_weeksOfCourse_21 rfl ?_
  refine v_iadd dX3_weeksOfCourse_22 ?_
  refine v_top (nI_1 _) ?_
  refine v_goto (tgt := 27) dX3_weeksOfCourse_23 (by decide) ?_
  exact v_iret rfl dX3_weeksOfCourse_27 ⟨rfl, rfl⟩
set_option maxRecDepth 100000 in
set_option maxHeartbeats 4000000 in
theorem s_X4_roundedUp {v : EE} {σ : SS} {a d : Nat} (hd1 : 1 ≤ d) (h : a + d < 2 ^ 31) : S1 v M_X4_roundedUp [.int (nI a), .int (nI d)] σ (some (.int (nI (upd' a d)))) (σ) := by
  refine Sp.of rfl (by decide) rfl (Nat.le_of_ble_eq_true rfl) ?_
  show V v M_X4_roundedUp _ 0 [(0, .int (nI a)), (1, .int (nI d))] [] σ
  refine v_iload_n dX4_roundedUp_0 rfl ?_
  refine v_iconst (x := 1) dX4_roundedUp_1 rfl ?_
  refine v_icmp_ge (tgt := 9) dX4_roundedUp_2 (by decide) (fun c2 => ?_) (fun c2 => absurd (nI_le (a := 1) hd1 (by omega)) c2)
  refine v_iload_n dX4_roundedUp_9 rfl ?_
  refine v_iload_n dX4_roundedUp_10 rfl ?_
  refine v_iadd dX4_roundedUp_11 ?_
  refine v_iconst (x := 1) dX4_roundedUp_12 rfl ?_
  refine v_isub dX4_roundedUp_13 ?_
  refine v_top (by rw [nI_add, show (1 : Int32) = nI 1 from rfl, pk_sub (by omega)]) ?_
  refine v_iload_n dX4_roundedUp_14 rfl ?_
  refine v_idiv dX4_roundedUp_15 (nI_ne0 (by omega) (by omega)) ?_
  refine v_top (pk_div (by omega) (by omega) (by omega)) ?_
  exact v_iret rfl dX4_roundedUp_16 ⟨rfl, rfl⟩
set_option maxRecDepth 100000 in
set_option maxHeartbeats 4000000 in
theorem s_X3_weekBits {v : EE} {σ : SS} {a d : Nat} (h : a ≤ d) (hd : d < 24) : S1 v M_X3_weekBits [.int (nI a), .int (nI d)] σ (some (.int (nI (2 ^ (d + 1) - 2 ^ a)))) (σ) := by
  refine Sp.of rfl (by decide) rfl (Nat.le_of_ble_eq_true rfl) ?_
  show V v M_X3_weekBits _ 0 [(0, .int (nI a)), (1, .int (nI d))] [] σ
  refine v_iconst (x := 1) dX3_weekBits_0 rfl ?_
  refine v_iload_n dX3_weekBits_1 rfl ?_
  refine v_iconst (x := 1) dX3_weekBits_2 rfl ?_
  refine v_iadd dX3_weekBits_3 ?_
  refine v_ishl dX3_weekBits_4 ?_
  refine v_iconst (x := 1) dX3_weekBits_5 rfl ?_
  refine v_iload_n dX3_weekBits_6 rfl ?_
  refine v_ishl dX3_weekBits_7 ?_
  refine v_isub dX3_weekBits_8 ?_
  refine v_top (by rw [nI_1, nI_shl1 _ (by omega), nI_shl1 _ (by omega), pk_sub (Nat.pow_le_pow_right (by decide) (by omega))]) ?_
  exact v_iret rfl dX3_weekBits_9 ⟨rfl, rfl⟩
