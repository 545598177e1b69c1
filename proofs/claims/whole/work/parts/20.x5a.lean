theorem in_X5_allOf_X5 : ∀ w ∈ u_ws RX5 TX5 29, w ∈ mWs M_X5_allOf := by decide +kernel
theorem in_X5_asksOf_X5 : ∀ w ∈ u_ws RX5 TX5 29, w ∈ mWs M_X5_asksOf := by decide +kernel
theorem in_X5_inPart_X5 : ∀ w ∈ u_ws RX5 TX5 29, w ∈ mWs M_X5_inPart := by decide +kernel
theorem in_X5_isCourse_X5 : ∀ w ∈ u_ws RX5 TX5 29, w ∈ mWs M_X5_isCourse := by decide +kernel
theorem in_X5_isNameOf_X5 : ∀ w ∈ u_ws RX5 TX5 29, w ∈ mWs M_X5_isNameOf := by decide +kernel
theorem in_X5_isSign_X5 : ∀ w ∈ u_ws RX5 TX5 29, w ∈ mWs M_X5_isSign := by decide +kernel
theorem in_X5_lasts_X5 : ∀ w ∈ u_ws RX5 TX5 29, w ∈ mWs M_X5_lasts := by decide +kernel
theorem in_X5_ofSign_X5 : ∀ w ∈ u_ws RX5 TX5 29, w ∈ mWs M_X5_ofSign := by decide +kernel
theorem in_X5_partsOf_X5 : ∀ w ∈ u_ws RX5 TX5 29, w ∈ mWs M_X5_partsOf := by decide +kernel
theorem in_X5_thereAre_X5 : ∀ w ∈ u_ws RX5 TX5 29, w ∈ mWs M_X5_thereAre := by decide +kernel
theorem fl_X5_allOf_38 : Cond.fieldLink (mOwn M_X5_allOf) 38 (TX5 12).1 (TX5 12).2.1 (TX5 12).2.2.1 ∈ mWs M_X5_allOf := by decide +kernel
theorem fl_X5_asksOf_35 : Cond.fieldLink (mOwn M_X5_asksOf) 35 (TX5 10).1 (TX5 10).2.1 (TX5 10).2.2.1 ∈ mWs M_X5_asksOf := by decide +kernel
theorem fl_X5_asksOf_38 : Cond.fieldLink (mOwn M_X5_asksOf) 38 (TX5 12).1 (TX5 12).2.1 (TX5 12).2.2.1 ∈ mWs M_X5_asksOf := by decide +kernel
theorem fl_X5_inPart_20 : Cond.fieldLink (mOwn M_X5_inPart) 20 (TX5 5).1 (TX5 5).2.1 (TX5 5).2.2.1 ∈ mWs M_X5_inPart := by decide +kernel
theorem fl_X5_inPart_23 : Cond.fieldLink (mOwn M_X5_inPart) 23 (TX5 6).1 (TX5 6).2.1 (TX5 6).2.2.1 ∈ mWs M_X5_inPart := by decide +kernel
theorem fl_X5_inPart_38 : Cond.fieldLink (mOwn M_X5_inPart) 38 (TX5 12).1 (TX5 12).2.1 (TX5 12).2.2.1 ∈ mWs M_X5_inPart := by decide +kernel
theorem fl_X5_isCourse_20 : Cond.fieldLink (mOwn M_X5_isCourse) 20 (TX5 5).1 (TX5 5).2.1 (TX5 5).2.2.1 ∈ mWs M_X5_isCourse := by decide +kernel
theorem fl_X5_isNameOf_29 : Cond.fieldLink (mOwn M_X5_isNameOf) 29 (TX5 8).1 (TX5 8).2.1 (TX5 8).2.2.1 ∈ mWs M_X5_isNameOf := by decide +kernel
theorem fl_X5_isSign_13 : Cond.fieldLink (mOwn M_X5_isSign) 13 (TX5 3).1 (TX5 3).2.1 (TX5 3).2.2.1 ∈ mWs M_X5_isSign := by decide +kernel
theorem fl_X5_lasts_23 : Cond.fieldLink (mOwn M_X5_lasts) 23 (TX5 6).1 (TX5 6).2.1 (TX5 6).2.2.1 ∈ mWs M_X5_lasts := by decide +kernel
theorem fl_X5_ofSign_20 : Cond.fieldLink (mOwn M_X5_ofSign) 20 (TX5 5).1 (TX5 5).2.1 (TX5 5).2.2.1 ∈ mWs M_X5_ofSign := by decide +kernel
theorem fl_X5_ofSign_38 : Cond.fieldLink (mOwn M_X5_ofSign) 38 (TX5 12).1 (TX5 12).2.1 (TX5 12).2.2.1 ∈ mWs M_X5_ofSign := by decide +kernel
theorem fl_X5_partsOf_20 : Cond.fieldLink (mOwn M_X5_partsOf) 20 (TX5 5).1 (TX5 5).2.1 (TX5 5).2.2.1 ∈ mWs M_X5_partsOf := by decide +kernel
theorem fl_X5_partsOf_23 : Cond.fieldLink (mOwn M_X5_partsOf) 23 (TX5 6).1 (TX5 6).2.1 (TX5 6).2.2.1 ∈ mWs M_X5_partsOf := by decide +kernel
theorem fl_X5_partsOf_38 : Cond.fieldLink (mOwn M_X5_partsOf) 38 (TX5 12).1 (TX5 12).2.1 (TX5 12).2.2.1 ∈ mWs M_X5_partsOf := by decide +kernel
theorem fl_X5_thereAre_20 : Cond.fieldLink (mOwn M_X5_thereAre) 20 (TX5 5).1 (TX5 5).2.1 (TX5 5).2.2.1 ∈ mWs M_X5_thereAre := by decide +kernel
theorem fl_X5_thereAre_23 : Cond.fieldLink (mOwn M_X5_thereAre) 23 (TX5 6).1 (TX5 6).2.1 (TX5 6).2.2.1 ∈ mWs M_X5_thereAre := by decide +kernel
theorem nn_X5_between : (mY M_X5_between).cls ≠ "java/lang/invoke/MethodHandle" ∧ (mY M_X5_between).cls ≠ "java/lang/invoke/VarHandle" ∧ (parseMethodDescriptor (mY M_X5_between).desc).map (fun d => d.parameters.length) = some 3 := by decide +kernel
theorem nn_X5_isPart : (mY M_X5_isPart).cls = mOwn M_X5_isPart ∧ (mY M_X5_isPart).cls ≠ "java/lang/invoke/MethodHandle" ∧ (mY M_X5_isPart).cls ≠ "java/lang/invoke/VarHandle" ∧ (parseMethodDescriptor (mY M_X5_isPart).desc).map (fun d => d.parameters.length) = some 1 := by decide +kernel
theorem nn_X5_isSign : (mY M_X5_isSign).cls = mOwn M_X5_isSign ∧ (mY M_X5_isSign).cls ≠ "java/lang/invoke/MethodHandle" ∧ (mY M_X5_isSign).cls ≠ "java/lang/invoke/VarHandle" ∧ (parseMethodDescriptor (mY M_X5_isSign).desc).map (fun d => d.parameters.length) = some 1 := by decide +kernel
theorem nn_X5_kindOf : (mY M_X5_kindOf).cls ≠ "java/lang/invoke/MethodHandle" ∧ (mY M_X5_kindOf).cls ≠ "java/lang/invoke/VarHandle" ∧ (parseMethodDescriptor (mY M_X5_kindOf).desc).map (fun d => d.parameters.length) = some 1 := by decide +kernel
theorem nn_X5_thereAre : (mY M_X5_thereAre).cls = mOwn M_X5_thereAre ∧ (mY M_X5_thereAre).cls ≠ "java/lang/invoke/MethodHandle" ∧ (mY M_X5_thereAre).cls ≠ "java/lang/invoke/VarHandle" ∧ (parseMethodDescriptor (mY M_X5_thereAre).desc).map (fun d => d.parameters.length) = some 0 := by decide +kernel
theorem nn_X5_up : (mY M_X5_up).cls ≠ "java/lang/invoke/MethodHandle" ∧ (mY M_X5_up).cls ≠ "java/lang/invoke/VarHandle" ∧ (parseMethodDescriptor (mY M_X5_up).desc).map (fun d => d.parameters.length) = some 2 := by decide +kernel
theorem mh_S {w : WD} {σ : SS} (h : MH 0 w σ) : σ.1 42 0 = nI (wS w) := h.1.1
theorem mh_C {w : WD} {σ : SS} (h : MH 0 w σ) : σ.1 44 0 = nI (wC w) := h.1.2.1
theorem mh_N {w : WD} {σ : SS} (h : MH 0 w σ) : σ.1 47 0 = nI (wN w) := h.1.2.2.1
theorem mh_P {w : WD} {σ : SS} (h : MH 0 w σ) : σ.1 49 0 = nI (wP w) := h.1.2.2.2
theorem mh_T {w : WD} {σ : SS} (h : MH 0 w σ) {k : Nat} (hk : k < wS w) : σ.1 43 (2 * k) = nI (wT w k) := by have := (h.2.1 k hk).1; simpa using this
theorem mh_G {w : WD} {σ : SS} (h : MH 0 w σ) {k : Nat} (hk : k < wS w) : σ.1 43 (2 * k + 1) = wG w k := by have := (h.2.1 k hk).2; simpa using this
theorem mh_Q {w : WD} {σ : SS} (h : MH 0 w σ) {c : Nat} (hk : c < wC w) : σ.1 45 (3 * c) = nI (wQ w c) := by have := (h.2.2.1 c hk).1; simpa using this
theorem mh_A {w : WD} {σ : SS} (h : MH 0 w σ) {c : Nat} (hk : c < wC w) : σ.1 45 (3 * c + 1) = nI (wA w c) := by have := (h.2.2.1 c hk).2.1; simpa using this
theorem mh_B {w : WD} {σ : SS} (h : MH 0 w σ) {c : Nat} (hk : c < wC w) : σ.1 45 (3 * c + 2) = nI (wB w c) := by have := (h.2.2.1 c hk).2.2; simpa using this
theorem mh_H {w : WD} {σ : SS} (h : MH 0 w σ) {j : Nat} (hk : j < 288) : σ.1 50 j = nI (wH w j) := by have := h.2.2.2.1 j hk; simpa using this
theorem mh_E {w : WD} {σ : SS} (h : MH 0 w σ) {p : Nat} (hk : p < 6) : σ.1 46 p = nI (wE w p) := by have := h.2.2.2.2.1 p hk; simpa using this
theorem mh_K {w : WD} {σ : SS} (h : MH 0 w σ) {m : Nat} (hk : m < wN w) : σ.1 48 m = nI (wK w m) := by have := h.2.2.2.2.2 m hk; simpa using this
def btw (x a b : Int64) : Bool := decide (a ≤ x) && decide (x ≤ b)
theorem nlt64 {a b : Int64} : ¬ a < b ↔ b ≤ a := by rw [Int64.lt_iff_toInt_lt, Int64.le_iff_toInt_le]; omega
theorem btw_isN {k : Int32} {S : Nat} (hS : S < 2 ^ 31) : btw k.toInt64 0 (nI S - 1).toInt64 = isN k S := by
  have e : (nI S - 1).toInt = (S : Int) - 1 := by
    have e0 := fb_subI (x := nI S) (y := 1) (by rw [nI_toInt hS, Int32.toInt_one]; omega) (by rw [nI_toInt hS, Int32.toInt_one]; omega)
    rw [e0, nI_toInt hS, Int32.toInt_one]
  simp only [btw, isN, Int64.le_iff_toInt_le, Int32.toInt_toInt64, e]
  rw [show (0 : Int64).toInt = 0 from rfl]
  by_cases h1 : 0 ≤ k.toInt <;> by_cases h2 : k.toInt < S <;> simp [h1, h2] <;> omega
theorem btw_lit {k : Int32} {b : Int64} (n : Nat) (hb : b.toInt = (n : Int) - 1) : btw k.toInt64 0 b = isN k n := by
  simp only [btw, isN, Int64.le_iff_toInt_le, Int32.toInt_toInt64, hb]
  rw [show (0 : Int64).toInt = 0 from rfl]
  by_cases h1 : 0 ≤ k.toInt <;> by_cases h2 : k.toInt < n <;> simp [h1, h2] <;> omega
def kdOf (k : Int32) : Int32 := if k = 98 then 16 else if k = 99 then 17 else k
def isKd (w : WD) (k : Int32) : Bool := isN k (wS w) || decide (k = 98) || decide (k = 99)
theorem kd_col {z : Nat} {w : WD} (hv : WV z w) {k : Int32} (h : isKd w k = true) : ∃ j, j < 18 ∧ kdOf k = nI j ∧ colOf w k = nI j := by
  have hS := wv_S hv
  rw [kdOf, colOf]
  by_cases h1 : k = 98
  · exact ⟨16, by decide, by rw [if_pos h1]; rfl, by rw [if_pos h1]; rfl⟩
  · by_cases h2 : k = 99
    · exact ⟨17, by decide, by rw [if_neg h1, if_pos h2]; rfl, by rw [if_neg h1, if_pos h2]; rfl⟩
    · have h3 : isN k (wS w) = true := by simpa [isKd, h1, h2] using h
      obtain ⟨j, hj, -, e⟩ := isN_nI h3
      exact ⟨j, by omega, by rw [if_neg h1, if_neg h2]; exact e, by rw [if_neg h1, if_neg h2, if_pos h3]; exact e⟩
theorem kd_no {w : WD} {k : Int32} (h : isKd w k = false) : colOf w k = -4 := by
  simp only [isKd, Bool.or_eq_false_iff, decide_eq_false_iff_not] at h
  rw [colOf, if_neg h.1.2, if_neg h.2, if_neg (by rw [h.1.1]; decide)]
set_option maxRecDepth 100000 in
set_option maxHeartbeats 4000000 in
theorem s_X5_between {v : EE} {σ : SS} {x a d : Int64} : S1 v M_X5_between [.long x, .long a, .long d] σ (some (.int (bI (btw x a d)))) (σ) := by
  refine Sp.of rfl (by decide) rfl (Nat.le_of_ble_eq_true rfl) ?_
  show V v M_X5_between _ 0 [(0, .long x), (2, .long a), (4, .long d)] [] σ
  refine v_lload_n dX5_between_0 rfl ?_
  refine v_lload_n dX5_between_1 rfl ?_
  refine v_lcmp dX5_between_2 ?_
  refine v_if_lt (tgt := 17) dX5_between_3 (by decide) (fun c3 => ?_) (fun c3 => ?_)
  · refine v_iconst (x := 0) dX5_between_17 rfl ?_
    exact v_zret rfl (by decide) dX5_between_18 ⟨congrArg (fun z => some (Value.int z)) (bI_f (by rw [btw, decide_eq_false (fun q => nlt64.mpr q ((lg_cmp_lt _ _).mp c3))]; rfl)), rfl⟩
  · refine v_lload_n dX5_between_6 rfl ?_
    refine v_lload dX5_between_7 rfl ?_
    refine v_lcmp dX5_between_9 ?_
    refine v_if_gt (tgt := 17) dX5_between_10 (by decide) (fun c10 => ?_) (fun c10 => ?_)
    · refine v_iconst (x := 0) dX5_between_17 rfl ?_
      exact v_zret rfl (by decide) dX5_between_18 ⟨congrArg (fun z => some (Value.int z)) (bI_f (by rw [btw, decide_eq_false (p := x ≤ d) (fun q => nlt64.mpr q ((lg_cmp_gt _ _).mp c10)), Bool.and_false])), rfl⟩
    · refine v_iconst (x := 1) dX5_between_13 rfl ?_
      refine v_goto (tgt := 18) dX5_between_14 (by decide) ?_
      exact v_zret rfl (by decide) dX5_between_18 ⟨congrArg (fun z => some (Value.int z)) (bI_t (by rw [btw, decide_eq_true (nlt64.mp (fun q => c3 ((lg_cmp_lt _ _).mpr q))), decide_eq_true (nlt64.mp (fun q => c10 ((lg_cmp_gt _ _).mpr q)))]; rfl)), rfl⟩
set_option maxRecDepth 100000 in
set_option maxHeartbeats 4000000 in
theorem s_X5_kindOf {v : EE} {σ : SS} {k : Int32} : S1 v M_X5_kindOf [.int k] σ (some (.int (kdOf k))) (σ) := by
  refine Sp.of rfl (by decide) rfl (Nat.le_of_ble_eq_true rfl) ?_
  show V v M_X5_kindOf _ 0 [(0, .int k)] [] σ
  refine v_iload_n dX5_kindOf_0 rfl ?_
  refine v_bipush (x := 98) dX5_kindOf_1 (by decide +kernel) ?_
  refine v_icmp_ne (tgt := 11) dX5_kindOf_3 (by decide) (fun c3 => ?_) (fun c3 => ?_)
  · refine v_iload_n dX5_kindOf_11 rfl ?_
    refine v_bipush (x := 99) dX5_kindOf_12 (by decide +kernel) ?_
    refine v_icmp_ne (tgt := 22) dX5_kindOf_14 (by decide) (fun c14 => ?_) (fun c14 => ?_)
    · refine v_iload_n dX5_kindOf_22 rfl ?_
      exact v_iret rfl dX5_kindOf_23 ⟨congrArg (fun z => some (Value.int z)) (by rw [kdOf, if_neg c3, if_neg c14]), rfl⟩
    · refine v_bipush (x := 17) dX5_kindOf_17 (by decide +kernel) ?_
      refine v_goto (tgt := 23) dX5_kindOf_19 (by decide) ?_
      exact v_iret rfl dX5_kindOf_23 ⟨congrArg (fun z => some (Value.int z)) (by rw [kdOf, if_neg c3, if_pos c14]), rfl⟩
  · refine v_bipush (x := 16) dX5_kindOf_6 (by decide +kernel) ?_
    refine v_goto (tgt := 23) dX5_kindOf_8 (by decide) ?_
    exact v_iret rfl dX5_kindOf_23 ⟨congrArg (fun z => some (Value.int z)) (by rw [kdOf, if_pos c3]), rfl⟩
set_option maxRecDepth 100000 in
set_option maxHeartbeats 4000000 in
theorem s_X5_isSign {v : EE} {w : WD} {z : Nat} {σ : SS} (hw : MH 0 w σ) (hv : WV z w) (k : Int32) : S1 v M_X5_isSign [.ref (v.1 40), .int k] σ (some (.int (bI (isN k (wS w))))) (σ) := by
  refine Sp.of rfl (by decide) rfl (Nat.le_of_ble_eq_true rfl) ?_
  show V v M_X5_isSign _ 0 [(0, .ref (v.1 40)), (1, .int k)] [] σ
  refine v_iload_n dX5_isSign_0 rfl ?_
  refine v_i2l dX5_isSign_1 ?_
  refine v_lconst (x := 0) dX5_isSign_2 rfl ?_
  refine v_aload_n dX5_isSign_3 rfl ?_
  refine v_get (j := 3) iO40 rfl dX5_isSign_4 (by decide) in_X5_isSign_X5 fl_X5_isSign_13 rfl ?_
  refine v_iconst (x := 0) dX5_isSign_7 rfl ?_
  refine v_ialdN 0 iI42 dX5_isSign_8 rfl (by decide) (by decide) ?_
  refine v_top (mh_S hw) ?_
  refine v_iconst (x := 1) dX5_isSign_9 rfl ?_
  refine v_isub dX5_isSign_10 ?_
  refine v_i2l dX5_isSign_11 ?_
  refine v_callSi (M' := M_X5_between) (As := [_, _, _]) (s_X5_between) dX5_isSign_12 gX5_isSign_X5_between rfl nn_X5_between ⟨rfl, rfl⟩ ⟨by decide, by decide⟩ rfl rfl (Nat.le_of_ble_eq_true rfl) ?_
  refine v_top (by rw [btw_isN (by have := wv_S hv; omega)]) ?_
  exact v_zret rfl (bI_01 _) dX5_isSign_15 ⟨rfl, rfl⟩
set_option maxRecDepth 100000 in
set_option maxHeartbeats 4000000 in
theorem s_X5_isCourse {v : EE} {w : WD} {z : Nat} {σ : SS} (hw : MH 0 w σ) (hv : WV z w) (k : Int32) : S1 v M_X5_isCourse [.ref (v.1 40), .int k] σ (some (.int (bI (isN k (wC w))))) (σ) := by
  refine Sp.of rfl (by decide) rfl (Nat.le_of_ble_eq_true rfl) ?_
  show V v M_X5_isCourse _ 0 [(0, .ref (v.1 40)), (1, .int k)] [] σ
  refine v_iload_n dX5_isCourse_0 rfl ?_
  refine v_i2l dX5_isCourse_1 ?_
  refine v_lconst (x := 0) dX5_isCourse_2 rfl ?_
  refine v_aload_n dX5_isCourse_3 rfl ?_
  refine v_get (j := 5) iO40 rfl dX5_isCourse_4 (by decide) in_X5_isCourse_X5 fl_X5_isCourse_20 rfl ?_
  refine v_iconst (x := 0) dX5_isCourse_7 rfl ?_
  refine v_ialdN 0 iI44 dX5_isCourse_8 rfl (by decide) (by decide) ?_
  refine v_top (mh_C hw) ?_
  refine v_iconst (x := 1) dX5_isCourse_9 rfl ?_
  refine v_isub dX5_isCourse_10 ?_
  refine v_i2l dX5_isCourse_11 ?_
  refine v_callSi (M' := M_X5_between) (As := [_, _, _]) (s_X5_between) dX5_isCourse_12 gX5_isCourse_X5_between rfl nn_X5_between ⟨rfl, rfl⟩ ⟨by decide, by decide⟩ rfl rfl (Nat.le_of_ble_eq_true rfl) ?_
  refine v_top (by rw [btw_isN (by have := wv_C hv; omega)]) ?_
  exact v_zret rfl (bI_01 _) dX5_isCourse_15 ⟨rfl, rfl⟩
set_option maxRecDepth 100000 in
set_option maxHeartbeats 4000000 in
theorem s_X5_isNameOf {v : EE} {w : WD} {z : Nat} {σ : SS} (hw : MH 0 w σ) (hv : WV z w) (k : Int32) : S1 v M_X5_isNameOf [.ref (v.1 40), .int k] σ (some (.int (bI (isN k (wN w))))) (σ) := by
  refine Sp.of rfl (by decide) rfl (Nat.le_of_ble_eq_true rfl) ?_
  show V v M_X5_isNameOf _ 0 [(0, .ref (v.1 40)), (1, .int k)] [] σ
  refine v_iload_n dX5_isNameOf_0 rfl ?_
  refine v_i2l dX5_isNameOf_1 ?_
  refine v_lconst (x := 0) dX5_isNameOf_2 rfl ?_
  refine v_aload_n dX5_isNameOf_3 rfl ?_
  refine v_get (j := 8) iO40 rfl dX5_isNameOf_4 (by decide) in_X5_isNameOf_X5 fl_X5_isNameOf_29 rfl ?_
  refine v_iconst (x := 0) dX5_isNameOf_7 rfl ?_
  refine v_ialdN 0 iI47 dX5_isNameOf_8 rfl (by decide) (by decide) ?_
  refine v_top (mh_N hw) ?_
  refine v_iconst (x := 1) dX5_isNameOf_9 rfl ?_
  refine v_isub dX5_isNameOf_10 ?_
  refine v_i2l dX5_isNameOf_11 ?_
  refine v_callSi (M' := M_X5_between) (As := [_, _, _]) (s_X5_between) dX5_isNameOf_12 gX5_isNameOf_X5_between rfl nn_X5_between ⟨rfl, rfl⟩ ⟨by decide, by decide⟩ rfl rfl (Nat.le_of_ble_eq_true rfl) ?_
  refine v_top (by rw [btw_isN (by have := wv_N hv; omega)]) ?_
  exact v_zret rfl (bI_01 _) dX5_isNameOf_15 ⟨rfl, rfl⟩
set_option maxRecDepth 100000 in
set_option maxHeartbeats 4000000 in
theorem s_X5_isKind {v : EE} {w : WD} {z : Nat} {σ : SS} (hw : MH 0 w σ) (hv : WV z w) (k : Int32) : S1 v M_X5_isKind [.ref (v.1 40), .int k] σ (some (.int (bI (isKd w k)))) (σ) := by
  refine Sp.of rfl (by decide) rfl (Nat.le_of_ble_eq_true rfl) ?_
  show V v M_X5_isKind _ 0 [(0, .ref (v.1 40)), (1, .int k)] [] σ
  refine v_aload_n dX5_isKind_0 rfl ?_
  refine v_iload_n dX5_isKind_1 rfl ?_
  refine v_callVi (M' := M_X5_isSign) (As := [_]) iO40 (s_X5_isSign hw hv _) dX5_isKind_2 gX5_isKind_X5_isSign rfl rfl nn_X5_isSign ⟨rfl, rfl⟩ ⟨by decide, by decide⟩ rfl rfl (Nat.le_of_ble_eq_true rfl) ?_
  refine v_if_ne (tgt := 20) dX5_isKind_5 (by decide) (fun c5 => ?_) (fun c5 => ?_)
  · refine v_iconst (x := 1) dX5_isKind_20 rfl ?_
    refine v_goto (tgt := 25) dX5_isKind_21 (by decide) ?_
    exact v_zret rfl (by decide) dX5_isKind_25 ⟨congrArg (fun z => some (Value.int z)) (bI_t (by rw [isKd, bI_n0.mp c5]; rfl)), rfl⟩
  · refine v_iload_n dX5_isKind_8 rfl ?_
    refine v_bipush (x := 98) dX5_isKind_9 (by decide +kernel) ?_
    refine v_icmp_eq (tgt := 20) dX5_isKind_11 (by decide) (fun c11 => ?_) (fun c11 => ?_)
    · refine v_iconst (x := 1) dX5_isKind_20 rfl ?_
      refine v_goto (tgt := 25) dX5_isKind_21 (by decide) ?_
      exact v_zret rfl (by decide) dX5_isKind_25 ⟨congrArg (fun z => some (Value.int z)) (bI_t (by rw [isKd, decide_eq_true c11, Bool.or_true]; rfl)), rfl⟩
    · refine v_iload_n dX5_isKind_14 rfl ?_
      refine v_bipush (x := 99) dX5_isKind_15 (by decide +kernel) ?_
      refine v_icmp_ne (tgt := 24) dX5_isKind_17 (by decide) (fun c17 => ?_) (fun c17 => ?_)
      · refine v_iconst (x := 0) dX5_isKind_24 rfl ?_
        exact v_zret rfl (by decide) dX5_isKind_25 ⟨congrArg (fun z => some (Value.int z)) (bI_f (by rw [isKd, bI_0.mp c5, decide_eq_false c11, decide_eq_false c17]; rfl)), rfl⟩
      · refine v_iconst (x := 1) dX5_isKind_20 rfl ?_
        refine v_goto (tgt := 25) dX5_isKind_21 (by decide) ?_
        exact v_zret rfl (by decide) dX5_isKind_25 ⟨congrArg (fun z => some (Value.int z)) (bI_t (by rw [isKd, decide_eq_true c17, Bool.or_true])), rfl⟩
set_option maxRecDepth 100000 in
set_option maxHeartbeats 4000000 in
theorem s_X5_thereAre {v : EE} {w : WD} {z : Nat} {σ : SS} (hw : MH 0 w σ) (hv : WV z w) : S1 v M_X5_thereAre [.ref (v.1 40)] σ (some (.int (nI (pbits w)))) (σ) := by
  refine Sp.of rfl (by decide) rfl (Nat.le_of_ble_eq_true rfl) ?_
  show V v M_X5_thereAre _ 0 [(0, .ref (v.1 40))] [] σ
  refine v_iconst (x := 0) dX5_thereAre_0 rfl ?_
  refine v_istore_n (L' := [(1, _), (0, _)]) dX5_thereAre_1 rfl (by decide) rfl ?_
  refine v_iconst (x := 0) dX5_thereAre_2 rfl ?_
  refine v_istore_n (L' := [(2, _), (1, _), (0, _)]) dX5_thereAre_3 rfl (by decide) rfl ?_
  refine v_sub [2, 1, 0] rfl ?_
  refine loopN (fun i => V v M_X5_thereAre (zR v M_X5_thereAre (fun r' σ' => r' = (some (.int (nI (pbits w)))) ∧ σ' = (σ))) 4 [(0, .ref (v.1 40)), (1, .int (nI (om (fun c => 2 ^ wQ w c) i))), (2, .int (nI i))] [] (σ)) (wC w) ?_ ?_
  · intro i hi ih
    refine v_iload_n dX5_thereAre_4 rfl ?_
    refine v_aload_n dX5_thereAre_5 rfl ?_
    refine v_get (j := 5) iO40 rfl dX5_thereAre_6 (by decide) in_X5_thereAre_X5 fl_X5_thereAre_20 rfl ?_
    refine v_iconst (x := 0) dX5_thereAre_9 rfl ?_
    refine v_ialdN 0 iI44 dX5_thereAre_10 rfl (by decide) (by decide) ?_
    refine v_top (mh_C hw) ?_
    refine v_icmp_ge (tgt := 33) dX5_thereAre_11 (by decide) (fun c11 => absurd c11 (nI_ge hi (by have := wv_C hv; omega))) (fun c11 => ?_)
    refine v_iload_n dX5_thereAre_14 rfl ?_
    refine v_iconst (x := 1) dX5_thereAre_15 rfl ?_
    refine v_aload_n dX5_thereAre_16 rfl ?_
    refine v_get (j := 6) iO40 rfl dX5_thereAre_17 (by decide) in_X5_thereAre_X5 fl_X5_thereAre_23 rfl ?_
    refine v_iconst (x := 3) dX5_thereAre_20 rfl ?_
    refine v_iload_n dX5_thereAre_21 rfl ?_
    refine v_imul dX5_thereAre_22 ?_
    refine v_ialdN (3 * i) iI45 dX5_thereAre_23 (by rw [show (3 : Int32) = nI 3 from rfl, pk_mul]) (by have := wv_C hv; omega) (by decide) ?_
    refine v_top (mh_Q hw hi) ?_
    refine v_ishl dX5_thereAre_24 ?_
    refine v_ior dX5_thereAre_25 ?_
    refine v_top (by rw [nI_shl1 _ (by have := wv_Q hv hi; omega), fa_or]) ?_
    refine v_istore_n (L' := [(1, _), (0, _), (2, _)]) dX5_thereAre_26 rfl (by decide) rfl ?_
    refine v_iinc (y := nI (i + 1)) (L' := [(2, .int (nI (i + 1))), (1, _), (0, _)]) dX5_thereAre_27 rfl (nI_1 i) (by decide) rfl ?_
    refine v_goto (tgt := 4) dX5_thereAre_30 (by decide) ?_
    refine v_sub [2, 1, 0] rfl ?_
    exact ih
  · refine v_iload_n dX5_thereAre_4 rfl ?_
    refine v_aload_n dX5_thereAre_5 rfl ?_
    refine v_get (j := 5) iO40 rfl dX5_thereAre_6 (by decide) in_X5_thereAre_X5 fl_X5_thereAre_20 rfl ?_
    refine v_iconst (x := 0) dX5_thereAre_9 rfl ?_
    refine v_ialdN 0 iI44 dX5_thereAre_10 rfl (by decide) (by decide) ?_
    refine v_top (mh_C hw) ?_
    refine v_icmp_ge (tgt := 33) dX5_thereAre_11 (by decide) (fun c11 => ?_) (fun c11 => absurd (nI_le (Nat.le_refl _) (by have := wv_C hv; omega)) c11)
    refine v_iload_n dX5_thereAre_33 rfl ?_
    exact v_iret rfl dX5_thereAre_34 ⟨rfl, rfl⟩
set_option maxRecDepth 100000 in
set_option maxHeartbeats 4000000 in
theorem s_X5_isPart {v : EE} {w : WD} {z : Nat} {σ : SS} (hw : MH 0 w σ) (hv : WV z w) (p : Int32) : S1 v M_X5_isPart [.ref (v.1 40), .int p] σ (some (.int (bI (isP w p)))) (σ) := by
  refine Sp.of rfl (by decide) rfl (Nat.le_of_ble_eq_true rfl) ?_
  show V v M_X5_isPart _ 0 [(0, .ref (v.1 40)), (1, .int p)] [] σ
  refine v_iload_n dX5_isPart_0 rfl ?_
  refine v_i2l dX5_isPart_1 ?_
  refine v_lconst (x := 0) dX5_isPart_2 rfl ?_
  refine v_ldc2 (x := (5)) (by decide +kernel) dX5_isPart_3 ?_
  refine v_callSi (M' := M_X5_between) (As := [_, _, _]) (s_X5_between) dX5_isPart_6 gX5_isPart_X5_between rfl nn_X5_between ⟨rfl, rfl⟩ ⟨by decide, by decide⟩ rfl rfl (Nat.le_of_ble_eq_true rfl) ?_
  refine v_top (by rw [btw_lit 6 (by decide)]) ?_
  refine v_if_eq (tgt := 28) dX5_isPart_9 (by decide) (fun c9 => ?_) (fun c9 => ?_)
  · refine v_iconst (x := 0) dX5_isPart_28 rfl ?_
    exact v_zret rfl (by decide) dX5_isPart_29 ⟨congrArg (fun z => some (Value.int z)) (bI_f (by rw [isP, bI_0.mp c9]; rfl)), rfl⟩
  · obtain ⟨j, hj, hj2, rfl⟩ := isN_nI (bI_n0.mp c9)
    refine v_aload_n dX5_isPart_12 rfl ?_
    refine v_callVi (M' := M_X5_thereAre) (As := []) iO40 (s_X5_thereAre hw hv) dX5_isPart_13 gX5_isPart_X5_thereAre rfl rfl nn_X5_thereAre ⟨rfl, rfl⟩ ⟨by decide, by decide⟩ rfl rfl (Nat.le_of_ble_eq_true rfl) ?_
    refine v_iload_n dX5_isPart_16 rfl ?_
    refine v_ishr dX5_isPart_17 ?_
    refine v_iconst (x := 1) dX5_isPart_18 rfl ?_
    refine v_iand dX5_isPart_19 ?_
    refine v_top (nI_tb (Nat.lt_of_lt_of_le (pbits_lt hv) (by decide)) (by omega)) ?_
    refine v_iconst (x := 1) dX5_isPart_20 rfl ?_
    refine v_icmp_ne (tgt := 28) dX5_isPart_21 (by decide) (fun c21 => ?_) (fun c21 => ?_)
    · refine v_iconst (x := 0) dX5_isPart_28 rfl ?_
      exact v_zret rfl (by decide) dX5_isPart_29 ⟨congrArg (fun z => some (Value.int z)) (bI_f (by rw [isP, isN_of hj (by decide), nI_clamp hj2]; cases h : (pbits w).testBit j with | false => rfl | true => exact absurd (by rw [h]; rfl) c21)), rfl⟩
    · refine v_iconst (x := 1) dX5_isPart_24 rfl ?_
      refine v_goto (tgt := 29) dX5_isPart_25 (by decide) ?_
      exact v_zret rfl (by decide) dX5_isPart_29 ⟨congrArg (fun z => some (Value.int z)) (bI_t (by rw [isP, isN_of hj (by decide), nI_clamp hj2]; cases h : (pbits w).testBit j with | true => rfl | false => exact absurd c21 (by rw [h]; decide))), rfl⟩
set_option maxRecDepth 100000 in
set_option maxHeartbeats 4000000 in
theorem s_X5_inPart {v : EE} {w : WD} {z : Nat} {σ : SS} (hw : MH 0 w σ) (hv : WV z w) {p l : Nat} (hp : p < 6) {k : Int32} (hk : kdOf k = nI l) (hl : l < 18) : S1 v M_X5_inPart [.ref (v.1 40), .int (nI p), .int k] σ (some (.int (nI (smp w p l)))) (σ) := by
  refine Sp.of rfl (by decide) rfl (Nat.le_of_ble_eq_true rfl) ?_
  show V v M_X5_inPart _ 0 [(0, .ref (v.1 40)), (1, .int (nI p)), (2, .int k)] [] σ
  refine v_iconst (x := 0) dX5_inPart_0 rfl ?_
  refine v_istore_n (L' := [(3, _), (0, _), (1, _), (2, _)]) dX5_inPart_1 rfl (by decide) rfl ?_
  refine v_iconst (x := 0) dX5_inPart_2 rfl ?_
  refine v_istore (L' := [(4, _), (3, _), (0, _), (1, _), (2, _)]) dX5_inPart_3 (by decide) rfl ?_
  refine v_sub [2, 3, 4, 1, 0] rfl ?_
  refine loopN (fun i => V v M_X5_inPart (zR v M_X5_inPart (fun r' σ' => r' = (some (.int (nI (smp w p l)))) ∧ σ' = (σ))) 5 [(0, .ref (v.1 40)), (1, .int (nI p)), (2, .int k), (3, .int (nI (sm (fun c => if wQ w c = p then wH w (c * 18 + l) else 0) i))), (4, .int (nI i))] [] (σ)) (wC w) ?_ ?_
  · intro i hi ih
    refine v_iload dX5_inPart_5 rfl ?_
    refine v_aload_n dX5_inPart_7 rfl ?_
    refine v_get (j := 5) iO40 rfl dX5_inPart_8 (by decide) in_X5_inPart_X5 fl_X5_inPart_20 rfl ?_
    refine v_iconst (x := 0) dX5_inPart_11 rfl ?_
    refine v_ialdN 0 iI44 dX5_inPart_12 rfl (by decide) (by decide) ?_
    refine v_top (mh_C hw) ?_
    refine v_icmp_ge (tgt := 57) dX5_inPart_13 (by decide) (fun c13 => absurd c13 (nI_ge hi (by have := wv_C hv; omega))) (fun c13 => ?_)
    refine v_iload_n dX5_inPart_16 rfl ?_
    refine v_aload_n dX5_inPart_17 rfl ?_
    refine v_get (j := 6) iO40 rfl dX5_inPart_18 (by decide) in_X5_inPart_X5 fl_X5_inPart_23 rfl ?_
    refine v_iconst (x := 3) dX5_inPart_21 rfl ?_
    refine v_iload dX5_inPart_22 rfl ?_
    refine v_imul dX5_inPart_24 ?_
    refine v_ialdN (3 * i) iI45 dX5_inPart_25 (by rw [show (3 : Int32) = nI 3 from rfl, pk_mul]) (by have := wv_C hv; omega) (by decide) ?_
    refine v_top (mh_Q hw hi) ?_
    refine v_iload_n dX5_inPart_26 rfl ?_
    refine v_icmp_ne (tgt := 48) dX5_inPart_27 (by decide) (fun c27 => ?_) (fun c27 => ?_)
    · refine v_iconst (x := 0) dX5_inPart_48 rfl ?_
      refine v_iadd dX5_inPart_49 ?_
      refine v_top (nI_add _ 0) ?_
      refine v_istore_n (L' := [(3, _), (0, _), (1, _), (2, _), (4, _)]) dX5_inPart_50 rfl (by decide) rfl ?_
      have e : sm (fun c => if wQ w c = p then wH w (c * 18 + l) else 0) (i + 1) = sm (fun c => if wQ w c = p then wH w (c * 18 + l) else 0) i + 0 := by rw [sm, if_neg (fun q => c27 (by rw [q]))]
      rw [e] at ih
      refine v_iinc (y := nI (i + 1)) (L' := [(4, .int (nI (i + 1))), (3, _), (0, _), (1, _), (2, _)]) dX5_inPart_51 rfl (nI_1 i) (by decide) rfl ?_
      refine v_goto (tgt := 5) dX5_inPart_54 (by decide) ?_
      refine v_sub [2, 3, 4, 1, 0] rfl ?_
      exact ih
    · refine v_aload_n dX5_inPart_30 rfl ?_
      refine v_get (j := 12) iO40 rfl dX5_inPart_31 (by decide) in_X5_inPart_X5 fl_X5_inPart_38 rfl ?_
      refine v_bipush (x := 18) dX5_inPart_34 (by decide +kernel) ?_
      refine v_iload dX5_inPart_36 rfl ?_
      refine v_imul dX5_inPart_38 ?_
      refine v_iload_n dX5_inPart_39 rfl ?_
      refine v_callSi (M' := M_X5_kindOf) (As := [_]) (s_X5_kindOf) dX5_inPart_40 gX5_inPart_X5_kindOf rfl nn_X5_kindOf ⟨rfl, rfl⟩ ⟨by decide, by decide⟩ rfl rfl (Nat.le_of_ble_eq_true rfl) ?_
      refine v_top hk ?_
      refine v_iadd dX5_inPart_43 ?_
      refine v_ialdN (i * 18 + l) iI50 dX5_inPart_44 (by rw [show (18 : Int32) = nI 18 from rfl, pk_mul, nI_add, Nat.mul_comm 18]) (by have := wv_C hv; omega) (by decide) ?_
      refine v_top (mh_H hw (by have := wv_C hv; omega)) ?_
      refine v_goto (tgt := 49) dX5_inPart_45 (by decide) ?_
      refine v_iadd dX5_inPart_49 ?_
      refine v_top (nI_add _ _) ?_
      refine v_istore_n (L' := [(3, _), (0, _), (1, _), (2, _), (4, _)]) dX5_inPart_50 rfl (by decide) rfl ?_
      have e : sm (fun c => if wQ w c = p then wH w (c * 18 + l) else 0) (i + 1) = sm (fun c => if wQ w c = p then wH w (c * 18 + l) else 0) i + wH w (i * 18 + l) := by rw [sm, if_pos ((nI_eq (by have := wv_Q hv hi; omega) (by omega)).mp c27)]
      rw [e] at ih
      refine v_iinc (y := nI (i + 1)) (L' := [(4, .int (nI (i + 1))), (3, _), (0, _), (1, _), (2, _)]) dX5_inPart_51 rfl (nI_1 i) (by decide) rfl ?_
      refine v_goto (tgt := 5) dX5_inPart_54 (by decide) ?_
      refine v_sub [2, 3, 4, 1, 0] rfl ?_
      exact ih
  · refine v_iload dX5_inPart_5 rfl ?_
    refine v_aload_n dX5_inPart_7 rfl ?_
    refine v_get (j := 5) iO40 rfl dX5_inPart_8 (by decide) in_X5_inPart_X5 fl_X5_inPart_20 rfl ?_
    refine v_iconst (x := 0) dX5_inPart_11 rfl ?_
    refine v_ialdN 0 iI44 dX5_inPart_12 rfl (by decide) (by decide) ?_
    refine v_top (mh_C hw) ?_
    refine v_icmp_ge (tgt := 57) dX5_inPart_13 (by decide) (fun c13 => ?_) (fun c13 => absurd (nI_le (Nat.le_refl _) (by have := wv_C hv; omega)) c13)
    refine v_iload_n dX5_inPart_57 rfl ?_
    exact v_iret rfl dX5_inPart_58 ⟨rfl, rfl⟩
set_option maxRecDepth 100000 in
set_option maxHeartbeats 4000000 in
theorem s_X5_ofSign {v : EE} {w : WD} {z : Nat} {σ : SS} (hw : MH 0 w σ) (hv : WV z w) {k : Nat} (hk : k < 18) : S1 v M_X5_ofSign [.ref (v.1 40), .int (nI k)] σ (some (.int (nI (sms w k)))) (σ) := by
  refine Sp.of rfl (by decide) rfl (Nat.le_of_ble_eq_true rfl) ?_
  show V v M_X5_ofSign _ 0 [(0, .ref (v.1 40)), (1, .int (nI k))] [] σ
  refine v_iconst (x := 0) dX5_ofSign_0 rfl ?_
  refine v_istore_n (L' := [(2, _), (0, _), (1, _)]) dX5_ofSign_1 rfl (by decide) rfl ?_
  refine v_iconst (x := 0) dX5_ofSign_2 rfl ?_
  refine v_istore_n (L' := [(3, _), (2, _), (0, _), (1, _)]) dX5_ofSign_3 rfl (by decide) rfl ?_
  refine v_sub [2, 3, 1, 0] rfl ?_
  refine loopN (fun i => V v M_X5_ofSign (zR v M_X5_ofSign (fun r' σ' => r' = (some (.int (nI (sms w k)))) ∧ σ' = (σ))) 4 [(0, .ref (v.1 40)), (1, .int (nI k)), (2, .int (nI (sm (fun c => wH w (c * 18 + k)) i))), (3, .int (nI i))] [] (σ)) (wC w) ?_ ?_
  · intro i hi ih
    refine v_iload_n dX5_ofSign_4 rfl ?_
    refine v_aload_n dX5_ofSign_5 rfl ?_
    refine v_get (j := 5) iO40 rfl dX5_ofSign_6 (by decide) in_X5_ofSign_X5 fl_X5_ofSign_20 rfl ?_
    refine v_iconst (x := 0) dX5_ofSign_9 rfl ?_
    refine v_ialdN 0 iI44 dX5_ofSign_10 rfl (by decide) (by decide) ?_
    refine v_top (mh_C hw) ?_
    refine v_icmp_ge (tgt := 34) dX5_ofSign_11 (by decide) (fun c11 => absurd c11 (nI_ge hi (by have := wv_C hv; omega))) (fun c11 => ?_)
    refine v_iload_n dX5_ofSign_14 rfl ?_
    refine v_aload_n dX5_ofSign_15 rfl ?_
    refine v_get (j := 12) iO40 rfl dX5_ofSign_16 (by decide) in_X5_ofSign_X5 fl_X5_ofSign_38 rfl ?_
    refine v_bipush (x := 18) dX5_ofSign_19 (by decide +kernel) ?_
    refine v_iload_n dX5_ofSign_21 rfl ?_
    refine v_imul dX5_ofSign_22 ?_
    refine v_iload_n dX5_ofSign_23 rfl ?_
    refine v_iadd dX5_ofSign_24 ?_
    refine v_ialdN (i * 18 + k) iI50 dX5_ofSign_25 (by rw [show (18 : Int32) = nI 18 from rfl, pk_mul, nI_add, Nat.mul_comm 18]) (by have := wv_C hv; omega) (by decide) ?_
    refine v_top (mh_H hw (by have := wv_C hv; omega)) ?_
    refine v_iadd dX5_ofSign_26 ?_
    refine v_top (nI_add _ _) ?_
    refine v_istore_n (L' := [(2, _), (0, _), (1, _), (3, _)]) dX5_ofSign_27 rfl (by decide) rfl ?_
    refine v_iinc (y := nI (i + 1)) (L' := [(3, .int (nI (i + 1))), (2, _), (0, _), (1, _)]) dX5_ofSign_28 rfl (nI_1 i) (by decide) rfl ?_
    refine v_goto (tgt := 4) dX5_ofSign_31 (by decide) ?_
    refine v_sub [2, 3, 1, 0] rfl ?_
    exact ih
  · refine v_iload_n dX5_ofSign_4 rfl ?_
    refine v_aload_n dX5_ofSign_5 rfl ?_
    refine v_get (j := 5) iO40 rfl dX5_ofSign_6 (by decide) in_X5_ofSign_X5 fl_X5_ofSign_20 rfl ?_
    refine v_iconst (x := 0) dX5_ofSign_9 rfl ?_
    refine v_ialdN 0 iI44 dX5_ofSign_10 rfl (by decide) (by decide) ?_
    refine v_top (mh_C hw) ?_
    refine v_icmp_ge (tgt := 34) dX5_ofSign_11 (by decide) (fun c11 => ?_) (fun c11 => absurd (nI_le (Nat.le_refl _) (by have := wv_C hv; omega)) c11)
    refine v_iload_n dX5_ofSign_34 rfl ?_
    exact v_iret rfl dX5_ofSign_35 ⟨rfl, rfl⟩
set_option maxRecDepth 100000 in
set_option maxHeartbeats 4000000 in
theorem s_X5_partsOf {v : EE} {w : WD} {z : Nat} {σ : SS} (hw : MH 0 w σ) (hv : WV z w) (hz : z ≤ 1000000) {k : Nat} (hk : k < 18) : S1 v M_X5_partsOf [.ref (v.1 40), .int (nI k)] σ (some (.int (nI (psh w k)))) (σ) := by
  refine Sp.of rfl (by decide) rfl (Nat.le_of_ble_eq_true rfl) ?_
  show V v M_X5_partsOf _ 0 [(0, .ref (v.1 40)), (1, .int (nI k))] [] σ
  refine v_iconst (x := 0) dX5_partsOf_0 rfl ?_
  refine v_istore_n (L' := [(2, _), (0, _), (1, _)]) dX5_partsOf_1 rfl (by decide) rfl ?_
  refine v_iconst (x := 0) dX5_partsOf_2 rfl ?_
  refine v_istore_n (L' := [(3, _), (2, _), (0, _), (1, _)]) dX5_partsOf_3 rfl (by decide) rfl ?_
  refine v_sub [2, 3, 1, 0] rfl ?_
  refine loopN (fun i => V v M_X5_partsOf (zR v M_X5_partsOf (fun r' σ' => r' = (some (.int (nI (psh w k)))) ∧ σ' = (σ))) 4 [(0, .ref (v.1 40)), (1, .int (nI k)), (2, .int (nI (om (fun c => if 0 < wH w (c * 18 + k) then 2 ^ wQ w c else 0) i))), (3, .int (nI i))] [] (σ)) (wC w) ?_ ?_
  · intro i hi ih
    refine v_iload_n dX5_partsOf_4 rfl ?_
    refine v_aload_n dX5_partsOf_5 rfl ?_
    refine v_get (j := 5) iO40 rfl dX5_partsOf_6 (by decide) in_X5_partsOf_X5 fl_X5_partsOf_20 rfl ?_
    refine v_iconst (x := 0) dX5_partsOf_9 rfl ?_
    refine v_ialdN 0 iI44 dX5_partsOf_10 rfl (by decide) (by decide) ?_
    refine v_top (mh_C hw) ?_
    refine v_icmp_ge (tgt := 51) dX5_partsOf_11 (by decide) (fun c11 => absurd c11 (nI_ge hi (by have := wv_C hv; omega))) (fun c11 => ?_)
    refine v_iload_n dX5_partsOf_14 rfl ?_
    refine v_aload_n dX5_partsOf_15 rfl ?_
    refine v_get (j := 12) iO40 rfl dX5_partsOf_16 (by decide) in_X5_partsOf_X5 fl_X5_partsOf_38 rfl ?_
    refine v_bipush (x := 18) dX5_partsOf_19 (by decide +kernel) ?_
    refine v_iload_n dX5_partsOf_21 rfl ?_
    refine v_imul dX5_partsOf_22 ?_
    refine v_iload_n dX5_partsOf_23 rfl ?_
    refine v_iadd dX5_partsOf_24 ?_
    refine v_ialdN (i * 18 + k) iI50 dX5_partsOf_25 (by rw [show (18 : Int32) = nI 18 from rfl, pk_mul, nI_add, Nat.mul_comm 18]) (by have := wv_C hv; omega) (by decide) ?_
    refine v_top (mh_H hw (by have := wv_C hv; omega)) ?_
    refine v_if_le (tgt := 42) dX5_partsOf_26 (by decide) (fun c26 => ?_) (fun c26 => ?_)
    · refine v_iconst (x := 0) dX5_partsOf_42 rfl ?_
      refine v_ior dX5_partsOf_43 ?_
      refine v_top (fa_or _ 0) ?_
      refine v_istore_n (L' := [(2, _), (0, _), (1, _), (3, _)]) dX5_partsOf_44 rfl (by decide) rfl ?_
      have e : om (fun c => if 0 < wH w (c * 18 + k) then 2 ^ wQ w c else 0) (i + 1) = om (fun c => if 0 < wH w (c * 18 + k) then 2 ^ wQ w c else 0) i ||| 0 := by rw [om, if_neg (by rw [nI_le0 (by have := wv_H hv (j := i * 18 + k) (by have := wv_C hv; omega); omega)] at c26; omega)]
      rw [e] at ih
      refine v_iinc (y := nI (i + 1)) (L' := [(3, .int (nI (i + 1))), (2, _), (0, _), (1, _)]) dX5_partsOf_45 rfl (nI_1 i) (by decide) rfl ?_
      refine v_goto (tgt := 4) dX5_partsOf_48 (by decide) ?_
      refine v_sub [2, 3, 1, 0] rfl ?_
      exact ih
    · refine v_iconst (x := 1) dX5_partsOf_29 rfl ?_
      refine v_aload_n dX5_partsOf_30 rfl ?_
      refine v_get (j := 6) iO40 rfl dX5_partsOf_31 (by decide) in_X5_partsOf_X5 fl_X5_partsOf_23 rfl ?_
      refine v_iconst (x := 3) dX5_partsOf_34 rfl ?_
      refine v_iload_n dX5_partsOf_35 rfl ?_
      refine v_imul dX5_partsOf_36 ?_
      refine v_ialdN (3 * i) iI45 dX5_partsOf_37 (by rw [show (3 : Int32) = nI 3 from rfl, pk_mul]) (by have := wv_C hv; omega) (by decide) ?_
      refine v_top (mh_Q hw hi) ?_
      refine v_ishl dX5_partsOf_38 ?_
      refine v_goto (tgt := 43) dX5_partsOf_39 (by decide) ?_
      refine v_ior dX5_partsOf_43 ?_
      refine v_top (by rw [nI_shl1 _ (by have := wv_Q hv hi; omega), fa_or]) ?_
      refine v_istore_n (L' := [(2, _), (0, _), (1, _), (3, _)]) dX5_partsOf_44 rfl (by decide) rfl ?_
      have e : om (fun c => if 0 < wH w (c * 18 + k) then 2 ^ wQ w c else 0) (i + 1) = om (fun c => if 0 < wH w (c * 18 + k) then 2 ^ wQ w c else 0) i ||| 2 ^ wQ w i := by rw [om, if_pos (by rw [nI_le0 (by have := wv_H hv (j := i * 18 + k) (by have := wv_C hv; omega); omega)] at c26; omega)]
      rw [e] at ih
      refine v_iinc (y := nI (i + 1)) (L' := [(3, .int (nI (i + 1))), (2, _), (0, _), (1, _)]) dX5_partsOf_45 rfl (nI_1 i) (by decide) rfl ?_
      refine v_goto (tgt := 4) dX5_partsOf_48 (by decide) ?_
      refine v_sub [2, 3, 1, 0] rfl ?_
      exact ih
  · refine v_iload_n dX5_partsOf_4 rfl ?_
    refine v_aload_n dX5_partsOf_5 rfl ?_
    refine v_get (j := 5) iO40 rfl dX5_partsOf_6 (by decide) in_X5_partsOf_X5 fl_X5_partsOf_20 rfl ?_
    refine v_iconst (x := 0) dX5_partsOf_9 rfl ?_
    refine v_ialdN 0 iI44 dX5_partsOf_10 rfl (by decide) (by decide) ?_
    refine v_top (mh_C hw) ?_
    refine v_icmp_ge (tgt := 51) dX5_partsOf_11 (by decide) (fun c11 => ?_) (fun c11 => absurd (nI_le (Nat.le_refl _) (by have := wv_C hv; omega)) c11)
    refine v_iload_n dX5_partsOf_51 rfl ?_
    exact v_iret rfl dX5_partsOf_52 ⟨rfl, rfl⟩
set_option maxRecDepth 100000 in
set_option maxHeartbeats 4000000 in
theorem s_X5_allOf {v : EE} {w : WD} {z : Nat} {σ : SS} (hw : MH 0 w σ) (hv : WV z w) {c : Nat} (hc : c < wC w) : S1 v M_X5_allOf [.ref (v.1 40), .int (nI c)] σ (some (.int (nI (smc w c)))) (σ) := by
  refine Sp.of rfl (by decide) rfl (Nat.le_of_ble_eq_true rfl) ?_
  show V v M_X5_allOf _ 0 [(0, .ref (v.1 40)), (1, .int (nI c))] [] σ
  refine v_iconst (x := 0) dX5_allOf_0 rfl ?_
  refine v_istore_n (L' := [(2, _), (0, _), (1, _)]) dX5_allOf_1 rfl (by decide) rfl ?_
  refine v_iconst (x := 0) dX5_allOf_2 rfl ?_
  refine v_istore_n (L' := [(3, _), (2, _), (0, _), (1, _)]) dX5_allOf_3 rfl (by decide) rfl ?_
  refine v_sub [2, 3, 1, 0] rfl ?_
  refine loopN (fun i => V v M_X5_allOf (zR v M_X5_allOf (fun r' σ' => r' = (some (.int (nI (smc w c)))) ∧ σ' = (σ))) 4 [(0, .ref (v.1 40)), (1, .int (nI c)), (2, .int (nI (sm (fun k => wH w (c * 18 + k)) i))), (3, .int (nI i))] [] (σ)) 18 ?_ ?_
  · intro i hi ih
    refine v_iload_n dX5_allOf_4 rfl ?_
    refine v_bipush (x := 18) dX5_allOf_5 (by decide +kernel) ?_
    refine v_icmp_ge (tgt := 30) dX5_allOf_7 (by decide) (fun c7 => absurd c7 (nI_ge hi (by decide))) (fun c7 => ?_)
    refine v_iload_n dX5_allOf_10 rfl ?_
    refine v_aload_n dX5_allOf_11 rfl ?_
    refine v_get (j := 12) iO40 rfl dX5_allOf_12 (by decide) in_X5_allOf_X5 fl_X5_allOf_38 rfl ?_
    refine v_bipush (x := 18) dX5_allOf_15 (by decide +kernel) ?_
    refine v_iload_n dX5_allOf_17 rfl ?_
    refine v_imul dX5_allOf_18 ?_
    refine v_iload_n dX5_allOf_19 rfl ?_
    refine v_iadd dX5_allOf_20 ?_
    refine v_ialdN (c * 18 + i) iI50 dX5_allOf_21 (by rw [show (18 : Int32) = nI 18 from rfl, pk_mul, nI_add, Nat.mul_comm 18]) (by have := wv_C hv; omega) (by decide) ?_
    refine v_top (mh_H hw (by have := wv_C hv; omega)) ?_
    refine v_iadd dX5_allOf_22 ?_
    refine v_top (nI_add _ _) ?_
    refine v_istore_n (L' := [(2, _), (0, _), (1, _), (3, _)]) dX5_allOf_23 rfl (by decide) rfl ?_
    refine v_iinc (y := nI (i + 1)) (L' := [(3, .int (nI (i + 1))), (2, _), (0, _), (1, _)]) dX5_allOf_24 rfl (nI_1 i) (by decide) rfl ?_
    refine v_goto (tgt := 4) dX5_allOf_27 (by decide) ?_
    refine v_sub [2, 3, 1, 0] rfl ?_
    exact ih
  · refine v_iload_n dX5_allOf_4 rfl ?_
    refine v_bipush (x := 18) dX5_allOf_5 (by decide +kernel) ?_
    refine v_icmp_ge (tgt := 30) dX5_allOf_7 (by decide) (fun c7 => ?_) (fun c7 => absurd (nI_le (Nat.le_refl _) (by decide)) c7)
    refine v_iload_n dX5_allOf_30 rfl ?_
    exact v_iret rfl dX5_allOf_31 ⟨rfl, rfl⟩
set_option maxRecDepth 100000 in
set_option maxHeartbeats 4000000 in
theorem s_X5_lasts {v : EE} {w : WD} {z : Nat} {σ : SS} (hw : MH 0 w σ) (hv : WV z w) {c : Nat} (hc : c < wC w) : S1 v M_X5_lasts [.ref (v.1 40), .int (nI c)] σ (some (.int (nI (wks w c)))) (σ) := by
  refine Sp.of rfl (by decide) rfl (Nat.le_of_ble_eq_true rfl) ?_
  show V v M_X5_lasts _ 0 [(0, .ref (v.1 40)), (1, .int (nI c))] [] σ
  refine v_aload_n dX5_lasts_0 rfl ?_
  refine v_get (j := 6) iO40 rfl dX5_lasts_1 (by decide) in_X5_lasts_X5 fl_X5_lasts_23 rfl ?_
  refine v_iconst (x := 3) dX5_lasts_4 rfl ?_
  refine v_iload_n dX5_lasts_5 rfl ?_
  refine v_imul dX5_lasts_6 ?_
  refine v_iconst (x := 2) dX5_lasts_7 rfl ?_
  refine v_iadd dX5_lasts_8 ?_
  refine v_ialdN (3 * c + 2) iI45 dX5_lasts_9 (by rw [show (3 : Int32) = nI 3 from rfl, pk_mul, show (2 : Int32) = nI 2 from rfl, nI_add]) (by have := wv_C hv; omega) (by decide) ?_
  refine v_top (mh_B hw hc) ?_
  refine v_aload_n dX5_lasts_10 rfl ?_
  refine v_get (j := 6) iO40 rfl dX5_lasts_11 (by decide) in_X5_lasts_X5 fl_X5_lasts_23 rfl ?_
  refine v_iconst (x := 3) dX5_lasts_14 rfl ?_
  refine v_iload_n dX5_lasts_15 rfl ?_
  refine v_imul dX5_lasts_16 ?_
  refine v_iconst (x := 1) dX5_lasts_17 rfl ?_
  refine v_iadd dX5_lasts_18 ?_
  refine v_ialdN (3 * c + 1) iI45 dX5_lasts_19 (by rw [show (3 : Int32) = nI 3 from rfl, pk_mul, show (1 : Int32) = nI 1 from rfl, nI_add]) (by have := wv_C hv; omega) (by decide) ?_
  refine v_top (mh_A hw hc) ?_
  refine v_isub dX5_lasts_20 ?_
  refine v_top (pk_sub (wv_A hv hc).1) ?_
  refine v_iconst (x := 1) dX5_lasts_21 rfl ?_
  refine v_iadd dX5_lasts_22 ?_
  refine v_top (nI_1 _) ?_
  exact v_iret rfl dX5_lasts_23 ⟨rfl, rfl⟩
set_option maxRecDepth 100000 in
set_option maxHeartbeats 4000000 in
theorem s_X5_up {v : EE} {σ : SS} {a d : Nat} (hd1 : 1 ≤ d) (h : a + d < 2 ^ 31) : S1 v M_X5_up [.int (nI a), .int (nI d)] σ (some (.int (nI (upd' a d)))) (σ) := by
  refine Sp.of rfl (by decide) rfl (Nat.le_of_ble_eq_true rfl) ?_
  show V v M_X5_up _ 0 [(0, .int (nI a)), (1, .int (nI d))] [] σ
  refine v_iload_n dX5_up_0 rfl ?_
  refine v_iload_n dX5_up_1 rfl ?_
  refine v_iadd dX5_up_2 ?_
  refine v_iconst (x := 1) dX5_up_3 rfl ?_
  refine v_isub dX5_up_4 ?_
  refine v_top (by rw [nI_add, show (1 : Int32) = nI 1 from rfl, pk_sub (by omega)]) ?_
  refine v_iload_n dX5_up_5 rfl ?_
  refine v_idiv dX5_up_6 (nI_ne0 (by omega) (by omega)) ?_
  refine v_top (pk_div (by omega) (by omega) (by omega)) ?_
  exact v_iret rfl dX5_up_7 ⟨rfl, rfl⟩
set_option maxRecDepth 100000 in
set_option maxHeartbeats 4000000 in
theorem s_X5_asksOf {v : EE} {w : WD} {z : Nat} {σ : SS} (hw : MH 0 w σ) (hv : WV z w) (hz : z ≤ 1000000) {c k : Nat} (hc : c < wC w) (hk : k < 18) : S1 v M_X5_asksOf [.ref (v.1 40), .int (nI k), .int (nI c)] σ (some (.int (nI (ask w k c)))) (σ) := by
  refine Sp.of rfl (by decide) rfl (Nat.le_of_ble_eq_true rfl) ?_
  show V v M_X5_asksOf _ 0 [(0, .ref (v.1 40)), (1, .int (nI k)), (2, .int (nI c))] [] σ
  refine v_aload_n dX5_asksOf_0 rfl ?_
  refine v_get (j := 12) iO40 rfl dX5_asksOf_1 (by decide) in_X5_asksOf_X5 fl_X5_asksOf_38 rfl ?_
  refine v_bipush (x := 18) dX5_asksOf_4 (by decide +kernel) ?_
  refine v_iload_n dX5_asksOf_6 rfl ?_
  refine v_imul dX5_asksOf_7 ?_
  refine v_iload_n dX5_asksOf_8 rfl ?_
  refine v_iadd dX5_asksOf_9 ?_
  refine v_ialdN (c * 18 + k) iI50 dX5_asksOf_10 (by rw [show (18 : Int32) = nI 18 from rfl, pk_mul, nI_add, Nat.mul_comm 18]) (by have := wv_C hv; omega) (by decide) ?_
  refine v_top (mh_H hw (by have := wv_C hv; omega)) ?_
  refine v_aload_n dX5_asksOf_11 rfl ?_
  refine v_get (j := 10) iO40 rfl dX5_asksOf_12 (by decide) in_X5_asksOf_X5 fl_X5_asksOf_35 rfl ?_
  refine v_iconst (x := 0) dX5_asksOf_15 rfl ?_
  refine v_ialdN 0 iI49 dX5_asksOf_16 rfl (by decide) (by decide) ?_
  refine v_top (mh_P hw) ?_
  refine v_callSi (M' := M_X5_up) (As := [_, _]) (s_X5_up (wv_P hv).1 (by have := wv_P hv; have := wv_H hv (j := c * 18 + k) (by have := wv_C hv; omega); omega)) dX5_asksOf_17 gX5_asksOf_X5_up rfl nn_X5_up ⟨rfl, rfl⟩ ⟨by decide, by decide⟩ rfl rfl (Nat.le_of_ble_eq_true rfl) ?_
  exact v_iret rfl dX5_asksOf_20 ⟨rfl, rfl⟩
set_option maxRecDepth 100000 in
set_option maxHeartbeats 4000000 in
theorem s_X5_bits {v : EE} {σ : SS} {a : Nat} (h : a < 2 ^ 31) : S1 v M_X5_bits [.int (nI a)] σ (some (.int (nI (pc a)))) (σ) := by
  refine Sp.of rfl (by decide) rfl (Nat.le_of_ble_eq_true rfl) ?_
  show V v M_X5_bits _ 0 [(0, .int (nI a))] [] σ
  refine v_iconst (x := 0) dX5_bits_0 rfl ?_
  refine v_istore_n (L' := [(1, _), (0, _)]) dX5_bits_1 rfl (by decide) rfl ?_
  refine v_iconst (x := 0) dX5_bits_2 rfl ?_
  refine v_istore_n (L' := [(2, _), (1, _), (0, _)]) dX5_bits_3 rfl (by decide) rfl ?_
  refine v_sub [2, 1, 0] rfl ?_
  refine loopN (fun i => V v M_X5_bits (zR v M_X5_bits (fun r' σ' => r' = (some (.int (nI (pc a)))) ∧ σ' = (σ))) 4 [(0, .int (nI a)), (1, .int (nI (sm (fun j => a / 2 ^ j % 2) i))), (2, .int (nI i))] [] (σ)) 24 ?_ ?_
  · intro i hi ih
    refine v_iload_n dX5_bits_4 rfl ?_
    refine v_bipush (x := 24) dX5_bits_5 (by decide +kernel) ?_
    refine v_icmp_ge (tgt := 24) dX5_bits_7 (by decide) (fun c7 => absurd c7 (nI_ge hi (by decide))) (fun c7 => ?_)
    refine v_iload_n dX5_bits_10 rfl ?_
    refine v_iload_n dX5_bits_11 rfl ?_
    refine v_iload_n dX5_bits_12 rfl ?_
    refine v_ishr dX5_bits_13 ?_
    refine v_iconst (x := 1) dX5_bits_14 rfl ?_
    refine v_iand dX5_bits_15 ?_
    refine v_top (nI_bit h (by omega)) ?_
    refine v_iadd dX5_bits_16 ?_
    refine v_top (nI_add _ _) ?_
    refine v_istore_n (L' := [(1, _), (0, _), (2, _)]) dX5_bits_17 rfl (by decide) rfl ?_
    refine v_iinc (y := nI (i + 1)) (L' := [(2, .int (nI (i + 1))), (1, _), (0, _)]) dX5_bits_18 rfl (nI_1 i) (by decide) rfl ?_
    refine v_goto (tgt := 4) dX5_bits_21 (by decide) ?_
    refine v_sub [2, 1, 0] rfl ?_
    exact ih
  · refine v_iload_n dX5_bits_4 rfl ?_
    refine v_bipush (x := 24) dX5_bits_5 (by decide +kernel) ?_
    refine v_icmp_ge (tgt := 24) dX5_bits_7 (by decide) (fun c7 => ?_) (fun c7 => absurd (nI_le (Nat.le_refl _) (by decide)) c7)
    refine v_iload_n dX5_bits_24 rfl ?_
    exact v_iret rfl dX5_bits_25 ⟨rfl, rfl⟩
set_option maxRecDepth 100000 in
set_option maxHeartbeats 4000000 in
theorem s_X5_weeks {v : EE} {σ : SS} {a d : Nat} (h : a ≤ d) (hd : d < 24) : S1 v M_X5_weeks [.int (nI a), .int (nI d)] σ (some (.int (nI (2 ^ (d + 1) - 2 ^ a)))) (σ) := by
  refine Sp.of rfl (by decide) rfl (Nat.le_of_ble_eq_true rfl) ?_
  show V v M_X5_weeks _ 0 [(0, .int (nI a)), (1, .int (nI d))] [] σ
  refine v_iconst (x := 1) dX5_weeks_0 rfl ?_
  refine v_iload_n dX5_weeks_1 rfl ?_
  refine v_iconst (x := 1) dX5_weeks_2 rfl ?_
  refine v_iadd dX5_weeks_3 ?_
  refine v_ishl dX5_weeks_4 ?_
  refine v_iconst (x := 1) dX5_weeks_5 rfl ?_
  refine v_iload_n dX5_weeks_6 rfl ?_
  refine v_ishl dX5_weeks_7 ?_
  refine v_isub dX5_weeks_8 ?_
  refine v_top (by rw [nI_1, nI_shl1 _ (by omega), nI_shl1 _ (by omega), pk_sub (Nat.pow_le_pow_right (by decide) (by omega))]) ?_
  exact v_iret rfl dX5_weeks_9 ⟨rfl, rfl⟩
def two (w : WD) (p q : Int32) : Bool := isP w p && isP w q && !decide (p = q)
set_option maxRecDepth 100000 in
set_option maxHeartbeats 4000000 in
theorem s_X5_areTwo {v : EE} {w : WD} {z : Nat} {σ : SS} (hw : MH 0 w σ) (hv : WV z w) (p q : Int32) : S1 v M_X5_areTwo [.ref (v.1 40), .int p, .int q] σ (some (.int (bI (two w p q)))) (σ) := by
  refine Sp.of rfl (by decide) rfl (Nat.le_of_ble_eq_true rfl) ?_
  show V v M_X5_areTwo _ 0 [(0, .ref (v.1 40)), (1, .int p), (2, .int q)] [] σ
  refine v_aload_n dX5_areTwo_0 rfl ?_
  refine v_iload_n dX5_areTwo_1 rfl ?_
  refine v_callVi (M' := M_X5_isPart) (As := [_]) iO40 (s_X5_isPart hw hv _) dX5_areTwo_2 gX5_areTwo_X5_isPart rfl rfl nn_X5_isPart ⟨rfl, rfl⟩ ⟨by decide, by decide⟩ rfl rfl (Nat.le_of_ble_eq_true rfl) ?_
  refine v_if_eq (tgt := 25) dX5_areTwo_5 (by decide) (fun c5 => ?_) (fun c5 => ?_)
  · refine v_iconst (x := 0) dX5_areTwo_25 rfl ?_
    exact v_zret rfl (by decide) dX5_areTwo_26 ⟨congrArg (fun z => some (Value.int z)) (bI_f (by rw [two, bI_0.mp c5]; rfl)), rfl⟩
  · refine v_aload_n dX5_areTwo_8 rfl ?_
    refine v_iload_n dX5_areTwo_9 rfl ?_
    refine v_callVi (M' := M_X5_isPart) (As := [_]) iO40 (s_X5_isPart hw hv _) dX5_areTwo_10 gX5_areTwo_X5_isPart rfl rfl nn_X5_isPart ⟨rfl, rfl⟩ ⟨by decide, by decide⟩ rfl rfl (Nat.le_of_ble_eq_true rfl) ?_
    refine v_if_eq (tgt := 25) dX5_areTwo_13 (by decide) (fun c13 => ?_) (fun c13 => ?_)
    · refine v_iconst (x := 0) dX5_areTwo_25 rfl ?_
      exact v_zret rfl (by decide) dX5_areTwo_26 ⟨congrArg (fun z => some (Value.int z)) (bI_f (by rw [two, bI_0.mp c13, Bool.and_false]; rfl)), rfl⟩
    · refine v_iload_n dX5_areTwo_16 rfl ?_
      refine v_iload_n dX5_areTwo_17 rfl ?_
      refine v_icmp_eq (tgt := 25) dX5_areTwo_18 (by decide) (fun c18 => ?_) (fun c18 => ?_)
      · refine v_iconst (x := 0) dX5_areTwo_25 rfl ?_
        exact v_zret rfl (by decide) dX5_areTwo_26 ⟨congrArg (fun z => some (Value.int z)) (bI_f (by rw [two, decide_eq_true c18]; exact Bool.and_false _)), rfl⟩
      · refine v_iconst (x := 1) dX5_areTwo_21 rfl ?_
        refine v_goto (tgt := 26) dX5_areTwo_22 (by decide) ?_
        exact v_zret rfl (by decide) dX5_areTwo_26 ⟨congrArg (fun z => some (Value.int z)) (bI_t (by rw [two, bI_n0.mp c5, bI_n0.mp c13, decide_eq_false c18]; rfl)), rfl⟩
