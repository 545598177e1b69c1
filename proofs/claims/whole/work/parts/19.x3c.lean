theorem in_X3_firstWeekShowing_X3 : ∀ w ∈ u_ws RX3 TX3 12, w ∈ mWs M_X3_firstWeekShowing := by decide +kernel
theorem in_X3_mayHaveCut_X3 : ∀ w ∈ u_ws RX3 TX3 12, w ∈ mWs M_X3_mayHaveCut := by decide +kernel
theorem in_X3_menAtLeast_X3 : ∀ w ∈ u_ws RX3 TX3 12, w ∈ mWs M_X3_menAtLeast := by decide +kernel
theorem in_X3_oneCourseShowsBoth_X3 : ∀ w ∈ u_ws RX3 TX3 12, w ∈ mWs M_X3_oneCourseShowsBoth := by decide +kernel
theorem in_X3_weeksAsked_X3 : ∀ w ∈ u_ws RX3 TX3 12, w ∈ mWs M_X3_weeksAsked := by decide +kernel
theorem fl_X3_firstWeekShowing_21 : Cond.fieldLink (mOwn M_X3_firstWeekShowing) 21 (TX3 3).1 (TX3 3).2.1 (TX3 3).2.2.1 ∈ mWs M_X3_firstWeekShowing := by decide +kernel
theorem fl_X3_firstWeekShowing_43 : Cond.fieldLink (mOwn M_X3_firstWeekShowing) 43 (TX3 9).1 (TX3 9).2.1 (TX3 9).2.2.1 ∈ mWs M_X3_firstWeekShowing := by decide +kernel
theorem fl_X3_mayHaveCut_21 : Cond.fieldLink (mOwn M_X3_mayHaveCut) 21 (TX3 3).1 (TX3 3).2.1 (TX3 3).2.2.1 ∈ mWs M_X3_mayHaveCut := by decide +kernel
theorem fl_X3_mayHaveCut_24 : Cond.fieldLink (mOwn M_X3_mayHaveCut) 24 (TX3 4).1 (TX3 4).2.1 (TX3 4).2.2.1 ∈ mWs M_X3_mayHaveCut := by decide +kernel
theorem fl_X3_mayHaveCut_33 : Cond.fieldLink (mOwn M_X3_mayHaveCut) 33 (TX3 7).1 (TX3 7).2.1 (TX3 7).2.2.1 ∈ mWs M_X3_mayHaveCut := by decide +kernel
theorem fl_X3_mayHaveCut_43 : Cond.fieldLink (mOwn M_X3_mayHaveCut) 43 (TX3 9).1 (TX3 9).2.1 (TX3 9).2.2.1 ∈ mWs M_X3_mayHaveCut := by decide +kernel
theorem fl_X3_menAtLeast_36 : Cond.fieldLink (mOwn M_X3_menAtLeast) 36 (TX3 11).1 (TX3 11).2.1 (TX3 11).2.2.1 ∈ mWs M_X3_menAtLeast := by decide +kernel
theorem fl_X3_oneCourseShowsBoth_43 : Cond.fieldLink (mOwn M_X3_oneCourseShowsBoth) 43 (TX3 9).1 (TX3 9).2.1 (TX3 9).2.2.1 ∈ mWs M_X3_oneCourseShowsBoth := by decide +kernel
theorem fl_X3_weeksAsked_36 : Cond.fieldLink (mOwn M_X3_weeksAsked) 36 (TX3 11).1 (TX3 11).2.1 (TX3 11).2.2.1 ∈ mWs M_X3_weeksAsked := by decide +kernel
theorem nn_J6_bitCount_0f7a4 : (mY M_J6_bitCount_0f7a4).cls ≠ "java/lang/invoke/MethodHandle" ∧ (mY M_J6_bitCount_0f7a4).cls ≠ "java/lang/invoke/VarHandle" ∧ (parseMethodDescriptor (mY M_J6_bitCount_0f7a4).desc).map (fun d => d.parameters.length) = some 1 := by decide +kernel
theorem nn_X3_hasName : (mY M_X3_hasName).cls = mOwn M_X3_hasName ∧ (mY M_X3_hasName).cls ≠ "java/lang/invoke/MethodHandle" ∧ (mY M_X3_hasName).cls ≠ "java/lang/invoke/VarHandle" ∧ (parseMethodDescriptor (mY M_X3_hasName).desc).map (fun d => d.parameters.length) = some 1 := by decide +kernel
theorem nn_X3_menAtLeast : (mY M_X3_menAtLeast).cls = mOwn M_X3_menAtLeast ∧ (mY M_X3_menAtLeast).cls ≠ "java/lang/invoke/MethodHandle" ∧ (mY M_X3_menAtLeast).cls ≠ "java/lang/invoke/VarHandle" ∧ (parseMethodDescriptor (mY M_X3_menAtLeast).desc).map (fun d => d.parameters.length) = some 1 := by decide +kernel
theorem nn_X3_weekBits : (mY M_X3_weekBits).cls ≠ "java/lang/invoke/MethodHandle" ∧ (mY M_X3_weekBits).cls ≠ "java/lang/invoke/VarHandle" ∧ (parseMethodDescriptor (mY M_X3_weekBits).desc).map (fun d => d.parameters.length) = some 2 := by decide +kernel
theorem nn_X3_weeksAsked : (mY M_X3_weeksAsked).cls = mOwn M_X3_weeksAsked ∧ (mY M_X3_weeksAsked).cls ≠ "java/lang/invoke/MethodHandle" ∧ (mY M_X3_weeksAsked).cls ≠ "java/lang/invoke/VarHandle" ∧ (parseMethodDescriptor (mY M_X3_weeksAsked).desc).map (fun d => d.parameters.length) = some 2 := by decide +kernel
theorem nn_X3_weeksOfCourse : (mY M_X3_weeksOfCourse).cls = mOwn M_X3_weeksOfCourse ∧ (mY M_X3_weeksOfCourse).cls ≠ "java/lang/invoke/MethodHandle" ∧ (mY M_X3_weeksOfCourse).cls ≠ "java/lang/invoke/VarHandle" ∧ (parseMethodDescriptor (mY M_X3_weeksOfCourse).desc).map (fun d => d.parameters.length) = some 1 := by decide +kernel
theorem nn_X4_roundedUp : (mY M_X4_roundedUp).cls ≠ "java/lang/invoke/MethodHandle" ∧ (mY M_X4_roundedUp).cls ≠ "java/lang/invoke/VarHandle" ∧ (parseMethodDescriptor (mY M_X4_roundedUp).desc).map (fun d => d.parameters.length) = some 2 := by decide +kernel
theorem ssb_lt {z : Nat} {w : WD} (hv : WV z w) (c : Nat) : ssb w c < 2 ^ 16 := om_lt (fun k hk => by
  have := wv_S hv
  by_cases h : 0 < wH w (c * 18 + k)
  · simp only [h, if_true]; exact Nat.pow_lt_pow_right (by decide) (by omega)
  · simp only [h, if_false]; exact Nat.two_pow_pos _)
theorem pc_le (a : Nat) : pc a ≤ 24 := by
  have h := sm_le (f := fun i => a / 2 ^ i % 2) (c := 1) (n := 24) (fun k _ => by omega)
  exact h
theorem smc_le {z : Nat} {w : WD} (hv : WV z w) {c : Nat} (hc : c < wC w) : smc w c ≤ 18 * z := sm_le (fun k hk => wv_H hv (by have := wv_C hv; omega))
def mnL (w : WD) (c : Nat) : Nat := max (pc (ssb w c)) (upd' (smc w c) (wP w * wks w c))
def mnM (w : WD) (c : Nat) : Nat := max (pc (ssb w c) + (wH w (c * 18 + 16) + wH w (c * 18 + 17))) (mnL w c)
def ask (w : WD) (k c : Nat) : Nat := upd' (wH w (c * 18 + k)) (wP w)
theorem wks_le {z : Nat} {w : WD} (hv : WV z w) {c : Nat} (hc : c < wC w) : 1 ≤ wks w c ∧ wks w c ≤ 24 := by
  have := wv_A hv hc
  rw [wks]; omega
theorem pw_le {z : Nat} {w : WD} (hv : WV z w) {c : Nat} (hc : c < wC w) : 1 ≤ wP w * wks w c ∧ wP w * wks w c ≤ 99 * 24 := by
  have h1 := wv_P hv
  have h2 := wks_le hv hc
  exact ⟨Nat.mul_pos h1.1 h2.1, Nat.mul_le_mul h1.2 h2.2⟩
theorem upd'_le {a d : Nat} (hd : 1 ≤ d) : upd' a d ≤ a + d := by
  rw [upd']
  exact Nat.le_trans (Nat.div_le_self _ _) (by omega)
set_option maxRecDepth 100000 in
set_option maxHeartbeats 4000000 in
theorem s_X3_menAtLeast {v : EE} {b : Nat} (hb : isW b) {w : WD} {z : Nat} {σ : SS} (hw : CH b w σ) (hv : WV z w) (hz : z ≤ 1000000) {c : Nat} (hc : c < wC w) : S1 v M_X3_menAtLeast [.ref (v.1 b), .int (nI c)] σ (some (.int (nI (mnL w c)))) (σ) := by
  refine Sp.of rfl (by decide) rfl (Nat.le_of_ble_eq_true rfl) ?_
  show V v M_X3_menAtLeast _ 0 [(0, .ref (v.1 b)), (1, .int (nI c))] [] σ
  refine v_aload_n dX3_menAtLeast_0 rfl ?_
  refine v_iload_n dX3_menAtLeast_1 rfl ?_
  refine v_callVi (M' := M_X3_signsShownBy) (As := [_]) (iWO hb) (s_X3_signsShownBy hb hw hv hz hc) dX3_menAtLeast_2 gX3_menAtLeast_X3_signsShownBy rfl rfl nn_X3_signsShownBy ⟨rfl, rfl⟩ ⟨by decide, by decide⟩ rfl rfl (Nat.le_of_ble_eq_true rfl) ?_
  refine v_callSi (M' := M_J6_bitCount_0f7a4) (As := [_]) (s_J6_bitCount_0f7a4 (Nat.lt_of_lt_of_le (ssb_lt hv c) (by decide))) dX3_menAtLeast_5 gX3_menAtLeast_J6_bitCount_0f7a4 rfl nn_J6_bitCount_0f7a4 ⟨rfl, rfl⟩ ⟨by decide, by decide⟩ rfl rfl (Nat.le_of_ble_eq_true rfl) ?_
  refine v_istore_n (L' := [(2, _), (0, _), (1, _)]) dX3_menAtLeast_8 rfl (by decide) rfl ?_
  refine v_iload_n dX3_menAtLeast_9 rfl ?_
  refine v_aload_n dX3_menAtLeast_10 rfl ?_
  refine v_iload_n dX3_menAtLeast_11 rfl ?_
  refine v_callVi (M' := M_X3_stonesOfCourse) (As := [_]) (iWO hb) (s_X3_stonesOfCourse hb hw hv hc) dX3_menAtLeast_12 gX3_menAtLeast_X3_stonesOfCourse rfl rfl nn_X3_stonesOfCourse ⟨rfl, rfl⟩ ⟨by decide, by decide⟩ rfl rfl (Nat.le_of_ble_eq_true rfl) ?_
  refine v_aload_n dX3_menAtLeast_15 rfl ?_
  refine v_get (j := 11) (iWO hb) rfl dX3_menAtLeast_16 (by decide) in_X3_menAtLeast_X3 fl_X3_menAtLeast_36 rfl ?_
  refine v_top (ch_P hw) ?_
  refine v_aload_n dX3_menAtLeast_19 rfl ?_
  refine v_iload_n dX3_menAtLeast_20 rfl ?_
  refine v_callVi (M' := M_X3_weeksOfCourse) (As := [_]) (iWO hb) (s_X3_weeksOfCourse hb hw hv hc) dX3_menAtLeast_21 gX3_menAtLeast_X3_weeksOfCourse rfl rfl nn_X3_weeksOfCourse ⟨rfl, rfl⟩ ⟨by decide, by decide⟩ rfl rfl (Nat.le_of_ble_eq_true rfl) ?_
  refine v_imul dX3_menAtLeast_24 ?_
  refine v_top (pk_mul _ _) ?_
  refine v_callNi (M' := M_X4_roundedUp) (As := [_, _]) (s_X4_roundedUp (pw_le hv hc).1 (by have := smc_le hv hc; have := pw_le hv hc; omega)) ⟨rfl, rfl⟩ ⟨by decide +kernel, by decide +kernel⟩ dX3_menAtLeast_25 gX3_menAtLeast_X4_roundedUp_n124 rfl nn_X4_roundedUp ⟨rfl, rfl⟩ ⟨by decide, by decide⟩ rfl rfl (Nat.le_of_ble_eq_true rfl) ?_
  refine v_mmax dX3_menAtLeast_28 (by decide +kernel) ⟨by decide, Nat.le_of_ble_eq_true rfl⟩ ?_
  refine v_top (nI_max (by have := pc_le (ssb w c); omega) (by have := upd'_le (a := smc w c) (pw_le hv hc).1; have := smc_le hv hc; have := pw_le hv hc; omega)) ?_
  exact v_iret rfl dX3_menAtLeast_31 ⟨rfl, rfl⟩
theorem mnL_le {z : Nat} {w : WD} (hv : WV z w) (hz : z ≤ 1000000) {c : Nat} (hc : c < wC w) : mnL w c < 2 ^ 25 := by
  have h1 := pc_le (ssb w c)
  have h2 := upd'_le (a := smc w c) (pw_le hv hc).1
  have h3 := smc_le hv hc
  have h4 := pw_le hv hc
  rw [mnL]
  omega
set_option maxRecDepth 100000 in
set_option maxHeartbeats 4000000 in
theorem s_X3_menAtMost {v : EE} {b : Nat} (hb : isW b) {w : WD} {z : Nat} {σ : SS} (hw : CH b w σ) (hv : WV z w) (hz : z ≤ 1000000) {c : Nat} (hc : c < wC w) : S1 v M_X3_menAtMost [.ref (v.1 b), .int (nI c)] σ (some (.int (nI (mnM w c)))) (σ) := by
  refine Sp.of rfl (by decide) rfl (Nat.le_of_ble_eq_true rfl) ?_
  show V v M_X3_menAtMost _ 0 [(0, .ref (v.1 b)), (1, .int (nI c))] [] σ
  refine v_aload_n dX3_menAtMost_0 rfl ?_
  refine v_iload_n dX3_menAtMost_1 rfl ?_
  refine v_bipush (x := 16) dX3_menAtMost_2 (by decide +kernel) ?_
  refine v_callVi (M' := M_X3_stonesAt) (As := [_, _]) (iWO hb) (s_X3_stonesAt hb hw hv hc (k := 16) (by decide)) dX3_menAtMost_4 gX3_menAtMost_X3_stonesAt rfl rfl nn_X3_stonesAt ⟨rfl, rfl⟩ ⟨by decide, by decide⟩ rfl rfl (Nat.le_of_ble_eq_true rfl) ?_
  refine v_aload_n dX3_menAtMost_7 rfl ?_
  refine v_iload_n dX3_menAtMost_8 rfl ?_
  refine v_bipush (x := 17) dX3_menAtMost_9 (by decide +kernel) ?_
  refine v_callVi (M' := M_X3_stonesAt) (As := [_, _]) (iWO hb) (s_X3_stonesAt hb hw hv hc (k := 17) (by decide)) dX3_menAtMost_11 gX3_menAtMost_X3_stonesAt rfl rfl nn_X3_stonesAt ⟨rfl, rfl⟩ ⟨by decide, by decide⟩ rfl rfl (Nat.le_of_ble_eq_true rfl) ?_
  refine v_iadd dX3_menAtMost_14 ?_
  refine v_top (nI_add _ _) ?_
  refine v_istore_n (L' := [(2, _), (0, _), (1, _)]) dX3_menAtMost_15 rfl (by decide) rfl ?_
  refine v_aload_n dX3_menAtMost_16 rfl ?_
  refine v_iload_n dX3_menAtMost_17 rfl ?_
  refine v_callVi (M' := M_X3_signsShownBy) (As := [_]) (iWO hb) (s_X3_signsShownBy hb hw hv hz hc) dX3_menAtMost_18 gX3_menAtMost_X3_signsShownBy rfl rfl nn_X3_signsShownBy ⟨rfl, rfl⟩ ⟨by decide, by decide⟩ rfl rfl (Nat.le_of_ble_eq_true rfl) ?_
  refine v_callSi (M' := M_J6_bitCount_0f7a4) (As := [_]) (s_J6_bitCount_0f7a4 (Nat.lt_of_lt_of_le (ssb_lt hv c) (by decide))) dX3_menAtMost_21 gX3_menAtMost_J6_bitCount_0f7a4 rfl nn_J6_bitCount_0f7a4 ⟨rfl, rfl⟩ ⟨by decide, by decide⟩ rfl rfl (Nat.le_of_ble_eq_true rfl) ?_
  refine v_iload_n dX3_menAtMost_24 rfl ?_
  refine v_iadd dX3_menAtMost_25 ?_
  refine v_top (nI_add _ _) ?_
  refine v_aload_n dX3_menAtMost_26 rfl ?_
  refine v_iload_n dX3_menAtMost_27 rfl ?_
  refine v_callVi (M' := M_X3_menAtLeast) (As := [_]) (iWO hb) (s_X3_menAtLeast hb hw hv hz hc) dX3_menAtMost_28 gX3_menAtMost_X3_menAtLeast rfl rfl nn_X3_menAtLeast ⟨rfl, rfl⟩ ⟨by decide, by decide⟩ rfl rfl (Nat.le_of_ble_eq_true rfl) ?_
  refine v_mmax dX3_menAtMost_31 (by decide +kernel) ⟨by decide, Nat.le_of_ble_eq_true rfl⟩ ?_
  refine v_top (nI_max (by have := pc_le (ssb w c); have := wv_H hv (j := c * 18 + 16) (by have := wv_C hv; omega); have := wv_H hv (j := c * 18 + 17) (by have := wv_C hv; omega); omega) (by have := mnL_le hv hz hc; omega)) ?_
  exact v_iret rfl dX3_menAtMost_34 ⟨rfl, rfl⟩
set_option maxRecDepth 100000 in
set_option maxHeartbeats 4000000 in
theorem s_X3_weeksAsked {v : EE} {b : Nat} (hb : isW b) {w : WD} {z : Nat} {σ : SS} (hw : CH b w σ) (hv : WV z w) (hz : z ≤ 1000000) {c k : Nat} (hc : c < wC w) (hk : k < 18) : S1 v M_X3_weeksAsked [.ref (v.1 b), .int (nI k), .int (nI c)] σ (some (.int (nI (ask w k c)))) (σ) := by
  refine Sp.of rfl (by decide) rfl (Nat.le_of_ble_eq_true rfl) ?_
  show V v M_X3_weeksAsked _ 0 [(0, .ref (v.1 b)), (1, .int (nI k)), (2, .int (nI c))] [] σ
  refine v_aload_n dX3_weeksAsked_0 rfl ?_
  refine v_iload_n dX3_weeksAsked_1 rfl ?_
  refine v_iload_n dX3_weeksAsked_2 rfl ?_
  refine v_callVi (M' := M_X3_stonesAt) (As := [_, _]) (iWO hb) (s_X3_stonesAt hb hw hv hc hk) dX3_weeksAsked_3 gX3_weeksAsked_X3_stonesAt rfl rfl nn_X3_stonesAt ⟨rfl, rfl⟩ ⟨by decide, by decide⟩ rfl rfl (Nat.le_of_ble_eq_true rfl) ?_
  refine v_aload_n dX3_weeksAsked_6 rfl ?_
  refine v_get (j := 11) (iWO hb) rfl dX3_weeksAsked_7 (by decide) in_X3_weeksAsked_X3 fl_X3_weeksAsked_36 rfl ?_
  refine v_top (ch_P hw) ?_
  refine v_callNi (M' := M_X4_roundedUp) (As := [_, _]) (s_X4_roundedUp (wv_P hv).1 (by have := wv_P hv; have := wv_H hv (j := c * 18 + k) (by have := wv_C hv; omega); omega)) ⟨rfl, rfl⟩ ⟨by decide +kernel, by decide +kernel⟩ dX3_weeksAsked_10 gX3_weeksAsked_X4_roundedUp_n124 rfl nn_X4_roundedUp ⟨rfl, rfl⟩ ⟨by decide, by decide⟩ rfl rfl (Nat.le_of_ble_eq_true rfl) ?_
  exact v_iret rfl dX3_weeksAsked_13 ⟨rfl, rfl⟩
def mayc (w : WD) (m k : Nat) : Bool := allB (fun c => decide (ask w k c ≤ pc (wK w m &&& wbt w c))) (wC w)
theorem and_lt24 {z : Nat} {w : WD} (hv : WV z w) {m : Nat} (hm : m < wN w) (x : Nat) : wK w m &&& x < 2 ^ 24 := Nat.lt_of_le_of_lt Nat.and_le_left (hv.2.2.2.2.2.2 m hm)
theorem ask_lt {z : Nat} {w : WD} (hv : WV z w) (hz : z ≤ 1000000) {c k : Nat} (hc : c < wC w) (hk : k < 18) : ask w k c < 2 ^ 25 := by
  have h1 := upd'_le (a := wH w (c * 18 + k)) (wv_P hv).1
  have h2 := wv_H hv (j := c * 18 + k) (by have := wv_C hv; omega)
  have h3 := wv_P hv
  rw [ask]
  omega
set_option maxRecDepth 100000 in
set_option maxHeartbeats 4000000 in
theorem s_X3_mayHaveCut {v : EE} {b : Nat} (hb : isW b) {w : WD} {z : Nat} {σ : SS} (hw : CH b w σ) (hv : WV z w) (hz : z ≤ 1000000) {m k : Nat} (hm : m < wN w) (hk : k < 18) : S1 v M_X3_mayHaveCut [.ref (v.1 b), .int (nI m), .int (nI k)] σ (some (.int (bI (mayc w m k)))) (σ) := by
  refine Sp.of rfl (by decide) rfl (Nat.le_of_ble_eq_true rfl) ?_
  show V v M_X3_mayHaveCut _ 0 [(0, .ref (v.1 b)), (1, .int (nI m)), (2, .int (nI k))] [] σ
  refine v_aload_n dX3_mayHaveCut_0 rfl ?_
  refine v_iload_n dX3_mayHaveCut_1 rfl ?_
  refine v_callVi (M' := M_X3_hasName) (As := [_]) (iWO hb) (s_X3_hasName hb hw hv _) dX3_mayHaveCut_2 gX3_mayHaveCut_X3_hasName rfl rfl nn_X3_hasName ⟨rfl, rfl⟩ ⟨by decide, by decide⟩ rfl rfl (Nat.le_of_ble_eq_true rfl) ?_
  refine v_if_ne (tgt := 10) dX3_mayHaveCut_5 (by decide) (fun c5 => ?_) (fun c5 => absurd c5 (by rw [isN_of hm (by have := wv_N hv; omega)]; decide))
  refine v_iconst (x := 0) dX3_mayHaveCut_10 rfl ?_
  refine v_istore_n (L' := [(3, _), (0, _), (1, _), (2, _)]) dX3_mayHaveCut_11 rfl (by decide) rfl ?_
  refine v_sub [1, 2, 3, 0] rfl ?_
  refine loopN (fun i => allB (fun c => decide (ask w k c ≤ pc (wK w m &&& wbt w c))) i = true → V v M_X3_mayHaveCut (zR v M_X3_mayHaveCut (fun r' σ' => r' = (some (.int (bI (mayc w m k)))) ∧ σ' = (σ))) 12 [(0, .ref (v.1 b)), (1, .int (nI m)), (2, .int (nI k)), (3, .int (nI i))] [] σ) (wC w) ?_ ?_ rfl
  · intro i hi ih hal
    refine v_iload_n dX3_mayHaveCut_12 rfl ?_
    refine v_aload_n dX3_mayHaveCut_13 rfl ?_
    refine v_get (j := 9) (iWO hb) rfl dX3_mayHaveCut_14 (by decide) in_X3_mayHaveCut_X3 fl_X3_mayHaveCut_43 rfl ?_
    refine v_top (ch_C hw) ?_
    refine v_icmp_ge (tgt := 66) dX3_mayHaveCut_17 (by decide) (fun c17 => absurd c17 (nI_ge hi (by have := wv_C hv; omega))) (fun c17 => ?_)
    refine v_aload_n dX3_mayHaveCut_20 rfl ?_
    refine v_get (j := 7) (iWO hb) rfl dX3_mayHaveCut_21 (by decide) in_X3_mayHaveCut_X3 fl_X3_mayHaveCut_33 rfl ?_
    refine v_iload_n dX3_mayHaveCut_24 rfl ?_
    refine v_ialdN m (iW8 hb) dX3_mayHaveCut_25 rfl (by have := wv_N hv; omega) (by decide) ?_
    refine v_top (ch_K hw hm) ?_
    refine v_aload_n dX3_mayHaveCut_26 rfl ?_
    refine v_get (j := 3) (iWO hb) rfl dX3_mayHaveCut_27 (by decide) in_X3_mayHaveCut_X3 fl_X3_mayHaveCut_21 rfl ?_
    refine v_iload_n dX3_mayHaveCut_30 rfl ?_
    refine v_ialdN i (iW4 hb) dX3_mayHaveCut_31 rfl (by have := wv_C hv; omega) (by decide) ?_
    refine v_top (ch_A hw hi) ?_
    refine v_aload_n dX3_mayHaveCut_32 rfl ?_
    refine v_get (j := 4) (iWO hb) rfl dX3_mayHaveCut_33 (by decide) in_X3_mayHaveCut_X3 fl_X3_mayHaveCut_24 rfl ?_
    refine v_iload_n dX3_mayHaveCut_36 rfl ?_
    refine v_ialdN i (iW5 hb) dX3_mayHaveCut_37 rfl (by have := wv_C hv; omega) (by decide) ?_
    refine v_top (ch_B hw hi) ?_
    refine v_callSi (M' := M_X3_weekBits) (As := [_, _]) (s_X3_weekBits (wv_A hv hi).1 (wv_A hv hi).2) dX3_mayHaveCut_38 gX3_mayHaveCut_X3_weekBits rfl nn_X3_weekBits ⟨rfl, rfl⟩ ⟨by decide, by decide⟩ rfl rfl (Nat.le_of_ble_eq_true rfl) ?_
    refine v_iand dX3_mayHaveCut_41 ?_
    refine v_top (fa_and _ _) ?_
    refine v_istore (L' := [(4, _), (0, _), (1, _), (2, _), (3, _)]) dX3_mayHaveCut_42 (by decide) rfl ?_
    refine v_iload dX3_mayHaveCut_44 rfl ?_
    refine v_callSi (M' := M_J6_bitCount_0f7a4) (As := [_]) (s_J6_bitCount_0f7a4 (and_lt24 hv hm _)) dX3_mayHaveCut_46 gX3_mayHaveCut_J6_bitCount_0f7a4 rfl nn_J6_bitCount_0f7a4 ⟨rfl, rfl⟩ ⟨by decide, by decide⟩ rfl rfl (Nat.le_of_ble_eq_true rfl) ?_
    refine v_aload_n dX3_mayHaveCut_49 rfl ?_
    refine v_iload_n dX3_mayHaveCut_50 rfl ?_
    refine v_iload_n dX3_mayHaveCut_51 rfl ?_
    refine v_callVi (M' := M_X3_weeksAsked) (As := [_, _]) (iWO hb) (s_X3_weeksAsked hb hw hv hz hi hk) dX3_mayHaveCut_52 gX3_mayHaveCut_X3_weeksAsked rfl rfl nn_X3_weeksAsked ⟨rfl, rfl⟩ ⟨by decide, by decide⟩ rfl rfl (Nat.le_of_ble_eq_true rfl) ?_
    refine v_icmp_ge (tgt := 60) dX3_mayHaveCut_55 (by decide) (fun c55 => ?_) (fun c55 => ?_)
    · refine v_iinc (y := nI (i + 1)) (L' := [(3, .int (nI (i + 1))), (4, _), (0, _), (1, _), (2, _)]) dX3_mayHaveCut_60 rfl (nI_1 i) (by decide) rfl ?_
      refine v_goto (tgt := 12) dX3_mayHaveCut_63 (by decide) ?_
      refine v_sub [2, 3, 4, 0] rfl ?_
      exact ih (by rw [allB, hal]; exact decide_eq_true ((nI_leI (by have := ask_lt hv hz hi hk; omega) (Nat.lt_of_le_of_lt (pc_le _) (by decide))).mp c55))
    · refine v_iconst (x := 0) dX3_mayHaveCut_58 rfl ?_
      exact v_zret rfl (by decide) dX3_mayHaveCut_59 ⟨congrArg (fun z => some (Value.int z)) (bI_f (allB_f hi (decide_eq_false (fun q => c55 (nI_le q (Nat.lt_of_le_of_lt (pc_le _) (by decide))))))), rfl⟩
  · intro hal
    refine v_iload_n dX3_mayHaveCut_12 rfl ?_
    refine v_aload_n dX3_mayHaveCut_13 rfl ?_
    refine v_get (j := 9) (iWO hb) rfl dX3_mayHaveCut_14 (by decide) in_X3_mayHaveCut_X3 fl_X3_mayHaveCut_43 rfl ?_
    refine v_top (ch_C hw) ?_
    refine v_icmp_ge (tgt := 66) dX3_mayHaveCut_17 (by decide) (fun c17 => ?_) (fun c17 => absurd (nI_le (Nat.le_refl _) (by have := wv_C hv; omega)) c17)
    refine v_iconst (x := 1) dX3_mayHaveCut_66 rfl ?_
    exact v_zret rfl (by decide) dX3_mayHaveCut_67 ⟨congrArg (fun z => some (Value.int z)) (bI_t hal), rfl⟩
def both (w : WD) (k o : Nat) : Bool := anyB (fun c => decide (0 < wH w (c * 18 + k)) && decide (0 < wH w (c * 18 + o))) (wC w)
set_option maxRecDepth 100000 in
set_option maxHeartbeats 4000000 in
theorem s_X3_oneCourseShowsBoth {v : EE} {b : Nat} (hb : isW b) {w : WD} {z : Nat} {σ : SS} (hw : CH b w σ) (hv : WV z w) (hz : z ≤ 1000000) {k o : Nat} (hk : k < 18) (ho : o < 18) : S1 v M_X3_oneCourseShowsBoth [.ref (v.1 b), .int (nI k), .int (nI o)] σ (some (.int (bI (both w k o)))) (σ) := by
  refine Sp.of rfl (by decide) rfl (Nat.le_of_ble_eq_true rfl) ?_
  show V v M_X3_oneCourseShowsBoth _ 0 [(0, .ref (v.1 b)), (1, .int (nI k)), (2, .int (nI o))] [] σ
  refine v_iconst (x := 0) dX3_oneCourseShowsBoth_0 rfl ?_
  refine v_istore_n (L' := [(3, _), (0, _), (1, _), (2, _)]) dX3_oneCourseShowsBoth_1 rfl (by decide) rfl ?_
  refine v_sub [1, 2, 3, 0] rfl ?_
  refine loopN (fun i => anyB (fun c => decide (0 < wH w (c * 18 + k)) && decide (0 < wH w (c * 18 + o))) i = false → V v M_X3_oneCourseShowsBoth (zR v M_X3_oneCourseShowsBoth (fun r' σ' => r' = (some (.int (bI (both w k o)))) ∧ σ' = (σ))) 2 [(0, .ref (v.1 b)), (1, .int (nI k)), (2, .int (nI o)), (3, .int (nI i))] [] σ) (wC w) ?_ ?_ rfl
  · intro i hi ih hal
    refine v_iload_n dX3_oneCourseShowsBoth_2 rfl ?_
    refine v_aload_n dX3_oneCourseShowsBoth_3 rfl ?_
    refine v_get (j := 9) (iWO hb) rfl dX3_oneCourseShowsBoth_4 (by decide) in_X3_oneCourseShowsBoth_X3 fl_X3_oneCourseShowsBoth_43 rfl ?_
    refine v_top (ch_C hw) ?_
    refine v_icmp_ge (tgt := 36) dX3_oneCourseShowsBoth_7 (by decide) (fun c7 => absurd c7 (nI_ge hi (by have := wv_C hv; omega))) (fun c7 => ?_)
    refine v_aload_n dX3_oneCourseShowsBoth_10 rfl ?_
    refine v_iload_n dX3_oneCourseShowsBoth_11 rfl ?_
    refine v_iload_n dX3_oneCourseShowsBoth_12 rfl ?_
    refine v_callVi (M' := M_X3_stonesAt) (As := [_, _]) (iWO hb) (s_X3_stonesAt hb hw hv hi hk) dX3_oneCourseShowsBoth_13 gX3_oneCourseShowsBoth_X3_stonesAt rfl rfl nn_X3_stonesAt ⟨rfl, rfl⟩ ⟨by decide, by decide⟩ rfl rfl (Nat.le_of_ble_eq_true rfl) ?_
    refine v_if_le (tgt := 30) dX3_oneCourseShowsBoth_16 (by decide) (fun c16 => ?_) (fun c16 => ?_)
    · have ih := ih (by rw [anyB, hal, decide_eq_false (by rw [nI_le0 (by have := wv_H hv (j := i * 18 + k) (by have := wv_C hv; omega); omega)] at c16; omega)]; rfl)
      refine v_iinc (y := nI (i + 1)) (L' := [(3, .int (nI (i + 1))), (0, _), (1, _), (2, _)]) dX3_oneCourseShowsBoth_30 rfl (nI_1 i) (by decide) rfl ?_
      refine v_goto (tgt := 2) dX3_oneCourseShowsBoth_33 (by decide) ?_
      refine v_sub [1, 2, 3, 0] rfl ?_
      exact ih
    · refine v_aload_n dX3_oneCourseShowsBoth_19 rfl ?_
      refine v_iload_n dX3_oneCourseShowsBoth_20 rfl ?_
      refine v_iload_n dX3_oneCourseShowsBoth_21 rfl ?_
      refine v_callVi (M' := M_X3_stonesAt) (As := [_, _]) (iWO hb) (s_X3_stonesAt hb hw hv hi ho) dX3_oneCourseShowsBoth_22 gX3_oneCourseShowsBoth_X3_stonesAt rfl rfl nn_X3_stonesAt ⟨rfl, rfl⟩ ⟨by decide, by decide⟩ rfl rfl (Nat.le_of_ble_eq_true rfl) ?_
      refine v_if_le (tgt := 30) dX3_oneCourseShowsBoth_25 (by decide) (fun c25 => ?_) (fun c25 => ?_)
      · have ih := ih (by rw [anyB, hal, decide_eq_false (p := 0 < wH w (i * 18 + o)) (by rw [nI_le0 (by have := wv_H hv (j := i * 18 + o) (by have := wv_C hv; omega); omega)] at c25; omega), Bool.and_false]; rfl)
        refine v_iinc (y := nI (i + 1)) (L' := [(3, .int (nI (i + 1))), (0, _), (1, _), (2, _)]) dX3_oneCourseShowsBoth_30 rfl (nI_1 i) (by decide) rfl ?_
        refine v_goto (tgt := 2) dX3_oneCourseShowsBoth_33 (by decide) ?_
        refine v_sub [1, 2, 3, 0] rfl ?_
        exact ih
      · refine v_iconst (x := 1) dX3_oneCourseShowsBoth_28 rfl ?_
        exact v_zret rfl (by decide) dX3_oneCourseShowsBoth_29 ⟨congrArg (fun z => some (Value.int z)) (bI_t (anyB_t hi (by rw [decide_eq_true (by rw [nI_le0 (by have := wv_H hv (j := i * 18 + k) (by have := wv_C hv; omega); omega)] at c16; omega), decide_eq_true (by rw [nI_le0 (by have := wv_H hv (j := i * 18 + o) (by have := wv_C hv; omega); omega)] at c25; omega)]; rfl))), rfl⟩
  · intro hal
    refine v_iload_n dX3_oneCourseShowsBoth_2 rfl ?_
    refine v_aload_n dX3_oneCourseShowsBoth_3 rfl ?_
    refine v_get (j := 9) (iWO hb) rfl dX3_oneCourseShowsBoth_4 (by decide) in_X3_oneCourseShowsBoth_X3 fl_X3_oneCourseShowsBoth_43 rfl ?_
    refine v_top (ch_C hw) ?_
    refine v_icmp_ge (tgt := 36) dX3_oneCourseShowsBoth_7 (by decide) (fun c7 => ?_) (fun c7 => absurd (nI_le (Nat.le_refl _) (by have := wv_C hv; omega)) c7)
    refine v_iconst (x := 0) dX3_oneCourseShowsBoth_36 rfl ?_
    exact v_zret rfl (by decide) dX3_oneCourseShowsBoth_37 ⟨congrArg (fun z => some (Value.int z)) (bI_f hal), rfl⟩
/-- the first week of courses that show a sign, so far -/
def fwk (w : WD) (k : Nat) : Nat → Option Nat
  | 0 => none
  | c + 1 => if 0 < wH w (c * 18 + k) then (match fwk w k c with
    | none => some (wA w c)
    | some m => if wA w c < m then some (wA w c) else some m) else fwk w k c
def oI (o : Option Nat) : Int32 := match o with
  | none => -4
  | some m => nI m
theorem fwk_lt {z : Nat} {w : WD} (hv : WV z w) (k : Nat) : ∀ i, i ≤ wC w → ∀ m, fwk w k i = some m → m < 24
  | 0, _, m, h => by cases h
  | i + 1, hi, m, h => by
    have ih := fwk_lt hv k i (by omega)
    have h3 := wv_A hv (c := i) (by omega)
    rw [fwk] at h
    by_cases q : 0 < wH w (i * 18 + k)
    · rw [if_pos q] at h
      cases e : fwk w k i with
      | none => rw [e] at h; simp only [Option.some.injEq] at h; omega
      | some m' =>
        rw [e] at h
        have := ih m' e
        by_cases q2 : wA w i < m'
        · simp only [q2, if_true, Option.some.injEq] at h; omega
        · simp only [q2, if_false, Option.some.injEq] at h; omega
    · rw [if_neg q] at h
      exact ih m h
theorem oI_m4 {o : Option Nat} (h : ∀ m, o = some m → m < 24) : oI o = -4 ↔ o = none := by
  cases o with
  | none => simp [oI]
  | some m =>
    have hm := h m rfl
    constructor
    · intro q
      have q : nI m = -4 := q
      have := congrArg Int32.toInt q
      rw [nI_toInt (by omega)] at this
      have e : (-4 : Int32).toInt = -4 := by decide
      rw [e] at this
      omega
    · intro q; cases q
set_option maxRecDepth 100000 in
set_option maxHeartbeats 4000000 in
theorem s_X3_firstWeekShowing {v : EE} {b : Nat} (hb : isW b) {w : WD} {z : Nat} {σ : SS} (hw : CH b w σ) (hv : WV z w) (hz : z ≤ 1000000) {k : Nat} (hk : k < 18) : S1 v M_X3_firstWeekShowing [.ref (v.1 b), .int (nI k)] σ (some (.int (oI (fwk w k (wC w))))) (σ) := by
  refine Sp.of rfl (by decide) rfl (Nat.le_of_ble_eq_true rfl) ?_
  show V v M_X3_firstWeekShowing _ 0 [(0, .ref (v.1 b)), (1, .int (nI k))] [] σ
  refine v_bipush (x := (-4)) dX3_firstWeekShowing_0 (by decide +kernel) ?_
  refine v_istore_n (L' := [(2, _), (0, _), (1, _)]) dX3_firstWeekShowing_2 rfl (by decide) rfl ?_
  refine v_iconst (x := 0) dX3_firstWeekShowing_3 rfl ?_
  refine v_istore_n (L' := [(3, _), (2, _), (0, _), (1, _)]) dX3_firstWeekShowing_4 rfl (by decide) rfl ?_
  refine v_sub [2, 3, 1, 0] rfl ?_
  refine loopN (fun i => V v M_X3_firstWeekShowing (zR v M_X3_firstWeekShowing (fun r' σ' => r' = (some (.int (oI (fwk w k (wC w))))) ∧ σ' = (σ))) 5 [(0, .ref (v.1 b)), (1, .int (nI k)), (2, .int (oI (fwk w k i))), (3, .int (nI i))] [] (σ)) (wC w) ?_ ?_
  · intro i hi ih
    refine v_iload_n dX3_firstWeekShowing_5 rfl ?_
    refine v_aload_n dX3_firstWeekShowing_6 rfl ?_
    refine v_get (j := 9) (iWO hb) rfl dX3_firstWeekShowing_7 (by decide) in_X3_firstWeekShowing_X3 fl_X3_firstWeekShowing_43 rfl ?_
    refine v_top (ch_C hw) ?_
    refine v_icmp_ge (tgt := 51) dX3_firstWeekShowing_10 (by decide) (fun c10 => absurd c10 (nI_ge hi (by have := wv_C hv; omega))) (fun c10 => ?_)
    refine v_aload_n dX3_firstWeekShowing_13 rfl ?_
    refine v_iload_n dX3_firstWeekShowing_14 rfl ?_
    refine v_iload_n dX3_firstWeekShowing_15 rfl ?_
    refine v_callVi (M' := M_X3_stonesAt) (As := [_, _]) (iWO hb) (s_X3_stonesAt hb hw hv hi hk) dX3_firstWeekShowing_16 gX3_firstWeekShowing_X3_stonesAt rfl rfl nn_X3_stonesAt ⟨rfl, rfl⟩ ⟨by decide, by decide⟩ rfl rfl (Nat.le_of_ble_eq_true rfl) ?_
    refine v_if_le (tgt := 45) dX3_firstWeekShowing_19 (by decide) (fun c19 => ?_) (fun c19 => ?_)
    · have e : fwk w k (i + 1) = fwk w k i := by rw [fwk, if_neg (by rw [nI_le0 (by have := wv_H hv (j := i * 18 + k) (by have := wv_C hv; omega); omega)] at c19; omega)]
      rw [e] at ih
      refine v_iinc (y := nI (i + 1)) (L' := [(3, .int (nI (i + 1))), (0, _), (1, _), (2, _)]) dX3_firstWeekShowing_45 rfl (nI_1 i) (by decide) rfl ?_
      refine v_goto (tgt := 5) dX3_firstWeekShowing_48 (by decide) ?_
      refine v_sub [1, 2, 3, 0] rfl ?_
      exact ih
    · refine v_iload_n dX3_firstWeekShowing_22 rfl ?_
      refine v_bipush (x := (-4)) dX3_firstWeekShowing_23 (by decide +kernel) ?_
      refine v_icmp_eq (tgt := 38) dX3_firstWeekShowing_25 (by decide) (fun c25 => ?_) (fun c25 => ?_)
      · refine v_aload_n dX3_firstWeekShowing_38 rfl ?_
        refine v_get (j := 3) (iWO hb) rfl dX3_firstWeekShowing_39 (by decide) in_X3_firstWeekShowing_X3 fl_X3_firstWeekShowing_21 rfl ?_
        refine v_iload_n dX3_firstWeekShowing_42 rfl ?_
        refine v_ialdN i (iW4 hb) dX3_firstWeekShowing_43 rfl (by have := wv_C hv; omega) (by decide) ?_
        refine v_top (ch_A hw hi) ?_
        refine v_istore_n (L' := [(2, _), (0, _), (1, _), (3, _)]) dX3_firstWeekShowing_44 rfl (by decide) rfl ?_
        have e : fwk w k (i + 1) = some (wA w i) := by rw [fwk, if_pos (by rw [nI_le0 (by have := wv_H hv (j := i * 18 + k) (by have := wv_C hv; omega); omega)] at c19; omega), (oI_m4 (fwk_lt hv k i (by omega))).mp c25]
        rw [e] at ih
        refine v_iinc (y := nI (i + 1)) (L' := [(3, .int (nI (i + 1))), (2, _), (0, _), (1, _)]) dX3_firstWeekShowing_45 rfl (nI_1 i) (by decide) rfl ?_
        refine v_goto (tgt := 5) dX3_firstWeekShowing_48 (by decide) ?_
        refine v_sub [2, 3, 1, 0] rfl ?_
        exact ih
      · obtain ⟨m9, hm9⟩ : ∃ m, fwk w k i = some m := by cases h9 : fwk w k i with | none => exact absurd (by rw [h9]; rfl) c25 | some m => exact ⟨m, rfl⟩
        have hl9 := fwk_lt hv k i (by omega) m9 hm9
        refine v_aload_n dX3_firstWeekShowing_28 rfl ?_
        refine v_get (j := 3) (iWO hb) rfl dX3_firstWeekShowing_29 (by decide) in_X3_firstWeekShowing_X3 fl_X3_firstWeekShowing_21 rfl ?_
        refine v_iload_n dX3_firstWeekShowing_32 rfl ?_
        refine v_ialdN i (iW4 hb) dX3_firstWeekShowing_33 rfl (by have := wv_C hv; omega) (by decide) ?_
        refine v_top (ch_A hw hi) ?_
        refine v_iload_n dX3_firstWeekShowing_34 rfl ?_
        rw [hm9]
        have a9 := wv_A hv hi
        refine v_icmp_ge (tgt := 45) dX3_firstWeekShowing_35 (by decide) (fun c35 => ?_) (fun c35 => ?_)
        · have e : fwk w k (i + 1) = some m9 := by rw [fwk, if_pos (by rw [nI_le0 (by have := wv_H hv (j := i * 18 + k) (by have := wv_C hv; omega); omega)] at c19; omega), hm9]; exact if_neg (fun q => (nI_ge q (by omega)) c35)
          rw [e] at ih
          refine v_iinc (y := nI (i + 1)) (L' := [(3, .int (nI (i + 1))), (0, _), (1, _), (2, _)]) dX3_firstWeekShowing_45 rfl (nI_1 i) (by decide) rfl ?_
          refine v_goto (tgt := 5) dX3_firstWeekShowing_48 (by decide) ?_
          refine v_sub [1, 2, 3, 0] rfl ?_
          exact ih
        · refine v_aload_n dX3_firstWeekShowing_38 rfl ?_
          refine v_get (j := 3) (iWO hb) rfl dX3_firstWeekShowing_39 (by decide) in_X3_firstWeekShowing_X3 fl_X3_firstWeekShowing_21 rfl ?_
          refine v_iload_n dX3_firstWeekShowing_42 rfl ?_
          refine v_ialdN i (iW4 hb) dX3_firstWeekShowing_43 rfl (by have := wv_C hv; omega) (by decide) ?_
          refine v_top (ch_A hw hi) ?_
          refine v_istore_n (L' := [(2, _), (0, _), (1, _), (3, _)]) dX3_firstWeekShowing_44 rfl (by decide) rfl ?_
          have e : fwk w k (i + 1) = some (wA w i) := by rw [fwk, if_pos (by rw [nI_le0 (by have := wv_H hv (j := i * 18 + k) (by have := wv_C hv; omega); omega)] at c19; omega), hm9]; exact if_pos (Nat.not_le.mp (fun q => c35 (nI_le q (by omega))))
          rw [e] at ih
          refine v_iinc (y := nI (i + 1)) (L' := [(3, .int (nI (i + 1))), (2, _), (0, _), (1, _)]) dX3_firstWeekShowing_45 rfl (nI_1 i) (by decide) rfl ?_
          refine v_goto (tgt := 5) dX3_firstWeekShowing_48 (by decide) ?_
          refine v_sub [2, 3, 1, 0] rfl ?_
          exact ih
  · refine v_iload_n dX3_firstWeekShowing_5 rfl ?_
    refine v_aload_n dX3_firstWeekShowing_6 rfl ?_
    refine v_get (j := 9) (iWO hb) rfl dX3_firstWeekShowing_7 (by decide) in_X3_firstWeekShowing_X3 fl_X3_firstWeekShowing_43 rfl ?_
    refine v_top (ch_C hw) ?_
    refine v_icmp_ge (tgt := 51) dX3_firstWeekShowing_10 (by decide) (fun c10 => ?_) (fun c10 => absurd (nI_le (Nat.le_refl _) (by have := wv_C hv; omega)) c10)
    refine v_iload_n dX3_firstWeekShowing_51 rfl ?_
    exact v_iret rfl dX3_firstWeekShowing_52 ⟨rfl, rfl⟩
