theorem in_X0_clear_X0 : ∀ w ∈ u_ws RX0 TX0 10, w ∈ mWs M_X0_clear := by decide +kernel
theorem in_X0_exist_X0 : ∀ w ∈ u_ws RX0 TX0 10, w ∈ mWs M_X0_exist := by decide +kernel
theorem in_X0_fewestGaps_X0 : ∀ w ∈ u_ws RX0 TX0 10, w ∈ mWs M_X0_fewestGaps := by decide +kernel
theorem in_X0_howMany_X0 : ∀ w ∈ u_ws RX0 TX0 10, w ∈ mWs M_X0_howMany := by decide +kernel
theorem in_X0_partAt_X0 : ∀ w ∈ u_ws RX0 TX0 10, w ∈ mWs M_X0_partAt := by decide +kernel
theorem in_X0_signsAt_X0 : ∀ w ∈ u_ws RX0 TX0 10, w ∈ mWs M_X0_signsAt := by decide +kernel
theorem in_X0_weighWall_X0 : ∀ w ∈ u_ws RX0 TX0 10, w ∈ mWs M_X0_weighWall := by decide +kernel
theorem in_X0_weighWall_X3 : ∀ w ∈ u_ws RX3 TX3 12, w ∈ mWs M_X0_weighWall := by decide +kernel
theorem fl_X0_clear_9 : Cond.fieldLink (mOwn M_X0_clear) 9 (TX0 0).1 (TX0 0).2.1 (TX0 0).2.2.1 ∈ mWs M_X0_clear := by decide +kernel
theorem fl_X0_clear_15 : Cond.fieldLink (mOwn M_X0_clear) 15 (TX0 1).1 (TX0 1).2.1 (TX0 1).2.2.1 ∈ mWs M_X0_clear := by decide +kernel
theorem fl_X0_clear_18 : Cond.fieldLink (mOwn M_X0_clear) 18 (TX0 2).1 (TX0 2).2.1 (TX0 2).2.2.1 ∈ mWs M_X0_clear := by decide +kernel
theorem fl_X0_clear_36 : Cond.fieldLink (mOwn M_X0_clear) 36 (TX0 9).1 (TX0 9).2.1 (TX0 9).2.2.1 ∈ mWs M_X0_clear := by decide +kernel
theorem fl_X0_exist_24 : Cond.fieldLink (mOwn M_X0_exist) 24 (TX0 4).1 (TX0 4).2.1 (TX0 4).2.2.1 ∈ mWs M_X0_exist := by decide +kernel
theorem fl_X0_fewestGaps_21 : Cond.fieldLink (mOwn M_X0_fewestGaps) 21 (TX0 3).1 (TX0 3).2.1 (TX0 3).2.2.1 ∈ mWs M_X0_fewestGaps := by decide +kernel
theorem fl_X0_howMany_24 : Cond.fieldLink (mOwn M_X0_howMany) 24 (TX0 4).1 (TX0 4).2.1 (TX0 4).2.2.1 ∈ mWs M_X0_howMany := by decide +kernel
theorem fl_X0_partAt_33 : Cond.fieldLink (mOwn M_X0_partAt) 33 (TX0 7).1 (TX0 7).2.1 (TX0 7).2.2.1 ∈ mWs M_X0_partAt := by decide +kernel
theorem fl_X0_partAt_90 : Cond.fieldLink (mOwn M_X0_partAt) 90 (TX0 8).1 (TX0 8).2.1 (TX0 8).2.2.1 ∈ mWs M_X0_partAt := by decide +kernel
theorem fl_X0_signsAt_9 : Cond.fieldLink (mOwn M_X0_signsAt) 9 (TX0 0).1 (TX0 0).2.1 (TX0 0).2.2.1 ∈ mWs M_X0_signsAt := by decide +kernel
theorem fl_X0_weighWall_9 : Cond.fieldLink (mOwn M_X0_weighWall) 9 (TX0 0).1 (TX0 0).2.1 (TX0 0).2.2.1 ∈ mWs M_X0_weighWall := by decide +kernel
theorem fl_X0_weighWall_15 : Cond.fieldLink (mOwn M_X0_weighWall) 15 (TX0 1).1 (TX0 1).2.1 (TX0 1).2.2.1 ∈ mWs M_X0_weighWall := by decide +kernel
theorem fl_X0_weighWall_18 : Cond.fieldLink (mOwn M_X0_weighWall) 18 (TX0 2).1 (TX0 2).2.1 (TX0 2).2.2.1 ∈ mWs M_X0_weighWall := by decide +kernel
theorem fl_X0_weighWall_36 : Cond.fieldLink (mOwn M_X0_weighWall) 36 (TX0 9).1 (TX0 9).2.1 (TX0 9).2.2.1 ∈ mWs M_X0_weighWall := by decide +kernel
theorem fl_X0_weighWall_56 : Cond.fieldLink (mOwn M_X0_weighWall) 56 (TX3 8).1 (TX3 8).2.1 (TX3 8).2.2.1 ∈ mWs M_X0_weighWall := by decide +kernel
theorem fl_X0_weighWall_59 : Cond.fieldLink (mOwn M_X0_weighWall) 59 (TX3 0).1 (TX3 0).2.1 (TX3 0).2.2.1 ∈ mWs M_X0_weighWall := by decide +kernel
theorem fl_X0_weighWall_64 : Cond.fieldLink (mOwn M_X0_weighWall) 64 (TX3 6).1 (TX3 6).2.1 (TX3 6).2.2.1 ∈ mWs M_X0_weighWall := by decide +kernel
theorem nn_X0_clear : (mY M_X0_clear).cls = mOwn M_X0_clear ∧ (mY M_X0_clear).cls ≠ "java/lang/invoke/MethodHandle" ∧ (mY M_X0_clear).cls ≠ "java/lang/invoke/VarHandle" ∧ (parseMethodDescriptor (mY M_X0_clear).desc).map (fun d => d.parameters.length) = some 1 := by decide +kernel
theorem nn_X0_partAt : (mY M_X0_partAt).cls = mOwn M_X0_partAt ∧ (mY M_X0_partAt).cls ≠ "java/lang/invoke/MethodHandle" ∧ (mY M_X0_partAt).cls ≠ "java/lang/invoke/VarHandle" ∧ (parseMethodDescriptor (mY M_X0_partAt).desc).map (fun d => d.parameters.length) = some 1 := by decide +kernel
theorem nn_X0_signsAt : (mY M_X0_signsAt).cls = mOwn M_X0_signsAt ∧ (mY M_X0_signsAt).cls ≠ "java/lang/invoke/MethodHandle" ∧ (mY M_X0_signsAt).cls ≠ "java/lang/invoke/VarHandle" ∧ (parseMethodDescriptor (mY M_X0_signsAt).desc).map (fun d => d.parameters.length) = some 1 := by decide +kernel
theorem nn_X0_signsBehind : (mY M_X0_signsBehind).cls = mOwn M_X0_signsBehind ∧ (mY M_X0_signsBehind).cls ≠ "java/lang/invoke/MethodHandle" ∧ (mY M_X0_signsBehind).cls ≠ "java/lang/invoke/VarHandle" ∧ (parseMethodDescriptor (mY M_X0_signsBehind).desc).map (fun d => d.parameters.length) = some 1 := by decide +kernel
theorem nn_X0_signsUpTo : (mY M_X0_signsUpTo).cls = mOwn M_X0_signsUpTo ∧ (mY M_X0_signsUpTo).cls ≠ "java/lang/invoke/MethodHandle" ∧ (mY M_X0_signsUpTo).cls ≠ "java/lang/invoke/VarHandle" ∧ (parseMethodDescriptor (mY M_X0_signsUpTo).desc).map (fun d => d.parameters.length) = some 1 := by decide +kernel
theorem nn_X0_traceFirstRow : (mY M_X0_traceFirstRow).cls = mOwn M_X0_traceFirstRow ∧ (mY M_X0_traceFirstRow).cls ≠ "java/lang/invoke/MethodHandle" ∧ (mY M_X0_traceFirstRow).cls ≠ "java/lang/invoke/VarHandle" ∧ (parseMethodDescriptor (mY M_X0_traceFirstRow).desc).map (fun d => d.parameters.length) = some 0 := by decide +kernel
theorem nn_X0_weigh : (mY M_X0_weigh).cls = mOwn M_X0_weigh ∧ (mY M_X0_weigh).cls ≠ "java/lang/invoke/MethodHandle" ∧ (mY M_X0_weigh).cls ≠ "java/lang/invoke/VarHandle" ∧ (parseMethodDescriptor (mY M_X0_weigh).desc).map (fun d => d.parameters.length) = some 0 := by decide +kernel
def CLR (x : Nat) (τ : SS) : Prop := τ.1 10 9 = nI x ∧ (∀ j, j < 6 → τ.1 11 j = 0) ∧ (∀ j, j < 16 → τ.1 12 j = 0) ∧ ∀ j, j < 6 → τ.1 13 j = 0
theorem FO.rc {s : AS} {σ τ : SS} (h : FO σ τ) (hr : RC s σ) : RC s τ := by
  obtain ⟨⟨h1, h2⟩, h3, h4, h5, h6⟩ := hr
  have e : ∀ a, a < 10 ∨ 18 < a → τ.1 a = σ.1 a := h.1
  have hw : σ.2.2.1 = 22 ∨ σ.2.2.1 = 31 := h1
  refine ⟨by rw [h.2.1, h.2.2]; exact ⟨h1, h2⟩, ⟨by rw [e 1 (by decide)]; exact h3.1, h3.2.1, fun j hj => by rw [e 2 (by decide)]; exact h3.2.2 j hj⟩, ?_, by rw [e 0 (by decide)]; exact h5, fun i j hi hj => ?_⟩
  · rw [h.2.1]
    exact h4.of (fun i hi => e _ (by omega))
  · rw [e _ (by omega)]; exact h6 i j hi hj
theorem FO.fc {σ τ : SS} (h : FO σ τ) : FC σ τ := ⟨fun a ha => h.1 a (by omega), by rw [h.2.1]⟩
theorem FO.ch {b : Nat} {w : WD} {σ τ : SS} (h : FO σ τ) (hb : isW b) (hw : CH b w σ) : CH b w τ := hw.of (fun i hi => h.1 _ (by rcases hb with rfl | rfl <;> omega))
def odW (w : WD) : OD := (pbits w, fun p => wE w p &&& pbits w, wS w, psh w, wT w)
theorem ov_W {z : Nat} {w : WD} (hv : WV z w) : OV (odW w) := ⟨pbits_lt hv, fun p _ => Nat.lt_of_le_of_lt Nat.and_le_right (pbits_lt hv), wv_S hv, fun k hk => ⟨psh_lt hv k, (wv_T hv hk).2⟩⟩
theorem sgo_W (w : WD) (p : Nat) : sgo (odW w) p = sgi w p := Nat.eq_of_testBit_eq (fun k => by
  rw [tb_sgo]
  show (decide (k < wS w) && (psh w k).testBit p) = _
  by_cases c : k < wS w
  · rw [tb_sgi c]; simp [c]
  · rw [tb_sgi_hi (by omega)]; simp [c])
def OA (o : OD) (σ : SS) : Prop := OC o σ ∧ OT o σ ∧ ORw o σ
def wl1 (w : WD) (σ τ : SS) (i : Nat) : Prop := τ.1 10 9 = nI (pbits w) ∧ (∀ j, j < 16 → τ.1 12 j = nI (if j < i then wT w j else 0)) ∧ FO σ τ
def wl2 (w : WD) (σ τ : SS) (i : Nat) : Prop := τ.1 10 9 = nI (pbits w) ∧ (∀ j, j < 16 → τ.1 12 j = nI (stv (odW w) j)) ∧ (∀ p, p < i → τ.1 11 p = nI (sgi w p) ∧ τ.1 13 p = nI (wE w p &&& pbits w)) ∧ FO σ τ
theorem wl1_0 {w : WD} {σ τ : SS} (h : CLR (pbits w) τ) (f : FO σ τ) : wl1 w σ τ 0 := ⟨h.1, fun j hj => by rw [h.2.2.1 j hj, if_neg (by omega)]; rfl, f⟩
theorem wl1_s {w : WD} {σ τ : SS} {i : Nat} (h : wl1 w σ τ i) : wl1 w σ (sI τ 12 i (nI (wT w i))) (i + 1) := by
  refine ⟨h.1, fun j hj => ?_, fun a ha => ?_, h.2.2.2⟩
  · by_cases c : j = i
    · subst c; rw [sI_at, if_pos (by omega)]
    · rw [sI_ne _ _ (Or.inr c), h.2.1 j hj]
      by_cases q : j < i
      · rw [if_pos q, if_pos (by omega)]
      · rw [if_neg q, if_neg (by omega)]
  · rw [sI_row _ _ (by omega)]; exact h.2.2.1 a ha
theorem wl2_0 {w : WD} {σ τ : SS} (h : wl1 w σ τ (wS w)) : wl2 w σ τ 0 := ⟨h.1, h.2.1, fun p hp => by omega, h.2.2⟩
theorem wl2_s {w : WD} {σ τ : SS} {i : Nat} (h : wl2 w σ τ i) : wl2 w σ (sI (sI τ 11 i (nI (sgi w i))) 13 i (nI (wE w i &&& pbits w))) (i + 1) := by
  refine ⟨h.1, h.2.1, fun j hj => ?_, fun a ha => ?_, h.2.2.2.2⟩
  · by_cases c : j = i
    · subst c
      exact ⟨by rw [sI_ne _ _ (Or.inl (by decide)), sI_at], sI_at _ _ _ _⟩
    · rw [sI_ne _ _ (Or.inl (by decide)), sI_ne _ _ (Or.inr c), sI_ne _ _ (Or.inr c), sI_ne _ _ (Or.inl (by decide))]
      exact h.2.2.1 j (by omega)
  · rw [sI_row _ _ (by omega), sI_row _ _ (by omega)]; exact h.2.2.2.1 a ha
theorem wl2_oc {w : WD} {σ τ : SS} (h : wl2 w σ τ 6) : OC0 (odW w) τ := ⟨h.1, fun p hp => by rw [sgo_W]; exact (h.2.2.1 p hp).1, h.2.1, fun p hp => (h.2.2.1 p hp).2⟩
set_option maxRecDepth 100000 in
set_option maxHeartbeats 4000000 in
theorem s_X0_clear {v : EE} {σ : SS} {x : Nat} (hx : x < 64) : SR v M_X0_clear [.ref (v.1 10), .int (nI x)] σ none (fun σ' => CLR x σ' ∧ FO σ σ') := by
  refine Sp.of rfl (by decide) rfl (Nat.le_of_ble_eq_true rfl) ?_
  show V v M_X0_clear _ 0 [(0, .ref (v.1 10)), (1, .int (nI x))] [] σ
  refine v_aload_n dX0_clear_0 rfl ?_
  refine v_iload_n dX0_clear_1 rfl ?_
  refine v_bipush (x := nI 63) dX0_clear_2 (by decide +kernel) ?_
  refine n_iand dX0_clear_4 ?_
  refine v_top (y := nI x) (by rw [Nat.and_two_pow_sub_one_eq_mod x 6, Nat.mod_eq_of_lt hx]) ?_
  refine pX0_9 dX0_clear_5 in_X0_clear_X0 fl_X0_clear_36 ?_
  refine v_aload_n dX0_clear_8 rfl ?_
  refine v_get (j := 0) iO10 rfl dX0_clear_9 (by decide) in_X0_clear_X0 fl_X0_clear_9 rfl ?_
  refine v_iconst (x := 0) dX0_clear_12 rfl ?_
  refine v_callSv (M' := M_J7_fill_53178) (As := [_, _]) (s_J7_fill_53178 iI11 (by decide)) dX0_clear_13 gX0_clear_J7_fill_53178 rfl nn_J7_fill_53178 ⟨rfl, rfl⟩ ⟨by decide, by decide⟩ rfl rfl (Nat.le_of_ble_eq_true rfl) ?_
  refine v_aload_n dX0_clear_16 rfl ?_
  refine v_get (j := 1) iO10 rfl dX0_clear_17 (by decide) in_X0_clear_X0 fl_X0_clear_15 rfl ?_
  refine v_iconst (x := 0) dX0_clear_20 rfl ?_
  refine v_callSv (M' := M_J7_fill_53178) (As := [_, _]) (s_J7_fill_53178 iI12 (by decide)) dX0_clear_21 gX0_clear_J7_fill_53178 rfl nn_J7_fill_53178 ⟨rfl, rfl⟩ ⟨by decide, by decide⟩ rfl rfl (Nat.le_of_ble_eq_true rfl) ?_
  refine v_aload_n dX0_clear_24 rfl ?_
  refine v_get (j := 2) iO10 rfl dX0_clear_25 (by decide) in_X0_clear_X0 fl_X0_clear_18 rfl ?_
  refine v_iconst (x := 0) dX0_clear_28 rfl ?_
  refine v_callSv (M' := M_J7_fill_53178) (As := [_, _]) (s_J7_fill_53178 iI13 (by decide)) dX0_clear_29 gX0_clear_J7_fill_53178 rfl nn_J7_fill_53178 ⟨rfl, rfl⟩ ⟨by decide, by decide⟩ rfl rfl (Nat.le_of_ble_eq_true rfl) ?_
  exact v_vret rfl dX0_clear_32 ⟨rfl, ⟨by simp [sF, sI, upd], fun j hj => by simp [sF, filled, hj], fun j hj => by simp [sF, filled, hj], fun j hj => by simp [sF, filled, hj]⟩, fun a ha => by simp [sF, sI, show a ≠ 10 by omega, show a ≠ 11 by omega, show a ≠ 12 by omega, show a ≠ 13 by omega], rfl, rfl⟩
set_option maxRecDepth 100000 in
set_option maxHeartbeats 4000000 in
theorem s_X0_weighWall {v : EE} {b : Nat} (hb : isW b) {w : WD} {z : Nat} {σ : SS} (hw : CH b w σ) (hv : WV z w) (hz : z ≤ 1000000) (hg : σ.1 17 0 = 0) : SR v M_X0_weighWall [.ref (v.1 10), .ref (v.1 b)] σ none (fun σ' => OA (odW w) σ' ∧ FO σ σ') := by
  refine Sp.of rfl (by decide) rfl (Nat.le_of_ble_eq_true rfl) ?_
  show V v M_X0_weighWall _ 0 [(0, .ref (v.1 10)), (1, .ref (v.1 b))] [] σ
  refine v_aload_n dX0_weighWall_0 rfl ?_
  refine v_aload_n dX0_weighWall_1 rfl ?_
  refine v_callVi (M' := M_X3_partBits) (As := []) (iWO hb) (s_X3_partBits hb hw hv) dX0_weighWall_2 gX0_weighWall_X3_partBits rfl rfl nn_X3_partBits ⟨rfl, rfl⟩ ⟨by decide, by decide⟩ rfl rfl (Nat.le_of_ble_eq_true rfl) ?_
  refine v_callVRv (M' := M_X0_clear) (As := [_]) iO10 (s_X0_clear (pbits_lt hv)) dX0_weighWall_5 gX0_weighWall_X0_clear rfl rfl nn_X0_clear ⟨rfl, rfl⟩ ⟨by decide, by decide⟩ rfl rfl (Nat.le_of_ble_eq_true rfl) (fun s1 h1 => ?_)
  refine v_iconst (x := nI 0) dX0_weighWall_8 (by decide +kernel) ?_
  refine v_istore_n (L' := [(2, _), (0, _), (1, _)]) dX0_weighWall_9 rfl (by decide) rfl ?_
  refine v_sub [1, 2, 0] rfl ?_
  refine loopN (fun i => ∀ τ : SS, wl1 w σ τ i → V v M_X0_weighWall (zR v M_X0_weighWall (fun r' σ' => r' = none ∧ (OA (odW w) σ' ∧ FO σ σ'))) 10 [(0, .ref (v.1 10)), (1, .ref (v.1 b)), (2, .int (nI i))] [] τ) (wS w) ?_ ?_ _ (wl1_0 h1.1 h1.2)
  · intro i hi ih τ hinv
    have hw1 := hinv.2.2.ch hb hw
    have hS := wv_S hv
    refine v_iload_n dX0_weighWall_10 rfl ?_
    refine v_aload_n dX0_weighWall_11 rfl ?_
    refine v_get (j := 8) (iWO hb) rfl dX0_weighWall_12 (by decide) in_X0_weighWall_X3 fl_X0_weighWall_56 rfl ?_
    refine v_top (ch_S hw1) ?_
    refine n_icmp_ge (tgt := 36) dX0_weighWall_15 (by decide) (by omega) (by omega) (fun c15 => absurd c15 (by omega)) (fun c15 => ?_)
    refine v_aload_n dX0_weighWall_18 rfl ?_
    refine v_get (j := 1) iO10 rfl dX0_weighWall_19 (by decide) in_X0_weighWall_X0 fl_X0_weighWall_15 rfl ?_
    refine v_iload_n dX0_weighWall_22 rfl ?_
    refine v_aload_n dX0_weighWall_23 rfl ?_
    refine v_get (j := 0) (iWO hb) rfl dX0_weighWall_24 (by decide) in_X0_weighWall_X3 fl_X0_weighWall_59 rfl ?_
    refine v_iload_n dX0_weighWall_27 rfl ?_
    refine v_ialdN i (iW1 hb) dX0_weighWall_28 rfl (by omega) (by decide) ?_
    refine v_top (ch_T hw1 hi) ?_
    refine v_iastN i iI12 dX0_weighWall_29 rfl (by omega) (by decide) ?_
    refine n_iinc (n := 1) (L' := [(2, _), (0, _), (1, _)]) dX0_weighWall_30 rfl (by decide) rfl ?_
    refine v_goto (tgt := 10) dX0_weighWall_33 (by decide) ?_
    refine v_sub [1, 2, 0] rfl ?_
    exact ih _ (wl1_s hinv)
  · intro τ hinv
    have hw1 := hinv.2.2.ch hb hw
    have hS := wv_S hv
    refine v_iload_n dX0_weighWall_10 rfl ?_
    refine v_aload_n dX0_weighWall_11 rfl ?_
    refine v_get (j := 8) (iWO hb) rfl dX0_weighWall_12 (by decide) in_X0_weighWall_X3 fl_X0_weighWall_56 rfl ?_
    refine v_top (ch_S hw1) ?_
    refine n_icmp_ge (tgt := 36) dX0_weighWall_15 (by decide) (by omega) (by omega) (fun c15 => ?_) (fun c15 => absurd c15 (by omega))
    refine v_iconst (x := nI 0) dX0_weighWall_36 (by decide +kernel) ?_
    refine v_istore_n (L' := [(2, _), (0, _), (1, _)]) dX0_weighWall_37 rfl (by decide) rfl ?_
    refine v_sub [1, 2, 0] rfl ?_
    refine loopN (fun i => ∀ τ : SS, wl2 w σ τ i → V v M_X0_weighWall (zR v M_X0_weighWall (fun r' σ' => r' = none ∧ (OA (odW w) σ' ∧ FO σ σ'))) 38 [(0, .ref (v.1 10)), (1, .ref (v.1 b)), (2, .int (nI i))] [] τ) 6 ?_ ?_ _ (wl2_0 hinv)
    · intro i hi ih τ hinv
      have hw1 := hinv.2.2.2.ch hb hw
      have hw2 : CH b w (sI τ 11 i (nI (sgi w i))) := hw1.of (fun j hj => sI_row _ _ (by rcases hb with rfl | rfl <;> omega))
      refine v_iload_n dX0_weighWall_38 rfl ?_
      refine v_bipush (x := nI 6) dX0_weighWall_39 (by decide +kernel) ?_
      refine n_icmp_ge (tgt := 78) dX0_weighWall_41 (by decide) (by omega) (by omega) (fun c41 => absurd c41 (by omega)) (fun c41 => ?_)
      refine v_aload_n dX0_weighWall_44 rfl ?_
      refine v_get (j := 0) iO10 rfl dX0_weighWall_45 (by decide) in_X0_weighWall_X0 fl_X0_weighWall_9 rfl ?_
      refine v_iload_n dX0_weighWall_48 rfl ?_
      refine v_aload_n dX0_weighWall_49 rfl ?_
      refine v_iload_n dX0_weighWall_50 rfl ?_
      refine v_callVi (M' := M_X3_signsIn) (As := [_]) (iWO hb) (s_X3_signsIn hb hw1 hv hz hi) dX0_weighWall_51 gX0_weighWall_X3_signsIn rfl rfl nn_X3_signsIn ⟨rfl, rfl⟩ ⟨by decide, by decide⟩ rfl rfl (Nat.le_of_ble_eq_true rfl) ?_
      refine v_iastN i iI11 dX0_weighWall_54 rfl (by omega) (by decide) ?_
      refine v_aload_n dX0_weighWall_55 rfl ?_
      refine v_get (j := 2) iO10 rfl dX0_weighWall_56 (by decide) in_X0_weighWall_X0 fl_X0_weighWall_18 rfl ?_
      refine v_iload_n dX0_weighWall_59 rfl ?_
      refine v_aload_n dX0_weighWall_60 rfl ?_
      refine v_get (j := 6) (iWO hb) rfl dX0_weighWall_61 (by decide) in_X0_weighWall_X3 fl_X0_weighWall_64 rfl ?_
      refine v_iload_n dX0_weighWall_64 rfl ?_
      refine v_ialdN i (iW7 hb) dX0_weighWall_65 rfl (by omega) (by decide) ?_
      refine v_top (ch_E hw2 hi) ?_
      refine v_aload_n dX0_weighWall_66 rfl ?_
      refine v_get (j := 9) iO10 rfl dX0_weighWall_67 (by decide) in_X0_weighWall_X0 fl_X0_weighWall_36 rfl ?_
      refine v_top hinv.1 ?_
      refine n_iand dX0_weighWall_70 ?_
      refine v_iastN i iI13 dX0_weighWall_71 rfl (by omega) (by decide) ?_
      refine n_iinc (n := 1) (L' := [(2, _), (0, _), (1, _)]) dX0_weighWall_72 rfl (by decide) rfl ?_
      refine v_goto (tgt := 38) dX0_weighWall_75 (by decide) ?_
      refine v_sub [1, 2, 0] rfl ?_
      exact ih _ (wl2_s hinv)
    · intro τ hinv
      have ho := ov_W hv
      have hc := wl2_oc hinv
      refine v_iload_n dX0_weighWall_38 rfl ?_
      refine v_bipush (x := nI 6) dX0_weighWall_39 (by decide +kernel) ?_
      refine n_icmp_ge (tgt := 78) dX0_weighWall_41 (by decide) (by omega) (by omega) (fun c41 => ?_) (fun c41 => absurd c41 (by omega))
      refine v_aload_n dX0_weighWall_78 rfl ?_
      refine v_callVRv (M' := M_X0_weigh) (As := []) iO10 (s_X0_weigh ho hc (hinv.2.2.2.2.2.trans hg)) dX0_weighWall_79 gX0_weighWall_X0_weigh rfl rfl nn_X0_weigh ⟨rfl, rfl⟩ ⟨by decide, by decide⟩ rfl rfl (Nat.le_of_ble_eq_true rfl) (fun s2 h2 => ?_)
      refine v_aload_n dX0_weighWall_82 rfl ?_
      refine v_callVRv (M' := M_X0_traceFirstRow) (As := []) iO10 (s_X0_traceFirstRow ho h2.2.1 h2.1) dX0_weighWall_83 gX0_weighWall_X0_traceFirstRow rfl rfl nn_X0_traceFirstRow ⟨rfl, rfl⟩ ⟨by decide, by decide⟩ rfl rfl (Nat.le_of_ble_eq_true rfl) (fun s3 h3 => ?_)
      exact v_vret rfl dX0_weighWall_86 ⟨rfl, ⟨h3.2.oc h2.2.1, h3.2.ot h2.1, h3.1⟩, (hinv.2.2.2.tr h2.2.2.fo).tr h3.2.fo⟩
set_option maxRecDepth 100000 in
set_option maxHeartbeats 4000000 in
theorem s_X0_exist {v : EE} {o : OD} {σ : SS} (ho : OV o) (hc : OT o σ) : S1 v M_X0_exist [.ref (v.1 10)] σ (some (.int (bI (decide (0 < (TL o 0).length))))) (σ) := by
  refine Sp.of rfl (by decide) rfl (Nat.le_of_ble_eq_true rfl) ?_
  show V v M_X0_exist _ 0 [(0, .ref (v.1 10))] [] σ
  refine v_aload_n dX0_exist_0 rfl ?_
  refine v_get (j := 4) iO10 rfl dX0_exist_1 (by decide) in_X0_exist_X0 fl_X0_exist_24 rfl ?_
  refine v_iconst (x := nI 0) dX0_exist_4 (by decide +kernel) ?_
  refine v_ialdN 0 iI15 dX0_exist_5 rfl (by decide) (by decide) ?_
  refine v_top (hc 0 (sub_0 _)).2 ?_
  refine n_if_le (tgt := 13) dX0_exist_6 (by decide) (by have := TL_b ho (A := 0) (by decide); omega) (fun c6 => ?_) (fun c6 => ?_)
  · refine v_iconst (x := nI 0) dX0_exist_13 (by decide +kernel) ?_
    exact v_zret rfl (by decide) dX0_exist_14 ⟨congrArg (fun z => some (Value.int z)) (by rw [c6]; rfl), rfl⟩
  · refine v_iconst (x := nI 1) dX0_exist_9 (by decide +kernel) ?_
    refine v_goto (tgt := 14) dX0_exist_10 (by decide) ?_
    exact v_zret rfl (by decide) dX0_exist_14 ⟨congrArg (fun z => some (Value.int z)) (by rw [decide_eq_true c6]; rfl), rfl⟩
set_option maxRecDepth 100000 in
set_option maxHeartbeats 4000000 in
theorem s_X0_howMany {v : EE} {o : OD} {σ : SS} (ho : OV o) (hc : OT o σ) : S1 v M_X0_howMany [.ref (v.1 10)] σ (some (.int (nI (TL o 0).length))) (σ) := by
  refine Sp.of rfl (by decide) rfl (Nat.le_of_ble_eq_true rfl) ?_
  show V v M_X0_howMany _ 0 [(0, .ref (v.1 10))] [] σ
  refine v_aload_n dX0_howMany_0 rfl ?_
  refine v_get (j := 4) iO10 rfl dX0_howMany_1 (by decide) in_X0_howMany_X0 fl_X0_howMany_24 rfl ?_
  refine v_iconst (x := nI 0) dX0_howMany_4 (by decide +kernel) ?_
  refine v_ialdN 0 iI15 dX0_howMany_5 rfl (by decide) (by decide) ?_
  refine v_top (hc 0 (sub_0 _)).2 ?_
  exact v_iret rfl dX0_howMany_6 ⟨rfl, rfl⟩
set_option maxRecDepth 100000 in
set_option maxHeartbeats 4000000 in
theorem s_X0_fewestGaps {v : EE} {o : OD} {σ : SS} (ho : OV o) (hc : OT o σ) : S1 v M_X0_fewestGaps [.ref (v.1 10)] σ (some (.int (nI (few o 0)))) (σ) := by
  refine Sp.of rfl (by decide) rfl (Nat.le_of_ble_eq_true rfl) ?_
  show V v M_X0_fewestGaps _ 0 [(0, .ref (v.1 10))] [] σ
  refine v_aload_n dX0_fewestGaps_0 rfl ?_
  refine v_get (j := 3) iO10 rfl dX0_fewestGaps_1 (by decide) in_X0_fewestGaps_X0 fl_X0_fewestGaps_21 rfl ?_
  refine v_iconst (x := nI 0) dX0_fewestGaps_4 (by decide +kernel) ?_
  refine v_ialdN 0 iI14 dX0_fewestGaps_5 rfl (by decide) (by decide) ?_
  refine v_top (hc 0 (sub_0 _)).1 ?_
  exact v_iret rfl dX0_fewestGaps_6 ⟨rfl, rfl⟩
def ptA (l : List Nat) (i : Int32) : Int32 := if isN i l.length = true then nI (ofL l i.toNatClampNeg) else -4
theorem ptA_n {l : List Nat} {k : Nat} (hk : k < 2 ^ 31) : ptA l (nI k) = if k < l.length then nI (ofL l k) else -4 := by
  rw [ptA, isN_dec hk, nI_clamp hk]; simp
theorem ptA_neg {l : List Nat} {i : Int32} (h : i < 0) : ptA l i = -4 := by
  rw [ptA, if_neg (fun q => by
    rw [isN_iff] at q
    rw [Int32.lt_iff_toInt_lt] at h
    have : (0 : Int32).toInt = 0 := by decide
    omega)]
set_option maxRecDepth 100000 in
set_option maxHeartbeats 4000000 in
theorem s_X0_partAt {v : EE} {o : OD} {σ : SS} (ho : OV o) (hc : ORw o σ) (i : Int32) : S1 v M_X0_partAt [.ref (v.1 10), .int i] σ (some (.int (ptA (fr o 0) i))) (σ) := by
  refine Sp.of rfl (by decide) rfl (Nat.le_of_ble_eq_true rfl) ?_
  show V v M_X0_partAt _ 0 [(0, .ref (v.1 10)), (1, .int i)] [] σ
  have hl := fr_len ho
  refine v_iload_n dX0_partAt_0 rfl ?_
  refine v_if_lt (tgt := 27) dX0_partAt_1 (by decide) (fun c1 => ?_) (fun c1 => ?_)
  · refine v_bipush (x := (-4)) dX0_partAt_27 (by decide +kernel) ?_
    exact v_iret rfl dX0_partAt_29 ⟨congrArg (fun z => some (Value.int z)) ((ptA_neg c1).symm), rfl⟩
  · obtain ⟨k, hk, rfl⟩ := nI_of c1
    refine v_iload_n dX0_partAt_4 rfl ?_
    refine v_aload_n dX0_partAt_5 rfl ?_
    refine v_get (j := 8) iO10 rfl dX0_partAt_6 (by decide) in_X0_partAt_X0 fl_X0_partAt_90 rfl ?_
    refine v_top hc.1 ?_
    refine n_icmp_ge (tgt := 27) dX0_partAt_9 (by decide) hk (by omega) (fun c9 => ?_) (fun c9 => ?_)
    · refine v_bipush (x := (-4)) dX0_partAt_27 (by decide +kernel) ?_
      exact v_iret rfl dX0_partAt_29 ⟨congrArg (fun z => some (Value.int z)) (by rw [ptA_n hk, if_neg (by omega)]), rfl⟩
    · refine v_iload_n dX0_partAt_12 rfl ?_
      refine v_bipush (x := nI 6) dX0_partAt_13 (by decide +kernel) ?_
      refine n_icmp_ge (tgt := 27) dX0_partAt_15 (by decide) hk (by omega) (fun c15 => absurd c15 (by omega)) (fun c15 => ?_)
      refine v_aload_n dX0_partAt_18 rfl ?_
      refine v_get (j := 7) iO10 rfl dX0_partAt_19 (by decide) in_X0_partAt_X0 fl_X0_partAt_33 rfl ?_
      refine v_iload_n dX0_partAt_22 rfl ?_
      refine v_ialdN k iI18 dX0_partAt_23 rfl (by omega) (by decide) ?_
      refine v_top (hc.2 k c9) ?_
      refine v_goto (tgt := 29) dX0_partAt_24 (by decide) ?_
      exact v_iret rfl dX0_partAt_29 ⟨congrArg (fun z => some (Value.int z)) (by rw [ptA_n hk, if_pos c9]), rfl⟩
def sgN (o : OD) (k : Nat) : Nat := if k < (fr o 0).length then sgo o (ofL (fr o 0) k) else 0
theorem sgN_lt {o : OD} (ho : OV o) (k : Nat) : sgN o k < 2 ^ 16 := by
  rw [sgN]; split
  · exact sgo_lt ho _
  · decide
theorem bits_el : ∀ P, P < 64 → (pr P 64 0).all (fun l => l.all (fun x => decide (x < 6))) = true := by decide +kernel
theorem pr_el {P : Nat} (hP : P < 64) {l : List Nat} {n : Nat} (h : l ∈ pr P n 0) {x : Nat} (hx : x ∈ l) : x < 6 := tb_64i hP (((pr_mem hP h (fun x hx => by rw [Nat.zero_testBit] at hx; cases hx)) x).mp hx).1
theorem ofL_mem {l : List Nat} {k : Nat} (hk : k < l.length) : ofL l k ∈ l := by
  have : ofL l k = l[k] := by simp [ofL, hk]
  rw [this]; exact List.getElem_mem hk
theorem fr_el {o : OD} (ho : OV o) {k : Nat} (hk : k < (fr o 0).length) : ofL (fr o 0) k < 6 := by
  have hn : TL o 0 ≠ [] := fun e => by rw [fr, e] at hk; cases hk
  exact pr_el ho.1 (TL_mem ho.1 (by decide) (fr_mem hn)) (ofL_mem hk)
set_option maxRecDepth 100000 in
set_option maxHeartbeats 4000000 in
theorem s_X0_signsAt {v : EE} {o : OD} {σ : SS} (ho : OV o) (hc : OC o σ) (hr : ORw o σ) {k : Nat} (hk : k < 2 ^ 31) : S1 v M_X0_signsAt [.ref (v.1 10), .int (nI k)] σ (some (.int (nI (sgN o k)))) (σ) := by
  refine Sp.of rfl (by decide) rfl (Nat.le_of_ble_eq_true rfl) ?_
  show V v M_X0_signsAt _ 0 [(0, .ref (v.1 10)), (1, .int (nI k))] [] σ
  refine v_aload_n dX0_signsAt_0 rfl ?_
  refine v_iload_n dX0_signsAt_1 rfl ?_
  refine v_callVi (M' := M_X0_partAt) (As := [_]) iO10 (s_X0_partAt ho hr _) dX0_signsAt_2 gX0_signsAt_X0_partAt rfl rfl nn_X0_partAt ⟨rfl, rfl⟩ ⟨by decide, by decide⟩ rfl rfl (Nat.le_of_ble_eq_true rfl) ?_
  refine v_top (ptA_n hk) ?_
  by_cases hn : k < (fr o 0).length
  · rw [if_pos hn]
    have h6 := fr_el ho hn
    refine v_istore_n (L' := [(2, _), (0, _), (1, _)]) dX0_signsAt_5 rfl (by decide) rfl ?_
    refine v_iload_n dX0_signsAt_6 rfl ?_
    refine n_if_lt (tgt := 19) dX0_signsAt_7 (by decide) (by omega) ?_
    refine v_aload_n dX0_signsAt_10 rfl ?_
    refine v_get (j := 0) iO10 rfl dX0_signsAt_11 (by decide) in_X0_signsAt_X0 fl_X0_signsAt_9 rfl ?_
    refine v_iload_n dX0_signsAt_14 rfl ?_
    refine v_ialdN (ofL (fr o 0) k) iI11 dX0_signsAt_15 rfl h6 (by decide) ?_
    refine v_top (hc.2.1 _ h6) ?_
    refine v_goto (tgt := 20) dX0_signsAt_16 (by decide) ?_
    exact v_iret rfl dX0_signsAt_20 ⟨congrArg (fun z => some (Value.int z)) (by rw [sgN, if_pos hn]), rfl⟩
  · rw [if_neg hn]
    refine v_istore_n (L' := [(2, _), (0, _), (1, _)]) dX0_signsAt_5 rfl (by decide) rfl ?_
    refine v_iload_n dX0_signsAt_6 rfl ?_
    refine v_if_lt (tgt := 19) dX0_signsAt_7 (by decide) (fun c7 => ?_) (fun c7 => absurd (by decide) c7)
    refine v_iconst (x := nI 0) dX0_signsAt_19 (by decide +kernel) ?_
    exact v_iret rfl dX0_signsAt_20 ⟨congrArg (fun z => some (Value.int z)) (by rw [sgN, if_neg hn]), rfl⟩
set_option maxRecDepth 100000 in
set_option maxHeartbeats 4000000 in
theorem s_X0_signsAt_m {v : EE} {o : OD} {σ : SS} (ho : OV o) (hr : ORw o σ) : S1 v M_X0_signsAt [.ref (v.1 10), .int (-1)] σ (some (.int (nI 0))) (σ) := by
  refine Sp.of rfl (by decide) rfl (Nat.le_of_ble_eq_true rfl) ?_
  show V v M_X0_signsAt _ 0 [(0, .ref (v.1 10)), (1, .int (-1))] [] σ
  refine v_aload_n dX0_signsAt_0 rfl ?_
  refine v_iload_n dX0_signsAt_1 rfl ?_
  refine v_callVi (M' := M_X0_partAt) (As := [_]) iO10 (s_X0_partAt ho hr _) dX0_signsAt_2 gX0_signsAt_X0_partAt rfl rfl nn_X0_partAt ⟨rfl, rfl⟩ ⟨by decide, by decide⟩ rfl rfl (Nat.le_of_ble_eq_true rfl) ?_
  refine v_top (ptA_neg (by decide)) ?_
  refine v_istore_n (L' := [(2, _), (0, _), (1, _)]) dX0_signsAt_5 rfl (by decide) rfl ?_
  refine v_iload_n dX0_signsAt_6 rfl ?_
  refine v_if_lt (tgt := 19) dX0_signsAt_7 (by decide) (fun c7 => ?_) (fun c7 => absurd (by decide) c7)
  refine v_iconst (x := nI 0) dX0_signsAt_19 (by decide +kernel) ?_
  exact v_iret rfl dX0_signsAt_20 ⟨rfl, rfl⟩
def sgU (o : OD) (n : Nat) : Nat := om (sgN o) (n + 1)
def sgB (o : OD) (n : Nat) : Nat := om (fun j => sgN o (n + 1 + j)) (5 - n)
theorem sgU_lt {o : OD} (ho : OV o) (n : Nat) : sgU o n < 2 ^ 16 := om_lt (fun k _ => sgN_lt ho k)
theorem sgB_lt {o : OD} (ho : OV o) (n : Nat) : sgB o n < 2 ^ 16 := om_lt (fun k _ => sgN_lt ho _)
set_option maxRecDepth 100000 in
set_option maxHeartbeats 4000000 in
theorem s_X0_signsUpTo {v : EE} {o : OD} {σ : SS} (ho : OV o) (hc : OC o σ) (hr : ORw o σ) {n : Nat} (hn : n < 6) : S1 v M_X0_signsUpTo [.ref (v.1 10), .int (nI n)] σ (some (.int (nI (sgU o n)))) (σ) := by
  refine Sp.of rfl (by decide) rfl (Nat.le_of_ble_eq_true rfl) ?_
  show V v M_X0_signsUpTo _ 0 [(0, .ref (v.1 10)), (1, .int (nI n))] [] σ
  refine v_iconst (x := nI 0) dX0_signsUpTo_0 (by decide +kernel) ?_
  refine v_istore_n (L' := [(2, _), (0, _), (1, _)]) dX0_signsUpTo_1 rfl (by decide) rfl ?_
  refine v_iconst (x := nI 0) dX0_signsUpTo_2 (by decide +kernel) ?_
  refine v_istore_n (L' := [(3, _), (2, _), (0, _), (1, _)]) dX0_signsUpTo_3 rfl (by decide) rfl ?_
  refine v_sub [2, 3, 1, 0] rfl ?_
  refine loopN (fun i => V v M_X0_signsUpTo (zR v M_X0_signsUpTo (fun r' σ' => r' = (some (.int (nI (sgU o n)))) ∧ σ' = (σ))) 4 [(0, .ref (v.1 10)), (1, .int (nI n)), (2, .int (nI (om (sgN o) i))), (3, .int (nI i))] [] (σ)) (n + 1) ?_ ?_
  · intro i hi ih
    refine v_iload_n dX0_signsUpTo_4 rfl ?_
    refine v_bipush (x := nI 6) dX0_signsUpTo_5 (by decide +kernel) ?_
    refine n_icmp_ge (tgt := 29) dX0_signsUpTo_7 (by decide) (by omega) (by omega) (fun c7 => absurd c7 (by omega)) (fun c7 => ?_)
    refine v_iload_n dX0_signsUpTo_10 rfl ?_
    refine v_iload_n dX0_signsUpTo_11 rfl ?_
    refine n_icmp_gt (tgt := 29) dX0_signsUpTo_12 (by decide) (by omega) (by omega) (fun c12 => absurd c12 (by omega)) (fun c12 => ?_)
    refine v_iload_n dX0_signsUpTo_15 rfl ?_
    refine v_aload_n dX0_signsUpTo_16 rfl ?_
    refine v_iload_n dX0_signsUpTo_17 rfl ?_
    refine v_callVi (M' := M_X0_signsAt) (As := [_]) iO10 (s_X0_signsAt ho hc hr (by omega)) dX0_signsUpTo_18 gX0_signsUpTo_X0_signsAt rfl rfl nn_X0_signsAt ⟨rfl, rfl⟩ ⟨by decide, by decide⟩ rfl rfl (Nat.le_of_ble_eq_true rfl) ?_
    refine n_ior dX0_signsUpTo_21 ?_
    refine v_istore_n (L' := [(2, _), (0, _), (1, _), (3, _)]) dX0_signsUpTo_22 rfl (by decide) rfl ?_
    refine n_iinc (n := 1) (L' := [(3, _), (2, _), (0, _), (1, _)]) dX0_signsUpTo_23 rfl (by decide) rfl ?_
    refine v_goto (tgt := 4) dX0_signsUpTo_26 (by decide) ?_
    refine v_sub [2, 3, 1, 0] rfl ?_
    exact ih
  · refine v_iload_n dX0_signsUpTo_4 rfl ?_
    refine v_bipush (x := nI 6) dX0_signsUpTo_5 (by decide +kernel) ?_
    refine n_icmp_ge (tgt := 29) dX0_signsUpTo_7 (by decide) (by omega) (by omega) (fun c7 => ?_) (fun c7 => ?_)
    · refine v_iload_n dX0_signsUpTo_29 rfl ?_
      exact v_iret rfl dX0_signsUpTo_30 ⟨rfl, rfl⟩
    · refine v_iload_n dX0_signsUpTo_10 rfl ?_
      refine v_iload_n dX0_signsUpTo_11 rfl ?_
      refine n_icmp_gt (tgt := 29) dX0_signsUpTo_12 (by decide) (by omega) (by omega) (fun c12 => ?_) (fun c12 => absurd c12 (by omega))
      refine v_iload_n dX0_signsUpTo_29 rfl ?_
      exact v_iret rfl dX0_signsUpTo_30 ⟨rfl, rfl⟩
set_option maxRecDepth 100000 in
set_option maxHeartbeats 4000000 in
theorem s_X0_signsBehind {v : EE} {o : OD} {σ : SS} (ho : OV o) (hc : OC o σ) (hr : ORw o σ) {n : Nat} (hn : n < 6) : S1 v M_X0_signsBehind [.ref (v.1 10), .int (nI n)] σ (some (.int (nI (sgB o n)))) (σ) := by
  refine Sp.of rfl (by decide) rfl (Nat.le_of_ble_eq_true rfl) ?_
  show V v M_X0_signsBehind _ 0 [(0, .ref (v.1 10)), (1, .int (nI n))] [] σ
  refine v_iconst (x := nI 0) dX0_signsBehind_0 (by decide +kernel) ?_
  refine v_istore_n (L' := [(2, _), (0, _), (1, _)]) dX0_signsBehind_1 rfl (by decide) rfl ?_
  refine v_iload_n dX0_signsBehind_2 rfl ?_
  refine v_iconst (x := nI 1) dX0_signsBehind_3 (by decide +kernel) ?_
  refine n_iadd dX0_signsBehind_4 ?_
  refine v_istore_n (L' := [(3, _), (2, _), (0, _), (1, _)]) dX0_signsBehind_5 rfl (by decide) rfl ?_
  refine v_sub [2, 3, 1, 0] rfl ?_
  refine loopN (fun i => V v M_X0_signsBehind (zR v M_X0_signsBehind (fun r' σ' => r' = (some (.int (nI (sgB o n)))) ∧ σ' = (σ))) 6 [(0, .ref (v.1 10)), (1, .int (nI n)), (2, .int (nI (om (fun j => sgN o (n + 1 + j)) i))), (3, .int (nI (n + 1 + i)))] [] (σ)) (5 - n) ?_ ?_
  · intro i hi ih
    refine v_iload_n dX0_signsBehind_6 rfl ?_
    refine v_bipush (x := nI 6) dX0_signsBehind_7 (by decide +kernel) ?_
    refine n_icmp_ge (tgt := 26) dX0_signsBehind_9 (by decide) (by omega) (by omega) (fun c9 => absurd c9 (by omega)) (fun c9 => ?_)
    refine v_iload_n dX0_signsBehind_12 rfl ?_
    refine v_aload_n dX0_signsBehind_13 rfl ?_
    refine v_iload_n dX0_signsBehind_14 rfl ?_
    refine v_callVi (M' := M_X0_signsAt) (As := [_]) iO10 (s_X0_signsAt ho hc hr (by omega)) dX0_signsBehind_15 gX0_signsBehind_X0_signsAt rfl rfl nn_X0_signsAt ⟨rfl, rfl⟩ ⟨by decide, by decide⟩ rfl rfl (Nat.le_of_ble_eq_true rfl) ?_
    refine n_ior dX0_signsBehind_18 ?_
    refine v_istore_n (L' := [(2, _), (0, _), (1, _), (3, _)]) dX0_signsBehind_19 rfl (by decide) rfl ?_
    refine n_iinc (n := 1) (L' := [(3, _), (2, _), (0, _), (1, _)]) dX0_signsBehind_20 rfl (by decide) rfl ?_
    refine v_goto (tgt := 6) dX0_signsBehind_23 (by decide) ?_
    refine v_sub [2, 3, 1, 0] rfl ?_
    exact ih
  · refine v_iload_n dX0_signsBehind_6 rfl ?_
    refine v_bipush (x := nI 6) dX0_signsBehind_7 (by decide +kernel) ?_
    refine n_icmp_ge (tgt := 26) dX0_signsBehind_9 (by decide) (by omega) (by omega) (fun c9 => ?_) (fun c9 => absurd c9 (by omega))
    refine v_iload_n dX0_signsBehind_26 rfl ?_
    exact v_iret rfl dX0_signsBehind_27 ⟨rfl, rfl⟩
set_option maxRecDepth 100000 in
set_option maxHeartbeats 4000000 in
theorem s_X0_goingOver {v : EE} {o : OD} {σ : SS} (ho : OV o) (hc : OC o σ) (hr : ORw o σ) {n : Nat} (hn : n < 6) : S1 v M_X0_goingOver [.ref (v.1 10), .int (nI n)] σ (some (.int (nI (sgU o n &&& sgB o n)))) (σ) := by
  refine Sp.of rfl (by decide) rfl (Nat.le_of_ble_eq_true rfl) ?_
  show V v M_X0_goingOver _ 0 [(0, .ref (v.1 10)), (1, .int (nI n))] [] σ
  refine v_aload_n dX0_goingOver_0 rfl ?_
  refine v_iload_n dX0_goingOver_1 rfl ?_
  refine v_callVi (M' := M_X0_signsUpTo) (As := [_]) iO10 (s_X0_signsUpTo ho hc hr hn) dX0_goingOver_2 gX0_goingOver_X0_signsUpTo rfl rfl nn_X0_signsUpTo ⟨rfl, rfl⟩ ⟨by decide, by decide⟩ rfl rfl (Nat.le_of_ble_eq_true rfl) ?_
  refine v_aload_n dX0_goingOver_5 rfl ?_
  refine v_iload_n dX0_goingOver_6 rfl ?_
  refine v_callVi (M' := M_X0_signsBehind) (As := [_]) iO10 (s_X0_signsBehind ho hc hr hn) dX0_goingOver_7 gX0_goingOver_X0_signsBehind rfl rfl nn_X0_signsBehind ⟨rfl, rfl⟩ ⟨by decide, by decide⟩ rfl rfl (Nat.le_of_ble_eq_true rfl) ?_
  refine n_iand dX0_goingOver_10 ?_
  exact v_iret rfl dX0_goingOver_11 ⟨rfl, rfl⟩
set_option maxRecDepth 100000 in
set_option maxHeartbeats 4000000 in
theorem s_X0_endingAt {v : EE} {o : OD} {σ : SS} (ho : OV o) (hc : OC o σ) (hr : ORw o σ) {n : Nat} (hn : n < 6) : S1 v M_X0_endingAt [.ref (v.1 10), .int (nI n)] σ (some (.int (nI (dif (sgN o n) (sgB o n))))) (σ) := by
  refine Sp.of rfl (by decide) rfl (Nat.le_of_ble_eq_true rfl) ?_
  show V v M_X0_endingAt _ 0 [(0, .ref (v.1 10)), (1, .int (nI n))] [] σ
  refine v_aload_n dX0_endingAt_0 rfl ?_
  refine v_iload_n dX0_endingAt_1 rfl ?_
  refine v_callVi (M' := M_X0_signsAt) (As := [_]) iO10 (s_X0_signsAt ho hc hr (by omega)) dX0_endingAt_2 gX0_endingAt_X0_signsAt rfl rfl nn_X0_signsAt ⟨rfl, rfl⟩ ⟨by decide, by decide⟩ rfl rfl (Nat.le_of_ble_eq_true rfl) ?_
  refine v_aload_n dX0_endingAt_5 rfl ?_
  refine v_iload_n dX0_endingAt_6 rfl ?_
  refine v_callVi (M' := M_X0_signsBehind) (As := [_]) iO10 (s_X0_signsBehind ho hc hr hn) dX0_endingAt_7 gX0_endingAt_X0_signsBehind rfl rfl nn_X0_signsBehind ⟨rfl, rfl⟩ ⟨by decide, by decide⟩ rfl rfl (Nat.le_of_ble_eq_true rfl) ?_
  refine v_iconst (x := (-1)) dX0_endingAt_10 rfl ?_
  refine v_ixor dX0_endingAt_11 ?_
  refine n_dif dX0_endingAt_12 ?_
  exact v_iret rfl dX0_endingAt_13 ⟨rfl, rfl⟩
set_option maxRecDepth 100000 in
set_option maxHeartbeats 4000000 in
theorem s_X0_beginningAt {v : EE} {o : OD} {σ : SS} (ho : OV o) (hc : OC o σ) (hr : ORw o σ) {n : Nat} (hn : n < 6) : S1 v M_X0_beginningAt [.ref (v.1 10), .int (nI n)] σ (some (.int (nI (dif (sgN o (n + 1)) (sgU o n))))) (σ) := by
  refine Sp.of rfl (by decide) rfl (Nat.le_of_ble_eq_true rfl) ?_
  show V v M_X0_beginningAt _ 0 [(0, .ref (v.1 10)), (1, .int (nI n))] [] σ
  refine v_aload_n dX0_beginningAt_0 rfl ?_
  refine v_iload_n dX0_beginningAt_1 rfl ?_
  refine v_iconst (x := nI 1) dX0_beginningAt_2 (by decide +kernel) ?_
  refine n_iadd dX0_beginningAt_3 ?_
  refine v_callVi (M' := M_X0_signsAt) (As := [_]) iO10 (s_X0_signsAt ho hc hr (by omega)) dX0_beginningAt_4 gX0_beginningAt_X0_signsAt rfl rfl nn_X0_signsAt ⟨rfl, rfl⟩ ⟨by decide, by decide⟩ rfl rfl (Nat.le_of_ble_eq_true rfl) ?_
  refine v_aload_n dX0_beginningAt_7 rfl ?_
  refine v_iload_n dX0_beginningAt_8 rfl ?_
  refine v_callVi (M' := M_X0_signsUpTo) (As := [_]) iO10 (s_X0_signsUpTo ho hc hr hn) dX0_beginningAt_9 gX0_beginningAt_X0_signsUpTo rfl rfl nn_X0_signsUpTo ⟨rfl, rfl⟩ ⟨by decide, by decide⟩ rfl rfl (Nat.le_of_ble_eq_true rfl) ?_
  refine v_iconst (x := (-1)) dX0_beginningAt_12 rfl ?_
  refine v_ixor dX0_beginningAt_13 ?_
  refine n_dif dX0_beginningAt_14 ?_
  exact v_iret rfl dX0_beginningAt_15 ⟨rfl, rfl⟩
def sgP (o : OD) (n : Nat) : Nat := if n = 0 then 0 else sgN o (n - 1)
def sgS (o : OD) : Nat := om (fun j => sgN o j &&& sgN o (j + 1)) 5
def sgX (o : OD) (n : Nat) : Nat := dif (dif (sgN o n) (sgP o n)) (sgN o (n + 1)) &&& sgS o
set_option maxRecDepth 100000 in
set_option maxHeartbeats 4000000 in
theorem s_X0_astrayAt {v : EE} {o : OD} {σ : SS} (ho : OV o) (hc : OC o σ) (hr : ORw o σ) {n : Nat} (hn : n < 6) : S1 v M_X0_astrayAt [.ref (v.1 10), .int (nI n)] σ (some (.int (nI (sgX o n)))) (σ) := by
  refine Sp.of rfl (by decide) rfl (Nat.le_of_ble_eq_true rfl) ?_
  show V v M_X0_astrayAt _ 0 [(0, .ref (v.1 10)), (1, .int (nI n))] [] σ
  refine v_iconst (x := nI 0) dX0_astrayAt_0 (by decide +kernel) ?_
  refine v_istore_n (L' := [(2, _), (0, _), (1, _)]) dX0_astrayAt_1 rfl (by decide) rfl ?_
  refine v_iconst (x := nI 0) dX0_astrayAt_2 (by decide +kernel) ?_
  refine v_istore_n (L' := [(3, _), (2, _), (0, _), (1, _)]) dX0_astrayAt_3 rfl (by decide) rfl ?_
  refine v_sub [2, 3, 1, 0] rfl ?_
  refine loopN (fun i => V v M_X0_astrayAt (zR v M_X0_astrayAt (fun r' σ' => r' = (some (.int (nI (sgX o n)))) ∧ σ' = (σ))) 4 [(0, .ref (v.1 10)), (1, .int (nI n)), (2, .int (nI (om (fun j => sgN o j &&& sgN o (j + 1)) i))), (3, .int (nI i))] [] (σ)) 5 ?_ ?_
  · intro i hi ih
    refine v_iload_n dX0_astrayAt_4 rfl ?_
    refine v_iconst (x := nI 5) dX0_astrayAt_5 (by decide +kernel) ?_
    refine n_icmp_ge (tgt := 31) dX0_astrayAt_6 (by decide) (by omega) (by omega) (fun c6 => absurd c6 (by omega)) (fun c6 => ?_)
    refine v_iload_n dX0_astrayAt_9 rfl ?_
    refine v_aload_n dX0_astrayAt_10 rfl ?_
    refine v_iload_n dX0_astrayAt_11 rfl ?_
    refine v_callVi (M' := M_X0_signsAt) (As := [_]) iO10 (s_X0_signsAt ho hc hr (by omega)) dX0_astrayAt_12 gX0_astrayAt_X0_signsAt rfl rfl nn_X0_signsAt ⟨rfl, rfl⟩ ⟨by decide, by decide⟩ rfl rfl (Nat.le_of_ble_eq_true rfl) ?_
    refine v_aload_n dX0_astrayAt_15 rfl ?_
    refine v_iload_n dX0_astrayAt_16 rfl ?_
    refine v_iconst (x := nI 1) dX0_astrayAt_17 (by decide +kernel) ?_
    refine n_iadd dX0_astrayAt_18 ?_
    refine v_callVi (M' := M_X0_signsAt) (As := [_]) iO10 (s_X0_signsAt ho hc hr (by omega)) dX0_astrayAt_19 gX0_astrayAt_X0_signsAt rfl rfl nn_X0_signsAt ⟨rfl, rfl⟩ ⟨by decide, by decide⟩ rfl rfl (Nat.le_of_ble_eq_true rfl) ?_
    refine n_iand dX0_astrayAt_22 ?_
    refine n_ior dX0_astrayAt_23 ?_
    refine v_istore_n (L' := [(2, _), (0, _), (1, _), (3, _)]) dX0_astrayAt_24 rfl (by decide) rfl ?_
    refine n_iinc (n := 1) (L' := [(3, _), (2, _), (0, _), (1, _)]) dX0_astrayAt_25 rfl (by decide) rfl ?_
    refine v_goto (tgt := 4) dX0_astrayAt_28 (by decide) ?_
    refine v_sub [2, 3, 1, 0] rfl ?_
    exact ih
  · refine v_iload_n dX0_astrayAt_4 rfl ?_
    refine v_iconst (x := nI 5) dX0_astrayAt_5 (by decide +kernel) ?_
    refine n_icmp_ge (tgt := 31) dX0_astrayAt_6 (by decide) (by omega) (by omega) (fun c6 => ?_) (fun c6 => absurd c6 (by omega))
    refine v_aload_n dX0_astrayAt_31 rfl ?_
    refine v_iload_n dX0_astrayAt_32 rfl ?_
    refine v_callVi (M' := M_X0_signsAt) (As := [_]) iO10 (s_X0_signsAt ho hc hr (by omega)) dX0_astrayAt_33 gX0_astrayAt_X0_signsAt rfl rfl nn_X0_signsAt ⟨rfl, rfl⟩ ⟨by decide, by decide⟩ rfl rfl (Nat.le_of_ble_eq_true rfl) ?_
    by_cases h0 : n = 0
    · subst h0
      refine v_aload_n dX0_astrayAt_36 rfl ?_
      refine v_iload_n dX0_astrayAt_37 rfl ?_
      refine v_iconst (x := nI 1) dX0_astrayAt_38 (by decide +kernel) ?_
      refine v_isub dX0_astrayAt_39 ?_
      refine v_top (y := -1) (by decide) ?_
      refine v_callVi (M' := M_X0_signsAt) (As := [_]) iO10 (s_X0_signsAt_m ho hr) dX0_astrayAt_40 gX0_astrayAt_X0_signsAt rfl rfl nn_X0_signsAt ⟨rfl, rfl⟩ ⟨by decide, by decide⟩ rfl rfl (Nat.le_of_ble_eq_true rfl) ?_
      refine v_iconst (x := (-1)) dX0_astrayAt_43 rfl ?_
      refine v_ixor dX0_astrayAt_44 ?_
      refine n_dif dX0_astrayAt_45 ?_
      refine v_aload_n dX0_astrayAt_46 rfl ?_
      refine v_iload_n dX0_astrayAt_47 rfl ?_
      refine v_iconst (x := nI 1) dX0_astrayAt_48 (by decide +kernel) ?_
      refine n_iadd dX0_astrayAt_49 ?_
      refine v_callVi (M' := M_X0_signsAt) (As := [_]) iO10 (s_X0_signsAt ho hc hr (by omega)) dX0_astrayAt_50 gX0_astrayAt_X0_signsAt rfl rfl nn_X0_signsAt ⟨rfl, rfl⟩ ⟨by decide, by decide⟩ rfl rfl (Nat.le_of_ble_eq_true rfl) ?_
      refine v_iconst (x := (-1)) dX0_astrayAt_53 rfl ?_
      refine v_ixor dX0_astrayAt_54 ?_
      refine n_dif dX0_astrayAt_55 ?_
      refine v_iload_n dX0_astrayAt_56 rfl ?_
      refine n_iand dX0_astrayAt_57 ?_
      exact v_iret rfl dX0_astrayAt_58 ⟨congrArg (fun z => some (Value.int z)) (by rw [sgX, sgP, if_pos rfl]; rfl), rfl⟩
    · refine v_aload_n dX0_astrayAt_36 rfl ?_
      refine v_iload_n dX0_astrayAt_37 rfl ?_
      refine v_iconst (x := nI 1) dX0_astrayAt_38 (by decide +kernel) ?_
      refine n_isub dX0_astrayAt_39 (by omega) ?_
      refine v_callVi (M' := M_X0_signsAt) (As := [_]) iO10 (s_X0_signsAt ho hc hr (by omega)) dX0_astrayAt_40 gX0_astrayAt_X0_signsAt rfl rfl nn_X0_signsAt ⟨rfl, rfl⟩ ⟨by decide, by decide⟩ rfl rfl (Nat.le_of_ble_eq_true rfl) ?_
      refine v_iconst (x := (-1)) dX0_astrayAt_43 rfl ?_
      refine v_ixor dX0_astrayAt_44 ?_
      refine n_dif dX0_astrayAt_45 ?_
      refine v_aload_n dX0_astrayAt_46 rfl ?_
      refine v_iload_n dX0_astrayAt_47 rfl ?_
      refine v_iconst (x := nI 1) dX0_astrayAt_48 (by decide +kernel) ?_
      refine n_iadd dX0_astrayAt_49 ?_
      refine v_callVi (M' := M_X0_signsAt) (As := [_]) iO10 (s_X0_signsAt ho hc hr (by omega)) dX0_astrayAt_50 gX0_astrayAt_X0_signsAt rfl rfl nn_X0_signsAt ⟨rfl, rfl⟩ ⟨by decide, by decide⟩ rfl rfl (Nat.le_of_ble_eq_true rfl) ?_
      refine v_iconst (x := (-1)) dX0_astrayAt_53 rfl ?_
      refine v_ixor dX0_astrayAt_54 ?_
      refine n_dif dX0_astrayAt_55 ?_
      refine v_iload_n dX0_astrayAt_56 rfl ?_
      refine n_iand dX0_astrayAt_57 ?_
      exact v_iret rfl dX0_astrayAt_58 ⟨congrArg (fun z => some (Value.int z)) (by rw [sgX, sgP, if_neg h0]; rfl), rfl⟩
