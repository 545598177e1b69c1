theorem in_X4_best_X4 : ∀ w ∈ u_ws RX4 TX4 8, w ∈ mWs M_X4_best := by decide +kernel
theorem in_X4_pause_X0 : ∀ w ∈ u_ws RX0 TX0 10, w ∈ mWs M_X4_pause := by decide +kernel
theorem in_X4_pause_X4 : ∀ w ∈ u_ws RX4 TX4 8, w ∈ mWs M_X4_pause := by decide +kernel
theorem in_X4_seam_X4 : ∀ w ∈ u_ws RX4 TX4 8, w ∈ mWs M_X4_seam := by decide +kernel
theorem in_X4_sure_X4 : ∀ w ∈ u_ws RX4 TX4 8, w ∈ mWs M_X4_sure := by decide +kernel
theorem fl_X4_best_26 : Cond.fieldLink (mOwn M_X4_best) 26 (TX4 2).1 (TX4 2).2.1 (TX4 2).2.2.1 ∈ mWs M_X4_best := by decide +kernel
theorem fl_X4_best_42 : Cond.fieldLink (mOwn M_X4_best) 42 (TX4 5).1 (TX4 5).2.1 (TX4 5).2.2.1 ∈ mWs M_X4_best := by decide +kernel
theorem fl_X4_pause_26 : Cond.fieldLink (mOwn M_X4_pause) 26 (TX4 2).1 (TX4 2).2.1 (TX4 2).2.2.1 ∈ mWs M_X4_pause := by decide +kernel
theorem fl_X4_pause_42 : Cond.fieldLink (mOwn M_X4_pause) 42 (TX4 5).1 (TX4 5).2.1 (TX4 5).2.2.1 ∈ mWs M_X4_pause := by decide +kernel
theorem fl_X4_pause_169 : Cond.fieldLink (mOwn M_X4_pause) 169 (TX0 8).1 (TX0 8).2.1 (TX0 8).2.2.1 ∈ mWs M_X4_pause := by decide +kernel
theorem fl_X4_seam_26 : Cond.fieldLink (mOwn M_X4_seam) 26 (TX4 2).1 (TX4 2).2.1 (TX4 2).2.2.1 ∈ mWs M_X4_seam := by decide +kernel
theorem fl_X4_seam_42 : Cond.fieldLink (mOwn M_X4_seam) 42 (TX4 5).1 (TX4 5).2.1 (TX4 5).2.2.1 ∈ mWs M_X4_seam := by decide +kernel
theorem fl_X4_sure_26 : Cond.fieldLink (mOwn M_X4_sure) 26 (TX4 2).1 (TX4 2).2.1 (TX4 2).2.2.1 ∈ mWs M_X4_sure := by decide +kernel
theorem fl_X4_sure_42 : Cond.fieldLink (mOwn M_X4_sure) 42 (TX4 5).1 (TX4 5).2.1 (TX4 5).2.2.1 ∈ mWs M_X4_sure := by decide +kernel
theorem nn_X0_beginningAt : (mY M_X0_beginningAt).cls = mOwn M_X0_beginningAt ∧ (mY M_X0_beginningAt).cls ≠ "java/lang/invoke/MethodHandle" ∧ (mY M_X0_beginningAt).cls ≠ "java/lang/invoke/VarHandle" ∧ (parseMethodDescriptor (mY M_X0_beginningAt).desc).map (fun d => d.parameters.length) = some 1 := by decide +kernel
theorem nn_X0_endingAt : (mY M_X0_endingAt).cls = mOwn M_X0_endingAt ∧ (mY M_X0_endingAt).cls ≠ "java/lang/invoke/MethodHandle" ∧ (mY M_X0_endingAt).cls ≠ "java/lang/invoke/VarHandle" ∧ (parseMethodDescriptor (mY M_X0_endingAt).desc).map (fun d => d.parameters.length) = some 1 := by decide +kernel
theorem nn_X0_exist : (mY M_X0_exist).cls = mOwn M_X0_exist ∧ (mY M_X0_exist).cls ≠ "java/lang/invoke/MethodHandle" ∧ (mY M_X0_exist).cls ≠ "java/lang/invoke/VarHandle" ∧ (parseMethodDescriptor (mY M_X0_exist).desc).map (fun d => d.parameters.length) = some 0 := by decide +kernel
theorem nn_X0_fewestGaps : (mY M_X0_fewestGaps).cls = mOwn M_X0_fewestGaps ∧ (mY M_X0_fewestGaps).cls ≠ "java/lang/invoke/MethodHandle" ∧ (mY M_X0_fewestGaps).cls ≠ "java/lang/invoke/VarHandle" ∧ (parseMethodDescriptor (mY M_X0_fewestGaps).desc).map (fun d => d.parameters.length) = some 0 := by decide +kernel
theorem nn_X0_goingOver : (mY M_X0_goingOver).cls = mOwn M_X0_goingOver ∧ (mY M_X0_goingOver).cls ≠ "java/lang/invoke/MethodHandle" ∧ (mY M_X0_goingOver).cls ≠ "java/lang/invoke/VarHandle" ∧ (parseMethodDescriptor (mY M_X0_goingOver).desc).map (fun d => d.parameters.length) = some 1 := by decide +kernel
theorem nn_X0_howMany : (mY M_X0_howMany).cls = mOwn M_X0_howMany ∧ (mY M_X0_howMany).cls ≠ "java/lang/invoke/MethodHandle" ∧ (mY M_X0_howMany).cls ≠ "java/lang/invoke/VarHandle" ∧ (parseMethodDescriptor (mY M_X0_howMany).desc).map (fun d => d.parameters.length) = some 0 := by decide +kernel
theorem nn_X0_howManyAhead : (mY M_X0_howManyAhead).cls = mOwn M_X0_howManyAhead ∧ (mY M_X0_howManyAhead).cls ≠ "java/lang/invoke/MethodHandle" ∧ (mY M_X0_howManyAhead).cls ≠ "java/lang/invoke/VarHandle" ∧ (parseMethodDescriptor (mY M_X0_howManyAhead).desc).map (fun d => d.parameters.length) = some 2 := by decide +kernel
theorem nn_X0_weighWall : (mY M_X0_weighWall).cls = mOwn M_X0_weighWall ∧ (mY M_X0_weighWall).cls ≠ "java/lang/invoke/MethodHandle" ∧ (mY M_X0_weighWall).cls ≠ "java/lang/invoke/VarHandle" ∧ (parseMethodDescriptor (mY M_X0_weighWall).desc).map (fun d => d.parameters.length) = some 1 := by decide +kernel
def nB (w : WD) : Nat := (TL (odW w) 0).length
def q_best (w : WD) (i : Int32) : Int32 := if -2 ≤ i then (if 0 < nB w then (if i = -1 then nI (few (odW w) 0) else if i = -2 then nI (nB w) else ptA (fr (odW w) 0) i) else -4) else -1
def cS (w : WD) (p q : Nat) : Nat := (TL (odW w) 0).countP (bef p q)
def q_sure (w : WD) (p q : Int32) : Int32 := if two w p q = true then (if 0 < nB w then (if cS w p.toNatClampNeg q.toNatClampNeg = nB w then 1 else if cS w p.toNatClampNeg q.toNatClampNeg = 0 then 2 else 0) else -4) else -1
def q_seam (w : WD) (i what : Int32) : Int32 := if isN i (pc (pbits w) - 1) = true ∧ isN what 3 = true then (if 0 < nB w then (if what = 0 then nI (pc (sgU (odW w) i.toNatClampNeg &&& sgB (odW w) i.toNatClampNeg)) else if what = 1 then nI (pc (dif (sgN (odW w) i.toNatClampNeg) (sgB (odW w) i.toNatClampNeg))) else nI (pc (dif (sgN (odW w) (i.toNatClampNeg + 1)) (sgU (odW w) i.toNatClampNeg)))) else -4) else -1
theorem pos_ne {α : Type} {l : List α} (h : 0 < l.length) : l ≠ [] := fun e => by rw [e] at h; cases h
def amn (c : Nat → Bool) (f : Nat → Nat) : Nat → Option Nat
  | 0 => none
  | i + 1 => if c i then (match amn c f i with | none => some i | some j => if f i < f j then some i else some j) else amn c f i
def opI : Option Nat → Int32
  | none => -4
  | some j => nI j
def opF (f : Nat → Nat) : Option Nat → Nat
  | none => 0
  | some j => f j
theorem amn_n {c : Nat → Bool} {f : Nat → Nat} {i : Nat} (hc : c i = true) (h : amn c f i = none) : amn c f (i + 1) = some i := by rw [amn, if_pos hc, h]
theorem amn_lt {c : Nat → Bool} {f : Nat → Nat} {i j : Nat} (hc : c i = true) (h : amn c f i = some j) (hl : f i < f j) : amn c f (i + 1) = some i := by rw [amn, if_pos hc, h]; exact if_pos hl
theorem amn_ge {c : Nat → Bool} {f : Nat → Nat} {i j : Nat} (hc : c i = true) (h : amn c f i = some j) (hl : f j ≤ f i) : amn c f (i + 1) = some j := by rw [amn, if_pos hc, h]; exact if_neg (by omega)
theorem amn_no {c : Nat → Bool} {f : Nat → Nat} {i : Nat} (hc : c i = false) : amn c f (i + 1) = amn c f i := by rw [amn, if_neg (by rw [hc]; decide)]
theorem amn_bd {c : Nat → Bool} {f : Nat → Nat} : ∀ {i j : Nat}, amn c f i = some j → j < i
  | 0, j, h => by cases h
  | i + 1, j, h => by
    cases hc : c i with
    | false => rw [amn_no hc] at h; have := amn_bd h; omega
    | true =>
      cases e : amn c f i with
      | none => rw [amn_n hc e] at h; cases h; omega
      | some k =>
        have := amn_bd e
        by_cases q : f i < f k
        · rw [amn_lt hc e q] at h; cases h; omega
        · rw [amn_ge hc e (by omega)] at h; cases h; omega
def psF (w : WD) (i : Nat) : Nat := skO (odW w) (sgU (odW w) i &&& sgB (odW w) i)
def q_pause (w : WD) : Int32 := opI (amn (fun _ => true) (psF w) ((fr (odW w) 0).length - 1))
set_option maxRecDepth 100000 in
set_option maxHeartbeats 4000000 in
theorem s_X4_best {v : EE} {s : AS} {z : Nat} {σ : SS} (hr : RC s σ) (hv : WV z (aW s)) (hz : z ≤ 1000000) (i : Int32) : SR v M_X4_best [.ref (v.1 0), .int i] σ (some (.int (q_best (aW s) i))) (fun σ' => RC s σ' ∧ FC σ σ') := by
  refine Sp.of rfl (by decide) rfl (Nat.le_of_ble_eq_true rfl) ?_
  show V v M_X4_best _ 0 [(0, .ref (v.1 0)), (1, .int i)] [] σ
  have hla := hr.la
  have hw := hr.ch
  refine v_iload_n dX4_best_0 rfl ?_
  refine v_bipush (x := (-2)) dX4_best_1 (by decide +kernel) ?_
  refine v_icmp_ge (tgt := 8) dX4_best_3 (by decide) (fun c3 => ?_) (fun c3 => ?_)
  · refine v_aload_n dX4_best_8 rfl ?_
    refine v_get (j := 2) iO0 rfl dX4_best_9 (by decide) in_X4_best_X4 fl_X4_best_26 rfl ?_
    refine v_aload_n dX4_best_12 rfl ?_
    refine v_get (j := 5) iO0 rfl dX4_best_13 (by decide) in_X4_best_X4 fl_X4_best_42 rfl ?_
    refine v_callVRv (M' := M_X0_weighWall) (As := [_]) iO10 (s_X0_weighWall hla hw hv hz hr.g0) dX4_best_16 gX4_best_X0_weighWall rfl rfl nn_X0_weighWall ⟨rfl, rfl⟩ ⟨by decide, by decide⟩ rfl rfl (Nat.le_of_ble_eq_true rfl) (fun s1 h1 => ?_)
    have hf := h1.2
    have hr1 := hf.rc hr
    have hla := hr1.la
    have hw := hr1.ch
    have ho := ov_W hv
    have hF := hf.fc
    refine v_aload_n dX4_best_19 rfl ?_
    refine v_get (j := 2) iO0 rfl dX4_best_20 (by decide) in_X4_best_X4 fl_X4_best_26 rfl ?_
    refine v_callVi (M' := M_X0_exist) (As := []) iO10 (s_X0_exist ho h1.1.2.1) dX4_best_23 gX4_best_X0_exist rfl rfl nn_X0_exist ⟨rfl, rfl⟩ ⟨by decide, by decide⟩ rfl rfl (Nat.le_of_ble_eq_true rfl) ?_
    refine b_if_ne (tgt := 32) dX4_best_26 (by decide) (fun c26 => ?_) (fun c26 => ?_)
    · refine v_iload_n dX4_best_32 rfl ?_
      refine v_iconst (x := (-1)) dX4_best_33 rfl ?_
      refine v_icmp_ne (tgt := 45) dX4_best_34 (by decide) (fun c34 => ?_) (fun c34 => ?_)
      · refine v_iload_n dX4_best_45 rfl ?_
        refine v_bipush (x := (-2)) dX4_best_46 (by decide +kernel) ?_
        refine v_icmp_ne (tgt := 59) dX4_best_48 (by decide) (fun c48 => ?_) (fun c48 => ?_)
        · refine v_aload_n dX4_best_59 rfl ?_
          refine v_get (j := 2) iO0 rfl dX4_best_60 (by decide) in_X4_best_X4 fl_X4_best_26 rfl ?_
          refine v_iload_n dX4_best_63 rfl ?_
          refine v_callVi (M' := M_X0_partAt) (As := [_]) iO10 (s_X0_partAt ho h1.1.2.2 _) dX4_best_64 gX4_best_X0_partAt rfl rfl nn_X0_partAt ⟨rfl, rfl⟩ ⟨by decide, by decide⟩ rfl rfl (Nat.le_of_ble_eq_true rfl) ?_
          exact v_iret rfl dX4_best_67 ⟨congrArg (fun z => some (Value.int z)) (by rw [q_best, if_pos c3, if_pos (by have := of_decide_eq_true c26; exact this), if_neg c34, if_neg c48]), hr1, hF⟩
        · refine v_aload_n dX4_best_51 rfl ?_
          refine v_get (j := 2) iO0 rfl dX4_best_52 (by decide) in_X4_best_X4 fl_X4_best_26 rfl ?_
          refine v_callVi (M' := M_X0_howMany) (As := []) iO10 (s_X0_howMany ho h1.1.2.1) dX4_best_55 gX4_best_X0_howMany rfl rfl nn_X0_howMany ⟨rfl, rfl⟩ ⟨by decide, by decide⟩ rfl rfl (Nat.le_of_ble_eq_true rfl) ?_
          exact v_iret rfl dX4_best_58 ⟨congrArg (fun z => some (Value.int z)) (by rw [q_best, if_pos c3, if_pos (by have := of_decide_eq_true c26; exact this), if_neg c34, if_pos c48]; rfl), hr1, hF⟩
      · refine v_aload_n dX4_best_37 rfl ?_
        refine v_get (j := 2) iO0 rfl dX4_best_38 (by decide) in_X4_best_X4 fl_X4_best_26 rfl ?_
        refine v_callVi (M' := M_X0_fewestGaps) (As := []) iO10 (s_X0_fewestGaps ho h1.1.2.1) dX4_best_41 gX4_best_X0_fewestGaps rfl rfl nn_X0_fewestGaps ⟨rfl, rfl⟩ ⟨by decide, by decide⟩ rfl rfl (Nat.le_of_ble_eq_true rfl) ?_
        exact v_iret rfl dX4_best_44 ⟨congrArg (fun z => some (Value.int z)) (by rw [q_best, if_pos c3, if_pos (by have := of_decide_eq_true c26; exact this), if_pos c34]), hr1, hF⟩
    · refine v_bipush (x := (-4)) dX4_best_29 (by decide +kernel) ?_
      exact v_iret rfl dX4_best_31 ⟨congrArg (fun z => some (Value.int z)) (by rw [q_best, if_pos c3, if_neg (fun h => by rw [nB] at h; rw [decide_eq_true h] at c26; cases c26)]), hr1, hF⟩
  · refine v_iconst (x := (-1)) dX4_best_6 rfl ?_
    exact v_iret rfl dX4_best_7 ⟨congrArg (fun z => some (Value.int z)) (by rw [q_best, if_neg c3]), hr, FC.rf σ⟩
set_option maxRecDepth 100000 in
set_option maxHeartbeats 4000000 in
theorem s_X4_sure {v : EE} {s : AS} {z : Nat} {σ : SS} (hr : RC s σ) (hv : WV z (aW s)) (hz : z ≤ 1000000) (P Q : Int32) : SR v M_X4_sure [.ref (v.1 0), .int P, .int Q] σ (some (.int (q_sure (aW s) P Q))) (fun σ' => RC s σ' ∧ FC σ σ') := by
  refine Sp.of rfl (by decide) rfl (Nat.le_of_ble_eq_true rfl) ?_
  show V v M_X4_sure _ 0 [(0, .ref (v.1 0)), (1, .int P), (2, .int Q)] [] σ
  have hla := hr.la
  have hw := hr.ch
  refine v_aload_n dX4_sure_0 rfl ?_
  refine v_iload_n dX4_sure_1 rfl ?_
  refine v_iload_n dX4_sure_2 rfl ?_
  refine v_callVi (M' := M_X4_areTwoParts) (As := [_, _]) iO0 (s_X4_areTwoParts hla hw hv _ _) dX4_sure_3 gX4_sure_X4_areTwoParts rfl rfl nn_X4_areTwoParts ⟨rfl, rfl⟩ ⟨by decide, by decide⟩ rfl rfl (Nat.le_of_ble_eq_true rfl) ?_
  refine b_if_ne (tgt := 11) dX4_sure_6 (by decide) (fun c6 => ?_) (fun c6 => ?_)
  · have hh := c6
    obtain ⟨p, q, hp, hq, rfl, rfl, hpq⟩ := two_nI hh
    refine v_aload_n dX4_sure_11 rfl ?_
    refine v_get (j := 2) iO0 rfl dX4_sure_12 (by decide) in_X4_sure_X4 fl_X4_sure_26 rfl ?_
    refine v_aload_n dX4_sure_15 rfl ?_
    refine v_get (j := 5) iO0 rfl dX4_sure_16 (by decide) in_X4_sure_X4 fl_X4_sure_42 rfl ?_
    refine v_callVRv (M' := M_X0_weighWall) (As := [_]) iO10 (s_X0_weighWall hla hw hv hz hr.g0) dX4_sure_19 gX4_sure_X0_weighWall rfl rfl nn_X0_weighWall ⟨rfl, rfl⟩ ⟨by decide, by decide⟩ rfl rfl (Nat.le_of_ble_eq_true rfl) (fun s1 h1 => ?_)
    have hf := h1.2
    have hr1 := hf.rc hr
    have hla := hr1.la
    have hw := hr1.ch
    have ho := ov_W hv
    have hF := hf.fc
    refine v_aload_n dX4_sure_22 rfl ?_
    refine v_get (j := 2) iO0 rfl dX4_sure_23 (by decide) in_X4_sure_X4 fl_X4_sure_26 rfl ?_
    refine v_callVi (M' := M_X0_exist) (As := []) iO10 (s_X0_exist ho h1.1.2.1) dX4_sure_26 gX4_sure_X0_exist rfl rfl nn_X0_exist ⟨rfl, rfl⟩ ⟨by decide, by decide⟩ rfl rfl (Nat.le_of_ble_eq_true rfl) ?_
    refine b_if_ne (tgt := 35) dX4_sure_29 (by decide) (fun c29 => ?_) (fun c29 => ?_)
    · have hn := pos_ne (of_decide_eq_true c29)
      have hb := TL_b ho (A := 0) (by decide)
      have hcp : (TL (odW (aW s)) 0).countP (bef p q) ≤ _ := List.countP_le_length
      refine v_aload_n dX4_sure_35 rfl ?_
      refine v_get (j := 2) iO0 rfl dX4_sure_36 (by decide) in_X4_sure_X4 fl_X4_sure_26 rfl ?_
      refine v_iload_n dX4_sure_39 rfl ?_
      refine v_iload_n dX4_sure_40 rfl ?_
      refine v_callVRi (M' := M_X0_howManyAhead) (As := [_, _]) iO10 (s_X0_howManyAhead ho h1.1.1 h1.1.2.1 hp hq hpq hn) dX4_sure_41 gX4_sure_X0_howManyAhead rfl rfl nn_X0_howManyAhead ⟨rfl, rfl⟩ ⟨by decide, by decide⟩ rfl rfl (Nat.le_of_ble_eq_true rfl) (fun s2 h2 => ?_)
      have hr1 := h2.fo.rc hr1
      have hF := (hf.tr h2.fo).fc
      refine v_istore_n (L' := [(3, _), (0, _), (1, _), (2, _)]) dX4_sure_44 rfl (by decide) rfl ?_
      refine v_iload_n dX4_sure_45 rfl ?_
      refine v_aload_n dX4_sure_46 rfl ?_
      refine v_get (j := 2) iO0 rfl dX4_sure_47 (by decide) in_X4_sure_X4 fl_X4_sure_26 rfl ?_
      refine v_callVi (M' := M_X0_howMany) (As := []) iO10 (s_X0_howMany ho (h2.ot h1.1.2.1)) dX4_sure_50 gX4_sure_X0_howMany rfl rfl nn_X0_howMany ⟨rfl, rfl⟩ ⟨by decide, by decide⟩ rfl rfl (Nat.le_of_ble_eq_true rfl) ?_
      refine n_icmp_ne (tgt := 58) dX4_sure_53 (by decide) (by omega) (by omega) (fun c53 => ?_) (fun c53 => ?_)
      · refine v_iload_n dX4_sure_58 rfl ?_
        refine n_if_ne (tgt := 66) dX4_sure_59 (by decide) (by omega) (fun c59 => ?_) (fun c59 => ?_)
        · refine v_iconst (x := nI 0) dX4_sure_66 (by decide +kernel) ?_
          exact v_iret rfl dX4_sure_67 ⟨congrArg (fun z => some (Value.int z)) (by rw [q_sure, if_pos hh, if_pos (by have := of_decide_eq_true c29; exact this), nI_clamp (by omega), nI_clamp (by omega), if_neg (by exact c53), if_neg (by exact c59)]; rfl), hr1, hF⟩
        · refine v_iconst (x := nI 2) dX4_sure_62 (by decide +kernel) ?_
          refine v_goto (tgt := 67) dX4_sure_63 (by decide) ?_
          exact v_iret rfl dX4_sure_67 ⟨congrArg (fun z => some (Value.int z)) (by rw [q_sure, if_pos hh, if_pos (by have := of_decide_eq_true c29; exact this), nI_clamp (by omega), nI_clamp (by omega), if_neg (by exact c53), if_pos (by exact c59)]; rfl), hr1, hF⟩
      · refine v_iconst (x := nI 1) dX4_sure_56 (by decide +kernel) ?_
        exact v_iret rfl dX4_sure_57 ⟨congrArg (fun z => some (Value.int z)) (by rw [q_sure, if_pos hh, if_pos (by have := of_decide_eq_true c29; exact this), nI_clamp (by omega), nI_clamp (by omega), if_pos (by exact c53)]; rfl), hr1, hF⟩
    · refine v_bipush (x := (-4)) dX4_sure_32 (by decide +kernel) ?_
      exact v_iret rfl dX4_sure_34 ⟨congrArg (fun z => some (Value.int z)) (by rw [q_sure, if_pos hh, if_neg (fun h => by rw [nB] at h; rw [decide_eq_true h] at c29; cases c29)]), hr1, hF⟩
  · refine v_iconst (x := (-1)) dX4_sure_9 rfl ?_
    exact v_iret rfl dX4_sure_10 ⟨congrArg (fun z => some (Value.int z)) (by rw [q_sure, if_neg (by rw [c6]; decide)]), hr, FC.rf σ⟩
theorem isN_0 (i : Int32) : isN i (0 - 1) = false := by
  cases q : isN i (0 - 1) with
  | false => rfl
  | true => rw [isN_iff] at q; omega
theorem i_ge_m1 {i : Int32} (h : ¬ i < 0) : -1 ≤ i := by
  rw [Int32.lt_iff_toInt_lt, show (0 : Int32).toInt = 0 by decide] at h
  rw [Int32.le_iff_toInt_le, show (-1 : Int32).toInt = -1 by decide]
  omega
set_option maxRecDepth 100000 in
set_option maxHeartbeats 4000000 in
theorem s_X4_seam {v : EE} {s : AS} {z : Nat} {σ : SS} (hr : RC s σ) (hv : WV z (aW s)) (hz : z ≤ 1000000) (i what : Int32) : SR v M_X4_seam [.ref (v.1 0), .int i, .int what] σ (some (.int (q_seam (aW s) i what))) (fun σ' => RC s σ' ∧ FC σ σ') := by
  refine Sp.of rfl (by decide) rfl (Nat.le_of_ble_eq_true rfl) ?_
  show V v M_X4_seam _ 0 [(0, .ref (v.1 0)), (1, .int i), (2, .int what)] [] σ
  have hla := hr.la
  have hw := hr.ch
  refine v_aload_n dX4_seam_0 rfl ?_
  refine v_get (j := 5) iO0 rfl dX4_seam_1 (by decide) in_X4_seam_X4 fl_X4_seam_42 rfl ?_
  refine v_callVi (M' := M_X3_partBits) (As := []) (iWO hla) (s_X3_partBits hla hw hv) dX4_seam_4 gX4_seam_X3_partBits rfl rfl nn_X3_partBits ⟨rfl, rfl⟩ ⟨by decide, by decide⟩ rfl rfl (Nat.le_of_ble_eq_true rfl) ?_
  refine v_callSi (M' := M_J6_bitCount_0f7a4) (As := [_]) (s_J6_bitCount_0f7a4 (Nat.lt_trans (pbits_lt hv) (by decide))) dX4_seam_7 gX4_seam_J6_bitCount_0f7a4 rfl nn_J6_bitCount_0f7a4 ⟨rfl, rfl⟩ ⟨by decide, by decide⟩ rfl rfl (Nat.le_of_ble_eq_true rfl) ?_
  have hpc := (bits_len _ (pbits_lt hv))
  by_cases h0 : pc (pbits (aW s)) = 0
  · rw [h0]
    refine v_iconst (x := 1) dX4_seam_10 rfl ?_
    refine v_isub dX4_seam_11 ?_
    refine v_top (y := -1) (by decide) ?_
    refine v_istore_n (L' := [(3, _), (0, _), (1, _), (2, _)]) dX4_seam_12 rfl (by decide) rfl ?_
    refine v_iload_n dX4_seam_13 rfl ?_
    refine v_if_lt (tgt := 31) dX4_seam_14 (by decide) (fun c14 => ?_) (fun c14 => ?_)
    · refine v_iconst (x := (-1)) dX4_seam_31 rfl ?_
      exact v_iret rfl dX4_seam_32 ⟨congrArg (fun z => some (Value.int z)) (by rw [q_seam, if_neg (fun h => by exact absurd h.1 (by rw [isN_lt0 c14]; decide))]), hr, FC.rf σ⟩
    · refine v_iload_n dX4_seam_17 rfl ?_
      refine v_iload_n dX4_seam_18 rfl ?_
      refine v_icmp_ge (tgt := 31) dX4_seam_19 (by decide) (fun c19 => ?_) (fun c19 => absurd (i_ge_m1 c14) c19)
      refine v_iconst (x := (-1)) dX4_seam_31 rfl ?_
      exact v_iret rfl dX4_seam_32 ⟨congrArg (fun z => some (Value.int z)) (by rw [q_seam, if_neg (fun h => by rw [h0] at h; exact absurd h.1 (by rw [isN_0]; decide))]), hr, FC.rf σ⟩
  · have h6 : pc (pbits (aW s)) ≤ 6 := by omega
    refine v_iconst (x := nI 1) dX4_seam_10 (by decide +kernel) ?_
    refine n_isub dX4_seam_11 (by omega) ?_
    refine v_istore_n (L' := [(3, _), (0, _), (1, _), (2, _)]) dX4_seam_12 rfl (by decide) rfl ?_
    refine v_iload_n dX4_seam_13 rfl ?_
    refine v_if_lt (tgt := 31) dX4_seam_14 (by decide) (fun c14 => ?_) (fun c14 => ?_)
    · refine v_iconst (x := (-1)) dX4_seam_31 rfl ?_
      exact v_iret rfl dX4_seam_32 ⟨congrArg (fun z => some (Value.int z)) (by rw [q_seam, if_neg (fun h => by exact absurd h.1 (by rw [isN_lt0 c14]; decide))]), hr, FC.rf σ⟩
    · obtain ⟨k, hk, rfl⟩ := nI_of c14
      refine v_iload_n dX4_seam_17 rfl ?_
      refine v_iload_n dX4_seam_18 rfl ?_
      refine n_icmp_ge (tgt := 31) dX4_seam_19 (by decide) hk (by omega) (fun c19 => ?_) (fun c19 => ?_)
      · refine v_iconst (x := (-1)) dX4_seam_31 rfl ?_
        exact v_iret rfl dX4_seam_32 ⟨congrArg (fun z => some (Value.int z)) (by rw [q_seam, if_neg (fun h => by exact absurd h.1 (by rw [isN_dec hk]; simp; omega))]), hr, FC.rf σ⟩
      · have hk1 := c19
        rcases sw3 what with rfl | rfl | rfl | hsw
        · have hwh : isN 0 3 = true := by decide
          refine v_iload_n dX4_seam_22 rfl ?_
          refine v_if_lt (tgt := 31) dX4_seam_23 (by decide) (fun c23 => absurd c23 (by decide)) (fun c23 => ?_)
          refine v_iload_n dX4_seam_26 rfl ?_
          refine v_iconst (x := 2) dX4_seam_27 rfl ?_
          refine v_icmp_le (tgt := 33) dX4_seam_28 (by decide) (fun c28 => ?_) (fun c28 => absurd (by decide) c28)
          refine v_aload_n dX4_seam_33 rfl ?_
          refine v_get (j := 2) iO0 rfl dX4_seam_34 (by decide) in_X4_seam_X4 fl_X4_seam_26 rfl ?_
          refine v_aload_n dX4_seam_37 rfl ?_
          refine v_get (j := 5) iO0 rfl dX4_seam_38 (by decide) in_X4_seam_X4 fl_X4_seam_42 rfl ?_
          refine v_callVRv (M' := M_X0_weighWall) (As := [_]) iO10 (s_X0_weighWall hla hw hv hz hr.g0) dX4_seam_41 gX4_seam_X0_weighWall rfl rfl nn_X0_weighWall ⟨rfl, rfl⟩ ⟨by decide, by decide⟩ rfl rfl (Nat.le_of_ble_eq_true rfl) (fun s1 h1 => ?_)
          have hf := h1.2
          have hr1 := hf.rc hr
          have hla := hr1.la
          have hw := hr1.ch
          have ho := ov_W hv
          have hF := hf.fc
          refine v_aload_n dX4_seam_44 rfl ?_
          refine v_get (j := 2) iO0 rfl dX4_seam_45 (by decide) in_X4_seam_X4 fl_X4_seam_26 rfl ?_
          refine v_callVi (M' := M_X0_exist) (As := []) iO10 (s_X0_exist ho h1.1.2.1) dX4_seam_48 gX4_seam_X0_exist rfl rfl nn_X0_exist ⟨rfl, rfl⟩ ⟨by decide, by decide⟩ rfl rfl (Nat.le_of_ble_eq_true rfl) ?_
          refine b_if_ne (tgt := 57) dX4_seam_51 (by decide) (fun c51 => ?_) (fun c51 => ?_)
          · refine v_iload_n dX4_seam_57 rfl ?_
            refine v_if_ne (tgt := 73) dX4_seam_58 (by decide) (fun c58 => absurd rfl c58) (fun c58 => ?_)
            refine v_aload_n dX4_seam_61 rfl ?_
            refine v_get (j := 2) iO0 rfl dX4_seam_62 (by decide) in_X4_seam_X4 fl_X4_seam_26 rfl ?_
            refine v_iload_n dX4_seam_65 rfl ?_
            refine v_callVi (M' := M_X0_goingOver) (As := [_]) iO10 (s_X0_goingOver ho h1.1.1 h1.1.2.2 (by omega)) dX4_seam_66 gX4_seam_X0_goingOver rfl rfl nn_X0_goingOver ⟨rfl, rfl⟩ ⟨by decide, by decide⟩ rfl rfl (Nat.le_of_ble_eq_true rfl) ?_
            refine v_callSi (M' := M_J6_bitCount_0f7a4) (As := [_]) (s_J6_bitCount_0f7a4 (Nat.lt_of_le_of_lt Nat.and_le_left (Nat.lt_trans (sgU_lt ho k) (by decide)))) dX4_seam_69 gX4_seam_J6_bitCount_0f7a4 rfl nn_J6_bitCount_0f7a4 ⟨rfl, rfl⟩ ⟨by decide, by decide⟩ rfl rfl (Nat.le_of_ble_eq_true rfl) ?_
            exact v_iret rfl dX4_seam_72 ⟨congrArg (fun z => some (Value.int z)) (by rw [q_seam, if_pos ⟨isN_of hk1 (by omega), hwh⟩, if_pos (by have := of_decide_eq_true c51; exact this), nI_clamp hk, if_pos rfl]), hr1, hF⟩
          · refine v_bipush (x := (-4)) dX4_seam_54 (by decide +kernel) ?_
            exact v_iret rfl dX4_seam_56 ⟨congrArg (fun z => some (Value.int z)) (by rw [q_seam, if_pos ⟨isN_of hk1 (by omega), hwh⟩, if_neg (fun h => by rw [nB] at h; rw [decide_eq_true h] at c51; cases c51)]), hr1, hF⟩
        · have hwh : isN 1 3 = true := by decide
          refine v_iload_n dX4_seam_22 rfl ?_
          refine v_if_lt (tgt := 31) dX4_seam_23 (by decide) (fun c23 => absurd c23 (by decide)) (fun c23 => ?_)
          refine v_iload_n dX4_seam_26 rfl ?_
          refine v_iconst (x := 2) dX4_seam_27 rfl ?_
          refine v_icmp_le (tgt := 33) dX4_seam_28 (by decide) (fun c28 => ?_) (fun c28 => absurd (by decide) c28)
          refine v_aload_n dX4_seam_33 rfl ?_
          refine v_get (j := 2) iO0 rfl dX4_seam_34 (by decide) in_X4_seam_X4 fl_X4_seam_26 rfl ?_
          refine v_aload_n dX4_seam_37 rfl ?_
          refine v_get (j := 5) iO0 rfl dX4_seam_38 (by decide) in_X4_seam_X4 fl_X4_seam_42 rfl ?_
          refine v_callVRv (M' := M_X0_weighWall) (As := [_]) iO10 (s_X0_weighWall hla hw hv hz hr.g0) dX4_seam_41 gX4_seam_X0_weighWall rfl rfl nn_X0_weighWall ⟨rfl, rfl⟩ ⟨by decide, by decide⟩ rfl rfl (Nat.le_of_ble_eq_true rfl) (fun s1 h1 => ?_)
          have hf := h1.2
          have hr1 := hf.rc hr
          have hla := hr1.la
          have hw := hr1.ch
          have ho := ov_W hv
          have hF := hf.fc
          refine v_aload_n dX4_seam_44 rfl ?_
          refine v_get (j := 2) iO0 rfl dX4_seam_45 (by decide) in_X4_seam_X4 fl_X4_seam_26 rfl ?_
          refine v_callVi (M' := M_X0_exist) (As := []) iO10 (s_X0_exist ho h1.1.2.1) dX4_seam_48 gX4_seam_X0_exist rfl rfl nn_X0_exist ⟨rfl, rfl⟩ ⟨by decide, by decide⟩ rfl rfl (Nat.le_of_ble_eq_true rfl) ?_
          refine b_if_ne (tgt := 57) dX4_seam_51 (by decide) (fun c51 => ?_) (fun c51 => ?_)
          · refine v_iload_n dX4_seam_57 rfl ?_
            refine v_if_ne (tgt := 73) dX4_seam_58 (by decide) (fun c58 => ?_) (fun c58 => absurd c58 (by decide))
            refine v_iload_n dX4_seam_73 rfl ?_
            refine v_iconst (x := 1) dX4_seam_74 rfl ?_
            refine v_icmp_ne (tgt := 89) dX4_seam_75 (by decide) (fun c75 => absurd rfl c75) (fun c75 => ?_)
            refine v_aload_n dX4_seam_78 rfl ?_
            refine v_get (j := 2) iO0 rfl dX4_seam_79 (by decide) in_X4_seam_X4 fl_X4_seam_26 rfl ?_
            refine v_iload_n dX4_seam_82 rfl ?_
            refine v_callVi (M' := M_X0_endingAt) (As := [_]) iO10 (s_X0_endingAt ho h1.1.1 h1.1.2.2 (by omega)) dX4_seam_83 gX4_seam_X0_endingAt rfl rfl nn_X0_endingAt ⟨rfl, rfl⟩ ⟨by decide, by decide⟩ rfl rfl (Nat.le_of_ble_eq_true rfl) ?_
            refine v_goto (tgt := 97) dX4_seam_86 (by decide) ?_
            refine v_callSi (M' := M_J6_bitCount_0f7a4) (As := [_]) (s_J6_bitCount_0f7a4 (Nat.lt_of_le_of_lt (dif_le _ _) (Nat.lt_trans (sgN_lt ho _) (by decide)))) dX4_seam_97 gX4_seam_J6_bitCount_0f7a4 rfl nn_J6_bitCount_0f7a4 ⟨rfl, rfl⟩ ⟨by decide, by decide⟩ rfl rfl (Nat.le_of_ble_eq_true rfl) ?_
            exact v_iret rfl dX4_seam_100 ⟨congrArg (fun z => some (Value.int z)) (by rw [q_seam, if_pos ⟨isN_of hk1 (by omega), hwh⟩, if_pos (by have := of_decide_eq_true c51; exact this), nI_clamp hk, if_neg (by decide), if_pos rfl]), hr1, hF⟩
          · refine v_bipush (x := (-4)) dX4_seam_54 (by decide +kernel) ?_
            exact v_iret rfl dX4_seam_56 ⟨congrArg (fun z => some (Value.int z)) (by rw [q_seam, if_pos ⟨isN_of hk1 (by omega), hwh⟩, if_neg (fun h => by rw [nB] at h; rw [decide_eq_true h] at c51; cases c51)]), hr1, hF⟩
        · have hwh : isN 2 3 = true := by decide
          refine v_iload_n dX4_seam_22 rfl ?_
          refine v_if_lt (tgt := 31) dX4_seam_23 (by decide) (fun c23 => absurd c23 (by decide)) (fun c23 => ?_)
          refine v_iload_n dX4_seam_26 rfl ?_
          refine v_iconst (x := 2) dX4_seam_27 rfl ?_
          refine v_icmp_le (tgt := 33) dX4_seam_28 (by decide) (fun c28 => ?_) (fun c28 => absurd (by decide) c28)
          refine v_aload_n dX4_seam_33 rfl ?_
          refine v_get (j := 2) iO0 rfl dX4_seam_34 (by decide) in_X4_seam_X4 fl_X4_seam_26 rfl ?_
          refine v_aload_n dX4_seam_37 rfl ?_
          refine v_get (j := 5) iO0 rfl dX4_seam_38 (by decide) in_X4_seam_X4 fl_X4_seam_42 rfl ?_
          refine v_callVRv (M' := M_X0_weighWall) (As := [_]) iO10 (s_X0_weighWall hla hw hv hz hr.g0) dX4_seam_41 gX4_seam_X0_weighWall rfl rfl nn_X0_weighWall ⟨rfl, rfl⟩ ⟨by decide, by decide⟩ rfl rfl (Nat.le_of_ble_eq_true rfl) (fun s1 h1 => ?_)
          have hf := h1.2
          have hr1 := hf.rc hr
          have hla := hr1.la
          have hw := hr1.ch
          have ho := ov_W hv
          have hF := hf.fc
          refine v_aload_n dX4_seam_44 rfl ?_
          refine v_get (j := 2) iO0 rfl dX4_seam_45 (by decide) in_X4_seam_X4 fl_X4_seam_26 rfl ?_
          refine v_callVi (M' := M_X0_exist) (As := []) iO10 (s_X0_exist ho h1.1.2.1) dX4_seam_48 gX4_seam_X0_exist rfl rfl nn_X0_exist ⟨rfl, rfl⟩ ⟨by decide, by decide⟩ rfl rfl (Nat.le_of_ble_eq_true rfl) ?_
          refine b_if_ne (tgt := 57) dX4_seam_51 (by decide) (fun c51 => ?_) (fun c51 => ?_)
          · refine v_iload_n dX4_seam_57 rfl ?_
            refine v_if_ne (tgt := 73) dX4_seam_58 (by decide) (fun c58 => ?_) (fun c58 => absurd c58 (by decide))
            refine v_iload_n dX4_seam_73 rfl ?_
            refine v_iconst (x := 1) dX4_seam_74 rfl ?_
            refine v_icmp_ne (tgt := 89) dX4_seam_75 (by decide) (fun c75 => ?_) (fun c75 => absurd c75 (by decide))
            refine v_aload_n dX4_seam_89 rfl ?_
            refine v_get (j := 2) iO0 rfl dX4_seam_90 (by decide) in_X4_seam_X4 fl_X4_seam_26 rfl ?_
            refine v_iload_n dX4_seam_93 rfl ?_
            refine v_callVi (M' := M_X0_beginningAt) (As := [_]) iO10 (s_X0_beginningAt ho h1.1.1 h1.1.2.2 (by omega)) dX4_seam_94 gX4_seam_X0_beginningAt rfl rfl nn_X0_beginningAt ⟨rfl, rfl⟩ ⟨by decide, by decide⟩ rfl rfl (Nat.le_of_ble_eq_true rfl) ?_
            refine v_callSi (M' := M_J6_bitCount_0f7a4) (As := [_]) (s_J6_bitCount_0f7a4 (Nat.lt_of_le_of_lt (dif_le _ _) (Nat.lt_trans (sgN_lt ho _) (by decide)))) dX4_seam_97 gX4_seam_J6_bitCount_0f7a4 rfl nn_J6_bitCount_0f7a4 ⟨rfl, rfl⟩ ⟨by decide, by decide⟩ rfl rfl (Nat.le_of_ble_eq_true rfl) ?_
            exact v_iret rfl dX4_seam_100 ⟨congrArg (fun z => some (Value.int z)) (by rw [q_seam, if_pos ⟨isN_of hk1 (by omega), hwh⟩, if_pos (by have := of_decide_eq_true c51; exact this), nI_clamp hk, if_neg (by decide), if_neg (by decide)]), hr1, hF⟩
          · refine v_bipush (x := (-4)) dX4_seam_54 (by decide +kernel) ?_
            exact v_iret rfl dX4_seam_56 ⟨congrArg (fun z => some (Value.int z)) (by rw [q_seam, if_pos ⟨isN_of hk1 (by omega), hwh⟩, if_neg (fun h => by rw [nB] at h; rw [decide_eq_true h] at c51; cases c51)]), hr1, hF⟩
        · refine v_iload_n dX4_seam_22 rfl ?_
          refine v_if_lt (tgt := 31) dX4_seam_23 (by decide) (fun c23 => ?_) (fun c23 => ?_)
          · refine v_iconst (x := (-1)) dX4_seam_31 rfl ?_
            exact v_iret rfl dX4_seam_32 ⟨congrArg (fun z => some (Value.int z)) (by rw [q_seam, if_neg (fun h => by exact absurd h.2 (by rw [hsw]; decide))]), hr, FC.rf σ⟩
          · refine v_iload_n dX4_seam_26 rfl ?_
            refine v_iconst (x := 2) dX4_seam_27 rfl ?_
            refine v_icmp_le (tgt := 33) dX4_seam_28 (by decide) (fun c28 => absurd c28 (fun q => by have h9 := isN_in (n := 3) (by decide) c23 (fun q2 => by rw [Int32.le_iff_toInt_le] at q q2; rw [show (2 : Int32).toInt = 2 by decide] at q; rw [nI_toInt (by decide)] at q2; omega); rw [hsw] at h9; cases h9)) (fun c28 => ?_)
            refine v_iconst (x := (-1)) dX4_seam_31 rfl ?_
            exact v_iret rfl dX4_seam_32 ⟨congrArg (fun z => some (Value.int z)) (by rw [q_seam, if_neg (fun h => by exact absurd h.2 (by rw [hsw]; decide))]), hr, FC.rf σ⟩
theorem nI_nm4 {j : Nat} (h : j < 2 ^ 31) : ¬ nI j = -4 := fun e => by
  have := congrArg Int32.toInt e
  rw [nI_toInt h, show (-4 : Int32).toInt = -4 by decide] at this
  omega
set_option maxRecDepth 100000 in
set_option maxHeartbeats 4000000 in
theorem s_X4_pause {v : EE} {s : AS} {z : Nat} {σ : SS} (hr : RC s σ) (hv : WV z (aW s)) (hz : z ≤ 1000000) : SR v M_X4_pause [.ref (v.1 0)] σ (some (.int (q_pause (aW s)))) (fun σ' => RC s σ' ∧ FC σ σ') := by
  refine Sp.of rfl (by decide) rfl (Nat.le_of_ble_eq_true rfl) ?_
  show V v M_X4_pause _ 0 [(0, .ref (v.1 0))] [] σ
  have hla := hr.la
  have hw := hr.ch
  refine v_aload_n dX4_pause_0 rfl ?_
  refine v_get (j := 2) iO0 rfl dX4_pause_1 (by decide) in_X4_pause_X4 fl_X4_pause_26 rfl ?_
  refine v_aload_n dX4_pause_4 rfl ?_
  refine v_get (j := 5) iO0 rfl dX4_pause_5 (by decide) in_X4_pause_X4 fl_X4_pause_42 rfl ?_
  refine v_callVRv (M' := M_X0_weighWall) (As := [_]) iO10 (s_X0_weighWall hla hw hv hz hr.g0) dX4_pause_8 gX4_pause_X0_weighWall rfl rfl nn_X0_weighWall ⟨rfl, rfl⟩ ⟨by decide, by decide⟩ rfl rfl (Nat.le_of_ble_eq_true rfl) (fun s1 h1 => ?_)
  have hf := h1.2
  have hr1 := hf.rc hr
  have hla := hr1.la
  have hw := hr1.ch
  have ho := ov_W hv
  have hF := hf.fc
  refine v_bipush (x := (-4)) dX4_pause_11 (by decide +kernel) ?_
  refine v_istore_n (L' := [(1, _), (0, _)]) dX4_pause_13 rfl (by decide) rfl ?_
  refine v_iconst (x := nI 0) dX4_pause_14 (by decide +kernel) ?_
  refine v_istore_n (L' := [(2, _), (1, _), (0, _)]) dX4_pause_15 rfl (by decide) rfl ?_
  refine v_iconst (x := nI 0) dX4_pause_16 (by decide +kernel) ?_
  refine v_istore_n (L' := [(3, _), (2, _), (1, _), (0, _)]) dX4_pause_17 rfl (by decide) rfl ?_
  refine v_sub [3, 2, 1, 0] rfl ?_
  refine loopN (fun i => V v M_X4_pause (zR v M_X4_pause (fun r' σ' => r' = (some (.int (q_pause (aW s)))) ∧ (RC s σ' ∧ FC σ σ'))) 18 [(0, .ref (v.1 0)), (1, .int (opI (amn (fun _ => true) (psF (aW s)) i))), (2, .int (nI (opF (psF (aW s)) (amn (fun _ => true) (psF (aW s)) i)))), (3, .int (nI i))] [] (s1)) ((fr (odW (aW s)) 0).length - 1) ?_ ?_
  · intro i hi ih
    have hl := fr_len ho
    rcases ha : (amn (fun _ => true) (psF (aW s)) i) with _ | j
    · dsimp only [opI, opF]
      refine v_iload_n dX4_pause_18 rfl ?_
      refine v_aload_n dX4_pause_19 rfl ?_
      refine v_get (j := 2) iO0 rfl dX4_pause_20 (by decide) in_X4_pause_X4 fl_X4_pause_26 rfl ?_
      refine v_get (j := 8) iO10 rfl dX4_pause_23 (by decide) in_X4_pause_X0 fl_X4_pause_169 rfl ?_
      refine v_top h1.1.2.2.1 ?_
      refine v_iconst (x := nI 1) dX4_pause_26 (by decide +kernel) ?_
      refine n_isub dX4_pause_27 (by omega) ?_
      refine n_icmp_ge (tgt := 71) dX4_pause_28 (by decide) (by omega) (by omega) (fun c28 => absurd c28 (by omega)) (fun c28 => ?_)
      refine v_aload_n dX4_pause_31 rfl ?_
      refine v_get (j := 2) iO0 rfl dX4_pause_32 (by decide) in_X4_pause_X4 fl_X4_pause_26 rfl ?_
      refine v_aload_n dX4_pause_35 rfl ?_
      refine v_get (j := 2) iO0 rfl dX4_pause_36 (by decide) in_X4_pause_X4 fl_X4_pause_26 rfl ?_
      refine v_iload_n dX4_pause_39 rfl ?_
      refine v_callVi (M' := M_X0_goingOver) (As := [_]) iO10 (s_X0_goingOver ho h1.1.1 h1.1.2.2 (by omega)) dX4_pause_40 gX4_pause_X0_goingOver rfl rfl nn_X0_goingOver ⟨rfl, rfl⟩ ⟨by decide, by decide⟩ rfl rfl (Nat.le_of_ble_eq_true rfl) ?_
      refine v_callVi (M' := M_X0_strokesOf) (As := [_]) iO10 (s_X0_strokesOf ho h1.1.1 (Nat.lt_of_le_of_lt Nat.and_le_left (sgU_lt ho i))) dX4_pause_43 gX4_pause_X0_strokesOf rfl rfl nn_X0_strokesOf ⟨rfl, rfl⟩ ⟨by decide, by decide⟩ rfl rfl (Nat.le_of_ble_eq_true rfl) ?_
      refine v_istore (L' := [(4, _), (0, _), (1, _), (2, _), (3, _)]) dX4_pause_46 (by decide) rfl ?_
      refine v_iload_n dX4_pause_48 rfl ?_
      refine v_bipush (x := (-4)) dX4_pause_49 (by decide +kernel) ?_
      refine v_icmp_eq (tgt := 60) dX4_pause_51 (by decide) (fun c51 => ?_) (fun c51 => absurd rfl c51)
      refine v_iload_n dX4_pause_60 rfl ?_
      refine v_istore_n (L' := [(1, _), (4, _), (0, _), (2, _), (3, _)]) dX4_pause_61 rfl (by decide) rfl ?_
      refine v_iload dX4_pause_62 rfl ?_
      refine v_istore_n (L' := [(2, _), (1, _), (4, _), (0, _), (3, _)]) dX4_pause_64 rfl (by decide) rfl ?_
      rw [amn_n rfl ha] at ih
      dsimp only [opI, opF] at ih
      refine n_iinc (n := 1) (L' := [(3, _), (2, _), (1, _), (4, _), (0, _)]) dX4_pause_65 rfl (by decide) rfl ?_
      refine v_goto (tgt := 18) dX4_pause_68 (by decide) ?_
      refine v_sub [4, 2, 1, 0] rfl ?_
      exact ih
    · dsimp only [opI, opF]
      refine v_iload_n dX4_pause_18 rfl ?_
      refine v_aload_n dX4_pause_19 rfl ?_
      refine v_get (j := 2) iO0 rfl dX4_pause_20 (by decide) in_X4_pause_X4 fl_X4_pause_26 rfl ?_
      refine v_get (j := 8) iO10 rfl dX4_pause_23 (by decide) in_X4_pause_X0 fl_X4_pause_169 rfl ?_
      refine v_top h1.1.2.2.1 ?_
      refine v_iconst (x := nI 1) dX4_pause_26 (by decide +kernel) ?_
      refine n_isub dX4_pause_27 (by omega) ?_
      refine n_icmp_ge (tgt := 71) dX4_pause_28 (by decide) (by omega) (by omega) (fun c28 => absurd c28 (by omega)) (fun c28 => ?_)
      refine v_aload_n dX4_pause_31 rfl ?_
      refine v_get (j := 2) iO0 rfl dX4_pause_32 (by decide) in_X4_pause_X4 fl_X4_pause_26 rfl ?_
      refine v_aload_n dX4_pause_35 rfl ?_
      refine v_get (j := 2) iO0 rfl dX4_pause_36 (by decide) in_X4_pause_X4 fl_X4_pause_26 rfl ?_
      refine v_iload_n dX4_pause_39 rfl ?_
      refine v_callVi (M' := M_X0_goingOver) (As := [_]) iO10 (s_X0_goingOver ho h1.1.1 h1.1.2.2 (by omega)) dX4_pause_40 gX4_pause_X0_goingOver rfl rfl nn_X0_goingOver ⟨rfl, rfl⟩ ⟨by decide, by decide⟩ rfl rfl (Nat.le_of_ble_eq_true rfl) ?_
      refine v_callVi (M' := M_X0_strokesOf) (As := [_]) iO10 (s_X0_strokesOf ho h1.1.1 (Nat.lt_of_le_of_lt Nat.and_le_left (sgU_lt ho i))) dX4_pause_43 gX4_pause_X0_strokesOf rfl rfl nn_X0_strokesOf ⟨rfl, rfl⟩ ⟨by decide, by decide⟩ rfl rfl (Nat.le_of_ble_eq_true rfl) ?_
      refine v_istore (L' := [(4, _), (0, _), (1, _), (2, _), (3, _)]) dX4_pause_46 (by decide) rfl ?_
      refine v_iload_n dX4_pause_48 rfl ?_
      refine v_bipush (x := (-4)) dX4_pause_49 (by decide +kernel) ?_
      refine v_icmp_eq (tgt := 60) dX4_pause_51 (by decide) (fun c51 => absurd c51 (nI_nm4 (by have := amn_bd ha; omega))) (fun c51 => ?_)
      refine v_iload dX4_pause_54 rfl ?_
      refine v_iload_n dX4_pause_56 rfl ?_
      refine n_icmp_ge (tgt := 65) dX4_pause_57 (by decide) (by have := skO_le ho (sgU (odW (aW s)) i &&& sgB (odW (aW s)) i); omega) (by have := skO_le ho (sgU (odW (aW s)) j &&& sgB (odW (aW s)) j); rw [psF]; omega) (fun c57 => ?_) (fun c57 => ?_)
      · rw [amn_ge rfl ha c57] at ih
        dsimp only [opI, opF] at ih
        refine n_iinc (n := 1) (L' := [(3, _), (4, _), (0, _), (1, _), (2, _)]) dX4_pause_65 rfl (by decide) rfl ?_
        refine v_goto (tgt := 18) dX4_pause_68 (by decide) ?_
        refine v_sub [2, 3, 4, 0] rfl ?_
        exact ih
      · refine v_iload_n dX4_pause_60 rfl ?_
        refine v_istore_n (L' := [(1, _), (4, _), (0, _), (2, _), (3, _)]) dX4_pause_61 rfl (by decide) rfl ?_
        refine v_iload dX4_pause_62 rfl ?_
        refine v_istore_n (L' := [(2, _), (1, _), (4, _), (0, _), (3, _)]) dX4_pause_64 rfl (by decide) rfl ?_
        rw [amn_lt rfl ha c57] at ih
        dsimp only [opI, opF] at ih
        refine n_iinc (n := 1) (L' := [(3, _), (2, _), (1, _), (4, _), (0, _)]) dX4_pause_65 rfl (by decide) rfl ?_
        refine v_goto (tgt := 18) dX4_pause_68 (by decide) ?_
        refine v_sub [4, 2, 1, 0] rfl ?_
        exact ih
  · have hl := fr_len ho
    by_cases h0 : (fr (odW (aW s)) 0).length = 0
    · rw [h0]
      refine v_iload_n dX4_pause_18 rfl ?_
      refine v_aload_n dX4_pause_19 rfl ?_
      refine v_get (j := 2) iO0 rfl dX4_pause_20 (by decide) in_X4_pause_X4 fl_X4_pause_26 rfl ?_
      refine v_get (j := 8) iO10 rfl dX4_pause_23 (by decide) in_X4_pause_X0 fl_X4_pause_169 rfl ?_
      refine v_top (h1.1.2.2.1.trans (by rw [h0])) ?_
      refine v_iconst (x := 1) dX4_pause_26 rfl ?_
      refine v_isub dX4_pause_27 ?_
      refine v_top (y := -1) (by decide) ?_
      refine v_icmp_ge (tgt := 71) dX4_pause_28 (by decide) (fun c28 => ?_) (fun c28 => absurd (by decide) c28)
      refine v_iload_n dX4_pause_71 rfl ?_
      exact v_iret rfl dX4_pause_72 ⟨congrArg (fun z => some (Value.int z)) (by rw [q_pause, h0]), hr1, hF⟩
    · refine v_iload_n dX4_pause_18 rfl ?_
      refine v_aload_n dX4_pause_19 rfl ?_
      refine v_get (j := 2) iO0 rfl dX4_pause_20 (by decide) in_X4_pause_X4 fl_X4_pause_26 rfl ?_
      refine v_get (j := 8) iO10 rfl dX4_pause_23 (by decide) in_X4_pause_X0 fl_X4_pause_169 rfl ?_
      refine v_top h1.1.2.2.1 ?_
      refine v_iconst (x := nI 1) dX4_pause_26 (by decide +kernel) ?_
      refine n_isub dX4_pause_27 (by omega) ?_
      refine n_icmp_ge (tgt := 71) dX4_pause_28 (by decide) (by omega) (by omega) (fun c28 => ?_) (fun c28 => absurd c28 (by omega))
      refine v_iload_n dX4_pause_71 rfl ?_
      exact v_iret rfl dX4_pause_72 ⟨congrArg (fun z => some (Value.int z)) (rfl), hr1, hF⟩
