theorem in_X0_mostWithOneMore_X0 : ∀ w ∈ u_ws RX0 TX0 10, w ∈ mWs M_X0_mostWithOneMore := by decide +kernel
theorem in_X4_again_X0 : ∀ w ∈ u_ws RX0 TX0 10, w ∈ mWs M_X4_again := by decide +kernel
theorem in_X4_again_X4 : ∀ w ∈ u_ws RX4 TX4 8, w ∈ mWs M_X4_again := by decide +kernel
theorem in_X4_next_X3 : ∀ w ∈ u_ws RX3 TX3 12, w ∈ mWs M_X4_next := by decide +kernel
theorem in_X4_next_X4 : ∀ w ∈ u_ws RX4 TX4 8, w ∈ mWs M_X4_next := by decide +kernel
theorem fl_X0_mostWithOneMore_9 : Cond.fieldLink (mOwn M_X0_mostWithOneMore) 9 (TX0 0).1 (TX0 0).2.1 (TX0 0).2.2.1 ∈ mWs M_X0_mostWithOneMore := by decide +kernel
theorem fl_X0_mostWithOneMore_24 : Cond.fieldLink (mOwn M_X0_mostWithOneMore) 24 (TX0 4).1 (TX0 4).2.1 (TX0 4).2.2.1 ∈ mWs M_X0_mostWithOneMore := by decide +kernel
theorem fl_X4_again_26 : Cond.fieldLink (mOwn M_X4_again) 26 (TX4 2).1 (TX4 2).2.1 (TX4 2).2.2.1 ∈ mWs M_X4_again := by decide +kernel
theorem fl_X4_again_42 : Cond.fieldLink (mOwn M_X4_again) 42 (TX4 5).1 (TX4 5).2.1 (TX4 5).2.2.1 ∈ mWs M_X4_again := by decide +kernel
theorem fl_X4_again_169 : Cond.fieldLink (mOwn M_X4_again) 169 (TX0 8).1 (TX0 8).2.1 (TX0 8).2.2.1 ∈ mWs M_X4_again := by decide +kernel
theorem fl_X4_next_26 : Cond.fieldLink (mOwn M_X4_next) 26 (TX4 2).1 (TX4 2).2.1 (TX4 2).2.2.1 ∈ mWs M_X4_next := by decide +kernel
theorem fl_X4_next_42 : Cond.fieldLink (mOwn M_X4_next) 42 (TX4 5).1 (TX4 5).2.1 (TX4 5).2.2.1 ∈ mWs M_X4_next := by decide +kernel
theorem fl_X4_next_121 : Cond.fieldLink (mOwn M_X4_next) 121 (TX3 8).1 (TX3 8).2.1 (TX3 8).2.2.1 ∈ mWs M_X4_next := by decide +kernel
theorem nn_X0_astrayAt : (mY M_X0_astrayAt).cls = mOwn M_X0_astrayAt ∧ (mY M_X0_astrayAt).cls ≠ "java/lang/invoke/MethodHandle" ∧ (mY M_X0_astrayAt).cls ≠ "java/lang/invoke/VarHandle" ∧ (parseMethodDescriptor (mY M_X0_astrayAt).desc).map (fun d => d.parameters.length) = some 1 := by decide +kernel
theorem nn_X0_mostWithOneMore : (mY M_X0_mostWithOneMore).cls = mOwn M_X0_mostWithOneMore ∧ (mY M_X0_mostWithOneMore).cls ≠ "java/lang/invoke/MethodHandle" ∧ (mY M_X0_mostWithOneMore).cls ≠ "java/lang/invoke/VarHandle" ∧ (parseMethodDescriptor (mY M_X0_mostWithOneMore).desc).map (fun d => d.parameters.length) = some 3 := by decide +kernel
def oadd (o : OD) (k p : Nat) : OD := (oP o, oM o, oS o, updN (oW o) k (oW o k ||| 2 ^ p), oT o)
theorem oadd_ov {o : OD} (ho : OV o) {k p : Nat} (hp : p < 6) : OV (oadd o k p) := ⟨ho.1, ho.2.1, ho.2.2.1, fun j hj => ⟨by
  show updN (oW o) k (oW o k ||| 2 ^ p) j < 64
  rw [updN]
  by_cases c : j = k
  · subst c; rw [if_pos rfl]; exact or_64 (ho.2.2.2 j hj).1 hp
  · rw [if_neg c]; exact (ho.2.2.2 j hj).1, (ho.2.2.2 j hj).2⟩⟩
theorem oadd_sgo {o : OD} {k p : Nat} (hk : k < oS o) (q : Nat) : sgo (oadd o k p) q = if q = p then sgo o p ||| 2 ^ k else sgo o q := Nat.eq_of_testBit_eq (fun j => by
  rw [tb_sgo]
  show (decide (j < oS o) && (updN (oW o) k (oW o k ||| 2 ^ p) j).testBit q) = _
  rw [updN]
  by_cases c : q = p
  · subst c
    rw [if_pos rfl, tb_or2, tb_sgo]
    by_cases d : j = k
    · subst d; rw [if_pos rfl, tb_or2]; simp [hk]
    · rw [if_neg d]; simp [Ne.symm d]
  · rw [if_neg c, tb_sgo]
    by_cases d : j = k
    · subst d; rw [if_pos rfl, tb_or2]; simp [Ne.symm c]
    · rw [if_neg d])
theorem oadd_oc {o : OD} {τ : SS} {k p : Nat} (hk : k < oS o) (h : OC0 o (sI τ 11 p (nI (sgo o p)))) : OC0 (oadd o k p) (sI τ 11 p (nI (sgo o p ||| 2 ^ k))) := by
  refine ⟨h.1, fun q hq => ?_, fun j hj => ?_, h.2.2.2⟩
  · rw [oadd_sgo hk]
    by_cases c : q = p
    · subst c; rw [if_pos rfl, sI_at]
    · rw [if_neg c, sI_ne _ _ (Or.inr c)]
      have := h.2.1 q hq
      rw [sI_ne _ _ (Or.inr c)] at this
      exact this
  · exact h.2.2.1 j hj
def mwN (o : OD) (p : Nat) : Nat → Nat
  | 0 => 0
  | i + 1 => if (oW o i).testBit p then mwN o p i else max (mwN o p i) (TL (oadd o i p) 0).length
def mw (o : OD) (p now : Nat) : Nat := if 0 < mwN o p (oS o) then mwN o p (oS o) else now
theorem mwN_le {o : OD} (ho : OV o) {p : Nat} (hp : p < 6) : ∀ i, mwN o p i ≤ 46656
  | 0 => Nat.zero_le _
  | i + 1 => by
    have := mwN_le ho hp i
    have := (TL_b (oadd_ov ho (k := i) hp) (A := 0) (by decide)).1
    rw [mwN]; split <;> omega
theorem nI_maxO {a b : Nat} (ha : a < 2 ^ 31) (hb : b < 2 ^ 31) : (if nI a < nI b then nI b else nI a) = nI (max a b) := by
  by_cases c : a < b
  · rw [if_pos (nI_lt c hb), Nat.max_eq_right (by omega)]
  · rw [if_neg (nI_nlt (by omega) ha), Nat.max_eq_left (by omega)]
def mI (o : OD) (p : Nat) (σ τ : SS) : Prop := OC0 o (sI τ 11 p (nI (sgo o p))) ∧ FO σ τ
theorem mI_0 {o : OD} {p : Nat} {σ : SS} (hp : p < 6) (hc : OC0 o σ) : mI o p σ σ := ⟨hc.of rfl (by
  funext j
  by_cases c : j = p
  · subst c; rw [sI_at, hc.2.1 j hp]
  · rw [sI_ne _ _ (Or.inr c)]) rfl rfl, FO.rf σ⟩
theorem sI_sIO (σ : SS) (a j : Nat) (x y : Int32) : sI (sI σ a j x) a j y = sI σ a j y := by
  refine Prod.ext ?_ rfl
  funext b
  simp only [sI]
  by_cases h : b = a
  · simp [h, upd_upd]
  · simp [h]
theorem mI_s {o : OD} {p : Nat} {σ τ υ : SS} {x : Int32} (h : mI o p σ τ) (f : FV (sI τ 11 p x) υ) : mI o p σ υ := by
  refine ⟨?_, fun a ha => ?_, f.2.2.trans h.2.2.1, f.2.1.trans h.2.2.2⟩
  · have : OC0 o (sI (sI τ 11 p x) 11 p (nI (sgo o p))) := by rw [sI_sIO]; exact h.1
    refine this.of ?_ ?_ ?_ ?_
    · rw [sI_row _ _ (by decide), sI_row _ _ (by decide), f.1 10 (by decide) (by decide) (by decide)]
    · simp only [sI]; rw [if_pos trivial, if_pos trivial, f.1 11 (by decide) (by decide) (by decide)]; rfl
    · rw [sI_row _ _ (by decide), sI_row _ _ (by decide), f.1 12 (by decide) (by decide) (by decide)]
    · rw [sI_row _ _ (by decide), sI_row _ _ (by decide), f.1 13 (by decide) (by decide) (by decide)]
  · rw [f.1 a (by omega) (by omega) (by omega), sI_row _ _ (by omega)]; exact h.2.1 a ha
theorem mI_e {o : OD} {p : Nat} {σ τ : SS} (h : mI o p σ τ) : OC0 o (sI τ 11 p (nI (sgo o p))) ∧ FO σ (sI τ 11 p (nI (sgo o p))) := ⟨h.1, fun a ha => by rw [sI_row _ _ (by omega)]; exact h.2.1 a ha, h.2.2⟩
set_option maxRecDepth 100000 in
set_option maxHeartbeats 4000000 in
theorem s_X0_mostWithOneMore {v : EE} {o : OD} {σ : SS} (ho : OV o) (hc : OC0 o σ) (hg : σ.1 17 0 = 0) {p now : Nat} (hp : p < 6) : SR v M_X0_mostWithOneMore [.ref (v.1 10), .int (nI p), .int (nI (oS o)), .int (nI now)] σ (some (.int (nI (mw o p now)))) (fun σ' => OC0 o σ' ∧ FO σ σ') := by
  refine Sp.of rfl (by decide) rfl (Nat.le_of_ble_eq_true rfl) ?_
  show V v M_X0_mostWithOneMore _ 0 [(0, .ref (v.1 10)), (1, .int (nI p)), (2, .int (nI (oS o))), (3, .int (nI now))] [] σ
  refine v_aload_n dX0_mostWithOneMore_0 rfl ?_
  refine v_get (j := 0) iO10 rfl dX0_mostWithOneMore_1 (by decide) in_X0_mostWithOneMore_X0 fl_X0_mostWithOneMore_9 rfl ?_
  refine v_iload_n dX0_mostWithOneMore_4 rfl ?_
  refine v_ialdN p iI11 dX0_mostWithOneMore_5 rfl hp (by decide) ?_
  refine v_top (hc.2.1 p hp) ?_
  refine v_istore (L' := [(4, _), (0, _), (1, _), (2, _), (3, _)]) dX0_mostWithOneMore_6 (by decide) rfl ?_
  refine v_iconst (x := nI 0) dX0_mostWithOneMore_8 (by decide +kernel) ?_
  refine v_istore (L' := [(5, _), (4, _), (0, _), (1, _), (2, _), (3, _)]) dX0_mostWithOneMore_9 (by decide) rfl ?_
  refine v_iconst (x := nI 0) dX0_mostWithOneMore_11 (by decide +kernel) ?_
  refine v_istore (L' := [(6, _), (5, _), (4, _), (0, _), (1, _), (2, _), (3, _)]) dX0_mostWithOneMore_12 (by decide) rfl ?_
  refine v_sub [3, 4, 5, 6, 2, 1, 0] rfl ?_
  refine loopN (fun i => ∀ τ : SS, mI o p σ τ → V v M_X0_mostWithOneMore (zR v M_X0_mostWithOneMore (fun r' σ' => r' = (some (.int (nI (mw o p now)))) ∧ (OC0 o σ' ∧ FO σ σ'))) 14 [(0, .ref (v.1 10)), (1, .int (nI p)), (2, .int (nI (oS o))), (3, .int (nI now)), (4, .int (nI (sgo o p))), (5, .int (nI (mwN o p i))), (6, .int (nI i))] [] τ) (oS o) ?_ ?_ _ (mI_0 hp hc)
  · intro i hi ih τ hinv
    have hS := ho.2.2.1
    refine v_iload dX0_mostWithOneMore_14 rfl ?_
    refine v_iload_n dX0_mostWithOneMore_16 rfl ?_
    refine n_icmp_ge (tgt := 66) dX0_mostWithOneMore_17 (by decide) (by omega) (by omega) (fun c17 => absurd c17 (by omega)) (fun c17 => ?_)
    refine v_iload dX0_mostWithOneMore_20 rfl ?_
    refine v_iload dX0_mostWithOneMore_22 rfl ?_
    refine n_ishr dX0_mostWithOneMore_24 (by have := sgo_lt ho p; omega) (by omega) ?_
    refine v_iconst (x := nI 1) dX0_mostWithOneMore_25 (by decide +kernel) ?_
    refine n_and1 dX0_mostWithOneMore_26 ?_
    refine n_if_ne (tgt := 60) dX0_mostWithOneMore_27 (by decide) (by omega) (fun c27 => ?_) (fun c27 => ?_)
    · have e : mwN o p (i + 1) = mwN o p i := if_pos (by have := tb_sgo o p i; rw [tb_div] at this; simp [hi] at this; rw [← this]; simp; omega)
      rw [e] at ih
      refine n_iinc (n := 1) (L' := [(6, _), (0, _), (1, _), (2, _), (3, _), (4, _), (5, _)]) dX0_mostWithOneMore_60 rfl (by decide) rfl ?_
      refine v_goto (tgt := 14) dX0_mostWithOneMore_63 (by decide) ?_
      refine v_sub [1, 2, 3, 4, 5, 6, 0] rfl ?_
      first | exact ih _ (mI_s hinv h1.2.2) | exact ih _ hinv
    · have hb : (oW o i).testBit p = false := by have := tb_sgo o p i; rw [tb_div] at this; simp [hi] at this; rw [← this]; simp; omega
      have e : mwN o p (i + 1) = max (mwN o p i) (TL (oadd o i p) 0).length := if_neg (by rw [hb]; decide)
      rw [e] at ih
      have ho2 := oadd_ov ho (k := i) hp
      refine v_aload_n dX0_mostWithOneMore_30 rfl ?_
      refine v_get (j := 0) iO10 rfl dX0_mostWithOneMore_31 (by decide) in_X0_mostWithOneMore_X0 fl_X0_mostWithOneMore_9 rfl ?_
      refine v_iload_n dX0_mostWithOneMore_34 rfl ?_
      refine v_iload dX0_mostWithOneMore_35 rfl ?_
      refine v_iconst (x := nI 1) dX0_mostWithOneMore_37 (by decide +kernel) ?_
      refine v_iload dX0_mostWithOneMore_38 rfl ?_
      refine n_shl1 dX0_mostWithOneMore_40 (by omega) ?_
      refine n_ior dX0_mostWithOneMore_41 ?_
      refine v_iastN p iI11 dX0_mostWithOneMore_42 rfl hp (by decide) ?_
      refine v_aload_n dX0_mostWithOneMore_43 rfl ?_
      refine v_callVRv (M' := M_X0_weigh) (As := []) iO10 (s_X0_weigh ho2 (oadd_oc hi hinv.1) (hinv.2.2.2.trans hg)) dX0_mostWithOneMore_44 gX0_mostWithOneMore_X0_weigh rfl rfl nn_X0_weigh ⟨rfl, rfl⟩ ⟨by decide, by decide⟩ rfl rfl (Nat.le_of_ble_eq_true rfl) (fun s1 h1 => ?_)
      refine v_iload dX0_mostWithOneMore_47 rfl ?_
      refine v_aload_n dX0_mostWithOneMore_49 rfl ?_
      refine v_get (j := 4) iO10 rfl dX0_mostWithOneMore_50 (by decide) in_X0_mostWithOneMore_X0 fl_X0_mostWithOneMore_24 rfl ?_
      refine v_iconst (x := nI 0) dX0_mostWithOneMore_53 (by decide +kernel) ?_
      refine v_ialdN 0 iI15 dX0_mostWithOneMore_54 rfl (by decide) (by decide) ?_
      refine v_top (h1.1 0 (sub_0 _)).2 ?_
      refine v_mmax dX0_mostWithOneMore_55 (by decide +kernel) ⟨by decide, Nat.le_of_ble_eq_true rfl⟩ ?_
      refine v_top (nI_maxO (by have := mwN_le ho hp i; omega) (by have := (TL_b ho2 (A := 0) (by decide)).1; omega)) ?_
      refine v_istore (L' := [(5, _), (0, _), (1, _), (2, _), (3, _), (4, _), (6, _)]) dX0_mostWithOneMore_58 (by decide) rfl ?_
      refine n_iinc (n := 1) (L' := [(6, _), (5, _), (0, _), (1, _), (2, _), (3, _), (4, _)]) dX0_mostWithOneMore_60 rfl (by decide) rfl ?_
      refine v_goto (tgt := 14) dX0_mostWithOneMore_63 (by decide) ?_
      refine v_sub [2, 3, 4, 5, 6, 1, 0] rfl ?_
      first | exact ih _ (mI_s hinv h1.2.2) | exact ih _ hinv
  · intro τ hinv
    have hS := ho.2.2.1
    have hm := mwN_le ho hp (oS o)
    refine v_iload dX0_mostWithOneMore_14 rfl ?_
    refine v_iload_n dX0_mostWithOneMore_16 rfl ?_
    refine n_icmp_ge (tgt := 66) dX0_mostWithOneMore_17 (by decide) (by omega) (by omega) (fun c17 => ?_) (fun c17 => absurd c17 (by omega))
    refine v_aload_n dX0_mostWithOneMore_66 rfl ?_
    refine v_get (j := 0) iO10 rfl dX0_mostWithOneMore_67 (by decide) in_X0_mostWithOneMore_X0 fl_X0_mostWithOneMore_9 rfl ?_
    refine v_iload_n dX0_mostWithOneMore_70 rfl ?_
    refine v_iload dX0_mostWithOneMore_71 rfl ?_
    refine v_iastN p iI11 dX0_mostWithOneMore_73 rfl hp (by decide) ?_
    refine v_iload dX0_mostWithOneMore_74 rfl ?_
    refine n_if_le (tgt := 84) dX0_mostWithOneMore_76 (by decide) (by omega) (fun c76 => ?_) (fun c76 => ?_)
    · refine v_iload_n dX0_mostWithOneMore_84 rfl ?_
      exact v_iret rfl dX0_mostWithOneMore_85 ⟨congrArg (fun z => some (Value.int z)) (by rw [mw, if_neg (by omega)]), mI_e hinv⟩
    · refine v_iload dX0_mostWithOneMore_79 rfl ?_
      refine v_goto (tgt := 85) dX0_mostWithOneMore_81 (by decide) ?_
      exact v_iret rfl dX0_mostWithOneMore_85 ⟨congrArg (fun z => some (Value.int z)) (by rw [mw, if_pos c76]), mI_e hinv⟩
def nxC (w : WD) (p : Nat) : Bool := decide (0 < smp w p 17)
def nxF (w : WD) (p : Nat) : Nat := mw (odW w) p (nB w)
def q_next (w : WD) : Int32 := if 0 < nB w then opI (amn (nxC w) (nxF w) 6) else -4
theorem nxF_le {z : Nat} {w : WD} (hv : WV z w) {p : Nat} (hp : p < 6) : nxF w p ≤ 46656 := by
  rw [nxF, mw]
  have := mwN_le (ov_W hv) hp (oS (odW w))
  have := (TL_b (ov_W hv) (A := 0) (by decide)).1
  rw [nB]
  split <;> omega
theorem smp_le {z : Nat} {w : WD} (hv : WV z w) {p k : Nat} (hk : k < 18) : smp w p k ≤ 16 * z := sm_le_sub (fun c hc => by
  by_cases q : wQ w c = p
  · simp only [q, if_true]; exact wv_H hv (by have := wv_C hv; omega)
  · simp only [q, if_false]; exact Nat.zero_le _) 16 (wv_C hv)
set_option maxRecDepth 100000 in
set_option maxHeartbeats 4000000 in
theorem s_X4_next {v : EE} {s : AS} {z : Nat} {σ : SS} (hr : RC s σ) (hv : WV z (aW s)) (hz : z ≤ 1000000) : SR v M_X4_next [.ref (v.1 0)] σ (some (.int (q_next (aW s)))) (fun σ' => RC s σ' ∧ FC σ σ') := by
  refine Sp.of rfl (by decide) rfl (Nat.le_of_ble_eq_true rfl) ?_
  show V v M_X4_next _ 0 [(0, .ref (v.1 0))] [] σ
  have hla := hr.la
  have hw := hr.ch
  refine v_aload_n dX4_next_0 rfl ?_
  refine v_get (j := 2) iO0 rfl dX4_next_1 (by decide) in_X4_next_X4 fl_X4_next_26 rfl ?_
  refine v_aload_n dX4_next_4 rfl ?_
  refine v_get (j := 5) iO0 rfl dX4_next_5 (by decide) in_X4_next_X4 fl_X4_next_42 rfl ?_
  refine v_callVRv (M' := M_X0_weighWall) (As := [_]) iO10 (s_X0_weighWall hla hw hv hz hr.g0) dX4_next_8 gX4_next_X0_weighWall rfl rfl nn_X0_weighWall ⟨rfl, rfl⟩ ⟨by decide, by decide⟩ rfl rfl (Nat.le_of_ble_eq_true rfl) (fun s1 h1 => ?_)
  have hf := h1.2
  have hr1 := hf.rc hr
  have hla := hr1.la
  have hw := hr1.ch
  have ho := ov_W hv
  have hF := hf.fc
  refine v_aload_n dX4_next_11 rfl ?_
  refine v_get (j := 2) iO0 rfl dX4_next_12 (by decide) in_X4_next_X4 fl_X4_next_26 rfl ?_
  refine v_callVi (M' := M_X0_exist) (As := []) iO10 (s_X0_exist ho h1.1.2.1) dX4_next_15 gX4_next_X0_exist rfl rfl nn_X0_exist ⟨rfl, rfl⟩ ⟨by decide, by decide⟩ rfl rfl (Nat.le_of_ble_eq_true rfl) ?_
  refine b_if_ne (tgt := 24) dX4_next_18 (by decide) (fun c18 => ?_) (fun c18 => ?_)
  · refine v_aload_n dX4_next_24 rfl ?_
    refine v_get (j := 2) iO0 rfl dX4_next_25 (by decide) in_X4_next_X4 fl_X4_next_26 rfl ?_
    refine v_callVi (M' := M_X0_howMany) (As := []) iO10 (s_X0_howMany ho h1.1.2.1) dX4_next_28 gX4_next_X0_howMany rfl rfl nn_X0_howMany ⟨rfl, rfl⟩ ⟨by decide, by decide⟩ rfl rfl (Nat.le_of_ble_eq_true rfl) ?_
    refine v_istore_n (L' := [(1, _), (0, _)]) dX4_next_31 rfl (by decide) rfl ?_
    refine v_bipush (x := (-4)) dX4_next_32 (by decide +kernel) ?_
    refine v_istore_n (L' := [(2, _), (1, _), (0, _)]) dX4_next_34 rfl (by decide) rfl ?_
    refine v_iconst (x := nI 0) dX4_next_35 (by decide +kernel) ?_
    refine v_istore_n (L' := [(3, _), (2, _), (1, _), (0, _)]) dX4_next_36 rfl (by decide) rfl ?_
    refine v_iconst (x := nI 0) dX4_next_37 (by decide +kernel) ?_
    refine v_istore (L' := [(4, _), (3, _), (2, _), (1, _), (0, _)]) dX4_next_38 (by decide) rfl ?_
    refine v_sub [4, 3, 2, 1, 0] rfl ?_
    refine loopN (fun i => ∀ τ : SS, (OC0 (odW (aW s)) τ ∧ FO σ τ) → V v M_X4_next (zR v M_X4_next (fun r' σ' => r' = (some (.int (q_next (aW s)))) ∧ (RC s σ' ∧ FC σ σ'))) 40 [(0, .ref (v.1 0)), (1, .int (nI (nB (aW s)))), (2, .int (opI (amn (nxC (aW s)) (nxF (aW s)) i))), (3, .int (nI (opF (nxF (aW s)) (amn (nxC (aW s)) (nxF (aW s)) i)))), (4, .int (nI i))] [] τ) 6 ?_ ?_ _ ⟨h1.1.1.o0, h1.2⟩
    · intro i hi ih τ hinv
      have hr2 := hinv.2.rc hr
      have hla := hr2.la
      have hw := hr2.ch
      refine v_iload dX4_next_40 rfl ?_
      refine v_bipush (x := nI 6) dX4_next_42 (by decide +kernel) ?_
      refine n_icmp_ge (tgt := 104) dX4_next_44 (by decide) (by omega) (by omega) (fun c44 => absurd c44 (by omega)) (fun c44 => ?_)
      refine v_aload_n dX4_next_47 rfl ?_
      refine v_get (j := 5) iO0 rfl dX4_next_48 (by decide) in_X4_next_X4 fl_X4_next_42 rfl ?_
      refine v_iload dX4_next_51 rfl ?_
      refine v_bipush (x := nI 17) dX4_next_53 (by decide +kernel) ?_
      refine v_callVi (M' := M_X3_stonesOfPart) (As := [_, _]) (iWO hla) (s_X3_stonesOfPart hla hw hv hi (by decide)) dX4_next_55 gX4_next_X3_stonesOfPart rfl rfl nn_X3_stonesOfPart ⟨rfl, rfl⟩ ⟨by decide, by decide⟩ rfl rfl (Nat.le_of_ble_eq_true rfl) ?_
      refine n_if_le (tgt := 98) dX4_next_58 (by decide) (by have := smp_le hv (p := i) (k := 17) (by decide); omega) (fun c58 => ?_) (fun c58 => ?_)
      · rw [amn_no (by rw [nxC, c58]; rfl)] at ih
        refine n_iinc (n := 1) (L' := [(4, _), (0, _), (1, _), (2, _), (3, _)]) dX4_next_98 rfl (by decide) rfl ?_
        refine v_goto (tgt := 40) dX4_next_101 (by decide) ?_
        refine v_sub [1, 2, 3, 4, 0] rfl ?_
        first | exact ih _ ⟨h2.1, hf2⟩ | exact ih _ hinv
      · rcases ha : (amn (nxC (aW s)) (nxF (aW s)) i) with _ | j
        · dsimp only [opI, opF]
          refine v_aload_n dX4_next_61 rfl ?_
          refine v_get (j := 2) iO0 rfl dX4_next_62 (by decide) in_X4_next_X4 fl_X4_next_26 rfl ?_
          refine v_iload dX4_next_65 rfl ?_
          refine v_aload_n dX4_next_67 rfl ?_
          refine v_get (j := 5) iO0 rfl dX4_next_68 (by decide) in_X4_next_X4 fl_X4_next_42 rfl ?_
          refine v_get (j := 8) (iWO hla) rfl dX4_next_71 (by decide) in_X4_next_X3 fl_X4_next_121 rfl ?_
          refine v_top (ch_S hw) ?_
          refine v_iload_n dX4_next_74 rfl ?_
          refine v_callVRi (M' := M_X0_mostWithOneMore) (As := [_, _, _]) iO10 (s_X0_mostWithOneMore ho hinv.1 hr2.g0 hi) dX4_next_75 gX4_next_X0_mostWithOneMore rfl rfl nn_X0_mostWithOneMore ⟨rfl, rfl⟩ ⟨by decide, by decide⟩ rfl rfl (Nat.le_of_ble_eq_true rfl) (fun s2 h2 => ?_)
          have hf2 := hinv.2.tr h2.2
          refine v_istore (L' := [(5, _), (0, _), (1, _), (2, _), (3, _), (4, _)]) dX4_next_78 (by decide) rfl ?_
          refine v_iload_n dX4_next_80 rfl ?_
          refine v_bipush (x := (-4)) dX4_next_81 (by decide +kernel) ?_
          refine v_icmp_eq (tgt := 92) dX4_next_83 (by decide) (fun c83 => ?_) (fun c83 => absurd rfl c83)
          refine v_iload dX4_next_92 rfl ?_
          refine v_istore_n (L' := [(2, _), (5, _), (0, _), (1, _), (3, _), (4, _)]) dX4_next_94 rfl (by decide) rfl ?_
          refine v_iload dX4_next_95 rfl ?_
          refine v_istore_n (L' := [(3, _), (2, _), (5, _), (0, _), (1, _), (4, _)]) dX4_next_97 rfl (by decide) rfl ?_
          rw [amn_n (decide_eq_true c58) ha] at ih
          dsimp only [opI, opF] at ih
          refine n_iinc (n := 1) (L' := [(4, _), (3, _), (2, _), (5, _), (0, _), (1, _)]) dX4_next_98 rfl (by decide) rfl ?_
          refine v_goto (tgt := 40) dX4_next_101 (by decide) ?_
          refine v_sub [4, 5, 2, 1, 0] rfl ?_
          first | exact ih _ ⟨h2.1, hf2⟩ | exact ih _ hinv
        · dsimp only [opI, opF]
          refine v_aload_n dX4_next_61 rfl ?_
          refine v_get (j := 2) iO0 rfl dX4_next_62 (by decide) in_X4_next_X4 fl_X4_next_26 rfl ?_
          refine v_iload dX4_next_65 rfl ?_
          refine v_aload_n dX4_next_67 rfl ?_
          refine v_get (j := 5) iO0 rfl dX4_next_68 (by decide) in_X4_next_X4 fl_X4_next_42 rfl ?_
          refine v_get (j := 8) (iWO hla) rfl dX4_next_71 (by decide) in_X4_next_X3 fl_X4_next_121 rfl ?_
          refine v_top (ch_S hw) ?_
          refine v_iload_n dX4_next_74 rfl ?_
          refine v_callVRi (M' := M_X0_mostWithOneMore) (As := [_, _, _]) iO10 (s_X0_mostWithOneMore ho hinv.1 hr2.g0 hi) dX4_next_75 gX4_next_X0_mostWithOneMore rfl rfl nn_X0_mostWithOneMore ⟨rfl, rfl⟩ ⟨by decide, by decide⟩ rfl rfl (Nat.le_of_ble_eq_true rfl) (fun s2 h2 => ?_)
          have hf2 := hinv.2.tr h2.2
          refine v_istore (L' := [(5, _), (0, _), (1, _), (2, _), (3, _), (4, _)]) dX4_next_78 (by decide) rfl ?_
          refine v_iload_n dX4_next_80 rfl ?_
          refine v_bipush (x := (-4)) dX4_next_81 (by decide +kernel) ?_
          refine v_icmp_eq (tgt := 92) dX4_next_83 (by decide) (fun c83 => absurd c83 (nI_nm4 (by have := amn_bd ha; omega))) (fun c83 => ?_)
          refine v_iload dX4_next_86 rfl ?_
          refine v_iload_n dX4_next_88 rfl ?_
          refine n_icmp_ge (tgt := 98) dX4_next_89 (by decide) (by have : nxF (aW s) i ≤ 46656 := nxF_le hv hi; have e : nxF (aW s) i = mw (odW (aW s)) i (nB (aW s)) := rfl; rw [e] at this; omega) (by have := nxF_le hv (p := j) (by have := amn_bd ha; omega); omega) (fun c89 => ?_) (fun c89 => ?_)
          · rw [amn_ge (decide_eq_true c58) ha c89] at ih
            dsimp only [opI, opF] at ih
            refine n_iinc (n := 1) (L' := [(4, _), (5, _), (0, _), (1, _), (2, _), (3, _)]) dX4_next_98 rfl (by decide) rfl ?_
            refine v_goto (tgt := 40) dX4_next_101 (by decide) ?_
            refine v_sub [2, 3, 4, 5, 0] rfl ?_
            first | exact ih _ ⟨h2.1, hf2⟩ | exact ih _ hinv
          · refine v_iload dX4_next_92 rfl ?_
            refine v_istore_n (L' := [(2, _), (5, _), (0, _), (1, _), (3, _), (4, _)]) dX4_next_94 rfl (by decide) rfl ?_
            refine v_iload dX4_next_95 rfl ?_
            refine v_istore_n (L' := [(3, _), (2, _), (5, _), (0, _), (1, _), (4, _)]) dX4_next_97 rfl (by decide) rfl ?_
            rw [amn_lt (decide_eq_true c58) ha c89] at ih
            dsimp only [opI, opF] at ih
            refine n_iinc (n := 1) (L' := [(4, _), (3, _), (2, _), (5, _), (0, _), (1, _)]) dX4_next_98 rfl (by decide) rfl ?_
            refine v_goto (tgt := 40) dX4_next_101 (by decide) ?_
            refine v_sub [4, 5, 2, 1, 0] rfl ?_
            first | exact ih _ ⟨h2.1, hf2⟩ | exact ih _ hinv
    · intro τ hinv
      refine v_iload dX4_next_40 rfl ?_
      refine v_bipush (x := nI 6) dX4_next_42 (by decide +kernel) ?_
      refine n_icmp_ge (tgt := 104) dX4_next_44 (by decide) (by omega) (by omega) (fun c44 => ?_) (fun c44 => absurd c44 (by omega))
      refine v_iload_n dX4_next_104 rfl ?_
      exact v_iret rfl dX4_next_105 ⟨congrArg (fun z => some (Value.int z)) (by rw [q_next, if_pos (by have := of_decide_eq_true c18; exact this)]), hinv.2.rc hr, hinv.2.fc⟩
  · refine v_bipush (x := (-4)) dX4_next_21 (by decide +kernel) ?_
    exact v_iret rfl dX4_next_23 ⟨congrArg (fun z => some (Value.int z)) (by rw [q_next, if_neg (fun h => by rw [nB] at h; rw [decide_eq_true h] at c18; cases c18)]), hr1, hF⟩
def agF (w : WD) (i k : Nat) : Nat := if (sgX (odW w) i).testBit k then smp w (ofL (fr (odW w) 0) i) k else 0
def q_again (w : WD) : Int32 := if 0 < nB w then nI (sm (fun i => sm (agF w i) 16) (fr (odW w) 0).length) else -4
theorem sgX_lt {o : OD} (ho : OV o) (n : Nat) : sgX o n < 2 ^ 16 := Nat.lt_of_le_of_lt (Nat.le_trans Nat.and_le_left (Nat.le_trans (dif_le _ _) (dif_le _ _))) (sgN_lt ho n)
theorem agF_y {w : WD} {i k : Nat} (h : sgX (odW w) i / 2 ^ k % 2 = 1) : agF w i k = smp w (ofL (fr (odW w) 0) i) k := if_pos (by rw [tb_div]; simpa using h)
theorem agF_n {w : WD} {i k : Nat} (h : sgX (odW w) i / 2 ^ k % 2 ≠ 1) : agF w i k = 0 := if_neg (by rw [tb_div]; simpa using h)
set_option maxRecDepth 100000 in
set_option maxHeartbeats 4000000 in
theorem s_X4_again {v : EE} {s : AS} {z : Nat} {σ : SS} (hr : RC s σ) (hv : WV z (aW s)) (hz : z ≤ 1000000) : SR v M_X4_again [.ref (v.1 0)] σ (some (.int (q_again (aW s)))) (fun σ' => RC s σ' ∧ FC σ σ') := by
  refine Sp.of rfl (by decide) rfl (Nat.le_of_ble_eq_true rfl) ?_
  show V v M_X4_again _ 0 [(0, .ref (v.1 0))] [] σ
  have hla := hr.la
  have hw := hr.ch
  refine v_aload_n dX4_again_0 rfl ?_
  refine v_get (j := 2) iO0 rfl dX4_again_1 (by decide) in_X4_again_X4 fl_X4_again_26 rfl ?_
  refine v_aload_n dX4_again_4 rfl ?_
  refine v_get (j := 5) iO0 rfl dX4_again_5 (by decide) in_X4_again_X4 fl_X4_again_42 rfl ?_
  refine v_callVRv (M' := M_X0_weighWall) (As := [_]) iO10 (s_X0_weighWall hla hw hv hz hr.g0) dX4_again_8 gX4_again_X0_weighWall rfl rfl nn_X0_weighWall ⟨rfl, rfl⟩ ⟨by decide, by decide⟩ rfl rfl (Nat.le_of_ble_eq_true rfl) (fun s1 h1 => ?_)
  have hf := h1.2
  have hr1 := hf.rc hr
  have hla := hr1.la
  have hw := hr1.ch
  have ho := ov_W hv
  have hF := hf.fc
  refine v_aload_n dX4_again_11 rfl ?_
  refine v_get (j := 2) iO0 rfl dX4_again_12 (by decide) in_X4_again_X4 fl_X4_again_26 rfl ?_
  refine v_callVi (M' := M_X0_exist) (As := []) iO10 (s_X0_exist ho h1.1.2.1) dX4_again_15 gX4_again_X0_exist rfl rfl nn_X0_exist ⟨rfl, rfl⟩ ⟨by decide, by decide⟩ rfl rfl (Nat.le_of_ble_eq_true rfl) ?_
  refine b_if_ne (tgt := 24) dX4_again_18 (by decide) (fun c18 => ?_) (fun c18 => ?_)
  · refine v_iconst (x := nI 0) dX4_again_24 (by decide +kernel) ?_
    refine v_istore_n (L' := [(1, _), (0, _)]) dX4_again_25 rfl (by decide) rfl ?_
    refine v_iconst (x := nI 0) dX4_again_26 (by decide +kernel) ?_
    refine v_istore_n (L' := [(2, _), (1, _), (0, _)]) dX4_again_27 rfl (by decide) rfl ?_
    refine v_sub [2, 1, 0] rfl ?_
    refine loopN (fun i => V v M_X4_again (zR v M_X4_again (fun r' σ' => r' = (some (.int (q_again (aW s)))) ∧ (RC s σ' ∧ FC σ σ'))) 28 [(0, .ref (v.1 0)), (1, .int (nI (sm (fun i => sm (agF (aW s) i) 16) i))), (2, .int (nI i))] [] (s1)) (fr (odW (aW s)) 0).length ?_ ?_
    · intro i hi ih
      have hl := fr_len ho
      have ho_i := hi
      have ih0 := ih
      refine v_iload_n dX4_again_28 rfl ?_
      refine v_aload_n dX4_again_29 rfl ?_
      refine v_get (j := 2) iO0 rfl dX4_again_30 (by decide) in_X4_again_X4 fl_X4_again_26 rfl ?_
      refine v_get (j := 8) iO10 rfl dX4_again_33 (by decide) in_X4_again_X0 fl_X4_again_169 rfl ?_
      refine v_top h1.1.2.2.1 ?_
      refine n_icmp_ge (tgt := 100) dX4_again_36 (by decide) (by omega) (by omega) (fun c36 => absurd c36 (by omega)) (fun c36 => ?_)
      refine v_aload_n dX4_again_39 rfl ?_
      refine v_get (j := 2) iO0 rfl dX4_again_40 (by decide) in_X4_again_X4 fl_X4_again_26 rfl ?_
      refine v_iload_n dX4_again_43 rfl ?_
      refine v_callVi (M' := M_X0_astrayAt) (As := [_]) iO10 (s_X0_astrayAt ho h1.1.1 h1.1.2.2 (by omega)) dX4_again_44 gX4_again_X0_astrayAt rfl rfl nn_X0_astrayAt ⟨rfl, rfl⟩ ⟨by decide, by decide⟩ rfl rfl (Nat.le_of_ble_eq_true rfl) ?_
      refine v_istore_n (L' := [(3, _), (0, _), (1, _), (2, _)]) dX4_again_47 rfl (by decide) rfl ?_
      refine v_iconst (x := nI 0) dX4_again_48 (by decide +kernel) ?_
      refine v_istore (L' := [(4, _), (3, _), (0, _), (1, _), (2, _)]) dX4_again_49 (by decide) rfl ?_
      refine v_sub [2, 3, 4, 1, 0] rfl ?_
      refine loopN (fun k => V v M_X4_again (zR v M_X4_again (fun r' σ' => r' = (some (.int (q_again (aW s)))) ∧ (RC s σ' ∧ FC σ σ'))) 51 [(0, .ref (v.1 0)), (1, .int (nI ((sm (fun i => sm (agF (aW s) i) 16) i) + sm (agF (aW s) i) k))), (2, .int (nI i)), (3, .int (nI (sgX (odW (aW s)) i))), (4, .int (nI k))] [] (s1)) 16 ?_ ?_
      · intro k hi ih
        refine v_iload dX4_again_51 rfl ?_
        refine v_bipush (x := nI 16) dX4_again_53 (by decide +kernel) ?_
        refine n_icmp_ge (tgt := 94) dX4_again_55 (by decide) (by omega) (by omega) (fun c55 => absurd c55 (by omega)) (fun c55 => ?_)
        refine v_iload_n dX4_again_58 rfl ?_
        refine v_iload dX4_again_59 rfl ?_
        refine n_ishr dX4_again_61 (by have := sgX_lt ho i; omega) (by omega) ?_
        refine v_iconst (x := nI 1) dX4_again_62 (by decide +kernel) ?_
        refine n_and1 dX4_again_63 ?_
        refine v_iconst (x := nI 1) dX4_again_64 (by decide +kernel) ?_
        refine n_icmp_ne (tgt := 88) dX4_again_65 (by decide) (by omega) (by omega) (fun c65 => ?_) (fun c65 => ?_)
        · have e : sm (agF (aW s) i) (k + 1) = sm (agF (aW s) i) k := by rw [sm, agF_n c65, Nat.add_zero]
          rw [e] at ih
          refine n_iinc (n := 1) (L' := [(4, _), (0, _), (1, _), (2, _), (3, _)]) dX4_again_88 rfl (by decide) rfl ?_
          refine v_goto (tgt := 51) dX4_again_91 (by decide) ?_
          refine v_sub [1, 2, 3, 4, 0] rfl ?_
          exact ih
        · have e : sm (agF (aW s) i) (k + 1) = sm (agF (aW s) i) k + smp (aW s) (ofL (fr (odW (aW s)) 0) i) k := by rw [sm, agF_y c65]
          rw [e, ← Nat.add_assoc] at ih
          refine v_iload_n dX4_again_68 rfl ?_
          refine v_aload_n dX4_again_69 rfl ?_
          refine v_get (j := 5) iO0 rfl dX4_again_70 (by decide) in_X4_again_X4 fl_X4_again_42 rfl ?_
          refine v_aload_n dX4_again_73 rfl ?_
          refine v_get (j := 2) iO0 rfl dX4_again_74 (by decide) in_X4_again_X4 fl_X4_again_26 rfl ?_
          refine v_iload_n dX4_again_77 rfl ?_
          refine v_callVi (M' := M_X0_partAt) (As := [_]) iO10 (s_X0_partAt ho h1.1.2.2 _) dX4_again_78 gX4_again_X0_partAt rfl rfl nn_X0_partAt ⟨rfl, rfl⟩ ⟨by decide, by decide⟩ rfl rfl (Nat.le_of_ble_eq_true rfl) ?_
          refine v_top ((ptA_n (by omega)).trans (if_pos ho_i)) ?_
          refine v_iload dX4_again_81 rfl ?_
          refine v_callVi (M' := M_X3_stonesOfPart) (As := [_, _]) (iWO hla) (s_X3_stonesOfPart hla hw hv (fr_el ho ho_i) (by omega)) dX4_again_83 gX4_again_X3_stonesOfPart rfl rfl nn_X3_stonesOfPart ⟨rfl, rfl⟩ ⟨by decide, by decide⟩ rfl rfl (Nat.le_of_ble_eq_true rfl) ?_
          refine n_iadd dX4_again_86 ?_
          refine v_istore_n (L' := [(1, _), (0, _), (2, _), (3, _), (4, _)]) dX4_again_87 rfl (by decide) rfl ?_
          refine n_iinc (n := 1) (L' := [(4, _), (1, _), (0, _), (2, _), (3, _)]) dX4_again_88 rfl (by decide) rfl ?_
          refine v_goto (tgt := 51) dX4_again_91 (by decide) ?_
          refine v_sub [2, 1, 3, 4, 0] rfl ?_
          exact ih
      · refine v_iload dX4_again_51 rfl ?_
        refine v_bipush (x := nI 16) dX4_again_53 (by decide +kernel) ?_
        refine n_icmp_ge (tgt := 94) dX4_again_55 (by decide) (by omega) (by omega) (fun c55 => ?_) (fun c55 => absurd c55 (by omega))
        refine n_iinc (n := 1) (L' := [(2, _), (0, _), (1, _), (3, _), (4, _)]) dX4_again_94 rfl (by decide) rfl ?_
        refine v_goto (tgt := 28) dX4_again_97 (by decide) ?_
        refine v_sub [1, 2, 0] rfl ?_
        exact ih0
    · have hl := fr_len ho
      refine v_iload_n dX4_again_28 rfl ?_
      refine v_aload_n dX4_again_29 rfl ?_
      refine v_get (j := 2) iO0 rfl dX4_again_30 (by decide) in_X4_again_X4 fl_X4_again_26 rfl ?_
      refine v_get (j := 8) iO10 rfl dX4_again_33 (by decide) in_X4_again_X0 fl_X4_again_169 rfl ?_
      refine v_top h1.1.2.2.1 ?_
      refine n_icmp_ge (tgt := 100) dX4_again_36 (by decide) (by omega) (by omega) (fun c36 => ?_) (fun c36 => absurd c36 (by omega))
      refine v_iload_n dX4_again_100 rfl ?_
      exact v_iret rfl dX4_again_101 ⟨congrArg (fun z => some (Value.int z)) (by rw [q_again, if_pos (by have := of_decide_eq_true c18; exact this)]), hr1, hF⟩
  · refine v_bipush (x := (-4)) dX4_again_21 (by decide +kernel) ?_
    exact v_iret rfl dX4_again_23 ⟨congrArg (fun z => some (Value.int z)) (by rw [q_again, if_neg (fun h => by rw [nB] at h; rw [decide_eq_true h] at c18; cases c18)]), hr1, hF⟩
