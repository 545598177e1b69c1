theorem in_X5_again_X5 : ∀ w ∈ u_ws RX5 TX5 29, w ∈ mWs M_X5_again := by decide +kernel
theorem in_X5_isIn_X5 : ∀ w ∈ u_ws RX5 TX5 29, w ∈ mWs M_X5_isIn := by decide +kernel
theorem fl_X5_again_56 : Cond.fieldLink (mOwn M_X5_again) 56 (TX5 20).1 (TX5 20).2.1 (TX5 20).2.2.1 ∈ mWs M_X5_again := by decide +kernel
theorem fl_X5_again_186 : Cond.fieldLink (mOwn M_X5_again) 186 (TX5 13).1 (TX5 13).2.1 (TX5 13).2.2.1 ∈ mWs M_X5_again := by decide +kernel
theorem fl_X5_again_189 : Cond.fieldLink (mOwn M_X5_again) 189 (TX5 15).1 (TX5 15).2.1 (TX5 15).2.2.1 ∈ mWs M_X5_again := by decide +kernel
theorem fl_X5_again_192 : Cond.fieldLink (mOwn M_X5_again) 192 (TX5 21).1 (TX5 21).2.1 (TX5 21).2.2.1 ∈ mWs M_X5_again := by decide +kernel
theorem fl_X5_isIn_44 : Cond.fieldLink (mOwn M_X5_isIn) 44 (TX5 16).1 (TX5 16).2.1 (TX5 16).2.2.1 ∈ mWs M_X5_isIn := by decide +kernel
theorem fl_X5_isIn_56 : Cond.fieldLink (mOwn M_X5_isIn) 56 (TX5 20).1 (TX5 20).2.1 (TX5 20).2.2.1 ∈ mWs M_X5_isIn := by decide +kernel
theorem fl_X5_isIn_186 : Cond.fieldLink (mOwn M_X5_isIn) 186 (TX5 13).1 (TX5 13).2.1 (TX5 13).2.2.1 ∈ mWs M_X5_isIn := by decide +kernel
theorem nn_X5_isIn : (mY M_X5_isIn).cls = mOwn M_X5_isIn ∧ (mY M_X5_isIn).cls ≠ "java/lang/invoke/MethodHandle" ∧ (mY M_X5_isIn).cls ≠ "java/lang/invoke/VarHandle" ∧ (parseMethodDescriptor (mY M_X5_isIn).desc).map (fun d => d.parameters.length) = some 2 := by decide +kernel
def inP (o : OD) (k j : Nat) : Bool := decide (j < (fr o 0).length) && (oW o k).testBit (ofL (fr o 0) j)
def inQ (o : OD) (k i : Nat) : Bool := if i = 0 then false else inP o k (i - 1)
def tw (o : OD) (k i : Nat) : Nat → Bool
  | 0 => false
  | j + 1 => tw o k i j || (decide (j ≠ i) && decide (j + 1 ≠ i) && (inP o k j && inP o k (j + 1)))
theorem tw_iff {o : OD} {k i : Nat} : ∀ {n : Nat}, tw o k i n = true ↔ ∃ j, j < n ∧ j ≠ i ∧ j + 1 ≠ i ∧ inP o k j = true ∧ inP o k (j + 1) = true
  | 0 => by simp [tw]
  | n + 1 => by
    rw [tw, Bool.or_eq_true, tw_iff]
    simp only [Bool.and_eq_true, decide_eq_true_eq]
    constructor
    · rintro (⟨j, h1, h2⟩ | h)
      · exact ⟨j, by omega, h2⟩
      · exact ⟨n, by omega, h.1.1, h.1.2, h.2.1, h.2.2⟩
    · rintro ⟨j, h1, h2, h3, h4, h5⟩
      by_cases c : j = n
      · subst c; exact Or.inr ⟨⟨h2, h3⟩, h4, h5⟩
      · exact Or.inl ⟨j, by omega, h2, h3, h4, h5⟩
theorem sgN_in {o : OD} {i k : Nat} (hk : k < oS o) : (sgN o i).testBit k = inP o k i := by
  rw [inP]
  by_cases c : i < (fr o 0).length
  · rw [sgN_tb hk c]; simp [c]
  · rw [sgN, if_neg c, Nat.zero_testBit]; simp [c]
theorem sgX_tb {o : OD} (ho : OV o) {i k : Nat} (hk : k < oS o) : (sgX o i).testBit k = (tw o k i ((fr o 0).length - 1) && inP o k i && !inQ o k i && !inP o k (i + 1)) := by
  have hl := fr_len ho
  rw [sgX, Nat.testBit_and, tb_dif, tb_dif, sgN_in hk, sgN_in hk]
  have hP : (sgP o i).testBit k = inQ o k i := by
    rw [sgP, inQ]
    by_cases c : i = 0
    · rw [if_pos c, if_pos c, Nat.zero_testBit]
    · rw [if_neg c, if_neg c, sgN_in hk]
  rw [hP]
  by_cases c1 : inP o k i = true
  · by_cases c2 : inQ o k i = true
    · rw [c1, c2]; simp
    · by_cases c3 : inP o k (i + 1) = true
      · rw [c1, c3]; simp
      · rw [Bool.not_eq_true] at c2 c3
        rw [c1, c2, c3]
        have : (sgS o).testBit k = tw o k i ((fr o 0).length - 1) := by
          apply Bool.eq_iff_iff.mpr
          rw [sgS, om_bit, tw_iff]
          constructor
          · rintro ⟨j, h1, h2⟩
            rw [Nat.testBit_and, Bool.and_eq_true, sgN_in hk, sgN_in hk] at h2
            refine ⟨j, ?_, fun e => ?_, fun e => ?_, h2.1, h2.2⟩
            · have := h2.2
              rw [inP, Bool.and_eq_true, decide_eq_true_eq] at this
              omega
            · rw [e, c3] at h2; cases h2.2
            · rw [inQ, if_neg (by omega), show i - 1 = j by omega, h2.1] at c2; cases c2
          · rintro ⟨j, h1, _, _, h2, h3⟩
            exact ⟨j, by omega, by rw [Nat.testBit_and, sgN_in hk, sgN_in hk, h2, h3]; rfl⟩
        rw [this]
        simp
  · rw [Bool.not_eq_true] at c1
    rw [c1]; simp
theorem sgX_hi {o : OD} {i k : Nat} (hk : oS o ≤ k) : (sgX o i).testBit k = false := by
  rw [sgX, Nat.testBit_and, tb_dif, tb_dif, sgN_hi hk]; rfl
theorem sm_swap (f : Nat → Nat → Nat) (n : Nat) : ∀ m, sm (fun i => sm (f i) n) m = sm (fun k => sm (fun i => f i k) m) n
  | 0 => (sm_zero.mpr (fun k _ => rfl)).symm
  | m + 1 => by
    rw [sm, sm_swap f n m, ← sm_add]
    exact sm_cong (fun k _ => rfl)
def agG (w : WD) (k i : Nat) : Nat := if (tw (odW w) k i ((fr (odW w) 0).length - 1) && inP (odW w) k i && !inQ (odW w) k i && !inP (odW w) k (i + 1)) then smp w (ofL (fr (odW w) 0) i) k else 0
theorem ag_eq {z : Nat} {w : WD} (hv : WV z w) : sm (fun k => sm (agG w k) (fr (odW w) 0).length) (wS w) = sm (fun i => sm (agF w i) 16) (fr (odW w) 0).length := by
  rw [sm_swap (agF w) 16]
  have hS : oS (odW w) = wS w := rfl
  have e : sm (fun k => sm (fun i => agF w i k) (fr (odW w) 0).length) 16 = sm (fun k => sm (fun i => agF w i k) (fr (odW w) 0).length) (wS w) := sm_stop (wv_S hv) (fun k h1 h2 => sm_zero.mpr (fun i _ => by rw [agF, sgX_hi (by omega)]; rfl))
  rw [e]
  refine sm_cong (fun k hk => sm_cong (fun i _ => ?_))
  rw [agG, agF, sgX_tb (ov_W hv) hk]
set_option maxRecDepth 100000 in
set_option maxHeartbeats 4000000 in
theorem s_X5_isIn {v : EE} {w : WD} {z : Nat} {σ : SS} (hs : SK w σ) (hv : WV z w) (hn : TL (odW w) 0 ≠ []) {k j : Nat} (hk : k < oS (odW w)) (hj : j < 2 ^ 31) : S1 v M_X5_isIn [.ref (v.1 40), .int (nI k), .int (nI j)] σ (some (.int (bI (inP (odW w) k j)))) (σ) := by
  refine Sp.of rfl (by decide) rfl (Nat.le_of_ble_eq_true rfl) ?_
  show V v M_X5_isIn _ 0 [(0, .ref (v.1 40)), (1, .int (nI k)), (2, .int (nI j))] [] σ
  have hl := fr_len (ov_W hv)
  have hS := (ov_W hv).2.2.1
  refine v_iload_n dX5_isIn_0 rfl ?_
  refine v_i2l dX5_isIn_1 ?_
  refine v_lconst (x := 0) dX5_isIn_2 rfl ?_
  refine v_aload_n dX5_isIn_3 rfl ?_
  refine v_get (j := 13) iO40 rfl dX5_isIn_4 (by decide) in_X5_isIn_X5 fl_X5_isIn_186 rfl ?_
  refine v_top (hs.m hv hn) ?_
  refine v_iconst (x := 1) dX5_isIn_7 rfl ?_
  refine v_isub dX5_isIn_8 ?_
  refine v_i2l dX5_isIn_9 ?_
  refine v_callSi (M' := M_X5_between) (As := [_, _, _]) (s_X5_between) dX5_isIn_10 gX5_isIn_X5_between rfl nn_X5_between ⟨rfl, rfl⟩ ⟨by decide, by decide⟩ rfl rfl (Nat.le_of_ble_eq_true rfl) ?_
  refine v_top (by rw [btw_isN (by omega), isN_dec hj]) ?_
  refine b_if_eq (tgt := 39) dX5_isIn_13 (by decide) (fun c13 => ?_) (fun c13 => ?_)
  · refine v_iconst (x := nI 0) dX5_isIn_39 (by decide +kernel) ?_
    exact v_zret rfl (by decide) dX5_isIn_40 ⟨congrArg (fun z => some (Value.int z)) (by rw [inP, c13]; rfl), rfl⟩
  · have hj2 := of_decide_eq_true c13
    have h6 := fr_el (ov_W hv) hj2
    have hW6 := ((ov_W hv).2.2.2 k hk).1
    refine v_aload_n dX5_isIn_16 rfl ?_
    refine v_get (j := 16) iO40 rfl dX5_isIn_17 (by decide) in_X5_isIn_X5 fl_X5_isIn_44 rfl ?_
    refine v_iload_n dX5_isIn_20 rfl ?_
    refine v_ialdN k iI52 dX5_isIn_21 rfl (by omega) (by decide) ?_
    refine v_top (hs.1.2.2.1 _ hk).1 ?_
    refine v_aload_n dX5_isIn_22 rfl ?_
    refine v_get (j := 20) iO40 rfl dX5_isIn_23 (by decide) in_X5_isIn_X5 fl_X5_isIn_56 rfl ?_
    refine v_iload_n dX5_isIn_26 rfl ?_
    refine v_ialdN j iI56 dX5_isIn_27 rfl (by omega) (by decide) ?_
    refine v_top (hs.r hv hn hj2) ?_
    refine n_ishr dX5_isIn_28 (by omega) (by omega) ?_
    refine v_iconst (x := nI 1) dX5_isIn_29 (by decide +kernel) ?_
    refine n_and1 dX5_isIn_30 ?_
    refine v_iconst (x := nI 1) dX5_isIn_31 (by decide +kernel) ?_
    refine n_icmp_ne (tgt := 39) dX5_isIn_32 (by decide) (by omega) (by omega) (fun c32 => ?_) (fun c32 => ?_)
    · refine v_iconst (x := nI 0) dX5_isIn_39 (by decide +kernel) ?_
      exact v_zret rfl (by decide) dX5_isIn_40 ⟨congrArg (fun z => some (Value.int z)) (by rw [inP, c13, show (oW (odW w) k).testBit (ofL (fr (odW w) 0) j) = false by rw [tb_div]; simpa using c32]; rfl), rfl⟩
    · refine v_iconst (x := nI 1) dX5_isIn_35 (by decide +kernel) ?_
      refine v_goto (tgt := 40) dX5_isIn_36 (by decide) ?_
      exact v_zret rfl (by decide) dX5_isIn_40 ⟨congrArg (fun z => some (Value.int z)) (by rw [inP, c13, show (oW (odW w) k).testBit (ofL (fr (odW w) 0) j) = true by rw [tb_div]; simpa using c32]; rfl), rfl⟩
set_option maxRecDepth 100000 in
set_option maxHeartbeats 4000000 in
theorem s_X5_isIn_m {v : EE} {w : WD} {z : Nat} {σ : SS} (hs : SK w σ) (hv : WV z w) (hn : TL (odW w) 0 ≠ []) {k : Nat} : S1 v M_X5_isIn [.ref (v.1 40), .int (nI k), .int (-1)] σ (some (.int (bI false))) (σ) := by
  refine Sp.of rfl (by decide) rfl (Nat.le_of_ble_eq_true rfl) ?_
  show V v M_X5_isIn _ 0 [(0, .ref (v.1 40)), (1, .int (nI k)), (2, .int (-1))] [] σ
  have hl := fr_len (ov_W hv)
  refine v_iload_n dX5_isIn_0 rfl ?_
  refine v_i2l dX5_isIn_1 ?_
  refine v_lconst (x := 0) dX5_isIn_2 rfl ?_
  refine v_aload_n dX5_isIn_3 rfl ?_
  refine v_get (j := 13) iO40 rfl dX5_isIn_4 (by decide) in_X5_isIn_X5 fl_X5_isIn_186 rfl ?_
  refine v_top (hs.m hv hn) ?_
  refine v_iconst (x := 1) dX5_isIn_7 rfl ?_
  refine v_isub dX5_isIn_8 ?_
  refine v_i2l dX5_isIn_9 ?_
  refine v_callSi (M' := M_X5_between) (As := [_, _, _]) (s_X5_between) dX5_isIn_10 gX5_isIn_X5_between rfl nn_X5_between ⟨rfl, rfl⟩ ⟨by decide, by decide⟩ rfl rfl (Nat.le_of_ble_eq_true rfl) ?_
  refine v_top (by rw [btw_isN (by omega), isN_lt0 (by decide)]) ?_
  refine b_if_eq (tgt := 39) dX5_isIn_13 (by decide) (fun c13 => ?_) (fun c13 => absurd c13 (by decide))
  refine v_iconst (x := nI 0) dX5_isIn_39 (by decide +kernel) ?_
  exact v_zret rfl (by decide) dX5_isIn_40 ⟨rfl, rfl⟩
theorem kd_nI {z : Nat} {w : WD} {k : Nat} (hk : k < oS (odW w)) (hv : WV z w) : kdOf (nI k) = nI k := by
  have : k < 16 := Nat.lt_of_lt_of_le hk (wv_S hv)
  exact (by decide : ∀ k, k < 16 → kdOf (nI k) = nI k) k this
set_option maxRecDepth 100000 in
set_option maxHeartbeats 4000000 in
theorem s_X5_again {v : EE} {s : AS} {z : Nat} {σ : SS} (hr : RM s σ) (hv : WV z (aW s)) (hz : z ≤ 1000000) : SR v M_X5_again [.ref (v.1 40)] σ (some (.int (q_again (aW s)))) (fun σ' => RM s σ' ∧ FM σ σ') := by
  refine Sp.of rfl (by decide) rfl (Nat.le_of_ble_eq_true rfl) ?_
  show V v M_X5_again _ 0 [(0, .ref (v.1 40))] [] σ
  refine v_aload_n dX5_again_0 rfl ?_
  refine v_callVRv (M' := M_X5_seeks) (As := []) iO40 (s_X5_seeks hr.2.1 hv hz) dX5_again_1 gX5_again_X5_seeks rfl rfl nn_X5_seeks ⟨rfl, rfl⟩ ⟨by decide, by decide⟩ rfl rfl (Nat.le_of_ble_eq_true rfl) (fun s1 h1 => ?_)
  have ho := ov_W hv
  have hb := TL_b ho (A := 0) (by decide)
  have hl := fr_len ho
  have hnB : nB (aW s) = (TL (odW (aW s)) 0).length := rfl
  refine v_aload_n dX5_again_4 rfl ?_
  refine v_get (j := 21) iO40 rfl dX5_again_5 (by decide) in_X5_again_X5 fl_X5_again_192 rfl ?_
  refine v_top h1.1.n ?_
  refine n_if_ne (tgt := 14) dX5_again_8 (by decide) (by omega) (fun c8 => ?_) (fun c8 => ?_)
  · have hn := pos_ne (hnB ▸ (Nat.pos_of_ne_zero c8))
    refine v_iconst (x := nI 0) dX5_again_14 (by decide +kernel) ?_
    refine v_istore_n (L' := [(1, _), (0, _)]) dX5_again_15 rfl (by decide) rfl ?_
    refine v_iconst (x := nI 0) dX5_again_16 (by decide +kernel) ?_
    refine v_istore_n (L' := [(2, _), (1, _), (0, _)]) dX5_again_17 rfl (by decide) rfl ?_
    refine v_sub [2, 1, 0] rfl ?_
    refine loopN (fun k => V v M_X5_again (zR v M_X5_again (fun r' σ' => r' = (some (.int (q_again (aW s)))) ∧ (RM s σ' ∧ FM σ σ'))) 18 [(0, .ref (v.1 40)), (1, .int (nI (sm (fun k => sm (agG (aW s) k) (fr (odW (aW s)) 0).length) k))), (2, .int (nI k))] [] (s1)) (oS (odW (aW s))) ?_ ?_
    · intro k hi ih
      have ih0 := ih
      have hk := hi
      have hS := ho.2.2.1
      refine v_iload_n dX5_again_18 rfl ?_
      refine v_aload_n dX5_again_19 rfl ?_
      refine v_get (j := 15) iO40 rfl dX5_again_20 (by decide) in_X5_again_X5 fl_X5_again_189 rfl ?_
      refine v_top h1.1.1.2.1 ?_
      refine n_icmp_ge (tgt := 173) dX5_again_23 (by decide) (by omega) (by omega) (fun c23 => absurd c23 (by omega)) (fun c23 => ?_)
      refine v_iconst (x := nI 0) dX5_again_26 (by decide +kernel) ?_
      refine v_istore_n (L' := [(3, _), (0, _), (1, _), (2, _)]) dX5_again_27 rfl (by decide) rfl ?_
      refine v_sub [1, 2, 3, 0] rfl ?_
      refine loopN (fun i => V v M_X5_again (zR v M_X5_again (fun r' σ' => r' = (some (.int (q_again (aW s)))) ∧ (RM s σ' ∧ FM σ σ'))) 28 [(0, .ref (v.1 40)), (1, .int (nI ((sm (fun k => sm (agG (aW s) k) (fr (odW (aW s)) 0).length) k) + sm (agG (aW s) k) i))), (2, .int (nI k)), (3, .int (nI i))] [] (s1)) (fr (odW (aW s)) 0).length ?_ ?_
      · intro i hi ih
        have ih1 := ih
        refine v_iload_n dX5_again_28 rfl ?_
        refine v_aload_n dX5_again_29 rfl ?_
        refine v_get (j := 13) iO40 rfl dX5_again_30 (by decide) in_X5_again_X5 fl_X5_again_186 rfl ?_
        refine v_top (h1.1.m hv hn) ?_
        refine n_icmp_ge (tgt := 167) dX5_again_33 (by decide) (by omega) (by omega) (fun c33 => absurd c33 (by omega)) (fun c33 => ?_)
        refine v_iconst (x := nI 0) dX5_again_36 (by decide +kernel) ?_
        refine v_istore (L' := [(4, _), (0, _), (1, _), (2, _), (3, _)]) dX5_again_37 (by decide) rfl ?_
        refine v_iconst (x := nI 0) dX5_again_39 (by decide +kernel) ?_
        refine v_istore (L' := [(5, _), (4, _), (0, _), (1, _), (2, _), (3, _)]) dX5_again_40 (by decide) rfl ?_
        refine v_sub [2, 3, 4, 5, 1, 0] rfl ?_
        refine loopN (fun j => V v M_X5_again (zR v M_X5_again (fun r' σ' => r' = (some (.int (q_again (aW s)))) ∧ (RM s σ' ∧ FM σ σ'))) 42 [(0, .ref (v.1 40)), (1, .int (nI ((sm (fun k => sm (agG (aW s) k) (fr (odW (aW s)) 0).length) k) + sm (agG (aW s) k) i))), (2, .int (nI k)), (3, .int (nI i)), (4, .int (bI (tw (odW (aW s)) k i j))), (5, .int (nI j))] [] (s1)) ((fr (odW (aW s)) 0).length - 1) ?_ ?_
        · intro j hi ih
          refine v_iload dX5_again_42 rfl ?_
          refine v_aload_n dX5_again_44 rfl ?_
          refine v_get (j := 13) iO40 rfl dX5_again_45 (by decide) in_X5_again_X5 fl_X5_again_186 rfl ?_
          refine v_top (h1.1.m hv hn) ?_
          refine v_iconst (x := nI 1) dX5_again_48 (by decide +kernel) ?_
          refine n_isub dX5_again_49 (by omega) ?_
          refine n_icmp_ge (tgt := 107) dX5_again_50 (by decide) (by omega) (by omega) (fun c50 => absurd c50 (by omega)) (fun c50 => ?_)
          refine v_iload dX5_again_53 rfl ?_
          refine b_if_ne (tgt := 94) dX5_again_55 (by decide) (fun c55 => ?_) (fun c55 => ?_)
          · refine v_iconst (x := nI 1) dX5_again_94 (by decide +kernel) ?_
            refine v_goto (tgt := 99) dX5_again_95 (by decide) ?_
            have e : tw (odW (aW s)) k i (j + 1) = true := by rw [tw, c55]; rfl
            rw [e] at ih
            refine v_istore (L' := [(4, _), (0, _), (1, _), (2, _), (3, _), (5, _)]) dX5_again_99 (by decide) rfl ?_
            refine n_iinc (n := 1) (L' := [(5, _), (4, _), (0, _), (1, _), (2, _), (3, _)]) dX5_again_101 rfl (by decide) rfl ?_
            refine v_goto (tgt := 42) dX5_again_104 (by decide) ?_
            refine v_sub [2, 3, 4, 5, 1, 0] rfl ?_
            exact ih
          · refine v_iload dX5_again_58 rfl ?_
            refine v_iload_n dX5_again_60 rfl ?_
            refine n_icmp_eq (tgt := 98) dX5_again_61 (by decide) (by omega) (by omega) (fun c61 => ?_) (fun c61 => ?_)
            · refine v_iconst (x := nI 0) dX5_again_98 (by decide +kernel) ?_
              have e : tw (odW (aW s)) k i (j + 1) = false := by rw [tw, c55, decide_eq_false (fun h => h c61)]; simp
              rw [e] at ih
              refine v_istore (L' := [(4, _), (0, _), (1, _), (2, _), (3, _), (5, _)]) dX5_again_99 (by decide) rfl ?_
              refine n_iinc (n := 1) (L' := [(5, _), (4, _), (0, _), (1, _), (2, _), (3, _)]) dX5_again_101 rfl (by decide) rfl ?_
              refine v_goto (tgt := 42) dX5_again_104 (by decide) ?_
              refine v_sub [2, 3, 4, 5, 1, 0] rfl ?_
              exact ih
            · refine v_iload dX5_again_64 rfl ?_
              refine v_iconst (x := nI 1) dX5_again_66 (by decide +kernel) ?_
              refine n_iadd dX5_again_67 ?_
              refine v_iload_n dX5_again_68 rfl ?_
              refine n_icmp_eq (tgt := 98) dX5_again_69 (by decide) (by omega) (by omega) (fun c69 => ?_) (fun c69 => ?_)
              · refine v_iconst (x := nI 0) dX5_again_98 (by decide +kernel) ?_
                have e : tw (odW (aW s)) k i (j + 1) = false := by rw [tw, c55, decide_eq_false (p := j + 1 ≠ i) (fun h => h c69)]; simp
                rw [e] at ih
                refine v_istore (L' := [(4, _), (0, _), (1, _), (2, _), (3, _), (5, _)]) dX5_again_99 (by decide) rfl ?_
                refine n_iinc (n := 1) (L' := [(5, _), (4, _), (0, _), (1, _), (2, _), (3, _)]) dX5_again_101 rfl (by decide) rfl ?_
                refine v_goto (tgt := 42) dX5_again_104 (by decide) ?_
                refine v_sub [2, 3, 4, 5, 1, 0] rfl ?_
                exact ih
              · refine v_aload_n dX5_again_72 rfl ?_
                refine v_iload_n dX5_again_73 rfl ?_
                refine v_iload dX5_again_74 rfl ?_
                refine v_callVi (M' := M_X5_isIn) (As := [_, _]) iO40 (s_X5_isIn h1.1 hv hn hk (by omega)) dX5_again_76 gX5_again_X5_isIn rfl rfl nn_X5_isIn ⟨rfl, rfl⟩ ⟨by decide, by decide⟩ rfl rfl (Nat.le_of_ble_eq_true rfl) ?_
                refine b_if_eq (tgt := 98) dX5_again_79 (by decide) (fun c79 => ?_) (fun c79 => ?_)
                · refine v_iconst (x := nI 0) dX5_again_98 (by decide +kernel) ?_
                  have e : tw (odW (aW s)) k i (j + 1) = false := by rw [tw, c55, c79]; simp
                  rw [e] at ih
                  refine v_istore (L' := [(4, _), (0, _), (1, _), (2, _), (3, _), (5, _)]) dX5_again_99 (by decide) rfl ?_
                  refine n_iinc (n := 1) (L' := [(5, _), (4, _), (0, _), (1, _), (2, _), (3, _)]) dX5_again_101 rfl (by decide) rfl ?_
                  refine v_goto (tgt := 42) dX5_again_104 (by decide) ?_
                  refine v_sub [2, 3, 4, 5, 1, 0] rfl ?_
                  exact ih
                · refine v_aload_n dX5_again_82 rfl ?_
                  refine v_iload_n dX5_again_83 rfl ?_
                  refine v_iload dX5_again_84 rfl ?_
                  refine v_iconst (x := nI 1) dX5_again_86 (by decide +kernel) ?_
                  refine n_iadd dX5_again_87 ?_
                  refine v_callVi (M' := M_X5_isIn) (As := [_, _]) iO40 (s_X5_isIn h1.1 hv hn hk (by omega)) dX5_again_88 gX5_again_X5_isIn rfl rfl nn_X5_isIn ⟨rfl, rfl⟩ ⟨by decide, by decide⟩ rfl rfl (Nat.le_of_ble_eq_true rfl) ?_
                  refine b_if_eq (tgt := 98) dX5_again_91 (by decide) (fun c91 => ?_) (fun c91 => ?_)
                  · refine v_iconst (x := nI 0) dX5_again_98 (by decide +kernel) ?_
                    have e : tw (odW (aW s)) k i (j + 1) = false := by rw [tw, c55, c91]; simp
                    rw [e] at ih
                    refine v_istore (L' := [(4, _), (0, _), (1, _), (2, _), (3, _), (5, _)]) dX5_again_99 (by decide) rfl ?_
                    refine n_iinc (n := 1) (L' := [(5, _), (4, _), (0, _), (1, _), (2, _), (3, _)]) dX5_again_101 rfl (by decide) rfl ?_
                    refine v_goto (tgt := 42) dX5_again_104 (by decide) ?_
                    refine v_sub [2, 3, 4, 5, 1, 0] rfl ?_
                    exact ih
                  · refine v_iconst (x := nI 1) dX5_again_94 (by decide +kernel) ?_
                    refine v_goto (tgt := 99) dX5_again_95 (by decide) ?_
                    have e : tw (odW (aW s)) k i (j + 1) = true := by rw [tw, c55, c79, c91, decide_eq_true c61, decide_eq_true (p := j + 1 ≠ i) c69]; rfl
                    rw [e] at ih
                    refine v_istore (L' := [(4, _), (0, _), (1, _), (2, _), (3, _), (5, _)]) dX5_again_99 (by decide) rfl ?_
                    refine n_iinc (n := 1) (L' := [(5, _), (4, _), (0, _), (1, _), (2, _), (3, _)]) dX5_again_101 rfl (by decide) rfl ?_
                    refine v_goto (tgt := 42) dX5_again_104 (by decide) ?_
                    refine v_sub [2, 3, 4, 5, 1, 0] rfl ?_
                    exact ih
        · refine v_iload dX5_again_42 rfl ?_
          refine v_aload_n dX5_again_44 rfl ?_
          refine v_get (j := 13) iO40 rfl dX5_again_45 (by decide) in_X5_again_X5 fl_X5_again_186 rfl ?_
          refine v_top (h1.1.m hv hn) ?_
          refine v_iconst (x := nI 1) dX5_again_48 (by decide +kernel) ?_
          refine n_isub dX5_again_49 (by omega) ?_
          refine n_icmp_ge (tgt := 107) dX5_again_50 (by decide) (by omega) (by omega) (fun c50 => ?_) (fun c50 => absurd c50 (by omega))
          refine v_iload_n dX5_again_107 rfl ?_
          refine v_iload dX5_again_108 rfl ?_
          refine b_if_eq (tgt := 158) dX5_again_110 (by decide) (fun c110 => ?_) (fun c110 => ?_)
          · refine v_iconst (x := nI 0) dX5_again_158 (by decide +kernel) ?_
            have e : sm (agG (aW s) k) (i + 1) = sm (agG (aW s) k) i + 0 := by rw [sm, agG, c110, Bool.false_and, Bool.false_and, Bool.false_and, if_neg (by decide)]
            rw [e, ← Nat.add_assoc] at ih1
            refine n_iadd dX5_again_159 ?_
            refine v_istore_n (L' := [(1, _), (0, _), (2, _), (3, _), (4, _), (5, _)]) dX5_again_160 rfl (by decide) rfl ?_
            refine n_iinc (n := 1) (L' := [(3, _), (1, _), (0, _), (2, _), (4, _), (5, _)]) dX5_again_161 rfl (by decide) rfl ?_
            refine v_goto (tgt := 28) dX5_again_164 (by decide) ?_
            refine v_sub [2, 1, 3, 0] rfl ?_
            exact ih1
          · refine v_aload_n dX5_again_113 rfl ?_
            refine v_iload_n dX5_again_114 rfl ?_
            refine v_iload_n dX5_again_115 rfl ?_
            refine v_callVi (M' := M_X5_isIn) (As := [_, _]) iO40 (s_X5_isIn h1.1 hv hn hk (by omega)) dX5_again_116 gX5_again_X5_isIn rfl rfl nn_X5_isIn ⟨rfl, rfl⟩ ⟨by decide, by decide⟩ rfl rfl (Nat.le_of_ble_eq_true rfl) ?_
            refine b_if_eq (tgt := 158) dX5_again_119 (by decide) (fun c119 => ?_) (fun c119 => ?_)
            · refine v_iconst (x := nI 0) dX5_again_158 (by decide +kernel) ?_
              have e : sm (agG (aW s) k) (i + 1) = sm (agG (aW s) k) i + 0 := by rw [sm, agG, c119, Bool.and_false, Bool.false_and, Bool.false_and, if_neg (by decide)]
              rw [e, ← Nat.add_assoc] at ih1
              refine n_iadd dX5_again_159 ?_
              refine v_istore_n (L' := [(1, _), (0, _), (2, _), (3, _), (4, _), (5, _)]) dX5_again_160 rfl (by decide) rfl ?_
              refine n_iinc (n := 1) (L' := [(3, _), (1, _), (0, _), (2, _), (4, _), (5, _)]) dX5_again_161 rfl (by decide) rfl ?_
              refine v_goto (tgt := 28) dX5_again_164 (by decide) ?_
              refine v_sub [2, 1, 3, 0] rfl ?_
              exact ih1
            · by_cases h0 : i = 0
              · have h00 := h0
                refine v_aload_n dX5_again_122 rfl ?_
                refine v_iload_n dX5_again_123 rfl ?_
                refine v_iload_n dX5_again_124 rfl ?_
                refine v_iconst (x := 1) dX5_again_125 rfl ?_
                refine v_isub dX5_again_126 ?_
                refine v_top (y := -1) (by rw [h0]; decide) ?_
                refine v_callVi (M' := M_X5_isIn) (As := [_, _]) iO40 (s_X5_isIn_m h1.1 hv hn) dX5_again_127 gX5_again_X5_isIn rfl rfl nn_X5_isIn ⟨rfl, rfl⟩ ⟨by decide, by decide⟩ rfl rfl (Nat.le_of_ble_eq_true rfl) ?_
                refine b_if_ne (tgt := 158) dX5_again_130 (by decide) (fun c130 => absurd c130 (by decide)) (fun c130 => ?_)
                refine v_aload_n dX5_again_133 rfl ?_
                refine v_iload_n dX5_again_134 rfl ?_
                refine v_iload_n dX5_again_135 rfl ?_
                refine v_iconst (x := nI 1) dX5_again_136 (by decide +kernel) ?_
                refine n_iadd dX5_again_137 ?_
                refine v_callVi (M' := M_X5_isIn) (As := [_, _]) iO40 (s_X5_isIn h1.1 hv hn hk (by omega)) dX5_again_138 gX5_again_X5_isIn rfl rfl nn_X5_isIn ⟨rfl, rfl⟩ ⟨by decide, by decide⟩ rfl rfl (Nat.le_of_ble_eq_true rfl) ?_
                refine b_if_ne (tgt := 158) dX5_again_141 (by decide) (fun c141 => ?_) (fun c141 => ?_)
                · refine v_iconst (x := nI 0) dX5_again_158 (by decide +kernel) ?_
                  have e : sm (agG (aW s) k) (i + 1) = sm (agG (aW s) k) i + 0 := by rw [sm, agG, c141, Bool.not_true, Bool.and_false, if_neg (by decide)]
                  rw [e, ← Nat.add_assoc] at ih1
                  refine n_iadd dX5_again_159 ?_
                  refine v_istore_n (L' := [(1, _), (0, _), (2, _), (3, _), (4, _), (5, _)]) dX5_again_160 rfl (by decide) rfl ?_
                  refine n_iinc (n := 1) (L' := [(3, _), (1, _), (0, _), (2, _), (4, _), (5, _)]) dX5_again_161 rfl (by decide) rfl ?_
                  refine v_goto (tgt := 28) dX5_again_164 (by decide) ?_
                  refine v_sub [2, 1, 3, 0] rfl ?_
                  exact ih1
                · refine v_aload_n dX5_again_144 rfl ?_
                  refine v_aload_n dX5_again_145 rfl ?_
                  refine v_get (j := 20) iO40 rfl dX5_again_146 (by decide) in_X5_again_X5 fl_X5_again_56 rfl ?_
                  refine v_iload_n dX5_again_149 rfl ?_
                  refine v_ialdN i iI56 dX5_again_150 rfl (by omega) (by decide) ?_
                  refine v_top (h1.1.r hv hn hi) ?_
                  refine v_iload_n dX5_again_151 rfl ?_
                  refine v_callVi (M' := M_X5_inPart) (As := [_, _]) iO40 (s_X5_inPart (h1.2.mh hr.2.1) hv (fr_el ho hi) (l := k) (kd_nI hk hv) (by omega)) dX5_again_152 gX5_again_X5_inPart rfl rfl nn_X5_inPart ⟨rfl, rfl⟩ ⟨by decide, by decide⟩ rfl rfl (Nat.le_of_ble_eq_true rfl) ?_
                  refine v_goto (tgt := 159) dX5_again_155 (by decide) ?_
                  have e : sm (agG (aW s) k) (i + 1) = sm (agG (aW s) k) i + smp (aW s) (ofL (fr (odW (aW s)) 0) i) k := by rw [sm, agG, c110, c119, c141, (show inQ (odW (aW s)) k i = false by rw [inQ]; first | rw [if_pos h0] | (rw [if_neg h0]; exact c130))]; rfl
                  rw [e, ← Nat.add_assoc] at ih1
                  refine n_iadd dX5_again_159 ?_
                  refine v_istore_n (L' := [(1, _), (0, _), (2, _), (3, _), (4, _), (5, _)]) dX5_again_160 rfl (by decide) rfl ?_
                  refine n_iinc (n := 1) (L' := [(3, _), (1, _), (0, _), (2, _), (4, _), (5, _)]) dX5_again_161 rfl (by decide) rfl ?_
                  refine v_goto (tgt := 28) dX5_again_164 (by decide) ?_
                  refine v_sub [2, 1, 3, 0] rfl ?_
                  exact ih1
              · refine v_aload_n dX5_again_122 rfl ?_
                refine v_iload_n dX5_again_123 rfl ?_
                refine v_iload_n dX5_again_124 rfl ?_
                refine v_iconst (x := nI 1) dX5_again_125 (by decide +kernel) ?_
                refine n_isub dX5_again_126 (by omega) ?_
                refine v_callVi (M' := M_X5_isIn) (As := [_, _]) iO40 (s_X5_isIn h1.1 hv hn hk (by omega)) dX5_again_127 gX5_again_X5_isIn rfl rfl nn_X5_isIn ⟨rfl, rfl⟩ ⟨by decide, by decide⟩ rfl rfl (Nat.le_of_ble_eq_true rfl) ?_
                refine b_if_ne (tgt := 158) dX5_again_130 (by decide) (fun c130 => ?_) (fun c130 => ?_)
                · refine v_iconst (x := nI 0) dX5_again_158 (by decide +kernel) ?_
                  have e : sm (agG (aW s) k) (i + 1) = sm (agG (aW s) k) i + 0 := by rw [sm, agG, show inQ (odW (aW s)) k i = true by rw [inQ, if_neg h0]; exact c130, Bool.not_true, Bool.and_false, Bool.false_and, if_neg (by decide)]
                  rw [e, ← Nat.add_assoc] at ih1
                  refine n_iadd dX5_again_159 ?_
                  refine v_istore_n (L' := [(1, _), (0, _), (2, _), (3, _), (4, _), (5, _)]) dX5_again_160 rfl (by decide) rfl ?_
                  refine n_iinc (n := 1) (L' := [(3, _), (1, _), (0, _), (2, _), (4, _), (5, _)]) dX5_again_161 rfl (by decide) rfl ?_
                  refine v_goto (tgt := 28) dX5_again_164 (by decide) ?_
                  refine v_sub [2, 1, 3, 0] rfl ?_
                  exact ih1
                · refine v_aload_n dX5_again_133 rfl ?_
                  refine v_iload_n dX5_again_134 rfl ?_
                  refine v_iload_n dX5_again_135 rfl ?_
                  refine v_iconst (x := nI 1) dX5_again_136 (by decide +kernel) ?_
                  refine n_iadd dX5_again_137 ?_
                  refine v_callVi (M' := M_X5_isIn) (As := [_, _]) iO40 (s_X5_isIn h1.1 hv hn hk (by omega)) dX5_again_138 gX5_again_X5_isIn rfl rfl nn_X5_isIn ⟨rfl, rfl⟩ ⟨by decide, by decide⟩ rfl rfl (Nat.le_of_ble_eq_true rfl) ?_
                  refine b_if_ne (tgt := 158) dX5_again_141 (by decide) (fun c141 => ?_) (fun c141 => ?_)
                  · refine v_iconst (x := nI 0) dX5_again_158 (by decide +kernel) ?_
                    have e : sm (agG (aW s) k) (i + 1) = sm (agG (aW s) k) i + 0 := by rw [sm, agG, c141, Bool.not_true, Bool.and_false, if_neg (by decide)]
                    rw [e, ← Nat.add_assoc] at ih1
                    refine n_iadd dX5_again_159 ?_
                    refine v_istore_n (L' := [(1, _), (0, _), (2, _), (3, _), (4, _), (5, _)]) dX5_again_160 rfl (by decide) rfl ?_
                    refine n_iinc (n := 1) (L' := [(3, _), (1, _), (0, _), (2, _), (4, _), (5, _)]) dX5_again_161 rfl (by decide) rfl ?_
                    refine v_goto (tgt := 28) dX5_again_164 (by decide) ?_
                    refine v_sub [2, 1, 3, 0] rfl ?_
                    exact ih1
                  · refine v_aload_n dX5_again_144 rfl ?_
                    refine v_aload_n dX5_again_145 rfl ?_
                    refine v_get (j := 20) iO40 rfl dX5_again_146 (by decide) in_X5_again_X5 fl_X5_again_56 rfl ?_
                    refine v_iload_n dX5_again_149 rfl ?_
                    refine v_ialdN i iI56 dX5_again_150 rfl (by omega) (by decide) ?_
                    refine v_top (h1.1.r hv hn hi) ?_
                    refine v_iload_n dX5_again_151 rfl ?_
                    refine v_callVi (M' := M_X5_inPart) (As := [_, _]) iO40 (s_X5_inPart (h1.2.mh hr.2.1) hv (fr_el ho hi) (l := k) (kd_nI hk hv) (by omega)) dX5_again_152 gX5_again_X5_inPart rfl rfl nn_X5_inPart ⟨rfl, rfl⟩ ⟨by decide, by decide⟩ rfl rfl (Nat.le_of_ble_eq_true rfl) ?_
                    refine v_goto (tgt := 159) dX5_again_155 (by decide) ?_
                    have e : sm (agG (aW s) k) (i + 1) = sm (agG (aW s) k) i + smp (aW s) (ofL (fr (odW (aW s)) 0) i) k := by rw [sm, agG, c110, c119, c141, (show inQ (odW (aW s)) k i = false by rw [inQ]; first | rw [if_pos h0] | (rw [if_neg h0]; exact c130))]; rfl
                    rw [e, ← Nat.add_assoc] at ih1
                    refine n_iadd dX5_again_159 ?_
                    refine v_istore_n (L' := [(1, _), (0, _), (2, _), (3, _), (4, _), (5, _)]) dX5_again_160 rfl (by decide) rfl ?_
                    refine n_iinc (n := 1) (L' := [(3, _), (1, _), (0, _), (2, _), (4, _), (5, _)]) dX5_again_161 rfl (by decide) rfl ?_
                    refine v_goto (tgt := 28) dX5_again_164 (by decide) ?_
                    refine v_sub [2, 1, 3, 0] rfl ?_
                    exact ih1
      · refine v_iload_n dX5_again_28 rfl ?_
        refine v_aload_n dX5_again_29 rfl ?_
        refine v_get (j := 13) iO40 rfl dX5_again_30 (by decide) in_X5_again_X5 fl_X5_again_186 rfl ?_
        refine v_top (h1.1.m hv hn) ?_
        refine n_icmp_ge (tgt := 167) dX5_again_33 (by decide) (by omega) (by omega) (fun c33 => ?_) (fun c33 => absurd c33 (by omega))
        refine n_iinc (n := 1) (L' := [(2, _), (0, _), (1, _), (3, _)]) dX5_again_167 rfl (by decide) rfl ?_
        refine v_goto (tgt := 18) dX5_again_170 (by decide) ?_
        refine v_sub [1, 2, 0] rfl ?_
        exact ih0
    · have hS := ho.2.2.1
      refine v_iload_n dX5_again_18 rfl ?_
      refine v_aload_n dX5_again_19 rfl ?_
      refine v_get (j := 15) iO40 rfl dX5_again_20 (by decide) in_X5_again_X5 fl_X5_again_189 rfl ?_
      refine v_top h1.1.1.2.1 ?_
      refine n_icmp_ge (tgt := 173) dX5_again_23 (by decide) (by omega) (by omega) (fun c23 => ?_) (fun c23 => absurd c23 (by omega))
      refine v_iload_n dX5_again_173 rfl ?_
      exact v_iret rfl dX5_again_174 ⟨congrArg (fun z => some (Value.int z)) (by rw [q_again, if_pos (by omega), ← ag_eq hv]; rfl), h1.2.rm hr, h1.2.fm⟩
  · refine v_bipush (x := (-4)) dX5_again_11 (by decide +kernel) ?_
    exact v_iret rfl dX5_again_13 ⟨congrArg (fun z => some (Value.int z)) (by rw [q_again, if_neg (by omega)]), h1.2.rm hr, h1.2.fm⟩
