theorem in_X5_seamOf_X5 : ∀ w ∈ u_ws RX5 TX5 29, w ∈ mWs M_X5_seamOf := by decide +kernel
theorem in_X5_upTo_X5 : ∀ w ∈ u_ws RX5 TX5 29, w ∈ mWs M_X5_upTo := by decide +kernel
theorem fl_X5_seamOf_44 : Cond.fieldLink (mOwn M_X5_seamOf) 44 (TX5 16).1 (TX5 16).2.1 (TX5 16).2.2.1 ∈ mWs M_X5_seamOf := by decide +kernel
theorem fl_X5_seamOf_47 : Cond.fieldLink (mOwn M_X5_seamOf) 47 (TX5 17).1 (TX5 17).2.1 (TX5 17).2.2.1 ∈ mWs M_X5_seamOf := by decide +kernel
theorem fl_X5_seamOf_56 : Cond.fieldLink (mOwn M_X5_seamOf) 56 (TX5 20).1 (TX5 20).2.1 (TX5 20).2.2.1 ∈ mWs M_X5_seamOf := by decide +kernel
theorem fl_X5_seamOf_189 : Cond.fieldLink (mOwn M_X5_seamOf) 189 (TX5 15).1 (TX5 15).2.1 (TX5 15).2.2.1 ∈ mWs M_X5_seamOf := by decide +kernel
theorem fl_X5_upTo_56 : Cond.fieldLink (mOwn M_X5_upTo) 56 (TX5 20).1 (TX5 20).2.1 (TX5 20).2.2.1 ∈ mWs M_X5_upTo := by decide +kernel
theorem nn_X5_upTo : (mY M_X5_upTo).cls = mOwn M_X5_upTo ∧ (mY M_X5_upTo).cls ≠ "java/lang/invoke/MethodHandle" ∧ (mY M_X5_upTo).cls ≠ "java/lang/invoke/VarHandle" ∧ (parseMethodDescriptor (mY M_X5_upTo).desc).map (fun d => d.parameters.length) = some 1 := by decide +kernel
section JX
variable {v : EE} {M : MT} {Z : ZT} {pc : Nat} {L : List (Nat × Value)} {st : List Value} {σ : SS}
theorem j_eq {x : Nat} {b : Bool} {off off2 : Int} {t e : Nat} (hd : decode (mCode M) pc = .ok (.ifCond .eq off, 3)) (ht : (pc : Int) + off = (t : Int)) (d1 : decode (mCode M) (pc + 3) = .ok (.iconst 1, 1)) (d2 : decode (mCode M) (pc + 3 + 1) = .ok (.goto off2, 3)) (d3 : decode (mCode M) t = .ok (.iconst 0, 1)) (h2 : ((pc + 3 + 1 : Nat) : Int) + off2 = (e : Int)) (h3 : t + 1 = e) (hx : x < 2 ^ 31) (hb : decide (x ≠ 0) = b) (k : V v M Z e L (.int (bI b) :: st) σ) : V v M Z pc L (.int (nI x) :: st) σ := by
  subst hb
  refine n_if_eq hd ht hx (fun c => ?_) (fun c => ?_)
  · refine v_iconst (x := 0) d3 rfl ?_
    rw [h3]
    rw [show decide (x ≠ 0) = false by simp [c]] at k
    exact k
  · refine v_iconst (x := 1) d1 rfl ?_
    refine v_goto (tgt := e) d2 h2 ?_
    rw [show decide (x ≠ 0) = true by simp [c]] at k
    exact k
theorem j_icmp_ne {x y : Nat} {b : Bool} {off off2 : Int} {t e : Nat} (hd : decode (mCode M) pc = .ok (.if_icmp .ne off, 3)) (ht : (pc : Int) + off = (t : Int)) (d1 : decode (mCode M) (pc + 3) = .ok (.iconst 1, 1)) (d2 : decode (mCode M) (pc + 3 + 1) = .ok (.goto off2, 3)) (d3 : decode (mCode M) t = .ok (.iconst 0, 1)) (h2 : ((pc + 3 + 1 : Nat) : Int) + off2 = (e : Int)) (h3 : t + 1 = e) (hx : x < 2 ^ 31 ∧ y < 2 ^ 31) (hb : decide (x = y) = b) (k : V v M Z e L (.int (bI b) :: st) σ) : V v M Z pc L (.int (nI y) :: .int (nI x) :: st) σ := by
  subst hb
  refine n_icmp_ne hd ht hx.1 hx.2 (fun c => ?_) (fun c => ?_)
  · refine v_iconst (x := 0) d3 rfl ?_
    rw [h3]
    rw [show decide (x = y) = false by simp [c]] at k
    exact k
  · refine v_iconst (x := 1) d1 rfl ?_
    refine v_goto (tgt := e) d2 h2 ?_
    rw [show decide (x = y) = true by simp [c]] at k
    exact k
end JX
variable {v : EE} {M : MT} {Z : ZT} {L : List (Nat × Value)} {st : List Value} {σ : SS}
def sIs (o : OD) (l : List Nat) (i what k : Nat) : Bool := if what = 0 then decide (oW o k &&& mkA l (i + 1) ≠ 0) && decide (dif (oW o k) (mkA l (i + 1)) ≠ 0) else if what = 1 then (oW o k).testBit (ofL l i) && !decide (dif (oW o k) (mkA l (i + 1)) ≠ 0) else (oW o k).testBit (ofL l (i + 1)) && !decide (oW o k &&& mkA l (i + 1) ≠ 0)
def sIv (o : OD) (l : List Nat) (i what b k : Nat) : Nat := if sIs o l i what k then (if b = 1 then oT o k else 1) else 0
theorem sIs_0 {o : OD} {l : List Nat} {i k : Nat} : sIs o l i 0 k = (decide (oW o k &&& mkA l (i + 1) ≠ 0) && decide (dif (oW o k) (mkA l (i + 1)) ≠ 0)) := rfl
theorem sIs_1 {o : OD} {l : List Nat} {i k : Nat} : sIs o l i 1 k = ((oW o k).testBit (ofL l i) && !decide (dif (oW o k) (mkA l (i + 1)) ≠ 0)) := rfl
theorem sIs_2 {o : OD} {l : List Nat} {i k : Nat} : sIs o l i 2 k = ((oW o k).testBit (ofL l (i + 1)) && !decide (oW o k &&& mkA l (i + 1) ≠ 0)) := rfl
theorem sgU_tb {o : OD} {i k : Nat} (hk : k < oS o) (hi : i < (fr o 0).length) : (sgU o i).testBit k = decide (oW o k &&& mkA (fr o 0) (i + 1) ≠ 0) := by
  apply Bool.eq_iff_iff.mpr
  rw [sgU, om_bit, decide_eq_true_eq, and_nz]
  constructor
  · rintro ⟨j, h1, h2⟩
    rw [sgN, if_pos (by omega), tb_sgo, Bool.and_eq_true] at h2
    exact ⟨_, h2.2, mkA_bit.mpr ⟨j, h1, rfl⟩⟩
  · rintro ⟨x, h1, h2⟩
    obtain ⟨j, h3, rfl⟩ := mkA_bit.mp h2
    exact ⟨j, h3, by rw [sgN, if_pos (by omega), tb_sgo, h1]; simp [hk]⟩
theorem sgN_tb {o : OD} {i k : Nat} (hk : k < oS o) (hi : i < (fr o 0).length) : (sgN o i).testBit k = (oW o k).testBit (ofL (fr o 0) i) := by
  rw [sgN, if_pos hi, tb_sgo]; simp [hk]
theorem sgB_tb {o : OD} (ho : OV o) (hn : TL o 0 ≠ []) (hWP : ∀ k, k < oS o → ∀ x, (oW o k).testBit x = true → (oP o).testBit x = true) {i k : Nat} (hk : k < oS o) (hi : i < (fr o 0).length) : (sgB o i).testBit k = decide (dif (oW o k) (mkA (fr o 0) (i + 1)) ≠ 0) := by
  have hg := TL_good ho (fr_mem hn)
  have hl := fr_len ho
  apply Bool.eq_iff_iff.mpr
  rw [sgB, om_bit, decide_eq_true_eq, tb_nz]
  constructor
  · rintro ⟨j, h1, h2⟩
    rw [sgN] at h2
    by_cases c : i + 1 + j < (fr o 0).length
    · rw [if_pos c, tb_sgo, Bool.and_eq_true] at h2
      refine ⟨ofL (fr o 0) (i + 1 + j), ?_⟩
      rw [tb_dif, h2.2]
      have : (mkA (fr o 0) (i + 1)).testBit (ofL (fr o 0) (i + 1 + j)) = false := by
        cases e : (mkA (fr o 0) (i + 1)).testBit (ofL (fr o 0) (i + 1 + j)) with
        | false => rfl
        | true =>
          obtain ⟨a, h3, h4⟩ := mkA_bit.mp e
          have := ofL_inj (hg.nd ho) (show a < (fr o 0).length by omega) c h4
          omega
      rw [this]; rfl
    · rw [if_neg c] at h2; exact (tb0 _ h2).elim
  · rintro ⟨x, h⟩
    rw [tb_dif, Bool.and_eq_true, Bool.not_eq_true'] at h
    obtain ⟨j, hj, e⟩ := mem_ofL ((hg.mem ho x).mpr (hWP k hk x h.1))
    have hji : ¬ j < i + 1 := fun q => by
      rw [mkA_bit.mpr ⟨j, q, e⟩] at h; cases h.2
    refine ⟨j - (i + 1), by omega, ?_⟩
    rw [show i + 1 + (j - (i + 1)) = j by omega, sgN, if_pos hj, tb_sgo, e, h.1]; simp [hk]
theorem om_hi {f : Nat → Nat} {n k : Nat} (h : ∀ i, (f i).testBit k = false) : (om f n).testBit k = false := by
  cases e : (om f n).testBit k with
  | false => rfl
  | true =>
    obtain ⟨i, _, h2⟩ := om_bit.mp e
    rw [h i] at h2; cases h2
theorem sgN_hi {o : OD} {i k : Nat} (hk : oS o ≤ k) : (sgN o i).testBit k = false := by
  rw [sgN]; split
  · rw [tb_sgo]; simp; omega
  · exact Nat.zero_testBit _
theorem psh_sub (w : WD) (k x : Nat) (h : (psh w k).testBit x = true) : (pbits w).testBit x = true := by
  obtain ⟨c, h1, h2⟩ := om_bit.mp h
  refine om_bit.mpr ⟨c, h1, ?_⟩
  by_cases q : 0 < wH w (c * 18 + k)
  · rw [if_pos q] at h2; exact h2
  · rw [if_neg q] at h2; exact (tb0 _ h2).elim
theorem wWP (w : WD) : ∀ k, k < oS (odW w) → ∀ x, (oW (odW w) k).testBit x = true → (oP (odW w)).testBit x = true := fun k _ x h => psh_sub w k x h
def sgV (o : OD) (i what : Nat) : Nat := if what = 0 then sgU o i &&& sgB o i else if what = 1 then dif (sgN o i) (sgB o i) else dif (sgN o (i + 1)) (sgU o i)
theorem sgV_tb {o : OD} (ho : OV o) (hn : TL o 0 ≠ []) (hWP : ∀ k, k < oS o → ∀ x, (oW o k).testBit x = true → (oP o).testBit x = true) {i what k : Nat} (hk : k < oS o) (hi : i + 1 < (fr o 0).length) : (sgV o i what).testBit k = sIs o (fr o 0) i what k := by
  rw [sgV, sIs]
  by_cases c : what = 0
  · rw [if_pos c, if_pos c, Nat.testBit_and, sgU_tb hk (by omega), sgB_tb ho hn hWP hk (by omega)]
  · rw [if_neg c, if_neg c]
    by_cases d : what = 1
    · rw [if_pos d, if_pos d, tb_dif, sgN_tb hk (by omega), sgB_tb ho hn hWP hk (by omega)]
    · rw [if_neg d, if_neg d, tb_dif, sgN_tb hk (by omega), sgU_tb hk (by omega)]
theorem sgV_hi {o : OD} {i what k : Nat} (hk : oS o ≤ k) : (sgV o i what).testBit k = false := by
  rw [sgV]
  split
  · rw [Nat.testBit_and, sgU, om_hi (fun j => sgN_hi hk)]; rfl
  · split
    · rw [tb_dif, sgN_hi hk]; rfl
    · rw [tb_dif, sgN_hi hk]; rfl
theorem sgV_pc {o : OD} (ho : OV o) (hn : TL o 0 ≠ []) (hWP : ∀ k, k < oS o → ∀ x, (oW o k).testBit x = true → (oP o).testBit x = true) {i what : Nat} (hi : i + 1 < (fr o 0).length) : sm (sIv o (fr o 0) i what 0) (oS o) = pc (sgV o i what) := by
  rw [pc_16 ho.2.2.1 (fun k hk => sgV_hi hk)]
  refine sm_cong (fun k hk => ?_)
  rw [bit01, sgV_tb ho hn hWP hk hi, sIv, if_neg (show ¬ (0 : Nat) = 1 by decide)]
theorem sgV_sk {o : OD} (ho : OV o) (hn : TL o 0 ≠ []) (hWP : ∀ k, k < oS o → ∀ x, (oW o k).testBit x = true → (oP o).testBit x = true) {i : Nat} (hi : i + 1 < (fr o 0).length) : sm (sIv o (fr o 0) i 0 1) (oS o) = skO o (sgU o i &&& sgB o i) := by
  rw [skO_eq ho]
  refine sm_cong (fun k hk => ?_)
  have := sgV_tb ho hn hWP (what := 0) hk hi
  rw [sgV, if_pos rfl] at this
  rw [this, sIv, if_pos rfl]
set_option maxRecDepth 100000 in
set_option maxHeartbeats 4000000 in
theorem s_X5_upTo {v : EE} {w : WD} {z : Nat} {σ : SS} (hs : SK w σ) (hv : WV z w) (hn : TL (odW w) 0 ≠ []) {i : Nat} (hi : i < (fr (odW w) 0).length) : S1 v M_X5_upTo [.ref (v.1 40), .int (nI i)] σ (some (.int (nI (mkA (fr (odW w) 0) (i + 1))))) (σ) := by
  refine Sp.of rfl (by decide) rfl (Nat.le_of_ble_eq_true rfl) ?_
  show V v M_X5_upTo _ 0 [(0, .ref (v.1 40)), (1, .int (nI i))] [] σ
  have hl := fr_len (ov_W hv)
  refine v_iconst (x := nI 0) dX5_upTo_0 (by decide +kernel) ?_
  refine v_istore_n (L' := [(2, _), (0, _), (1, _)]) dX5_upTo_1 rfl (by decide) rfl ?_
  refine v_iconst (x := nI 0) dX5_upTo_2 (by decide +kernel) ?_
  refine v_istore_n (L' := [(3, _), (2, _), (0, _), (1, _)]) dX5_upTo_3 rfl (by decide) rfl ?_
  refine v_sub [2, 3, 1, 0] rfl ?_
  refine loopN (fun k => V v M_X5_upTo (zR v M_X5_upTo (fun r' σ' => r' = (some (.int (nI (mkA (fr (odW w) 0) (i + 1))))) ∧ σ' = (σ))) 4 [(0, .ref (v.1 40)), (1, .int (nI i)), (2, .int (nI (mkA (fr (odW w) 0) k))), (3, .int (nI k))] [] (σ)) (i + 1) ?_ ?_
  · intro k hi ih
    refine v_iload_n dX5_upTo_4 rfl ?_
    refine v_iload_n dX5_upTo_5 rfl ?_
    refine n_icmp_gt (tgt := 26) dX5_upTo_6 (by decide) (by omega) (by omega) (fun c6 => absurd c6 (by omega)) (fun c6 => ?_)
    refine v_iload_n dX5_upTo_9 rfl ?_
    refine v_iconst (x := nI 1) dX5_upTo_10 (by decide +kernel) ?_
    refine v_aload_n dX5_upTo_11 rfl ?_
    refine v_get (j := 20) iO40 rfl dX5_upTo_12 (by decide) in_X5_upTo_X5 fl_X5_upTo_56 rfl ?_
    refine v_iload_n dX5_upTo_15 rfl ?_
    refine v_ialdN k iI56 dX5_upTo_16 rfl (by omega) (by decide) ?_
    refine v_top (hs.r hv hn (by omega)) ?_
    refine n_shl1 dX5_upTo_17 (by have := fr_el (ov_W hv) (k := k) (by omega); omega) ?_
    refine n_ior dX5_upTo_18 ?_
    refine v_istore_n (L' := [(2, _), (0, _), (1, _), (3, _)]) dX5_upTo_19 rfl (by decide) rfl ?_
    refine n_iinc (n := 1) (L' := [(3, _), (2, _), (0, _), (1, _)]) dX5_upTo_20 rfl (by decide) rfl ?_
    refine v_goto (tgt := 4) dX5_upTo_23 (by decide) ?_
    refine v_sub [2, 3, 1, 0] rfl ?_
    exact ih
  · refine v_iload_n dX5_upTo_4 rfl ?_
    refine v_iload_n dX5_upTo_5 rfl ?_
    refine n_icmp_gt (tgt := 26) dX5_upTo_6 (by decide) (by omega) (by omega) (fun c6 => ?_) (fun c6 => absurd c6 (by omega))
    refine v_iload_n dX5_upTo_26 rfl ?_
    exact v_iret rfl dX5_upTo_27 ⟨rfl, rfl⟩
set_option maxRecDepth 100000 in
set_option maxHeartbeats 4000000 in
theorem s_X5_seamOf_00 {v : EE} {w : WD} {z : Nat} {σ : SS} (hs : SK w σ) (hv : WV z w) (hn : TL (odW w) 0 ≠ []) {i : Nat} (hi0 : i + 1 < (fr (odW w) 0).length) : S1 v M_X5_seamOf [.ref (v.1 40), .int (nI i), .int 0, .int 0] σ (some (.int (nI (sm (sIv (odW w) (fr (odW w) 0) i 0 0) (oS (odW w)))))) (σ) := by
  refine Sp.of rfl (by decide) rfl (Nat.le_of_ble_eq_true rfl) ?_
  show V v M_X5_seamOf _ 0 [(0, .ref (v.1 40)), (1, .int (nI i)), (2, .int 0), (3, .int 0)] [] σ
  have hl := fr_len (ov_W hv)
  refine v_aload_n dX5_seamOf_0 rfl ?_
  refine v_iload_n dX5_seamOf_1 rfl ?_
  refine v_callVi (M' := M_X5_upTo) (As := [_]) iO40 (s_X5_upTo hs hv hn (by omega)) dX5_seamOf_2 gX5_seamOf_X5_upTo rfl rfl nn_X5_upTo ⟨rfl, rfl⟩ ⟨by decide, by decide⟩ rfl rfl (Nat.le_of_ble_eq_true rfl) ?_
  refine v_istore (L' := [(4, _), (0, _), (1, _), (2, _), (3, _)]) dX5_seamOf_5 (by decide) rfl ?_
  refine v_iconst (x := nI 0) dX5_seamOf_7 (by decide +kernel) ?_
  refine v_istore (L' := [(5, _), (4, _), (0, _), (1, _), (2, _), (3, _)]) dX5_seamOf_8 (by decide) rfl ?_
  refine v_iconst (x := nI 0) dX5_seamOf_10 (by decide +kernel) ?_
  refine v_istore (L' := [(6, _), (5, _), (4, _), (0, _), (1, _), (2, _), (3, _)]) dX5_seamOf_11 (by decide) rfl ?_
  refine v_sub [3, 4, 5, 6, 2, 1, 0] rfl ?_
  refine loopN (fun k => V v M_X5_seamOf (zR v M_X5_seamOf (fun r' σ' => r' = (some (.int (nI (sm (sIv (odW w) (fr (odW w) 0) i 0 0) (oS (odW w)))))) ∧ σ' = (σ))) 13 [(0, .ref (v.1 40)), (1, .int (nI i)), (2, .int 0), (3, .int 0), (4, .int (nI (mkA (fr (odW w) 0) (i + 1)))), (5, .int (nI (sm (sIv (odW w) (fr (odW w) 0) i 0 0) k))), (6, .int (nI k))] [] (σ)) (oS (odW w)) ?_ ?_
  · intro k hi ih
    have hi2 := hi
    have hS := (ov_W hv).2.2.1
    have hW6 := ((ov_W hv).2.2.2 k hi).1
    have hx1 := fr_el (ov_W hv) (k := i) (by omega)
    have hx2 := fr_el (ov_W hv) (k := i + 1) (by omega)
    refine v_iload dX5_seamOf_13 rfl ?_
    refine v_aload_n dX5_seamOf_15 rfl ?_
    refine v_get (j := 15) iO40 rfl dX5_seamOf_16 (by decide) in_X5_seamOf_X5 fl_X5_seamOf_189 rfl ?_
    refine v_top hs.1.2.1 ?_
    refine n_icmp_ge (tgt := 217) dX5_seamOf_19 (by decide) (by omega) (by omega) (fun c19 => absurd c19 (by omega)) (fun c19 => ?_)
    refine v_aload_n dX5_seamOf_22 rfl ?_
    refine v_get (j := 16) iO40 rfl dX5_seamOf_23 (by decide) in_X5_seamOf_X5 fl_X5_seamOf_44 rfl ?_
    refine v_iload dX5_seamOf_26 rfl ?_
    refine v_ialdN k iI52 dX5_seamOf_28 rfl (by omega) (by decide) ?_
    refine v_top (hs.1.2.2.1 _ hi2).1 ?_
    refine v_iload dX5_seamOf_29 rfl ?_
    refine n_iand dX5_seamOf_31 ?_
    refine j_eq (b := (decide ((oW (odW w) k) &&& (mkA (fr (odW w) 0) (i + 1)) ≠ 0))) (t := 39) (e := 40) dX5_seamOf_32 (by decide) dX5_seamOf_35 dX5_seamOf_36 dX5_seamOf_39 (by decide) (by decide) (Nat.lt_of_le_of_lt Nat.and_le_left (by omega)) rfl ?_
    refine v_istore (L' := [(7, _), (0, _), (1, _), (2, _), (3, _), (4, _), (5, _), (6, _)]) dX5_seamOf_40 (by decide) rfl ?_
    refine v_aload_n dX5_seamOf_42 rfl ?_
    refine v_get (j := 16) iO40 rfl dX5_seamOf_43 (by decide) in_X5_seamOf_X5 fl_X5_seamOf_44 rfl ?_
    refine v_iload dX5_seamOf_46 rfl ?_
    refine v_ialdN k iI52 dX5_seamOf_48 rfl (by omega) (by decide) ?_
    refine v_top (hs.1.2.2.1 _ hi2).1 ?_
    refine v_iload dX5_seamOf_49 rfl ?_
    refine v_iconst (x := (-1)) dX5_seamOf_51 rfl ?_
    refine v_ixor dX5_seamOf_52 ?_
    refine n_dif dX5_seamOf_53 ?_
    refine j_eq (b := (decide (dif (oW (odW w) k) (mkA (fr (odW w) 0) (i + 1)) ≠ 0))) (t := 61) (e := 62) dX5_seamOf_54 (by decide) dX5_seamOf_57 dX5_seamOf_58 dX5_seamOf_61 (by decide) (by decide) (Nat.lt_of_le_of_lt (dif_le _ _) (by omega)) rfl ?_
    refine v_istore (L' := [(8, _), (7, _), (0, _), (1, _), (2, _), (3, _), (4, _), (5, _), (6, _)]) dX5_seamOf_62 (by decide) rfl ?_
    refine v_aload_n dX5_seamOf_64 rfl ?_
    refine v_get (j := 16) iO40 rfl dX5_seamOf_65 (by decide) in_X5_seamOf_X5 fl_X5_seamOf_44 rfl ?_
    refine v_iload dX5_seamOf_68 rfl ?_
    refine v_ialdN k iI52 dX5_seamOf_70 rfl (by omega) (by decide) ?_
    refine v_top (hs.1.2.2.1 _ hi2).1 ?_
    refine v_aload_n dX5_seamOf_71 rfl ?_
    refine v_get (j := 20) iO40 rfl dX5_seamOf_72 (by decide) in_X5_seamOf_X5 fl_X5_seamOf_56 rfl ?_
    refine v_iload_n dX5_seamOf_75 rfl ?_
    refine v_ialdN i iI56 dX5_seamOf_76 rfl (by omega) (by decide) ?_
    refine v_top (hs.r hv hn (by omega)) ?_
    refine n_ishr dX5_seamOf_77 (by omega) (by omega) ?_
    refine v_iconst (x := nI 1) dX5_seamOf_78 (by decide +kernel) ?_
    refine n_and1 dX5_seamOf_79 ?_
    refine v_iconst (x := nI 1) dX5_seamOf_80 (by decide +kernel) ?_
    refine j_icmp_ne (b := ((oW (odW w) k).testBit (ofL (fr (odW w) 0) i))) (t := 88) (e := 89) dX5_seamOf_81 (by decide) dX5_seamOf_84 dX5_seamOf_85 dX5_seamOf_88 (by decide) (by decide) ⟨by omega, by decide⟩ (tb_div _ _).symm ?_
    refine v_istore (L' := [(9, _), (8, _), (7, _), (0, _), (1, _), (2, _), (3, _), (4, _), (5, _), (6, _)]) dX5_seamOf_89 (by decide) rfl ?_
    refine v_aload_n dX5_seamOf_91 rfl ?_
    refine v_get (j := 16) iO40 rfl dX5_seamOf_92 (by decide) in_X5_seamOf_X5 fl_X5_seamOf_44 rfl ?_
    refine v_iload dX5_seamOf_95 rfl ?_
    refine v_ialdN k iI52 dX5_seamOf_97 rfl (by omega) (by decide) ?_
    refine v_top (hs.1.2.2.1 _ hi2).1 ?_
    refine v_aload_n dX5_seamOf_98 rfl ?_
    refine v_get (j := 20) iO40 rfl dX5_seamOf_99 (by decide) in_X5_seamOf_X5 fl_X5_seamOf_56 rfl ?_
    refine v_iload_n dX5_seamOf_102 rfl ?_
    refine v_iconst (x := nI 1) dX5_seamOf_103 (by decide +kernel) ?_
    refine n_iadd dX5_seamOf_104 ?_
    refine v_ialdN (i + 1) iI56 dX5_seamOf_105 rfl (by omega) (by decide) ?_
    refine v_top (hs.r hv hn (by omega)) ?_
    refine n_ishr dX5_seamOf_106 (by omega) (by omega) ?_
    refine v_iconst (x := nI 1) dX5_seamOf_107 (by decide +kernel) ?_
    refine n_and1 dX5_seamOf_108 ?_
    refine v_iconst (x := nI 1) dX5_seamOf_109 (by decide +kernel) ?_
    refine j_icmp_ne (b := ((oW (odW w) k).testBit (ofL (fr (odW w) 0) (i + 1)))) (t := 117) (e := 118) dX5_seamOf_110 (by decide) dX5_seamOf_113 dX5_seamOf_114 dX5_seamOf_117 (by decide) (by decide) ⟨by omega, by decide⟩ (tb_div _ _).symm ?_
    refine v_istore (L' := [(10, _), (9, _), (8, _), (7, _), (0, _), (1, _), (2, _), (3, _), (4, _), (5, _), (6, _)]) dX5_seamOf_118 (by decide) rfl ?_
    refine v_iload_n dX5_seamOf_120 rfl ?_
    refine v_if_ne (tgt := 142) dX5_seamOf_121 (by decide) (fun c121 => absurd rfl c121) (fun c121 => ?_)
    refine v_iload dX5_seamOf_124 rfl ?_
    refine b_if_eq (tgt := 138) dX5_seamOf_126 (by decide) (fun c126 => ?_) (fun c126 => ?_)
    · refine v_iconst (x := nI 0) dX5_seamOf_138 (by decide +kernel) ?_
      refine v_goto (tgt := 180) dX5_seamOf_139 (by decide) ?_
      refine v_istore (L' := [(11, _), (10, _), (9, _), (8, _), (7, _), (0, _), (1, _), (2, _), (3, _), (4, _), (5, _), (6, _)]) dX5_seamOf_180 (by decide) rfl ?_
      refine v_iload dX5_seamOf_182 rfl ?_
      refine v_iload dX5_seamOf_184 rfl ?_
      refine v_if_eq (tgt := 207) dX5_seamOf_186 (by decide) (fun c186 => ?_) (fun c186 => absurd rfl c186)
      refine v_iconst (x := nI 0) dX5_seamOf_207 (by decide +kernel) ?_
      have e : sm (sIv (odW w) (fr (odW w) 0) i 0 0) (k + 1) = sm (sIv (odW w) (fr (odW w) 0) i 0 0) k + 0 := by rw [sm, sIv, sIs_0, c126, Bool.false_and, if_neg (by decide)]
      rw [e] at ih
      refine n_iadd dX5_seamOf_208 ?_
      refine v_istore (L' := [(5, _), (11, _), (10, _), (9, _), (8, _), (7, _), (0, _), (1, _), (2, _), (3, _), (4, _), (6, _)]) dX5_seamOf_209 (by decide) rfl ?_
      refine n_iinc (n := 1) (L' := [(6, _), (5, _), (11, _), (10, _), (9, _), (8, _), (7, _), (0, _), (1, _), (2, _), (3, _), (4, _)]) dX5_seamOf_211 rfl (by decide) rfl ?_
      refine v_goto (tgt := 13) dX5_seamOf_214 (by decide) ?_
      refine v_sub [7, 8, 9, 10, 11, 1, 0] rfl ?_
      exact ih
    · refine v_iload dX5_seamOf_129 rfl ?_
      refine b_if_eq (tgt := 138) dX5_seamOf_131 (by decide) (fun c131 => ?_) (fun c131 => ?_)
      · refine v_iconst (x := nI 0) dX5_seamOf_138 (by decide +kernel) ?_
        refine v_goto (tgt := 180) dX5_seamOf_139 (by decide) ?_
        refine v_istore (L' := [(11, _), (10, _), (9, _), (8, _), (7, _), (0, _), (1, _), (2, _), (3, _), (4, _), (5, _), (6, _)]) dX5_seamOf_180 (by decide) rfl ?_
        refine v_iload dX5_seamOf_182 rfl ?_
        refine v_iload dX5_seamOf_184 rfl ?_
        refine v_if_eq (tgt := 207) dX5_seamOf_186 (by decide) (fun c186 => ?_) (fun c186 => absurd rfl c186)
        refine v_iconst (x := nI 0) dX5_seamOf_207 (by decide +kernel) ?_
        have e : sm (sIv (odW w) (fr (odW w) 0) i 0 0) (k + 1) = sm (sIv (odW w) (fr (odW w) 0) i 0 0) k + 0 := by rw [sm, sIv, sIs_0, c126, c131, Bool.and_false, if_neg (by decide)]
        rw [e] at ih
        refine n_iadd dX5_seamOf_208 ?_
        refine v_istore (L' := [(5, _), (11, _), (10, _), (9, _), (8, _), (7, _), (0, _), (1, _), (2, _), (3, _), (4, _), (6, _)]) dX5_seamOf_209 (by decide) rfl ?_
        refine n_iinc (n := 1) (L' := [(6, _), (5, _), (11, _), (10, _), (9, _), (8, _), (7, _), (0, _), (1, _), (2, _), (3, _), (4, _)]) dX5_seamOf_211 rfl (by decide) rfl ?_
        refine v_goto (tgt := 13) dX5_seamOf_214 (by decide) ?_
        refine v_sub [7, 8, 9, 10, 11, 1, 0] rfl ?_
        exact ih
      · refine v_iconst (x := nI 1) dX5_seamOf_134 (by decide +kernel) ?_
        refine v_goto (tgt := 180) dX5_seamOf_135 (by decide) ?_
        refine v_istore (L' := [(11, _), (10, _), (9, _), (8, _), (7, _), (0, _), (1, _), (2, _), (3, _), (4, _), (5, _), (6, _)]) dX5_seamOf_180 (by decide) rfl ?_
        refine v_iload dX5_seamOf_182 rfl ?_
        refine v_iload dX5_seamOf_184 rfl ?_
        refine v_if_eq (tgt := 207) dX5_seamOf_186 (by decide) (fun c186 => absurd c186 (by decide)) (fun c186 => ?_)
        refine v_iload_n dX5_seamOf_189 rfl ?_
        refine v_if_eq (tgt := 203) dX5_seamOf_190 (by decide) (fun c190 => ?_) (fun c190 => absurd rfl c190)
        refine v_iconst (x := nI 1) dX5_seamOf_203 (by decide +kernel) ?_
        refine v_goto (tgt := 208) dX5_seamOf_204 (by decide) ?_
        have e : sm (sIv (odW w) (fr (odW w) 0) i 0 0) (k + 1) = sm (sIv (odW w) (fr (odW w) 0) i 0 0) k + 1 := by rw [sm, sIv, sIs_0, c126, c131, Bool.and_true, if_pos rfl, if_neg (by decide)]
        rw [e] at ih
        refine n_iadd dX5_seamOf_208 ?_
        refine v_istore (L' := [(5, _), (11, _), (10, _), (9, _), (8, _), (7, _), (0, _), (1, _), (2, _), (3, _), (4, _), (6, _)]) dX5_seamOf_209 (by decide) rfl ?_
        refine n_iinc (n := 1) (L' := [(6, _), (5, _), (11, _), (10, _), (9, _), (8, _), (7, _), (0, _), (1, _), (2, _), (3, _), (4, _)]) dX5_seamOf_211 rfl (by decide) rfl ?_
        refine v_goto (tgt := 13) dX5_seamOf_214 (by decide) ?_
        refine v_sub [7, 8, 9, 10, 11, 1, 0] rfl ?_
        exact ih
  · have hS := (ov_W hv).2.2.1
    refine v_iload dX5_seamOf_13 rfl ?_
    refine v_aload_n dX5_seamOf_15 rfl ?_
    refine v_get (j := 15) iO40 rfl dX5_seamOf_16 (by decide) in_X5_seamOf_X5 fl_X5_seamOf_189 rfl ?_
    refine v_top hs.1.2.1 ?_
    refine n_icmp_ge (tgt := 217) dX5_seamOf_19 (by decide) (by omega) (by omega) (fun c19 => ?_) (fun c19 => absurd c19 (by omega))
    refine v_iload dX5_seamOf_217 rfl ?_
    exact v_iret rfl dX5_seamOf_219 ⟨rfl, rfl⟩
set_option maxRecDepth 100000 in
set_option maxHeartbeats 4000000 in
theorem s_X5_seamOf_10 {v : EE} {w : WD} {z : Nat} {σ : SS} (hs : SK w σ) (hv : WV z w) (hn : TL (odW w) 0 ≠ []) {i : Nat} (hi0 : i + 1 < (fr (odW w) 0).length) : S1 v M_X5_seamOf [.ref (v.1 40), .int (nI i), .int 1, .int 0] σ (some (.int (nI (sm (sIv (odW w) (fr (odW w) 0) i 1 0) (oS (odW w)))))) (σ) := by
  refine Sp.of rfl (by decide) rfl (Nat.le_of_ble_eq_true rfl) ?_
  show V v M_X5_seamOf _ 0 [(0, .ref (v.1 40)), (1, .int (nI i)), (2, .int 1), (3, .int 0)] [] σ
  have hl := fr_len (ov_W hv)
  refine v_aload_n dX5_seamOf_0 rfl ?_
  refine v_iload_n dX5_seamOf_1 rfl ?_
  refine v_callVi (M' := M_X5_upTo) (As := [_]) iO40 (s_X5_upTo hs hv hn (by omega)) dX5_seamOf_2 gX5_seamOf_X5_upTo rfl rfl nn_X5_upTo ⟨rfl, rfl⟩ ⟨by decide, by decide⟩ rfl rfl (Nat.le_of_ble_eq_true rfl) ?_
  refine v_istore (L' := [(4, _), (0, _), (1, _), (2, _), (3, _)]) dX5_seamOf_5 (by decide) rfl ?_
  refine v_iconst (x := nI 0) dX5_seamOf_7 (by decide +kernel) ?_
  refine v_istore (L' := [(5, _), (4, _), (0, _), (1, _), (2, _), (3, _)]) dX5_seamOf_8 (by decide) rfl ?_
  refine v_iconst (x := nI 0) dX5_seamOf_10 (by decide +kernel) ?_
  refine v_istore (L' := [(6, _), (5, _), (4, _), (0, _), (1, _), (2, _), (3, _)]) dX5_seamOf_11 (by decide) rfl ?_
  refine v_sub [3, 4, 5, 6, 2, 1, 0] rfl ?_
  refine loopN (fun k => V v M_X5_seamOf (zR v M_X5_seamOf (fun r' σ' => r' = (some (.int (nI (sm (sIv (odW w) (fr (odW w) 0) i 1 0) (oS (odW w)))))) ∧ σ' = (σ))) 13 [(0, .ref (v.1 40)), (1, .int (nI i)), (2, .int 1), (3, .int 0), (4, .int (nI (mkA (fr (odW w) 0) (i + 1)))), (5, .int (nI (sm (sIv (odW w) (fr (odW w) 0) i 1 0) k))), (6, .int (nI k))] [] (σ)) (oS (odW w)) ?_ ?_
  · intro k hi ih
    have hi2 := hi
    have hS := (ov_W hv).2.2.1
    have hW6 := ((ov_W hv).2.2.2 k hi).1
    have hx1 := fr_el (ov_W hv) (k := i) (by omega)
    have hx2 := fr_el (ov_W hv) (k := i + 1) (by omega)
    refine v_iload dX5_seamOf_13 rfl ?_
    refine v_aload_n dX5_seamOf_15 rfl ?_
    refine v_get (j := 15) iO40 rfl dX5_seamOf_16 (by decide) in_X5_seamOf_X5 fl_X5_seamOf_189 rfl ?_
    refine v_top hs.1.2.1 ?_
    refine n_icmp_ge (tgt := 217) dX5_seamOf_19 (by decide) (by omega) (by omega) (fun c19 => absurd c19 (by omega)) (fun c19 => ?_)
    refine v_aload_n dX5_seamOf_22 rfl ?_
    refine v_get (j := 16) iO40 rfl dX5_seamOf_23 (by decide) in_X5_seamOf_X5 fl_X5_seamOf_44 rfl ?_
    refine v_iload dX5_seamOf_26 rfl ?_
    refine v_ialdN k iI52 dX5_seamOf_28 rfl (by omega) (by decide) ?_
    refine v_top (hs.1.2.2.1 _ hi2).1 ?_
    refine v_iload dX5_seamOf_29 rfl ?_
    refine n_iand dX5_seamOf_31 ?_
    refine j_eq (b := (decide ((oW (odW w) k) &&& (mkA (fr (odW w) 0) (i + 1)) ≠ 0))) (t := 39) (e := 40) dX5_seamOf_32 (by decide) dX5_seamOf_35 dX5_seamOf_36 dX5_seamOf_39 (by decide) (by decide) (Nat.lt_of_le_of_lt Nat.and_le_left (by omega)) rfl ?_
    refine v_istore (L' := [(7, _), (0, _), (1, _), (2, _), (3, _), (4, _), (5, _), (6, _)]) dX5_seamOf_40 (by decide) rfl ?_
    refine v_aload_n dX5_seamOf_42 rfl ?_
    refine v_get (j := 16) iO40 rfl dX5_seamOf_43 (by decide) in_X5_seamOf_X5 fl_X5_seamOf_44 rfl ?_
    refine v_iload dX5_seamOf_46 rfl ?_
    refine v_ialdN k iI52 dX5_seamOf_48 rfl (by omega) (by decide) ?_
    refine v_top (hs.1.2.2.1 _ hi2).1 ?_
    refine v_iload dX5_seamOf_49 rfl ?_
    refine v_iconst (x := (-1)) dX5_seamOf_51 rfl ?_
    refine v_ixor dX5_seamOf_52 ?_
    refine n_dif dX5_seamOf_53 ?_
    refine j_eq (b := (decide (dif (oW (odW w) k) (mkA (fr (odW w) 0) (i + 1)) ≠ 0))) (t := 61) (e := 62) dX5_seamOf_54 (by decide) dX5_seamOf_57 dX5_seamOf_58 dX5_seamOf_61 (by decide) (by decide) (Nat.lt_of_le_of_lt (dif_le _ _) (by omega)) rfl ?_
    refine v_istore (L' := [(8, _), (7, _), (0, _), (1, _), (2, _), (3, _), (4, _), (5, _), (6, _)]) dX5_seamOf_62 (by decide) rfl ?_
    refine v_aload_n dX5_seamOf_64 rfl ?_
    refine v_get (j := 16) iO40 rfl dX5_seamOf_65 (by decide) in_X5_seamOf_X5 fl_X5_seamOf_44 rfl ?_
    refine v_iload dX5_seamOf_68 rfl ?_
    refine v_ialdN k iI52 dX5_seamOf_70 rfl (by omega) (by decide) ?_
    refine v_top (hs.1.2.2.1 _ hi2).1 ?_
    refine v_aload_n dX5_seamOf_71 rfl ?_
    refine v_get (j := 20) iO40 rfl dX5_seamOf_72 (by decide) in_X5_seamOf_X5 fl_X5_seamOf_56 rfl ?_
    refine v_iload_n dX5_seamOf_75 rfl ?_
    refine v_ialdN i iI56 dX5_seamOf_76 rfl (by omega) (by decide) ?_
    refine v_top (hs.r hv hn (by omega)) ?_
    refine n_ishr dX5_seamOf_77 (by omega) (by omega) ?_
    refine v_iconst (x := nI 1) dX5_seamOf_78 (by decide +kernel) ?_
    refine n_and1 dX5_seamOf_79 ?_
    refine v_iconst (x := nI 1) dX5_seamOf_80 (by decide +kernel) ?_
    refine j_icmp_ne (b := ((oW (odW w) k).testBit (ofL (fr (odW w) 0) i))) (t := 88) (e := 89) dX5_seamOf_81 (by decide) dX5_seamOf_84 dX5_seamOf_85 dX5_seamOf_88 (by decide) (by decide) ⟨by omega, by decide⟩ (tb_div _ _).symm ?_
    refine v_istore (L' := [(9, _), (8, _), (7, _), (0, _), (1, _), (2, _), (3, _), (4, _), (5, _), (6, _)]) dX5_seamOf_89 (by decide) rfl ?_
    refine v_aload_n dX5_seamOf_91 rfl ?_
    refine v_get (j := 16) iO40 rfl dX5_seamOf_92 (by decide) in_X5_seamOf_X5 fl_X5_seamOf_44 rfl ?_
    refine v_iload dX5_seamOf_95 rfl ?_
    refine v_ialdN k iI52 dX5_seamOf_97 rfl (by omega) (by decide) ?_
    refine v_top (hs.1.2.2.1 _ hi2).1 ?_
    refine v_aload_n dX5_seamOf_98 rfl ?_
    refine v_get (j := 20) iO40 rfl dX5_seamOf_99 (by decide) in_X5_seamOf_X5 fl_X5_seamOf_56 rfl ?_
    refine v_iload_n dX5_seamOf_102 rfl ?_
    refine v_iconst (x := nI 1) dX5_seamOf_103 (by decide +kernel) ?_
    refine n_iadd dX5_seamOf_104 ?_
    refine v_ialdN (i + 1) iI56 dX5_seamOf_105 rfl (by omega) (by decide) ?_
    refine v_top (hs.r hv hn (by omega)) ?_
    refine n_ishr dX5_seamOf_106 (by omega) (by omega) ?_
    refine v_iconst (x := nI 1) dX5_seamOf_107 (by decide +kernel) ?_
    refine n_and1 dX5_seamOf_108 ?_
    refine v_iconst (x := nI 1) dX5_seamOf_109 (by decide +kernel) ?_
    refine j_icmp_ne (b := ((oW (odW w) k).testBit (ofL (fr (odW w) 0) (i + 1)))) (t := 117) (e := 118) dX5_seamOf_110 (by decide) dX5_seamOf_113 dX5_seamOf_114 dX5_seamOf_117 (by decide) (by decide) ⟨by omega, by decide⟩ (tb_div _ _).symm ?_
    refine v_istore (L' := [(10, _), (9, _), (8, _), (7, _), (0, _), (1, _), (2, _), (3, _), (4, _), (5, _), (6, _)]) dX5_seamOf_118 (by decide) rfl ?_
    refine v_iload_n dX5_seamOf_120 rfl ?_
    refine v_if_ne (tgt := 142) dX5_seamOf_121 (by decide) (fun c121 => ?_) (fun c121 => absurd c121 (by decide))
    refine v_iload_n dX5_seamOf_142 rfl ?_
    refine v_iconst (x := 1) dX5_seamOf_143 rfl ?_
    refine v_icmp_ne (tgt := 165) dX5_seamOf_144 (by decide) (fun c144 => absurd rfl c144) (fun c144 => ?_)
    refine v_iload dX5_seamOf_147 rfl ?_
    refine b_if_eq (tgt := 161) dX5_seamOf_149 (by decide) (fun c149 => ?_) (fun c149 => ?_)
    · refine v_iconst (x := nI 0) dX5_seamOf_161 (by decide +kernel) ?_
      refine v_goto (tgt := 180) dX5_seamOf_162 (by decide) ?_
      refine v_istore (L' := [(11, _), (10, _), (9, _), (8, _), (7, _), (0, _), (1, _), (2, _), (3, _), (4, _), (5, _), (6, _)]) dX5_seamOf_180 (by decide) rfl ?_
      refine v_iload dX5_seamOf_182 rfl ?_
      refine v_iload dX5_seamOf_184 rfl ?_
      refine v_if_eq (tgt := 207) dX5_seamOf_186 (by decide) (fun c186 => ?_) (fun c186 => absurd rfl c186)
      refine v_iconst (x := nI 0) dX5_seamOf_207 (by decide +kernel) ?_
      have e : sm (sIv (odW w) (fr (odW w) 0) i 1 0) (k + 1) = sm (sIv (odW w) (fr (odW w) 0) i 1 0) k + 0 := by rw [sm, sIv, sIs_1, c149, Bool.false_and, if_neg (by decide)]
      rw [e] at ih
      refine n_iadd dX5_seamOf_208 ?_
      refine v_istore (L' := [(5, _), (11, _), (10, _), (9, _), (8, _), (7, _), (0, _), (1, _), (2, _), (3, _), (4, _), (6, _)]) dX5_seamOf_209 (by decide) rfl ?_
      refine n_iinc (n := 1) (L' := [(6, _), (5, _), (11, _), (10, _), (9, _), (8, _), (7, _), (0, _), (1, _), (2, _), (3, _), (4, _)]) dX5_seamOf_211 rfl (by decide) rfl ?_
      refine v_goto (tgt := 13) dX5_seamOf_214 (by decide) ?_
      refine v_sub [7, 8, 9, 10, 11, 1, 0] rfl ?_
      exact ih
    · refine v_iload dX5_seamOf_152 rfl ?_
      refine b_if_ne (tgt := 161) dX5_seamOf_154 (by decide) (fun c154 => ?_) (fun c154 => ?_)
      · refine v_iconst (x := nI 0) dX5_seamOf_161 (by decide +kernel) ?_
        refine v_goto (tgt := 180) dX5_seamOf_162 (by decide) ?_
        refine v_istore (L' := [(11, _), (10, _), (9, _), (8, _), (7, _), (0, _), (1, _), (2, _), (3, _), (4, _), (5, _), (6, _)]) dX5_seamOf_180 (by decide) rfl ?_
        refine v_iload dX5_seamOf_182 rfl ?_
        refine v_iload dX5_seamOf_184 rfl ?_
        refine v_if_eq (tgt := 207) dX5_seamOf_186 (by decide) (fun c186 => ?_) (fun c186 => absurd rfl c186)
        refine v_iconst (x := nI 0) dX5_seamOf_207 (by decide +kernel) ?_
        have e : sm (sIv (odW w) (fr (odW w) 0) i 1 0) (k + 1) = sm (sIv (odW w) (fr (odW w) 0) i 1 0) k + 0 := by rw [sm, sIv, sIs_1, c149, c154, Bool.not_true, Bool.and_false, if_neg (by decide)]
        rw [e] at ih
        refine n_iadd dX5_seamOf_208 ?_
        refine v_istore (L' := [(5, _), (11, _), (10, _), (9, _), (8, _), (7, _), (0, _), (1, _), (2, _), (3, _), (4, _), (6, _)]) dX5_seamOf_209 (by decide) rfl ?_
        refine n_iinc (n := 1) (L' := [(6, _), (5, _), (11, _), (10, _), (9, _), (8, _), (7, _), (0, _), (1, _), (2, _), (3, _), (4, _)]) dX5_seamOf_211 rfl (by decide) rfl ?_
        refine v_goto (tgt := 13) dX5_seamOf_214 (by decide) ?_
        refine v_sub [7, 8, 9, 10, 11, 1, 0] rfl ?_
        exact ih
      · refine v_iconst (x := nI 1) dX5_seamOf_157 (by decide +kernel) ?_
        refine v_goto (tgt := 180) dX5_seamOf_158 (by decide) ?_
        refine v_istore (L' := [(11, _), (10, _), (9, _), (8, _), (7, _), (0, _), (1, _), (2, _), (3, _), (4, _), (5, _), (6, _)]) dX5_seamOf_180 (by decide) rfl ?_
        refine v_iload dX5_seamOf_182 rfl ?_
        refine v_iload dX5_seamOf_184 rfl ?_
        refine v_if_eq (tgt := 207) dX5_seamOf_186 (by decide) (fun c186 => absurd c186 (by decide)) (fun c186 => ?_)
        refine v_iload_n dX5_seamOf_189 rfl ?_
        refine v_if_eq (tgt := 203) dX5_seamOf_190 (by decide) (fun c190 => ?_) (fun c190 => absurd rfl c190)
        refine v_iconst (x := nI 1) dX5_seamOf_203 (by decide +kernel) ?_
        refine v_goto (tgt := 208) dX5_seamOf_204 (by decide) ?_
        have e : sm (sIv (odW w) (fr (odW w) 0) i 1 0) (k + 1) = sm (sIv (odW w) (fr (odW w) 0) i 1 0) k + 1 := by rw [sm, sIv, sIs_1, c149, c154, Bool.not_false, Bool.and_true, if_pos rfl, if_neg (by decide)]
        rw [e] at ih
        refine n_iadd dX5_seamOf_208 ?_
        refine v_istore (L' := [(5, _), (11, _), (10, _), (9, _), (8, _), (7, _), (0, _), (1, _), (2, _), (3, _), (4, _), (6, _)]) dX5_seamOf_209 (by decide) rfl ?_
        refine n_iinc (n := 1) (L' := [(6, _), (5, _), (11, _), (10, _), (9, _), (8, _), (7, _), (0, _), (1, _), (2, _), (3, _), (4, _)]) dX5_seamOf_211 rfl (by decide) rfl ?_
        refine v_goto (tgt := 13) dX5_seamOf_214 (by decide) ?_
        refine v_sub [7, 8, 9, 10, 11, 1, 0] rfl ?_
        exact ih
  · have hS := (ov_W hv).2.2.1
    refine v_iload dX5_seamOf_13 rfl ?_
    refine v_aload_n dX5_seamOf_15 rfl ?_
    refine v_get (j := 15) iO40 rfl dX5_seamOf_16 (by decide) in_X5_seamOf_X5 fl_X5_seamOf_189 rfl ?_
    refine v_top hs.1.2.1 ?_
    refine n_icmp_ge (tgt := 217) dX5_seamOf_19 (by decide) (by omega) (by omega) (fun c19 => ?_) (fun c19 => absurd c19 (by omega))
    refine v_iload dX5_seamOf_217 rfl ?_
    exact v_iret rfl dX5_seamOf_219 ⟨rfl, rfl⟩
set_option maxRecDepth 100000 in
set_option maxHeartbeats 4000000 in
theorem s_X5_seamOf_20 {v : EE} {w : WD} {z : Nat} {σ : SS} (hs : SK w σ) (hv : WV z w) (hn : TL (odW w) 0 ≠ []) {i : Nat} (hi0 : i + 1 < (fr (odW w) 0).length) : S1 v M_X5_seamOf [.ref (v.1 40), .int (nI i), .int 2, .int 0] σ (some (.int (nI (sm (sIv (odW w) (fr (odW w) 0) i 2 0) (oS (odW w)))))) (σ) := by
  refine Sp.of rfl (by decide) rfl (Nat.le_of_ble_eq_true rfl) ?_
  show V v M_X5_seamOf _ 0 [(0, .ref (v.1 40)), (1, .int (nI i)), (2, .int 2), (3, .int 0)] [] σ
  have hl := fr_len (ov_W hv)
  refine v_aload_n dX5_seamOf_0 rfl ?_
  refine v_iload_n dX5_seamOf_1 rfl ?_
  refine v_callVi (M' := M_X5_upTo) (As := [_]) iO40 (s_X5_upTo hs hv hn (by omega)) dX5_seamOf_2 gX5_seamOf_X5_upTo rfl rfl nn_X5_upTo ⟨rfl, rfl⟩ ⟨by decide, by decide⟩ rfl rfl (Nat.le_of_ble_eq_true rfl) ?_
  refine v_istore (L' := [(4, _), (0, _), (1, _), (2, _), (3, _)]) dX5_seamOf_5 (by decide) rfl ?_
  refine v_iconst (x := nI 0) dX5_seamOf_7 (by decide +kernel) ?_
  refine v_istore (L' := [(5, _), (4, _), (0, _), (1, _), (2, _), (3, _)]) dX5_seamOf_8 (by decide) rfl ?_
  refine v_iconst (x := nI 0) dX5_seamOf_10 (by decide +kernel) ?_
  refine v_istore (L' := [(6, _), (5, _), (4, _), (0, _), (1, _), (2, _), (3, _)]) dX5_seamOf_11 (by decide) rfl ?_
  refine v_sub [3, 4, 5, 6, 2, 1, 0] rfl ?_
  refine loopN (fun k => V v M_X5_seamOf (zR v M_X5_seamOf (fun r' σ' => r' = (some (.int (nI (sm (sIv (odW w) (fr (odW w) 0) i 2 0) (oS (odW w)))))) ∧ σ' = (σ))) 13 [(0, .ref (v.1 40)), (1, .int (nI i)), (2, .int 2), (3, .int 0), (4, .int (nI (mkA (fr (odW w) 0) (i + 1)))), (5, .int (nI (sm (sIv (odW w) (fr (odW w) 0) i 2 0) k))), (6, .int (nI k))] [] (σ)) (oS (odW w)) ?_ ?_
  · intro k hi ih
    have hi2 := hi
    have hS := (ov_W hv).2.2.1
    have hW6 := ((ov_W hv).2.2.2 k hi).1
    have hx1 := fr_el (ov_W hv) (k := i) (by omega)
    have hx2 := fr_el (ov_W hv) (k := i + 1) (by omega)
    refine v_iload dX5_seamOf_13 rfl ?_
    refine v_aload_n dX5_seamOf_15 rfl ?_
    refine v_get (j := 15) iO40 rfl dX5_seamOf_16 (by decide) in_X5_seamOf_X5 fl_X5_seamOf_189 rfl ?_
    refine v_top hs.1.2.1 ?_
    refine n_icmp_ge (tgt := 217) dX5_seamOf_19 (by decide) (by omega) (by omega) (fun c19 => absurd c19 (by omega)) (fun c19 => ?_)
    refine v_aload_n dX5_seamOf_22 rfl ?_
    refine v_get (j := 16) iO40 rfl dX5_seamOf_23 (by decide) in_X5_seamOf_X5 fl_X5_seamOf_44 rfl ?_
    refine v_iload dX5_seamOf_26 rfl ?_
    refine v_ialdN k iI52 dX5_seamOf_28 rfl (by omega) (by decide) ?_
    refine v_top (hs.1.2.2.1 _ hi2).1 ?_
    refine v_iload dX5_seamOf_29 rfl ?_
    refine n_iand dX5_seamOf_31 ?_
    refine j_eq (b := (decide ((oW (odW w) k) &&& (mkA (fr (odW w) 0) (i + 1)) ≠ 0))) (t := 39) (e := 40) dX5_seamOf_32 (by decide) dX5_seamOf_35 dX5_seamOf_36 dX5_seamOf_39 (by decide) (by decide) (Nat.lt_of_le_of_lt Nat.and_le_left (by omega)) rfl ?_
    refine v_istore (L' := [(7, _), (0, _), (1, _), (2, _), (3, _), (4, _), (5, _), (6, _)]) dX5_seamOf_40 (by decide) rfl ?_
    refine v_aload_n dX5_seamOf_42 rfl ?_
    refine v_get (j := 16) iO40 rfl dX5_seamOf_43 (by decide) in_X5_seamOf_X5 fl_X5_seamOf_44 rfl ?_
    refine v_iload dX5_seamOf_46 rfl ?_
    refine v_ialdN k iI52 dX5_seamOf_48 rfl (by omega) (by decide) ?_
    refine v_top (hs.1.2.2.1 _ hi2).1 ?_
    refine v_iload dX5_seamOf_49 rfl ?_
    refine v_iconst (x := (-1)) dX5_seamOf_51 rfl ?_
    refine v_ixor dX5_seamOf_52 ?_
    refine n_dif dX5_seamOf_53 ?_
    refine j_eq (b := (decide (dif (oW (odW w) k) (mkA (fr (odW w) 0) (i + 1)) ≠ 0))) (t := 61) (e := 62) dX5_seamOf_54 (by decide) dX5_seamOf_57 dX5_seamOf_58 dX5_seamOf_61 (by decide) (by decide) (Nat.lt_of_le_of_lt (dif_le _ _) (by omega)) rfl ?_
    refine v_istore (L' := [(8, _), (7, _), (0, _), (1, _), (2, _), (3, _), (4, _), (5, _), (6, _)]) dX5_seamOf_62 (by decide) rfl ?_
    refine v_aload_n dX5_seamOf_64 rfl ?_
    refine v_get (j := 16) iO40 rfl dX5_seamOf_65 (by decide) in_X5_seamOf_X5 fl_X5_seamOf_44 rfl ?_
    refine v_iload dX5_seamOf_68 rfl ?_
    refine v_ialdN k iI52 dX5_seamOf_70 rfl (by omega) (by decide) ?_
    refine v_top (hs.1.2.2.1 _ hi2).1 ?_
    refine v_aload_n dX5_seamOf_71 rfl ?_
    refine v_get (j := 20) iO40 rfl dX5_seamOf_72 (by decide) in_X5_seamOf_X5 fl_X5_seamOf_56 rfl ?_
    refine v_iload_n dX5_seamOf_75 rfl ?_
    refine v_ialdN i iI56 dX5_seamOf_76 rfl (by omega) (by decide) ?_
    refine v_top (hs.r hv hn (by omega)) ?_
    refine n_ishr dX5_seamOf_77 (by omega) (by omega) ?_
    refine v_iconst (x := nI 1) dX5_seamOf_78 (by decide +kernel) ?_
    refine n_and1 dX5_seamOf_79 ?_
    refine v_iconst (x := nI 1) dX5_seamOf_80 (by decide +kernel) ?_
    refine j_icmp_ne (b := ((oW (odW w) k).testBit (ofL (fr (odW w) 0) i))) (t := 88) (e := 89) dX5_seamOf_81 (by decide) dX5_seamOf_84 dX5_seamOf_85 dX5_seamOf_88 (by decide) (by decide) ⟨by omega, by decide⟩ (tb_div _ _).symm ?_
    refine v_istore (L' := [(9, _), (8, _), (7, _), (0, _), (1, _), (2, _), (3, _), (4, _), (5, _), (6, _)]) dX5_seamOf_89 (by decide) rfl ?_
    refine v_aload_n dX5_seamOf_91 rfl ?_
    refine v_get (j := 16) iO40 rfl dX5_seamOf_92 (by decide) in_X5_seamOf_X5 fl_X5_seamOf_44 rfl ?_
    refine v_iload dX5_seamOf_95 rfl ?_
    refine v_ialdN k iI52 dX5_seamOf_97 rfl (by omega) (by decide) ?_
    refine v_top (hs.1.2.2.1 _ hi2).1 ?_
    refine v_aload_n dX5_seamOf_98 rfl ?_
    refine v_get (j := 20) iO40 rfl dX5_seamOf_99 (by decide) in_X5_seamOf_X5 fl_X5_seamOf_56 rfl ?_
    refine v_iload_n dX5_seamOf_102 rfl ?_
    refine v_iconst (x := nI 1) dX5_seamOf_103 (by decide +kernel) ?_
    refine n_iadd dX5_seamOf_104 ?_
    refine v_ialdN (i + 1) iI56 dX5_seamOf_105 rfl (by omega) (by decide) ?_
    refine v_top (hs.r hv hn (by omega)) ?_
    refine n_ishr dX5_seamOf_106 (by omega) (by omega) ?_
    refine v_iconst (x := nI 1) dX5_seamOf_107 (by decide +kernel) ?_
    refine n_and1 dX5_seamOf_108 ?_
    refine v_iconst (x := nI 1) dX5_seamOf_109 (by decide +kernel) ?_
    refine j_icmp_ne (b := ((oW (odW w) k).testBit (ofL (fr (odW w) 0) (i + 1)))) (t := 117) (e := 118) dX5_seamOf_110 (by decide) dX5_seamOf_113 dX5_seamOf_114 dX5_seamOf_117 (by decide) (by decide) ⟨by omega, by decide⟩ (tb_div _ _).symm ?_
    refine v_istore (L' := [(10, _), (9, _), (8, _), (7, _), (0, _), (1, _), (2, _), (3, _), (4, _), (5, _), (6, _)]) dX5_seamOf_118 (by decide) rfl ?_
    refine v_iload_n dX5_seamOf_120 rfl ?_
    refine v_if_ne (tgt := 142) dX5_seamOf_121 (by decide) (fun c121 => ?_) (fun c121 => absurd c121 (by decide))
    refine v_iload_n dX5_seamOf_142 rfl ?_
    refine v_iconst (x := 1) dX5_seamOf_143 rfl ?_
    refine v_icmp_ne (tgt := 165) dX5_seamOf_144 (by decide) (fun c144 => ?_) (fun c144 => absurd c144 (by decide))
    refine v_iload dX5_seamOf_165 rfl ?_
    refine b_if_eq (tgt := 179) dX5_seamOf_167 (by decide) (fun c167 => ?_) (fun c167 => ?_)
    · refine v_iconst (x := nI 0) dX5_seamOf_179 (by decide +kernel) ?_
      refine v_istore (L' := [(11, _), (10, _), (9, _), (8, _), (7, _), (0, _), (1, _), (2, _), (3, _), (4, _), (5, _), (6, _)]) dX5_seamOf_180 (by decide) rfl ?_
      refine v_iload dX5_seamOf_182 rfl ?_
      refine v_iload dX5_seamOf_184 rfl ?_
      refine v_if_eq (tgt := 207) dX5_seamOf_186 (by decide) (fun c186 => ?_) (fun c186 => absurd rfl c186)
      refine v_iconst (x := nI 0) dX5_seamOf_207 (by decide +kernel) ?_
      have e : sm (sIv (odW w) (fr (odW w) 0) i 2 0) (k + 1) = sm (sIv (odW w) (fr (odW w) 0) i 2 0) k + 0 := by rw [sm, sIv, sIs_2, c167, Bool.false_and, if_neg (by decide)]
      rw [e] at ih
      refine n_iadd dX5_seamOf_208 ?_
      refine v_istore (L' := [(5, _), (11, _), (10, _), (9, _), (8, _), (7, _), (0, _), (1, _), (2, _), (3, _), (4, _), (6, _)]) dX5_seamOf_209 (by decide) rfl ?_
      refine n_iinc (n := 1) (L' := [(6, _), (5, _), (11, _), (10, _), (9, _), (8, _), (7, _), (0, _), (1, _), (2, _), (3, _), (4, _)]) dX5_seamOf_211 rfl (by decide) rfl ?_
      refine v_goto (tgt := 13) dX5_seamOf_214 (by decide) ?_
      refine v_sub [7, 8, 9, 10, 11, 1, 0] rfl ?_
      exact ih
    · refine v_iload dX5_seamOf_170 rfl ?_
      refine b_if_ne (tgt := 179) dX5_seamOf_172 (by decide) (fun c172 => ?_) (fun c172 => ?_)
      · refine v_iconst (x := nI 0) dX5_seamOf_179 (by decide +kernel) ?_
        refine v_istore (L' := [(11, _), (10, _), (9, _), (8, _), (7, _), (0, _), (1, _), (2, _), (3, _), (4, _), (5, _), (6, _)]) dX5_seamOf_180 (by decide) rfl ?_
        refine v_iload dX5_seamOf_182 rfl ?_
        refine v_iload dX5_seamOf_184 rfl ?_
        refine v_if_eq (tgt := 207) dX5_seamOf_186 (by decide) (fun c186 => ?_) (fun c186 => absurd rfl c186)
        refine v_iconst (x := nI 0) dX5_seamOf_207 (by decide +kernel) ?_
        have e : sm (sIv (odW w) (fr (odW w) 0) i 2 0) (k + 1) = sm (sIv (odW w) (fr (odW w) 0) i 2 0) k + 0 := by rw [sm, sIv, sIs_2, c167, c172, Bool.not_true, Bool.and_false, if_neg (by decide)]
        rw [e] at ih
        refine n_iadd dX5_seamOf_208 ?_
        refine v_istore (L' := [(5, _), (11, _), (10, _), (9, _), (8, _), (7, _), (0, _), (1, _), (2, _), (3, _), (4, _), (6, _)]) dX5_seamOf_209 (by decide) rfl ?_
        refine n_iinc (n := 1) (L' := [(6, _), (5, _), (11, _), (10, _), (9, _), (8, _), (7, _), (0, _), (1, _), (2, _), (3, _), (4, _)]) dX5_seamOf_211 rfl (by decide) rfl ?_
        refine v_goto (tgt := 13) dX5_seamOf_214 (by decide) ?_
        refine v_sub [7, 8, 9, 10, 11, 1, 0] rfl ?_
        exact ih
      · refine v_iconst (x := nI 1) dX5_seamOf_175 (by decide +kernel) ?_
        refine v_goto (tgt := 180) dX5_seamOf_176 (by decide) ?_
        refine v_istore (L' := [(11, _), (10, _), (9, _), (8, _), (7, _), (0, _), (1, _), (2, _), (3, _), (4, _), (5, _), (6, _)]) dX5_seamOf_180 (by decide) rfl ?_
        refine v_iload dX5_seamOf_182 rfl ?_
        refine v_iload dX5_seamOf_184 rfl ?_
        refine v_if_eq (tgt := 207) dX5_seamOf_186 (by decide) (fun c186 => absurd c186 (by decide)) (fun c186 => ?_)
        refine v_iload_n dX5_seamOf_189 rfl ?_
        refine v_if_eq (tgt := 203) dX5_seamOf_190 (by decide) (fun c190 => ?_) (fun c190 => absurd rfl c190)
        refine v_iconst (x := nI 1) dX5_seamOf_203 (by decide +kernel) ?_
        refine v_goto (tgt := 208) dX5_seamOf_204 (by decide) ?_
        have e : sm (sIv (odW w) (fr (odW w) 0) i 2 0) (k + 1) = sm (sIv (odW w) (fr (odW w) 0) i 2 0) k + 1 := by rw [sm, sIv, sIs_2, c167, c172, Bool.not_false, Bool.and_true, if_pos rfl, if_neg (by decide)]
        rw [e] at ih
        refine n_iadd dX5_seamOf_208 ?_
        refine v_istore (L' := [(5, _), (11, _), (10, _), (9, _), (8, _), (7, _), (0, _), (1, _), (2, _), (3, _), (4, _), (6, _)]) dX5_seamOf_209 (by decide) rfl ?_
        refine n_iinc (n := 1) (L' := [(6, _), (5, _), (11, _), (10, _), (9, _), (8, _), (7, _), (0, _), (1, _), (2, _), (3, _), (4, _)]) dX5_seamOf_211 rfl (by decide) rfl ?_
        refine v_goto (tgt := 13) dX5_seamOf_214 (by decide) ?_
        refine v_sub [7, 8, 9, 10, 11, 1, 0] rfl ?_
        exact ih
  · have hS := (ov_W hv).2.2.1
    refine v_iload dX5_seamOf_13 rfl ?_
    refine v_aload_n dX5_seamOf_15 rfl ?_
    refine v_get (j := 15) iO40 rfl dX5_seamOf_16 (by decide) in_X5_seamOf_X5 fl_X5_seamOf_189 rfl ?_
    refine v_top hs.1.2.1 ?_
    refine n_icmp_ge (tgt := 217) dX5_seamOf_19 (by decide) (by omega) (by omega) (fun c19 => ?_) (fun c19 => absurd c19 (by omega))
    refine v_iload dX5_seamOf_217 rfl ?_
    exact v_iret rfl dX5_seamOf_219 ⟨rfl, rfl⟩
set_option maxRecDepth 100000 in
set_option maxHeartbeats 4000000 in
theorem s_X5_seamOf_01 {v : EE} {w : WD} {z : Nat} {σ : SS} (hs : SK w σ) (hv : WV z w) (hn : TL (odW w) 0 ≠ []) {i : Nat} (hi0 : i + 1 < (fr (odW w) 0).length) : S1 v M_X5_seamOf [.ref (v.1 40), .int (nI i), .int 0, .int 1] σ (some (.int (nI (sm (sIv (odW w) (fr (odW w) 0) i 0 1) (oS (odW w)))))) (σ) := by
  refine Sp.of rfl (by decide) rfl (Nat.le_of_ble_eq_true rfl) ?_
  show V v M_X5_seamOf _ 0 [(0, .ref (v.1 40)), (1, .int (nI i)), (2, .int 0), (3, .int 1)] [] σ
  have hl := fr_len (ov_W hv)
  refine v_aload_n dX5_seamOf_0 rfl ?_
  refine v_iload_n dX5_seamOf_1 rfl ?_
  refine v_callVi (M' := M_X5_upTo) (As := [_]) iO40 (s_X5_upTo hs hv hn (by omega)) dX5_seamOf_2 gX5_seamOf_X5_upTo rfl rfl nn_X5_upTo ⟨rfl, rfl⟩ ⟨by decide, by decide⟩ rfl rfl (Nat.le_of_ble_eq_true rfl) ?_
  refine v_istore (L' := [(4, _), (0, _), (1, _), (2, _), (3, _)]) dX5_seamOf_5 (by decide) rfl ?_
  refine v_iconst (x := nI 0) dX5_seamOf_7 (by decide +kernel) ?_
  refine v_istore (L' := [(5, _), (4, _), (0, _), (1, _), (2, _), (3, _)]) dX5_seamOf_8 (by decide) rfl ?_
  refine v_iconst (x := nI 0) dX5_seamOf_10 (by decide +kernel) ?_
  refine v_istore (L' := [(6, _), (5, _), (4, _), (0, _), (1, _), (2, _), (3, _)]) dX5_seamOf_11 (by decide) rfl ?_
  refine v_sub [3, 4, 5, 6, 2, 1, 0] rfl ?_
  refine loopN (fun k => V v M_X5_seamOf (zR v M_X5_seamOf (fun r' σ' => r' = (some (.int (nI (sm (sIv (odW w) (fr (odW w) 0) i 0 1) (oS (odW w)))))) ∧ σ' = (σ))) 13 [(0, .ref (v.1 40)), (1, .int (nI i)), (2, .int 0), (3, .int 1), (4, .int (nI (mkA (fr (odW w) 0) (i + 1)))), (5, .int (nI (sm (sIv (odW w) (fr (odW w) 0) i 0 1) k))), (6, .int (nI k))] [] (σ)) (oS (odW w)) ?_ ?_
  · intro k hi ih
    have hi2 := hi
    have hS := (ov_W hv).2.2.1
    have hW6 := ((ov_W hv).2.2.2 k hi).1
    have hx1 := fr_el (ov_W hv) (k := i) (by omega)
    have hx2 := fr_el (ov_W hv) (k := i + 1) (by omega)
    refine v_iload dX5_seamOf_13 rfl ?_
    refine v_aload_n dX5_seamOf_15 rfl ?_
    refine v_get (j := 15) iO40 rfl dX5_seamOf_16 (by decide) in_X5_seamOf_X5 fl_X5_seamOf_189 rfl ?_
    refine v_top hs.1.2.1 ?_
    refine n_icmp_ge (tgt := 217) dX5_seamOf_19 (by decide) (by omega) (by omega) (fun c19 => absurd c19 (by omega)) (fun c19 => ?_)
    refine v_aload_n dX5_seamOf_22 rfl ?_
    refine v_get (j := 16) iO40 rfl dX5_seamOf_23 (by decide) in_X5_seamOf_X5 fl_X5_seamOf_44 rfl ?_
    refine v_iload dX5_seamOf_26 rfl ?_
    refine v_ialdN k iI52 dX5_seamOf_28 rfl (by omega) (by decide) ?_
    refine v_top (hs.1.2.2.1 _ hi2).1 ?_
    refine v_iload dX5_seamOf_29 rfl ?_
    refine n_iand dX5_seamOf_31 ?_
    refine j_eq (b := (decide ((oW (odW w) k) &&& (mkA (fr (odW w) 0) (i + 1)) ≠ 0))) (t := 39) (e := 40) dX5_seamOf_32 (by decide) dX5_seamOf_35 dX5_seamOf_36 dX5_seamOf_39 (by decide) (by decide) (Nat.lt_of_le_of_lt Nat.and_le_left (by omega)) rfl ?_
    refine v_istore (L' := [(7, _), (0, _), (1, _), (2, _), (3, _), (4, _), (5, _), (6, _)]) dX5_seamOf_40 (by decide) rfl ?_
    refine v_aload_n dX5_seamOf_42 rfl ?_
    refine v_get (j := 16) iO40 rfl dX5_seamOf_43 (by decide) in_X5_seamOf_X5 fl_X5_seamOf_44 rfl ?_
    refine v_iload dX5_seamOf_46 rfl ?_
    refine v_ialdN k iI52 dX5_seamOf_48 rfl (by omega) (by decide) ?_
    refine v_top (hs.1.2.2.1 _ hi2).1 ?_
    refine v_iload dX5_seamOf_49 rfl ?_
    refine v_iconst (x := (-1)) dX5_seamOf_51 rfl ?_
    refine v_ixor dX5_seamOf_52 ?_
    refine n_dif dX5_seamOf_53 ?_
    refine j_eq (b := (decide (dif (oW (odW w) k) (mkA (fr (odW w) 0) (i + 1)) ≠ 0))) (t := 61) (e := 62) dX5_seamOf_54 (by decide) dX5_seamOf_57 dX5_seamOf_58 dX5_seamOf_61 (by decide) (by decide) (Nat.lt_of_le_of_lt (dif_le _ _) (by omega)) rfl ?_
    refine v_istore (L' := [(8, _), (7, _), (0, _), (1, _), (2, _), (3, _), (4, _), (5, _), (6, _)]) dX5_seamOf_62 (by decide) rfl ?_
    refine v_aload_n dX5_seamOf_64 rfl ?_
    refine v_get (j := 16) iO40 rfl dX5_seamOf_65 (by decide) in_X5_seamOf_X5 fl_X5_seamOf_44 rfl ?_
    refine v_iload dX5_seamOf_68 rfl ?_
    refine v_ialdN k iI52 dX5_seamOf_70 rfl (by omega) (by decide) ?_
    refine v_top (hs.1.2.2.1 _ hi2).1 ?_
    refine v_aload_n dX5_seamOf_71 rfl ?_
    refine v_get (j := 20) iO40 rfl dX5_seamOf_72 (by decide) in_X5_seamOf_X5 fl_X5_seamOf_56 rfl ?_
    refine v_iload_n dX5_seamOf_75 rfl ?_
    refine v_ialdN i iI56 dX5_seamOf_76 rfl (by omega) (by decide) ?_
    refine v_top (hs.r hv hn (by omega)) ?_
    refine n_ishr dX5_seamOf_77 (by omega) (by omega) ?_
    refine v_iconst (x := nI 1) dX5_seamOf_78 (by decide +kernel) ?_
    refine n_and1 dX5_seamOf_79 ?_
    refine v_iconst (x := nI 1) dX5_seamOf_80 (by decide +kernel) ?_
    refine j_icmp_ne (b := ((oW (odW w) k).testBit (ofL (fr (odW w) 0) i))) (t := 88) (e := 89) dX5_seamOf_81 (by decide) dX5_seamOf_84 dX5_seamOf_85 dX5_seamOf_88 (by decide) (by decide) ⟨by omega, by decide⟩ (tb_div _ _).symm ?_
    refine v_istore (L' := [(9, _), (8, _), (7, _), (0, _), (1, _), (2, _), (3, _), (4, _), (5, _), (6, _)]) dX5_seamOf_89 (by decide) rfl ?_
    refine v_aload_n dX5_seamOf_91 rfl ?_
    refine v_get (j := 16) iO40 rfl dX5_seamOf_92 (by decide) in_X5_seamOf_X5 fl_X5_seamOf_44 rfl ?_
    refine v_iload dX5_seamOf_95 rfl ?_
    refine v_ialdN k iI52 dX5_seamOf_97 rfl (by omega) (by decide) ?_
    refine v_top (hs.1.2.2.1 _ hi2).1 ?_
    refine v_aload_n dX5_seamOf_98 rfl ?_
    refine v_get (j := 20) iO40 rfl dX5_seamOf_99 (by decide) in_X5_seamOf_X5 fl_X5_seamOf_56 rfl ?_
    refine v_iload_n dX5_seamOf_102 rfl ?_
    refine v_iconst (x := nI 1) dX5_seamOf_103 (by decide +kernel) ?_
    refine n_iadd dX5_seamOf_104 ?_
    refine v_ialdN (i + 1) iI56 dX5_seamOf_105 rfl (by omega) (by decide) ?_
    refine v_top (hs.r hv hn (by omega)) ?_
    refine n_ishr dX5_seamOf_106 (by omega) (by omega) ?_
    refine v_iconst (x := nI 1) dX5_seamOf_107 (by decide +kernel) ?_
    refine n_and1 dX5_seamOf_108 ?_
    refine v_iconst (x := nI 1) dX5_seamOf_109 (by decide +kernel) ?_
    refine j_icmp_ne (b := ((oW (odW w) k).testBit (ofL (fr (odW w) 0) (i + 1)))) (t := 117) (e := 118) dX5_seamOf_110 (by decide) dX5_seamOf_113 dX5_seamOf_114 dX5_seamOf_117 (by decide) (by decide) ⟨by omega, by decide⟩ (tb_div _ _).symm ?_
    refine v_istore (L' := [(10, _), (9, _), (8, _), (7, _), (0, _), (1, _), (2, _), (3, _), (4, _), (5, _), (6, _)]) dX5_seamOf_118 (by decide) rfl ?_
    refine v_iload_n dX5_seamOf_120 rfl ?_
    refine v_if_ne (tgt := 142) dX5_seamOf_121 (by decide) (fun c121 => absurd rfl c121) (fun c121 => ?_)
    refine v_iload dX5_seamOf_124 rfl ?_
    refine b_if_eq (tgt := 138) dX5_seamOf_126 (by decide) (fun c126 => ?_) (fun c126 => ?_)
    · refine v_iconst (x := nI 0) dX5_seamOf_138 (by decide +kernel) ?_
      refine v_goto (tgt := 180) dX5_seamOf_139 (by decide) ?_
      refine v_istore (L' := [(11, _), (10, _), (9, _), (8, _), (7, _), (0, _), (1, _), (2, _), (3, _), (4, _), (5, _), (6, _)]) dX5_seamOf_180 (by decide) rfl ?_
      refine v_iload dX5_seamOf_182 rfl ?_
      refine v_iload dX5_seamOf_184 rfl ?_
      refine v_if_eq (tgt := 207) dX5_seamOf_186 (by decide) (fun c186 => ?_) (fun c186 => absurd rfl c186)
      refine v_iconst (x := nI 0) dX5_seamOf_207 (by decide +kernel) ?_
      have e : sm (sIv (odW w) (fr (odW w) 0) i 0 1) (k + 1) = sm (sIv (odW w) (fr (odW w) 0) i 0 1) k + 0 := by rw [sm, sIv, sIs_0, c126, Bool.false_and, if_neg (by decide)]
      rw [e] at ih
      refine n_iadd dX5_seamOf_208 ?_
      refine v_istore (L' := [(5, _), (11, _), (10, _), (9, _), (8, _), (7, _), (0, _), (1, _), (2, _), (3, _), (4, _), (6, _)]) dX5_seamOf_209 (by decide) rfl ?_
      refine n_iinc (n := 1) (L' := [(6, _), (5, _), (11, _), (10, _), (9, _), (8, _), (7, _), (0, _), (1, _), (2, _), (3, _), (4, _)]) dX5_seamOf_211 rfl (by decide) rfl ?_
      refine v_goto (tgt := 13) dX5_seamOf_214 (by decide) ?_
      refine v_sub [7, 8, 9, 10, 11, 1, 0] rfl ?_
      exact ih
    · refine v_iload dX5_seamOf_129 rfl ?_
      refine b_if_eq (tgt := 138) dX5_seamOf_131 (by decide) (fun c131 => ?_) (fun c131 => ?_)
      · refine v_iconst (x := nI 0) dX5_seamOf_138 (by decide +kernel) ?_
        refine v_goto (tgt := 180) dX5_seamOf_139 (by decide) ?_
        refine v_istore (L' := [(11, _), (10, _), (9, _), (8, _), (7, _), (0, _), (1, _), (2, _), (3, _), (4, _), (5, _), (6, _)]) dX5_seamOf_180 (by decide) rfl ?_
        refine v_iload dX5_seamOf_182 rfl ?_
        refine v_iload dX5_seamOf_184 rfl ?_
        refine v_if_eq (tgt := 207) dX5_seamOf_186 (by decide) (fun c186 => ?_) (fun c186 => absurd rfl c186)
        refine v_iconst (x := nI 0) dX5_seamOf_207 (by decide +kernel) ?_
        have e : sm (sIv (odW w) (fr (odW w) 0) i 0 1) (k + 1) = sm (sIv (odW w) (fr (odW w) 0) i 0 1) k + 0 := by rw [sm, sIv, sIs_0, c126, c131, Bool.and_false, if_neg (by decide)]
        rw [e] at ih
        refine n_iadd dX5_seamOf_208 ?_
        refine v_istore (L' := [(5, _), (11, _), (10, _), (9, _), (8, _), (7, _), (0, _), (1, _), (2, _), (3, _), (4, _), (6, _)]) dX5_seamOf_209 (by decide) rfl ?_
        refine n_iinc (n := 1) (L' := [(6, _), (5, _), (11, _), (10, _), (9, _), (8, _), (7, _), (0, _), (1, _), (2, _), (3, _), (4, _)]) dX5_seamOf_211 rfl (by decide) rfl ?_
        refine v_goto (tgt := 13) dX5_seamOf_214 (by decide) ?_
        refine v_sub [7, 8, 9, 10, 11, 1, 0] rfl ?_
        exact ih
      · refine v_iconst (x := nI 1) dX5_seamOf_134 (by decide +kernel) ?_
        refine v_goto (tgt := 180) dX5_seamOf_135 (by decide) ?_
        refine v_istore (L' := [(11, _), (10, _), (9, _), (8, _), (7, _), (0, _), (1, _), (2, _), (3, _), (4, _), (5, _), (6, _)]) dX5_seamOf_180 (by decide) rfl ?_
        refine v_iload dX5_seamOf_182 rfl ?_
        refine v_iload dX5_seamOf_184 rfl ?_
        refine v_if_eq (tgt := 207) dX5_seamOf_186 (by decide) (fun c186 => absurd c186 (by decide)) (fun c186 => ?_)
        refine v_iload_n dX5_seamOf_189 rfl ?_
        refine v_if_eq (tgt := 203) dX5_seamOf_190 (by decide) (fun c190 => absurd c190 (by decide)) (fun c190 => ?_)
        refine v_aload_n dX5_seamOf_193 rfl ?_
        refine v_get (j := 17) iO40 rfl dX5_seamOf_194 (by decide) in_X5_seamOf_X5 fl_X5_seamOf_47 rfl ?_
        refine v_iload dX5_seamOf_197 rfl ?_
        refine v_ialdN k iI53 dX5_seamOf_199 rfl (by omega) (by decide) ?_
        refine v_top (hs.1.2.2.1 _ hi2).2 ?_
        refine v_goto (tgt := 208) dX5_seamOf_200 (by decide) ?_
        have e : sm (sIv (odW w) (fr (odW w) 0) i 0 1) (k + 1) = sm (sIv (odW w) (fr (odW w) 0) i 0 1) k + oT (odW w) k := by rw [sm, sIv, sIs_0, c126, c131, Bool.and_true, if_pos rfl, if_pos rfl]
        rw [e] at ih
        refine n_iadd dX5_seamOf_208 ?_
        refine v_istore (L' := [(5, _), (11, _), (10, _), (9, _), (8, _), (7, _), (0, _), (1, _), (2, _), (3, _), (4, _), (6, _)]) dX5_seamOf_209 (by decide) rfl ?_
        refine n_iinc (n := 1) (L' := [(6, _), (5, _), (11, _), (10, _), (9, _), (8, _), (7, _), (0, _), (1, _), (2, _), (3, _), (4, _)]) dX5_seamOf_211 rfl (by decide) rfl ?_
        refine v_goto (tgt := 13) dX5_seamOf_214 (by decide) ?_
        refine v_sub [7, 8, 9, 10, 11, 1, 0] rfl ?_
        exact ih
  · have hS := (ov_W hv).2.2.1
    refine v_iload dX5_seamOf_13 rfl ?_
    refine v_aload_n dX5_seamOf_15 rfl ?_
    refine v_get (j := 15) iO40 rfl dX5_seamOf_16 (by decide) in_X5_seamOf_X5 fl_X5_seamOf_189 rfl ?_
    refine v_top hs.1.2.1 ?_
    refine n_icmp_ge (tgt := 217) dX5_seamOf_19 (by decide) (by omega) (by omega) (fun c19 => ?_) (fun c19 => absurd c19 (by omega))
    refine v_iload dX5_seamOf_217 rfl ?_
    exact v_iret rfl dX5_seamOf_219 ⟨rfl, rfl⟩
