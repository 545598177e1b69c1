theorem in_X5_begins_X5 : ∀ w ∈ u_ws RX5 TX5 29, w ∈ mWs M_X5_begins := by decide +kernel
theorem in_X5_gaps_X5 : ∀ w ∈ u_ws RX5 TX5 29, w ∈ mWs M_X5_gaps := by decide +kernel
theorem in_X5_mayBe_X5 : ∀ w ∈ u_ws RX5 TX5 29, w ∈ mWs M_X5_mayBe := by decide +kernel
theorem fl_X5_begins_41 : Cond.fieldLink (mOwn M_X5_begins) 41 (TX5 14).1 (TX5 14).2.1 (TX5 14).2.2.1 ∈ mWs M_X5_begins := by decide +kernel
theorem fl_X5_begins_53 : Cond.fieldLink (mOwn M_X5_begins) 53 (TX5 19).1 (TX5 19).2.1 (TX5 19).2.2.1 ∈ mWs M_X5_begins := by decide +kernel
theorem fl_X5_begins_186 : Cond.fieldLink (mOwn M_X5_begins) 186 (TX5 13).1 (TX5 13).2.1 (TX5 13).2.2.1 ∈ mWs M_X5_begins := by decide +kernel
theorem fl_X5_gaps_44 : Cond.fieldLink (mOwn M_X5_gaps) 44 (TX5 16).1 (TX5 16).2.1 (TX5 16).2.2.1 ∈ mWs M_X5_gaps := by decide +kernel
theorem fl_X5_gaps_47 : Cond.fieldLink (mOwn M_X5_gaps) 47 (TX5 17).1 (TX5 17).2.1 (TX5 17).2.2.1 ∈ mWs M_X5_gaps := by decide +kernel
theorem fl_X5_gaps_53 : Cond.fieldLink (mOwn M_X5_gaps) 53 (TX5 19).1 (TX5 19).2.1 (TX5 19).2.2.1 ∈ mWs M_X5_gaps := by decide +kernel
theorem fl_X5_gaps_186 : Cond.fieldLink (mOwn M_X5_gaps) 186 (TX5 13).1 (TX5 13).2.1 (TX5 13).2.2.1 ∈ mWs M_X5_gaps := by decide +kernel
theorem fl_X5_gaps_189 : Cond.fieldLink (mOwn M_X5_gaps) 189 (TX5 15).1 (TX5 15).2.1 (TX5 15).2.2.1 ∈ mWs M_X5_gaps := by decide +kernel
theorem fl_X5_mayBe_50 : Cond.fieldLink (mOwn M_X5_mayBe) 50 (TX5 18).1 (TX5 18).2.1 (TX5 18).2.2.1 ∈ mWs M_X5_mayBe := by decide +kernel
theorem fl_X5_mayBe_53 : Cond.fieldLink (mOwn M_X5_mayBe) 53 (TX5 19).1 (TX5 19).2.1 (TX5 19).2.2.1 ∈ mWs M_X5_mayBe := by decide +kernel
theorem fl_X5_mayBe_186 : Cond.fieldLink (mOwn M_X5_mayBe) 186 (TX5 13).1 (TX5 13).2.1 (TX5 13).2.2.1 ∈ mWs M_X5_mayBe := by decide +kernel
def OM (o : OD) (σ : SS) : Prop := σ.1 40 13 = nI (bits (oP o)).length ∧ σ.1 40 15 = nI (oS o) ∧ (∀ k, k < oS o → σ.1 52 k = nI (oW o k) ∧ σ.1 53 k = nI (oT o k)) ∧ (∀ p, p < 6 → σ.1 54 p = nI (oM o p)) ∧ ∀ i, i < (bits (oP o)).length → σ.1 51 i = nI (ofL (bits (oP o)) i)
theorem OM.of {o : OD} {σ τ : SS} (h : OM o σ) (h1 : τ.1 40 13 = σ.1 40 13) (h2 : τ.1 40 15 = σ.1 40 15) (h3 : τ.1 51 = σ.1 51) (h4 : τ.1 52 = σ.1 52) (h5 : τ.1 53 = σ.1 53) (h6 : τ.1 54 = σ.1 54) : OM o τ := by
  rw [OM, h1, h2, h3, h4, h5, h6]; exact h
theorem FB.om {o : OD} {σ τ : SS} (f : FB σ τ) (h : OM o σ) : OM o τ := h.of (by rw [f.1 40 (by decide)]) (by rw [f.1 40 (by decide)]) (f.1 51 (by decide)) (f.1 52 (by decide)) (f.1 53 (by decide)) (f.1 54 (by decide))
def RW (l : List Nat) (σ : SS) : Prop := RWf l.length (ofL l) σ
def good (o : OD) (l : List Nat) : Prop := l ∈ pr (oP o) 64 0
theorem good.len {o : OD} (ho : OV o) {l : List Nat} (h : good o l) : l.length = (bits (oP o)).length ∧ l.length ≤ 6 := by
  have := pr_len ho.1 h
  exact ⟨this, by rw [this]; exact (bits_len _ ho.1).1⟩
theorem good.el {o : OD} (ho : OV o) {l : List Nat} (h : good o l) {i : Nat} (hi : i < l.length) : ofL l i < 6 := pr_el ho.1 h (ofL_mem hi)
def vlp (o : OD) (l : List Nat) : Nat → Bool
  | 0 => true
  | i + 1 => vlp o l i && decide (dif (oM o (ofL l i)) (mkA l i) = 0)
theorem vlp_vl {o : OD} {l : List Nat} : ∀ i, i ≤ l.length → (vlp o l i && vl o (mkA l i) (l.drop i)) = vl o 0 l
  | 0, _ => rfl
  | i + 1, h => by
    have ih := vlp_vl (o := o) (l := l) i (by omega)
    rw [← ih, List.drop_eq_getElem_cons (show i < l.length by omega)]
    have e : l[i] = ofL l i := by simp [ofL, show i < l.length by omega]
    rw [e, vl, vlp, mkA_s, Bool.and_assoc]
theorem vlp_end {o : OD} {l : List Nat} : vlp o l l.length = vl o 0 l := by
  have := vlp_vl (o := o) (l := l) l.length (Nat.le_refl _)
  rw [List.drop_length, vl, Bool.and_true] at this
  exact this
theorem mkA_lt {l : List Nat} : ∀ i, (∀ j, j < i → ofL l j < 6) → mkA l i < 64 := fun i h => om_lt (b := 6) (fun j hj => Nat.pow_lt_pow_right (by decide) (h j hj))
-- first, last, has
def ffs (b : Nat → Bool) : Nat → Option Nat × Nat × Nat
  | 0 => (none, 0, 0)
  | i + 1 => if b i then ((match (ffs b i).1 with | none => some i | some f => some f), i, (ffs b i).2.2 + 1) else ffs b i
theorem ffs_ff (L : List Bool) : ∀ i, i ≤ L.length → ff i (L.drop i) (ffs (fun j => L.getD j false) i) = ff 0 L (none, 0, 0)
  | 0, _ => rfl
  | i + 1, h => by
    rw [← ffs_ff L i (by omega), List.drop_eq_getElem_cons (show i < L.length by omega), ff, ffs]
    have e : L.getD i false = L[i] := by simp [show i < L.length by omega]
    rw [e]
    cases (ffs (fun j => L.getD j false) i).1 <;> rfl
theorem ffs_end (L : List Bool) : ff 0 L (none, 0, 0) = ffs (fun j => L.getD j false) L.length := by
  rw [← ffs_ff L L.length (Nat.le_refl _), List.drop_length, ff]
theorem ffs_cong {b c : Nat → Bool} : ∀ {n : Nat}, (∀ i, i < n → b i = c i) → ffs b n = ffs c n
  | 0, _ => rfl
  | n + 1, h => by rw [ffs, ffs, ffs_cong (fun i hi => h i (by omega)), h n (by omega)]
theorem ffs_in {b : Nat → Bool} : ∀ n, (∃ f la h, ffs b n = (some f, la, h) ∧ f ≤ la ∧ la < n ∧ 1 ≤ h ∧ h ≤ la + 1 - f) ∨ ffs b n = (none, 0, 0)
  | 0 => Or.inr rfl
  | n + 1 => by
    rw [ffs]
    by_cases c : b n = true
    · rw [if_pos c]
      rcases ffs_in (b := b) n with ⟨f, la, h, e, h1, h2, h3, h4⟩ | e
      · rw [e]; exact Or.inl ⟨f, n, h + 1, rfl, by omega, by omega, by omega, by omega⟩
      · rw [e]; exact Or.inl ⟨n, n, 1, rfl, by omega, by omega, by omega, by omega⟩
    · rw [if_neg c]
      rcases ffs_in (b := b) n with ⟨f, la, h, e, h1, h2, h3, h4⟩ | e
      · exact Or.inl ⟨f, la, h, e, h1, by omega, h3, h4⟩
      · exact Or.inr e
def bW (o : OD) (l : List Nat) (k i : Nat) : Bool := (oW o k).testBit (ofL l i)
theorem fv_ffs (o : OD) (l : List Nat) (k : Nat) : fv (pat o k l) = match ffs (bW o l k) l.length with | (none, _, _) => 0 | (some f, la, h) => la + 1 - f - h := by
  rw [fv, ffs_end, show (pat o k l).length = l.length by rw [pat, List.length_map]]
  have e : ffs (fun j => (pat o k l).getD j false) l.length = ffs (bW o l k) l.length := ffs_cong (fun i hi => by simp [pat, bW, ofL, hi])
  rw [e]
  rcases ffs (bW o l k) l.length with ⟨_ | f, la, h⟩ <;> rfl
def fJ : Option Nat → Int32
  | none => -1
  | some f => nI f
def lJ (x : Option Nat × Nat × Nat) : Int32 := match x.1 with
  | none => -1
  | some _ => nI x.2.1
def gf (o : OD) (l : List Nat) (k : Nat) : Nat := oT o k * fv (pat o k l)
theorem gf_wt {o : OD} (ho : OV o) {l : List Nat} (h : good o l) : sm (gf o l) (oS o) = wt o 0 l := (wt_fv ho.1 h (by have := h.len ho; omega)).symm
theorem wt_le {o : OD} (ho : OV o) : ∀ (l : List Nat) (A : Nat), wt o A l ≤ 144 * l.length
  | [], _ => Nat.zero_le _
  | p :: l, A => by
    have := wt_le ho l (A ||| 2 ^ p)
    have := ga_le ho A p
    rw [wt, List.length_cons]; omega
set_option maxRecDepth 100000 in
set_option maxHeartbeats 4000000 in
theorem s_X5_mayBe {v : EE} {o : OD} {σ : SS} (ho : OV o) (hc : OM o σ) {l : List Nat} (hg : good o l) (hR : RW l σ) : S1 v M_X5_mayBe [.ref (v.1 40)] σ (some (.int (bI (vl o 0 l)))) (σ) := by
  refine Sp.of rfl (by decide) rfl (Nat.le_of_ble_eq_true rfl) ?_
  show V v M_X5_mayBe _ 0 [(0, .ref (v.1 40))] [] σ
  refine v_iconst (x := nI 0) dX5_mayBe_0 (by decide +kernel) ?_
  refine v_istore_n (L' := [(1, _), (0, _)]) dX5_mayBe_1 rfl (by decide) rfl ?_
  refine v_iconst (x := 1) dX5_mayBe_2 rfl ?_
  refine v_istore_n (L' := [(2, _), (1, _), (0, _)]) dX5_mayBe_3 rfl (by decide) rfl ?_
  refine v_iconst (x := nI 0) dX5_mayBe_4 (by decide +kernel) ?_
  refine v_istore_n (L' := [(3, _), (2, _), (1, _), (0, _)]) dX5_mayBe_5 rfl (by decide) rfl ?_
  refine v_sub [3, 2, 1, 0] rfl ?_
  refine loopN (fun i => V v M_X5_mayBe (zR v M_X5_mayBe (fun r' σ' => r' = (some (.int (bI (vl o 0 l)))) ∧ σ' = (σ))) 6 [(0, .ref (v.1 40)), (1, .int (nI (mkA l i))), (2, .int (bI (vlp o l i))), (3, .int (nI i))] [] (σ)) l.length ?_ ?_
  · intro i hi ih
    have h6 := hg.el ho hi
    have hm := (hg.len ho).2
    refine v_iload_n dX5_mayBe_6 rfl ?_
    refine v_aload_n dX5_mayBe_7 rfl ?_
    refine v_get (j := 13) iO40 rfl dX5_mayBe_8 (by decide) in_X5_mayBe_X5 fl_X5_mayBe_186 rfl ?_
    refine v_top (hc.1.trans (by rw [← (hg.len ho).1])) ?_
    refine n_icmp_ge (tgt := 59) dX5_mayBe_11 (by decide) (by omega) (by omega) (fun c11 => absurd c11 (by omega)) (fun c11 => ?_)
    refine v_iload_n dX5_mayBe_14 rfl ?_
    refine b_if_eq (tgt := 40) dX5_mayBe_15 (by decide) (fun c15 => ?_) (fun c15 => ?_)
    · refine v_iconst (x := nI 0) dX5_mayBe_40 (by decide +kernel) ?_
      have e : vlp o l (i + 1) = false := by rw [vlp, c15]; rfl
      rw [e] at ih
      refine v_istore_n (L' := [(2, _), (0, _), (1, _), (3, _)]) dX5_mayBe_41 rfl (by decide) rfl ?_
      refine v_iload_n dX5_mayBe_42 rfl ?_
      refine v_iconst (x := nI 1) dX5_mayBe_43 (by decide +kernel) ?_
      refine v_aload_n dX5_mayBe_44 rfl ?_
      refine v_get (j := 19) iO40 rfl dX5_mayBe_45 (by decide) in_X5_mayBe_X5 fl_X5_mayBe_53 rfl ?_
      refine v_iload_n dX5_mayBe_48 rfl ?_
      refine v_ialdN i iI55 dX5_mayBe_49 rfl (by omega) (by decide) ?_
      refine v_top (hR _ hi) ?_
      refine n_shl1 dX5_mayBe_50 (by omega) ?_
      refine n_ior dX5_mayBe_51 ?_
      refine v_istore_n (L' := [(1, _), (2, _), (0, _), (3, _)]) dX5_mayBe_52 rfl (by decide) rfl ?_
      refine n_iinc (n := 1) (L' := [(3, _), (1, _), (2, _), (0, _)]) dX5_mayBe_53 rfl (by decide) rfl ?_
      refine v_goto (tgt := 6) dX5_mayBe_56 (by decide) ?_
      refine v_sub [3, 1, 2, 0] rfl ?_
      exact ih
    · refine v_aload_n dX5_mayBe_18 rfl ?_
      refine v_get (j := 18) iO40 rfl dX5_mayBe_19 (by decide) in_X5_mayBe_X5 fl_X5_mayBe_50 rfl ?_
      refine v_aload_n dX5_mayBe_22 rfl ?_
      refine v_get (j := 19) iO40 rfl dX5_mayBe_23 (by decide) in_X5_mayBe_X5 fl_X5_mayBe_53 rfl ?_
      refine v_iload_n dX5_mayBe_26 rfl ?_
      refine v_ialdN i iI55 dX5_mayBe_27 rfl (by omega) (by decide) ?_
      refine v_top (hR _ hi) ?_
      refine v_ialdN (ofL l i) iI54 dX5_mayBe_28 rfl h6 (by decide) ?_
      refine v_top (hc.2.2.2.1 _ h6) ?_
      refine v_iload_n dX5_mayBe_29 rfl ?_
      refine v_iconst (x := (-1)) dX5_mayBe_30 rfl ?_
      refine v_ixor dX5_mayBe_31 ?_
      refine n_dif dX5_mayBe_32 ?_
      refine n_if_ne (tgt := 40) dX5_mayBe_33 (by decide) (by have := dif_le (oM o (ofL l i)) (mkA l i); have := ho.2.1 _ h6; omega) (fun c33 => ?_) (fun c33 => ?_)
      · refine v_iconst (x := nI 0) dX5_mayBe_40 (by decide +kernel) ?_
        have e : vlp o l (i + 1) = false := by rw [vlp, c15, decide_eq_false c33]; rfl
        rw [e] at ih
        refine v_istore_n (L' := [(2, _), (0, _), (1, _), (3, _)]) dX5_mayBe_41 rfl (by decide) rfl ?_
        refine v_iload_n dX5_mayBe_42 rfl ?_
        refine v_iconst (x := nI 1) dX5_mayBe_43 (by decide +kernel) ?_
        refine v_aload_n dX5_mayBe_44 rfl ?_
        refine v_get (j := 19) iO40 rfl dX5_mayBe_45 (by decide) in_X5_mayBe_X5 fl_X5_mayBe_53 rfl ?_
        refine v_iload_n dX5_mayBe_48 rfl ?_
        refine v_ialdN i iI55 dX5_mayBe_49 rfl (by omega) (by decide) ?_
        refine v_top (hR _ hi) ?_
        refine n_shl1 dX5_mayBe_50 (by omega) ?_
        refine n_ior dX5_mayBe_51 ?_
        refine v_istore_n (L' := [(1, _), (2, _), (0, _), (3, _)]) dX5_mayBe_52 rfl (by decide) rfl ?_
        refine n_iinc (n := 1) (L' := [(3, _), (1, _), (2, _), (0, _)]) dX5_mayBe_53 rfl (by decide) rfl ?_
        refine v_goto (tgt := 6) dX5_mayBe_56 (by decide) ?_
        refine v_sub [3, 1, 2, 0] rfl ?_
        exact ih
      · refine v_iconst (x := nI 1) dX5_mayBe_36 (by decide +kernel) ?_
        refine v_goto (tgt := 41) dX5_mayBe_37 (by decide) ?_
        have e : vlp o l (i + 1) = true := by rw [vlp, c15, decide_eq_true c33]; rfl
        rw [e] at ih
        refine v_istore_n (L' := [(2, _), (0, _), (1, _), (3, _)]) dX5_mayBe_41 rfl (by decide) rfl ?_
        refine v_iload_n dX5_mayBe_42 rfl ?_
        refine v_iconst (x := nI 1) dX5_mayBe_43 (by decide +kernel) ?_
        refine v_aload_n dX5_mayBe_44 rfl ?_
        refine v_get (j := 19) iO40 rfl dX5_mayBe_45 (by decide) in_X5_mayBe_X5 fl_X5_mayBe_53 rfl ?_
        refine v_iload_n dX5_mayBe_48 rfl ?_
        refine v_ialdN i iI55 dX5_mayBe_49 rfl (by omega) (by decide) ?_
        refine v_top (hR _ hi) ?_
        refine n_shl1 dX5_mayBe_50 (by omega) ?_
        refine n_ior dX5_mayBe_51 ?_
        refine v_istore_n (L' := [(1, _), (2, _), (0, _), (3, _)]) dX5_mayBe_52 rfl (by decide) rfl ?_
        refine n_iinc (n := 1) (L' := [(3, _), (1, _), (2, _), (0, _)]) dX5_mayBe_53 rfl (by decide) rfl ?_
        refine v_goto (tgt := 6) dX5_mayBe_56 (by decide) ?_
        refine v_sub [3, 1, 2, 0] rfl ?_
        exact ih
  · have hm := (hg.len ho).2
    refine v_iload_n dX5_mayBe_6 rfl ?_
    refine v_aload_n dX5_mayBe_7 rfl ?_
    refine v_get (j := 13) iO40 rfl dX5_mayBe_8 (by decide) in_X5_mayBe_X5 fl_X5_mayBe_186 rfl ?_
    refine v_top (hc.1.trans (by rw [← (hg.len ho).1])) ?_
    refine n_icmp_ge (tgt := 59) dX5_mayBe_11 (by decide) (by omega) (by omega) (fun c11 => ?_) (fun c11 => absurd c11 (by omega))
    refine v_iload_n dX5_mayBe_59 rfl ?_
    exact v_zret rfl (bI_01 _) dX5_mayBe_60 ⟨congrArg (fun z => some (Value.int z)) (by rw [vlp_end]), rfl⟩
set_option maxRecDepth 100000 in
set_option maxHeartbeats 4000000 in
theorem s_X5_gaps {v : EE} {o : OD} {σ : SS} (ho : OV o) (hc : OM o σ) {l : List Nat} (hg : good o l) (hR : RW l σ) : S1 v M_X5_gaps [.ref (v.1 40)] σ (some (.int (nI (wt o 0 l)))) (σ) := by
  refine Sp.of rfl (by decide) rfl (Nat.le_of_ble_eq_true rfl) ?_
  show V v M_X5_gaps _ 0 [(0, .ref (v.1 40))] [] σ
  refine v_iconst (x := nI 0) dX5_gaps_0 (by decide +kernel) ?_
  refine v_istore_n (L' := [(1, _), (0, _)]) dX5_gaps_1 rfl (by decide) rfl ?_
  refine v_iconst (x := nI 0) dX5_gaps_2 (by decide +kernel) ?_
  refine v_istore_n (L' := [(2, _), (1, _), (0, _)]) dX5_gaps_3 rfl (by decide) rfl ?_
  refine v_sub [2, 1, 0] rfl ?_
  refine loopN (fun k => V v M_X5_gaps (zR v M_X5_gaps (fun r' σ' => r' = (some (.int (nI (wt o 0 l)))) ∧ σ' = (σ))) 4 [(0, .ref (v.1 40)), (1, .int (nI (sm (gf o l) k))), (2, .int (nI k))] [] (σ)) (oS o) ?_ ?_
  · intro k hi ih
    have hS := ho.2.2.1
    have hk := hi
    have ih0 := ih
    refine v_iload_n dX5_gaps_4 rfl ?_
    refine v_aload_n dX5_gaps_5 rfl ?_
    refine v_get (j := 15) iO40 rfl dX5_gaps_6 (by decide) in_X5_gaps_X5 fl_X5_gaps_189 rfl ?_
    refine v_top hc.2.1 ?_
    refine n_icmp_ge (tgt := 110) dX5_gaps_9 (by decide) (by omega) (by omega) (fun c9 => absurd c9 (by omega)) (fun c9 => ?_)
    refine v_iconst (x := (-1)) dX5_gaps_12 rfl ?_
    refine v_istore_n (L' := [(3, _), (0, _), (1, _), (2, _)]) dX5_gaps_13 rfl (by decide) rfl ?_
    refine v_iconst (x := (-1)) dX5_gaps_14 rfl ?_
    refine v_istore (L' := [(4, _), (3, _), (0, _), (1, _), (2, _)]) dX5_gaps_15 (by decide) rfl ?_
    refine v_iconst (x := nI 0) dX5_gaps_17 (by decide +kernel) ?_
    refine v_istore (L' := [(5, _), (4, _), (3, _), (0, _), (1, _), (2, _)]) dX5_gaps_18 (by decide) rfl ?_
    refine v_iconst (x := nI 0) dX5_gaps_20 (by decide +kernel) ?_
    refine v_istore (L' := [(6, _), (5, _), (4, _), (3, _), (0, _), (1, _), (2, _)]) dX5_gaps_21 (by decide) rfl ?_
    refine v_sub [4, 5, 6, 3, 2, 1, 0] rfl ?_
    refine loopN (fun i => V v M_X5_gaps (zR v M_X5_gaps (fun r' σ' => r' = (some (.int (nI (wt o 0 l)))) ∧ σ' = (σ))) 23 [(0, .ref (v.1 40)), (1, .int (nI (sm (gf o l) k))), (2, .int (nI k)), (3, .int (fJ (ffs (bW o l k) i).1)), (4, .int (lJ (ffs (bW o l k) i))), (5, .int (nI (ffs (bW o l k) i).2.2)), (6, .int (nI i))] [] (σ)) l.length ?_ ?_
    · intro i hi ih
      have h6 := hg.el ho hi
      have hm := (hg.len ho).2
      refine v_iload dX5_gaps_23 rfl ?_
      refine v_aload_n dX5_gaps_25 rfl ?_
      refine v_get (j := 13) iO40 rfl dX5_gaps_26 (by decide) in_X5_gaps_X5 fl_X5_gaps_186 rfl ?_
      refine v_top (hc.1.trans (by rw [← (hg.len ho).1])) ?_
      refine n_icmp_ge (tgt := 76) dX5_gaps_29 (by decide) (by omega) (by omega) (fun c29 => absurd c29 (by omega)) (fun c29 => ?_)
      refine v_aload_n dX5_gaps_32 rfl ?_
      refine v_get (j := 16) iO40 rfl dX5_gaps_33 (by decide) in_X5_gaps_X5 fl_X5_gaps_44 rfl ?_
      refine v_iload_n dX5_gaps_36 rfl ?_
      refine v_ialdN k iI52 dX5_gaps_37 rfl (by omega) (by decide) ?_
      refine v_top (hc.2.2.1 _ hk).1 ?_
      refine v_aload_n dX5_gaps_38 rfl ?_
      refine v_get (j := 19) iO40 rfl dX5_gaps_39 (by decide) in_X5_gaps_X5 fl_X5_gaps_53 rfl ?_
      refine v_iload dX5_gaps_42 rfl ?_
      refine v_ialdN i iI55 dX5_gaps_44 rfl (by omega) (by decide) ?_
      refine v_top (hR _ hi) ?_
      refine n_ishr dX5_gaps_45 (by have := (ho.2.2.2 k hk).1; omega) (by omega) ?_
      refine v_iconst (x := nI 1) dX5_gaps_46 (by decide +kernel) ?_
      refine n_and1 dX5_gaps_47 ?_
      refine v_iconst (x := nI 1) dX5_gaps_48 (by decide +kernel) ?_
      refine n_icmp_ne (tgt := 70) dX5_gaps_49 (by decide) (by omega) (by omega) (fun c49 => ?_) (fun c49 => ?_)
      · have e : ffs (bW o l k) (i + 1) = ffs (bW o l k) i := if_neg (by rw [bW, tb_div]; simpa using c49)
        rw [e] at ih
        refine n_iinc (n := 1) (L' := [(6, _), (0, _), (1, _), (2, _), (3, _), (4, _), (5, _)]) dX5_gaps_70 rfl (by decide) rfl ?_
        refine v_goto (tgt := 23) dX5_gaps_73 (by decide) ?_
        refine v_sub [1, 2, 3, 4, 5, 6, 0] rfl ?_
        exact ih
      · rcases ffs_in (b := bW o l k) i with ⟨f, la, h, hf, h1, h2, h3, h4⟩ | hf
        · rw [hf]
          dsimp only [fJ, lJ]
          refine v_iload_n dX5_gaps_52 rfl ?_
          refine n_if_ge (tgt := 61) dX5_gaps_53 (by decide) (by omega) ?_
          refine v_iload_n dX5_gaps_61 rfl ?_
          refine v_istore_n (L' := [(3, _), (0, _), (1, _), (2, _), (4, _), (5, _), (6, _)]) dX5_gaps_62 rfl (by decide) rfl ?_
          refine v_iload dX5_gaps_63 rfl ?_
          refine v_istore (L' := [(4, _), (3, _), (0, _), (1, _), (2, _), (5, _), (6, _)]) dX5_gaps_65 (by decide) rfl ?_
          refine n_iinc (n := 1) (L' := [(5, _), (4, _), (3, _), (0, _), (1, _), (2, _), (6, _)]) dX5_gaps_67 rfl (by decide) rfl ?_
          have e : ffs (bW o l k) (i + 1) = ((match (ffs (bW o l k) i).1 with | none => some i | some f => some f), i, (ffs (bW o l k) i).2.2 + 1) := if_pos (by rw [bW, tb_div]; simpa using c49)
          rw [e, hf] at ih
          dsimp only [fJ, lJ] at ih
          refine n_iinc (n := 1) (L' := [(6, _), (5, _), (4, _), (3, _), (0, _), (1, _), (2, _)]) dX5_gaps_70 rfl (by decide) rfl ?_
          refine v_goto (tgt := 23) dX5_gaps_73 (by decide) ?_
          refine v_sub [4, 5, 6, 3, 2, 1, 0] rfl ?_
          exact ih
        · rw [hf]
          dsimp only [fJ, lJ]
          refine v_iload_n dX5_gaps_52 rfl ?_
          refine v_if_ge (tgt := 61) dX5_gaps_53 (by decide) (fun c53 => absurd c53 (by decide)) (fun c53 => ?_)
          refine v_iload dX5_gaps_56 rfl ?_
          refine v_goto (tgt := 62) dX5_gaps_58 (by decide) ?_
          refine v_istore_n (L' := [(3, _), (0, _), (1, _), (2, _), (4, _), (5, _), (6, _)]) dX5_gaps_62 rfl (by decide) rfl ?_
          refine v_iload dX5_gaps_63 rfl ?_
          refine v_istore (L' := [(4, _), (3, _), (0, _), (1, _), (2, _), (5, _), (6, _)]) dX5_gaps_65 (by decide) rfl ?_
          refine n_iinc (n := 1) (L' := [(5, _), (4, _), (3, _), (0, _), (1, _), (2, _), (6, _)]) dX5_gaps_67 rfl (by decide) rfl ?_
          have e : ffs (bW o l k) (i + 1) = ((match (ffs (bW o l k) i).1 with | none => some i | some f => some f), i, (ffs (bW o l k) i).2.2 + 1) := if_pos (by rw [bW, tb_div]; simpa using c49)
          rw [e, hf] at ih
          dsimp only [fJ, lJ] at ih
          refine n_iinc (n := 1) (L' := [(6, _), (5, _), (4, _), (3, _), (0, _), (1, _), (2, _)]) dX5_gaps_70 rfl (by decide) rfl ?_
          refine v_goto (tgt := 23) dX5_gaps_73 (by decide) ?_
          refine v_sub [4, 5, 6, 3, 2, 1, 0] rfl ?_
          exact ih
    · have hm := (hg.len ho).2
      refine v_iload dX5_gaps_23 rfl ?_
      refine v_aload_n dX5_gaps_25 rfl ?_
      refine v_get (j := 13) iO40 rfl dX5_gaps_26 (by decide) in_X5_gaps_X5 fl_X5_gaps_186 rfl ?_
      refine v_top (hc.1.trans (by rw [← (hg.len ho).1])) ?_
      refine n_icmp_ge (tgt := 76) dX5_gaps_29 (by decide) (by omega) (by omega) (fun c29 => ?_) (fun c29 => absurd c29 (by omega))
      rcases ffs_in (b := bW o l k) l.length with ⟨f, la, h, hf, h1, h2, h3, h4⟩ | hf
      · rw [hf]
        dsimp only [fJ, lJ]
        refine v_iload_n dX5_gaps_76 rfl ?_
        refine v_iload dX5_gaps_77 rfl ?_
        refine n_if_ne (tgt := 86) dX5_gaps_79 (by decide) (by omega) (fun c79 => ?_) (fun c79 => absurd c79 (by omega))
        refine v_aload_n dX5_gaps_86 rfl ?_
        refine v_get (j := 17) iO40 rfl dX5_gaps_87 (by decide) in_X5_gaps_X5 fl_X5_gaps_47 rfl ?_
        refine v_iload_n dX5_gaps_90 rfl ?_
        refine v_ialdN k iI53 dX5_gaps_91 rfl (by omega) (by decide) ?_
        refine v_top (hc.2.2.1 _ hk).2 ?_
        refine v_iload dX5_gaps_92 rfl ?_
        refine v_iload_n dX5_gaps_94 rfl ?_
        refine n_isub dX5_gaps_95 h1 ?_
        refine v_iconst (x := nI 1) dX5_gaps_96 (by decide +kernel) ?_
        refine n_iadd dX5_gaps_97 ?_
        refine v_iload dX5_gaps_98 rfl ?_
        refine n_isub dX5_gaps_100 (by omega) ?_
        refine v_top (y := nI (la + 1 - f - h)) (by rw [show la - f + 1 - h = la + 1 - f - h by omega]) ?_
        refine n_imul dX5_gaps_101 ?_
        refine n_iadd dX5_gaps_102 ?_
        have e : sm (gf o l) (k + 1) = sm (gf o l) k + oT o k * (la + 1 - f - h) := by rw [sm, gf, fv_ffs, hf]
        rw [e] at ih0
        refine v_istore_n (L' := [(1, _), (0, _), (2, _), (3, _), (4, _), (5, _), (6, _)]) dX5_gaps_103 rfl (by decide) rfl ?_
        refine n_iinc (n := 1) (L' := [(2, _), (1, _), (0, _), (3, _), (4, _), (5, _), (6, _)]) dX5_gaps_104 rfl (by decide) rfl ?_
        refine v_goto (tgt := 4) dX5_gaps_107 (by decide) ?_
        refine v_sub [2, 1, 0] rfl ?_
        exact ih0
      · rw [hf]
        dsimp only [fJ, lJ]
        refine v_iload_n dX5_gaps_76 rfl ?_
        refine v_iload dX5_gaps_77 rfl ?_
        refine n_if_ne (tgt := 86) dX5_gaps_79 (by decide) (by decide) (fun c79 => absurd c79 (fun h => h rfl)) (fun c79 => ?_)
        refine v_iconst (x := nI 0) dX5_gaps_82 (by decide +kernel) ?_
        refine v_goto (tgt := 102) dX5_gaps_83 (by decide) ?_
        refine n_iadd dX5_gaps_102 ?_
        have e : sm (gf o l) (k + 1) = sm (gf o l) k + 0 := by rw [sm, gf, fv_ffs, hf]; rfl
        rw [e] at ih0
        refine v_istore_n (L' := [(1, _), (0, _), (2, _), (3, _), (4, _), (5, _), (6, _)]) dX5_gaps_103 rfl (by decide) rfl ?_
        refine n_iinc (n := 1) (L' := [(2, _), (1, _), (0, _), (3, _), (4, _), (5, _), (6, _)]) dX5_gaps_104 rfl (by decide) rfl ?_
        refine v_goto (tgt := 4) dX5_gaps_107 (by decide) ?_
        refine v_sub [2, 1, 0] rfl ?_
        exact ih0
  · have hS := ho.2.2.1
    refine v_iload_n dX5_gaps_4 rfl ?_
    refine v_aload_n dX5_gaps_5 rfl ?_
    refine v_get (j := 15) iO40 rfl dX5_gaps_6 (by decide) in_X5_gaps_X5 fl_X5_gaps_189 rfl ?_
    refine v_top hc.2.1 ?_
    refine n_icmp_ge (tgt := 110) dX5_gaps_9 (by decide) (by omega) (by omega) (fun c9 => ?_) (fun c9 => absurd c9 (by omega))
    refine v_iload_n dX5_gaps_110 rfl ?_
    exact v_iret rfl dX5_gaps_111 ⟨congrArg (fun z => some (Value.int z)) (by rw [gf_wt ho hg]), rfl⟩
theorem rwI_s {τ : SS} {r : Nat → Nat} {i : Nat} (h : ∀ j, j < i → τ.1 55 j = nI (r j)) : ∀ j, j < i + 1 → (sI τ 55 i (nI (r i))).1 55 j = nI (r j) := fun j hj => by
  by_cases q : j = i
  · subst q; rw [sI_at]
  · rw [sI_ne _ _ (Or.inr q)]; exact h j (by omega)
set_option maxRecDepth 100000 in
set_option maxHeartbeats 4000000 in
theorem s_X5_begins {v : EE} {o : OD} {σ : SS} (ho : OV o) (hc : OM o σ) : SR v M_X5_begins [.ref (v.1 40)] σ none (fun σ' => RW (bits (oP o)) σ' ∧ FB σ σ') := by
  refine Sp.of rfl (by decide) rfl (Nat.le_of_ble_eq_true rfl) ?_
  show V v M_X5_begins _ 0 [(0, .ref (v.1 40))] [] σ
  refine v_iconst (x := nI 0) dX5_begins_0 (by decide +kernel) ?_
  refine v_istore_n (L' := [(1, _), (0, _)]) dX5_begins_1 rfl (by decide) rfl ?_
  refine v_sub [1, 0] rfl ?_
  refine loopN (fun i => ∀ τ : SS, ((∀ j, j < i → τ.1 55 j = nI (ofL (bits (oP o)) j)) ∧ FB σ τ) → V v M_X5_begins (zR v M_X5_begins (fun r' σ' => r' = none ∧ (RW (bits (oP o)) σ' ∧ FB σ σ'))) 2 [(0, .ref (v.1 40)), (1, .int (nI i))] [] τ) (bits (oP o)).length ?_ ?_ _ ⟨fun j hj => by omega, FB.rf σ⟩
  · intro i hi ih τ hinv
    have hm := (bits_len _ ho.1).1
    refine v_iload_n dX5_begins_2 rfl ?_
    refine v_aload_n dX5_begins_3 rfl ?_
    refine v_get (j := 13) iO40 rfl dX5_begins_4 (by decide) in_X5_begins_X5 fl_X5_begins_186 rfl ?_
    refine v_top (hinv.2.om hc).1 ?_
    refine n_icmp_ge (tgt := 28) dX5_begins_7 (by decide) (by omega) (by omega) (fun c7 => absurd c7 (by omega)) (fun c7 => ?_)
    refine v_aload_n dX5_begins_10 rfl ?_
    refine v_get (j := 19) iO40 rfl dX5_begins_11 (by decide) in_X5_begins_X5 fl_X5_begins_53 rfl ?_
    refine v_iload_n dX5_begins_14 rfl ?_
    refine v_aload_n dX5_begins_15 rfl ?_
    refine v_get (j := 14) iO40 rfl dX5_begins_16 (by decide) in_X5_begins_X5 fl_X5_begins_41 rfl ?_
    refine v_iload_n dX5_begins_19 rfl ?_
    refine v_ialdN i iI51 dX5_begins_20 rfl (by omega) (by decide) ?_
    refine v_top ((hinv.2.om hc).2.2.2.2 _ hi) ?_
    refine v_iastN i iI55 dX5_begins_21 rfl (by omega) (by decide) ?_
    refine n_iinc (n := 1) (L' := [(1, _), (0, _)]) dX5_begins_22 rfl (by decide) rfl ?_
    refine v_goto (tgt := 2) dX5_begins_25 (by decide) ?_
    refine v_sub [1, 0] rfl ?_
    exact ih _ ⟨rwI_s hinv.1, hinv.2.up _ _⟩
  · intro τ hinv
    have hm := (bits_len _ ho.1).1
    refine v_iload_n dX5_begins_2 rfl ?_
    refine v_aload_n dX5_begins_3 rfl ?_
    refine v_get (j := 13) iO40 rfl dX5_begins_4 (by decide) in_X5_begins_X5 fl_X5_begins_186 rfl ?_
    refine v_top (hinv.2.om hc).1 ?_
    refine n_icmp_ge (tgt := 28) dX5_begins_7 (by decide) (by omega) (by omega) (fun c7 => ?_) (fun c7 => absurd c7 (by omega))
    exact v_vret rfl dX5_begins_28 ⟨rfl, hinv⟩
