theorem in_X5_orders_X5 : ∀ w ∈ u_ws RX5 TX5 29, w ∈ mWs M_X5_orders := by decide +kernel
theorem in_X5_takes_X5 : ∀ w ∈ u_ws RX5 TX5 29, w ∈ mWs M_X5_takes := by decide +kernel
theorem fl_X5_orders_192 : Cond.fieldLink (mOwn M_X5_orders) 192 (TX5 21).1 (TX5 21).2.1 (TX5 21).2.2.1 ∈ mWs M_X5_orders := by decide +kernel
theorem fl_X5_orders_195 : Cond.fieldLink (mOwn M_X5_orders) 195 (TX5 22).1 (TX5 22).2.1 (TX5 22).2.2.1 ∈ mWs M_X5_orders := by decide +kernel
theorem fl_X5_takes_53 : Cond.fieldLink (mOwn M_X5_takes) 53 (TX5 19).1 (TX5 19).2.1 (TX5 19).2.2.1 ∈ mWs M_X5_takes := by decide +kernel
theorem fl_X5_takes_56 : Cond.fieldLink (mOwn M_X5_takes) 56 (TX5 20).1 (TX5 20).2.1 (TX5 20).2.2.1 ∈ mWs M_X5_takes := by decide +kernel
theorem fl_X5_takes_59 : Cond.fieldLink (mOwn M_X5_takes) 59 (TX5 23).1 (TX5 23).2.1 (TX5 23).2.2.1 ∈ mWs M_X5_takes := by decide +kernel
theorem fl_X5_takes_186 : Cond.fieldLink (mOwn M_X5_takes) 186 (TX5 13).1 (TX5 13).2.1 (TX5 13).2.2.1 ∈ mWs M_X5_takes := by decide +kernel
theorem fl_X5_takes_192 : Cond.fieldLink (mOwn M_X5_takes) 192 (TX5 21).1 (TX5 21).2.1 (TX5 21).2.2.1 ∈ mWs M_X5_takes := by decide +kernel
theorem fl_X5_takes_195 : Cond.fieldLink (mOwn M_X5_takes) 195 (TX5 22).1 (TX5 22).2.1 (TX5 22).2.2.1 ∈ mWs M_X5_takes := by decide +kernel
theorem nn_X5_begins : (mY M_X5_begins).cls = mOwn M_X5_begins ∧ (mY M_X5_begins).cls ≠ "java/lang/invoke/MethodHandle" ∧ (mY M_X5_begins).cls ≠ "java/lang/invoke/VarHandle" ∧ (parseMethodDescriptor (mY M_X5_begins).desc).map (fun d => d.parameters.length) = some 0 := by decide +kernel
theorem nn_X5_follows : (mY M_X5_follows).cls = mOwn M_X5_follows ∧ (mY M_X5_follows).cls ≠ "java/lang/invoke/MethodHandle" ∧ (mY M_X5_follows).cls ≠ "java/lang/invoke/VarHandle" ∧ (parseMethodDescriptor (mY M_X5_follows).desc).map (fun d => d.parameters.length) = some 0 := by decide +kernel
theorem nn_X5_gaps : (mY M_X5_gaps).cls = mOwn M_X5_gaps ∧ (mY M_X5_gaps).cls ≠ "java/lang/invoke/MethodHandle" ∧ (mY M_X5_gaps).cls ≠ "java/lang/invoke/VarHandle" ∧ (parseMethodDescriptor (mY M_X5_gaps).desc).map (fun d => d.parameters.length) = some 0 := by decide +kernel
theorem nn_X5_mayBe : (mY M_X5_mayBe).cls = mOwn M_X5_mayBe ∧ (mY M_X5_mayBe).cls ≠ "java/lang/invoke/MethodHandle" ∧ (mY M_X5_mayBe).cls ≠ "java/lang/invoke/VarHandle" ∧ (parseMethodDescriptor (mY M_X5_mayBe).desc).map (fun d => d.parameters.length) = some 0 := by decide +kernel
theorem nn_X5_takes : (mY M_X5_takes).cls = mOwn M_X5_takes ∧ (mY M_X5_takes).cls ≠ "java/lang/invoke/MethodHandle" ∧ (mY M_X5_takes).cls ≠ "java/lang/invoke/VarHandle" ∧ (parseMethodDescriptor (mY M_X5_takes).desc).map (fun d => d.parameters.length) = some 1 := by decide +kernel
def dnp (l : List Nat) (q i : Nat) : Nat := om (fun j => if ofL l j = q then mkA l j else 0) i
def dnL (l : List Nat) (q : Nat) : Nat := dnp l q l.length
def sae (acc : List (List Nat)) (q : Nat) : Nat := acc.foldl (fun x l => x ||| dnL l q) 0
def bR (m : Nat) (l : List Nat) (p : Nat) : Nat := if p < m then ofL l p else 0
def bgI (o : OD) : List (List Nat) → Int32
  | [] => -1
  | x :: _ => nI (wt o 0 x)
def BM (o : OD) (acc : List (List Nat)) (σ : SS) : Prop := σ.1 40 21 = nI acc.length ∧ σ.1 40 22 = bgI o acc ∧ (acc ≠ [] → (∀ p, p < 6 → σ.1 56 p = nI (bR (bits (oP o)).length (acc.headD []) p)) ∧ ∀ q, q < 6 → σ.1 57 q = nI (sae acc q)) ∧ ∀ l, l ∈ acc → good o l
def FK (σ τ : SS) : Prop := (∀ a, a ≠ 40 → a ≠ 56 → a ≠ 57 → τ.1 a = σ.1 a) ∧ (∀ j, j ≠ 21 → j ≠ 22 → τ.1 40 j = σ.1 40 j) ∧ τ.2 = σ.2
theorem FK.rf (σ : SS) : FK σ σ := ⟨fun _ _ _ _ => rfl, fun _ _ _ => rfl, rfl⟩
theorem FK.om {o : OD} {σ τ : SS} (f : FK σ τ) (h : OM o σ) : OM o τ := h.of (f.2.1 13 (by decide) (by decide)) (f.2.1 15 (by decide) (by decide)) (f.1 51 (by decide) (by decide) (by decide)) (f.1 52 (by decide) (by decide) (by decide)) (f.1 53 (by decide) (by decide) (by decide)) (f.1 54 (by decide) (by decide) (by decide))
theorem FK.rw {l : List Nat} {σ τ : SS} (f : FK σ τ) (h : RW l σ) : RW l τ := fun i hi => by rw [f.1 55 (by decide) (by decide) (by decide)]; exact h i hi
def tA (o : OD) (l : List Nat) (σ : SS) (p : Nat) (τ : SS) : Prop := τ.1 40 21 = nI 0 ∧ τ.1 40 22 = nI (wt o 0 l) ∧ (∀ j, j < p → τ.1 57 j = nI 0 ∧ τ.1 56 j = nI (bR l.length l j)) ∧ FK σ τ
theorem tA_0 {o : OD} {l : List Nat} (σ : SS) : tA o l σ 0 (sI (sI σ 40 22 (nI (wt o 0 l))) 40 21 (nI 0)) := ⟨sI_at _ _ _ _, by rw [sI_ne _ _ (Or.inr (by decide)), sI_at], fun j hj => by omega, fun a h1 _ _ => by rw [sI_row _ _ h1, sI_row _ _ h1], fun j h1 h2 => by rw [sI_ne _ _ (Or.inr h1), sI_ne _ _ (Or.inr h2)], rfl⟩
theorem tA_s {o : OD} {l : List Nat} {σ τ : SS} {p x : Nat} (h : tA o l σ p τ) (hx : x = bR l.length l p) : tA o l σ (p + 1) (sI (sI τ 57 p (nI 0)) 56 p (nI x)) := by
  refine ⟨h.1, h.2.1, fun j hj => ?_, fun a h1 h2 h3 => ?_, h.2.2.2.2.1, h.2.2.2.2.2⟩
  · by_cases c : j = p
    · subst c
      exact ⟨by rw [sI_ne _ _ (Or.inl (by decide)), sI_at], by rw [sI_at, hx]⟩
    · rw [sI_ne _ _ (Or.inl (by decide)), sI_ne _ _ (Or.inr c), sI_ne _ _ (Or.inr c), sI_ne _ _ (Or.inl (by decide))]
      exact h.2.2.1 j (by omega)
  · rw [sI_row _ _ h2, sI_row _ _ h3]; exact h.2.2.2.1 a h1 h2 h3
def tB (l : List Nat) (n : Nat) (bs : Nat → Nat) (σ : SS) (i : Nat) (τ : SS) : Prop := τ.1 40 21 = nI (n + 1) ∧ (∀ q, q < 6 → τ.1 57 q = nI (bs q ||| dnp l q i)) ∧ (∀ a, a ≠ 40 → a ≠ 57 → τ.1 a = σ.1 a) ∧ (∀ j, j ≠ 21 → τ.1 40 j = σ.1 40 j) ∧ τ.2 = σ.2
theorem tB_0 {l : List Nat} {n : Nat} {bs : Nat → Nat} {σ : SS} (h : ∀ q, q < 6 → σ.1 57 q = nI (bs q)) : tB l n bs σ 0 (sI σ 40 21 (nI (n + 1))) := ⟨sI_at _ _ _ _, fun q hq => by rw [sI_ne _ _ (Or.inl (by decide)), h q hq]; show nI _ = nI (bs q ||| 0); rw [Nat.or_zero], fun a h1 _ => by rw [sI_row _ _ h1], fun j h1 => by rw [sI_ne _ _ (Or.inr h1)], rfl⟩
theorem tB_s {l : List Nat} {n i : Nat} {bs : Nat → Nat} {σ τ : SS} (h : tB l n bs σ i τ) : tB l n bs σ (i + 1) (sI τ 57 (ofL l i) (nI (bs (ofL l i) ||| dnp l (ofL l i) i ||| mkA l i))) := by
  refine ⟨h.1, fun q hq => ?_, fun a h1 h2 => ?_, h.2.2.2.1, h.2.2.2.2⟩
  · have e : dnp l q (i + 1) = dnp l q i ||| (if ofL l i = q then mkA l i else 0) := rfl
    by_cases c : q = ofL l i
    · subst c; rw [sI_at, e, if_pos rfl, Nat.or_assoc]
    · rw [sI_ne _ _ (Or.inr c), h.2.1 q hq, e, if_neg (Ne.symm c), Nat.or_zero]
  · rw [sI_row _ _ h2]; exact h.2.2.1 a h1 h2
theorem tB_fk {l : List Nat} {n i : Nat} {bs : Nat → Nat} {σ τ υ : SS} (f : FK σ τ) (h : tB l n bs τ i υ) : FK σ υ := ⟨fun a h1 h2 h3 => (h.2.2.1 a h1 h3).trans (f.1 a h1 h2 h3), fun j h1 h2 => (h.2.2.2.1 j h1).trans (f.2.1 j h1 h2), h.2.2.2.2.trans f.2.2⟩
theorem BM_one {o : OD} (ho : OV o) {l : List Nat} (hg : good o l) {σ τ υ : SS} (h : tA o l σ 6 τ) (g : tB l 0 (fun _ => 0) τ l.length υ) : BM o [l] υ ∧ FK σ υ := by
  refine ⟨⟨g.1, ?_, fun _ => ⟨fun p hp => ?_, fun q hq => ?_⟩, fun x hx => by rw [List.mem_singleton.mp hx]; exact hg⟩, tB_fk h.2.2.2 g⟩
  · rw [g.2.2.2.1 22 (by decide), h.2.1]; rfl
  · rw [g.2.2.1 56 (by decide) (by decide), (h.2.2.1 p hp).2, (hg.len ho).1]; rfl
  · exact g.2.1 q hq
theorem BM_more {o : OD} {l x : List Nat} {t : List (List Nat)} (hg : good o l) {σ υ : SS} (h : BM o (x :: t) σ) (g : tB l (x :: t).length (sae (x :: t)) σ l.length υ) : BM o (x :: t ++ [l]) υ ∧ FK σ υ := by
  refine ⟨⟨?_, ?_, fun _ => ⟨fun p hp => ?_, fun q hq => ?_⟩, fun y hy => ?_⟩, tB_fk (FK.rf σ) g⟩
  · rw [g.1, List.length_append]; rfl
  · rw [g.2.2.2.1 22 (by decide), h.2.1]; rfl
  · rw [g.2.2.1 56 (by decide) (by decide), (h.2.2.1 (by simp)).1 p hp]; rfl
  · rw [g.2.1 q hq, sae, sae, List.foldl_append]; rfl
  · rcases List.mem_append.mp hy with hy | hy
    · exact h.2.2.2 y hy
    · rw [List.mem_singleton.mp hy]; exact hg
theorem good.w {o : OD} (ho : OV o) {l : List Nat} (h : good o l) : wt o 0 l ≤ 864 := by
  have := wt_le ho l 0
  have := (h.len ho).2
  omega
set_option maxRecDepth 100000 in
set_option maxHeartbeats 4000000 in
theorem s_X5_takes {v : EE} {o : OD} {σ : SS} (ho : OV o) (hc : OM o σ) {l : List Nat} (hg : good o l) (hR : RW l σ) {acc : List (List Nat)} (hb : BM o acc σ) : SR v M_X5_takes [.ref (v.1 40), .int (nI (wt o 0 l))] σ none (fun σ' => BM o (mg (wt o 0) acc [l]) σ' ∧ FK σ σ') := by
  refine Sp.of rfl (by decide) rfl (Nat.le_of_ble_eq_true rfl) ?_
  show V v M_X5_takes _ 0 [(0, .ref (v.1 40)), (1, .int (nI (wt o 0 l)))] [] σ
  rcases acc with _ | ⟨x, t⟩
  · refine v_aload_n dX5_takes_0 rfl ?_
    refine v_get (j := 22) iO40 rfl dX5_takes_1 (by decide) in_X5_takes_X5 fl_X5_takes_195 rfl ?_
    refine v_top (y := -1) (hb.2.1.trans (rfl : bgI o [] = -1)) ?_
    refine v_if_lt (tgt := 16) dX5_takes_4 (by decide) (fun c4 => ?_) (fun c4 => absurd (by decide) c4)
    refine v_aload_n dX5_takes_16 rfl ?_
    refine v_get (j := 22) iO40 rfl dX5_takes_17 (by decide) in_X5_takes_X5 fl_X5_takes_195 rfl ?_
    refine v_top (y := -1) (hb.2.1.trans (rfl : bgI o [] = -1)) ?_
    refine v_if_lt (tgt := 31) dX5_takes_20 (by decide) (fun c20 => ?_) (fun c20 => absurd (by decide) c20)
    refine v_aload_n dX5_takes_31 rfl ?_
    refine v_iload_n dX5_takes_32 rfl ?_
    refine pX5_22 dX5_takes_33 in_X5_takes_X5 fl_X5_takes_195 ?_
    refine v_aload_n dX5_takes_36 rfl ?_
    refine v_iconst (x := nI 0) dX5_takes_37 (by decide +kernel) ?_
    refine pX5_21 dX5_takes_38 in_X5_takes_X5 fl_X5_takes_192 ?_
    refine v_iconst (x := nI 0) dX5_takes_41 (by decide +kernel) ?_
    refine v_istore_n (L' := [(2, _), (0, _), (1, _)]) dX5_takes_42 rfl (by decide) rfl ?_
    refine v_sub [1, 0] rfl ?_
    refine loopN (fun p => ∀ τ : SS, tA o l σ p τ → V v M_X5_takes (zR v M_X5_takes (fun r' σ' => r' = none ∧ (BM o (mg (wt o 0) [] [l]) σ' ∧ FK σ σ'))) 43 [(0, .ref (v.1 40)), (2, .int (nI p))] [] τ) 6 ?_ ?_ _ (tA_0 σ)
    · intro p hi ih τ hinv
      have hm := (hg.len ho).2
      refine v_iload_n dX5_takes_43 rfl ?_
      refine v_bipush (x := nI 6) dX5_takes_44 (by decide +kernel) ?_
      refine n_icmp_ge (tgt := 86) dX5_takes_46 (by decide) (by omega) (by omega) (fun c46 => absurd c46 (by omega)) (fun c46 => ?_)
      refine v_aload_n dX5_takes_49 rfl ?_
      refine v_get (j := 23) iO40 rfl dX5_takes_50 (by decide) in_X5_takes_X5 fl_X5_takes_59 rfl ?_
      refine v_iload_n dX5_takes_53 rfl ?_
      refine v_iconst (x := nI 0) dX5_takes_54 (by decide +kernel) ?_
      refine v_iastN p iI57 dX5_takes_55 rfl (by omega) (by decide) ?_
      refine v_aload_n dX5_takes_56 rfl ?_
      refine v_get (j := 20) iO40 rfl dX5_takes_57 (by decide) in_X5_takes_X5 fl_X5_takes_56 rfl ?_
      refine v_iload_n dX5_takes_60 rfl ?_
      refine v_iload_n dX5_takes_61 rfl ?_
      refine v_aload_n dX5_takes_62 rfl ?_
      refine v_get (j := 13) iO40 rfl dX5_takes_63 (by decide) in_X5_takes_X5 fl_X5_takes_186 rfl ?_
      refine v_top ((hinv.2.2.2.om hc).1.trans (by rw [← (hg.len ho).1])) ?_
      refine n_icmp_ge (tgt := 78) dX5_takes_66 (by decide) (by omega) (by omega) (fun c66 => ?_) (fun c66 => ?_)
      · refine v_iconst (x := nI 0) dX5_takes_78 (by decide +kernel) ?_
        refine v_iastN p iI56 dX5_takes_79 rfl (by omega) (by decide) ?_
        refine n_iinc (n := 1) (L' := [(2, _), (0, _)]) dX5_takes_80 rfl (by decide) rfl ?_
        refine v_goto (tgt := 43) dX5_takes_83 (by decide) ?_
        refine v_sub [1, 0] rfl ?_
        first | exact ih _ (tA_s hinv (if_pos c66).symm) | exact ih _ (tA_s hinv (if_neg (by omega)).symm)
      · refine v_aload_n dX5_takes_69 rfl ?_
        refine v_get (j := 19) iO40 rfl dX5_takes_70 (by decide) in_X5_takes_X5 fl_X5_takes_53 rfl ?_
        refine v_iload_n dX5_takes_73 rfl ?_
        refine v_ialdN p iI55 dX5_takes_74 rfl (by omega) (by decide) ?_
        refine v_top ((by rw [sI_row _ _ (by decide)]; exact hinv.2.2.2.rw hR _ c66 : (sI _ 57 _ _).1 55 p = nI (ofL l p))) ?_
        refine v_goto (tgt := 79) dX5_takes_75 (by decide) ?_
        refine v_iastN p iI56 dX5_takes_79 rfl (by omega) (by decide) ?_
        refine n_iinc (n := 1) (L' := [(2, _), (0, _)]) dX5_takes_80 rfl (by decide) rfl ?_
        refine v_goto (tgt := 43) dX5_takes_83 (by decide) ?_
        refine v_sub [1, 0] rfl ?_
        first | exact ih _ (tA_s hinv (if_pos c66).symm) | exact ih _ (tA_s hinv (if_neg (by omega)).symm)
    · intro τ hinv
      have hA := hinv
      refine v_iload_n dX5_takes_43 rfl ?_
      refine v_bipush (x := nI 6) dX5_takes_44 (by decide +kernel) ?_
      refine n_icmp_ge (tgt := 86) dX5_takes_46 (by decide) (by omega) (by omega) (fun c46 => ?_) (fun c46 => absurd c46 (by omega))
      refine v_aload_n dX5_takes_86 rfl ?_
      refine v_dup dX5_takes_87 rfl ?_
      refine v_get (j := 21) iO40 rfl dX5_takes_88 (by decide) in_X5_takes_X5 fl_X5_takes_192 rfl ?_
      refine v_top hA.1 ?_
      refine v_iconst (x := nI 1) dX5_takes_91 (by decide +kernel) ?_
      refine n_iadd dX5_takes_92 ?_
      refine pX5_21 dX5_takes_93 in_X5_takes_X5 fl_X5_takes_192 ?_
      refine v_iconst (x := nI 0) dX5_takes_96 (by decide +kernel) ?_
      refine v_istore_n (L' := [(2, _), (0, _)]) dX5_takes_97 rfl (by decide) rfl ?_
      refine v_iconst (x := nI 0) dX5_takes_98 (by decide +kernel) ?_
      refine v_istore_n (L' := [(3, _), (2, _), (0, _)]) dX5_takes_99 rfl (by decide) rfl ?_
      refine v_sub [2, 1, 0] rfl ?_
      refine loopN (fun i => ∀ υ : SS, tB l 0 (fun _ => 0) τ i υ → V v M_X5_takes (zR v M_X5_takes (fun r' σ' => r' = none ∧ (BM o (mg (wt o 0) [] [l]) σ' ∧ FK σ σ'))) 100 [(0, .ref (v.1 40)), (2, .int (nI (mkA l i))), (3, .int (nI i))] [] υ) l.length ?_ ?_ _ (tB_0 (fun q hq => (hA.2.2.1 q hq).1))
      · intro i hi ih υ hinv
        have h6 := hg.el ho hi
        have hm := (hg.len ho).2
        refine v_iload_n dX5_takes_100 rfl ?_
        refine v_aload_n dX5_takes_101 rfl ?_
        refine v_get (j := 13) iO40 rfl dX5_takes_102 (by decide) in_X5_takes_X5 fl_X5_takes_186 rfl ?_
        refine v_top ((((tB_fk hA.2.2.2 hinv)).om hc).1.trans (by rw [← (hg.len ho).1])) ?_
        refine n_icmp_ge (tgt := 140) dX5_takes_105 (by decide) (by omega) (by omega) (fun c105 => absurd c105 (by omega)) (fun c105 => ?_)
        refine v_aload_n dX5_takes_108 rfl ?_
        refine v_get (j := 23) iO40 rfl dX5_takes_109 (by decide) in_X5_takes_X5 fl_X5_takes_59 rfl ?_
        refine v_aload_n dX5_takes_112 rfl ?_
        refine v_get (j := 19) iO40 rfl dX5_takes_113 (by decide) in_X5_takes_X5 fl_X5_takes_53 rfl ?_
        refine v_iload_n dX5_takes_116 rfl ?_
        refine v_ialdN i iI55 dX5_takes_117 rfl (by omega) (by decide) ?_
        refine v_top ((tB_fk hA.2.2.2 hinv).rw hR _ hi) ?_
        refine v_dup2 dX5_takes_118 rfl rfl ?_
        refine v_ialdN (ofL l i) iI57 dX5_takes_119 rfl h6 (by decide) ?_
        refine v_top (hinv.2.1 _ h6) ?_
        refine v_iload_n dX5_takes_120 rfl ?_
        refine n_ior dX5_takes_121 ?_
        refine v_iastN (ofL l i) iI57 dX5_takes_122 rfl h6 (by decide) ?_
        refine v_iload_n dX5_takes_123 rfl ?_
        refine v_iconst (x := nI 1) dX5_takes_124 (by decide +kernel) ?_
        refine v_aload_n dX5_takes_125 rfl ?_
        refine v_get (j := 19) iO40 rfl dX5_takes_126 (by decide) in_X5_takes_X5 fl_X5_takes_53 rfl ?_
        refine v_iload_n dX5_takes_129 rfl ?_
        refine v_ialdN i iI55 dX5_takes_130 rfl (by omega) (by decide) ?_
        refine v_top ((by rw [sI_row _ _ (by decide)]; exact (tB_fk hA.2.2.2 hinv).rw hR _ hi : (sI _ 57 _ _).1 55 i = nI (ofL l i))) ?_
        refine n_shl1 dX5_takes_131 (by omega) ?_
        refine n_ior dX5_takes_132 ?_
        refine v_istore_n (L' := [(2, _), (0, _), (3, _)]) dX5_takes_133 rfl (by decide) rfl ?_
        refine n_iinc (n := 1) (L' := [(3, _), (2, _), (0, _)]) dX5_takes_134 rfl (by decide) rfl ?_
        refine v_goto (tgt := 100) dX5_takes_137 (by decide) ?_
        refine v_sub [2, 1, 0] rfl ?_
        exact ih _ (tB_s hinv)
      · intro υ hinv
        have hm := (hg.len ho).2
        refine v_iload_n dX5_takes_100 rfl ?_
        refine v_aload_n dX5_takes_101 rfl ?_
        refine v_get (j := 13) iO40 rfl dX5_takes_102 (by decide) in_X5_takes_X5 fl_X5_takes_186 rfl ?_
        refine v_top ((((tB_fk hA.2.2.2 hinv)).om hc).1.trans (by rw [← (hg.len ho).1])) ?_
        refine n_icmp_ge (tgt := 140) dX5_takes_105 (by decide) (by omega) (by omega) (fun c105 => ?_) (fun c105 => absurd c105 (by omega))
        exact v_vret rfl dX5_takes_140 ⟨rfl, by rw [nil_mg]; exact BM_one ho hg hA hinv⟩
  · have hx := (hb.2.2.2 x List.mem_cons_self).w ho
    have hw9 := hg.w ho
    refine v_aload_n dX5_takes_0 rfl ?_
    refine v_get (j := 22) iO40 rfl dX5_takes_1 (by decide) in_X5_takes_X5 fl_X5_takes_195 rfl ?_
    refine v_top (y := nI (wt o 0 x)) (hb.2.1.trans (rfl : bgI o (x :: t) = nI (wt o 0 x))) ?_
    refine n_if_lt (tgt := 16) dX5_takes_4 (by decide) (by omega) ?_
    refine v_iload_n dX5_takes_7 rfl ?_
    refine v_aload_n dX5_takes_8 rfl ?_
    refine v_get (j := 22) iO40 rfl dX5_takes_9 (by decide) in_X5_takes_X5 fl_X5_takes_195 rfl ?_
    refine v_top (y := nI (wt o 0 x)) (hb.2.1.trans (rfl : bgI o (x :: t) = nI (wt o 0 x))) ?_
    refine n_icmp_le (tgt := 16) dX5_takes_12 (by decide) (by omega) (by omega) (fun c12 => ?_) (fun c12 => ?_)
    · refine v_aload_n dX5_takes_16 rfl ?_
      refine v_get (j := 22) iO40 rfl dX5_takes_17 (by decide) in_X5_takes_X5 fl_X5_takes_195 rfl ?_
      refine v_top (y := nI (wt o 0 x)) (hb.2.1.trans (rfl : bgI o (x :: t) = nI (wt o 0 x))) ?_
      refine n_if_lt (tgt := 31) dX5_takes_20 (by decide) (by omega) ?_
      refine v_iload_n dX5_takes_23 rfl ?_
      refine v_aload_n dX5_takes_24 rfl ?_
      refine v_get (j := 22) iO40 rfl dX5_takes_25 (by decide) in_X5_takes_X5 fl_X5_takes_195 rfl ?_
      refine v_top (y := nI (wt o 0 x)) (hb.2.1.trans (rfl : bgI o (x :: t) = nI (wt o 0 x))) ?_
      refine n_icmp_ge (tgt := 86) dX5_takes_28 (by decide) (by omega) (by omega) (fun c28 => ?_) (fun c28 => ?_)
      · refine v_aload_n dX5_takes_86 rfl ?_
        refine v_dup dX5_takes_87 rfl ?_
        refine v_get (j := 21) iO40 rfl dX5_takes_88 (by decide) in_X5_takes_X5 fl_X5_takes_192 rfl ?_
        refine v_top hb.1 ?_
        refine v_iconst (x := nI 1) dX5_takes_91 (by decide +kernel) ?_
        refine n_iadd dX5_takes_92 ?_
        refine pX5_21 dX5_takes_93 in_X5_takes_X5 fl_X5_takes_192 ?_
        refine v_iconst (x := nI 0) dX5_takes_96 (by decide +kernel) ?_
        refine v_istore_n (L' := [(2, _), (0, _), (1, _)]) dX5_takes_97 rfl (by decide) rfl ?_
        refine v_iconst (x := nI 0) dX5_takes_98 (by decide +kernel) ?_
        refine v_istore_n (L' := [(3, _), (2, _), (0, _), (1, _)]) dX5_takes_99 rfl (by decide) rfl ?_
        refine v_sub [2, 1, 0] rfl ?_
        refine loopN (fun i => ∀ υ : SS, tB l (x :: t).length (sae (x :: t)) σ i υ → V v M_X5_takes (zR v M_X5_takes (fun r' σ' => r' = none ∧ (BM o (mg (wt o 0) (x :: t) [l]) σ' ∧ FK σ σ'))) 100 [(0, .ref (v.1 40)), (2, .int (nI (mkA l i))), (3, .int (nI i))] [] υ) l.length ?_ ?_ _ (tB_0 (hb.2.2.1 (by simp)).2)
        · intro i hi ih υ hinv
          have h6 := hg.el ho hi
          have hm := (hg.len ho).2
          refine v_iload_n dX5_takes_100 rfl ?_
          refine v_aload_n dX5_takes_101 rfl ?_
          refine v_get (j := 13) iO40 rfl dX5_takes_102 (by decide) in_X5_takes_X5 fl_X5_takes_186 rfl ?_
          refine v_top ((((tB_fk (FK.rf σ) hinv)).om hc).1.trans (by rw [← (hg.len ho).1])) ?_
          refine n_icmp_ge (tgt := 140) dX5_takes_105 (by decide) (by omega) (by omega) (fun c105 => absurd c105 (by omega)) (fun c105 => ?_)
          refine v_aload_n dX5_takes_108 rfl ?_
          refine v_get (j := 23) iO40 rfl dX5_takes_109 (by decide) in_X5_takes_X5 fl_X5_takes_59 rfl ?_
          refine v_aload_n dX5_takes_112 rfl ?_
          refine v_get (j := 19) iO40 rfl dX5_takes_113 (by decide) in_X5_takes_X5 fl_X5_takes_53 rfl ?_
          refine v_iload_n dX5_takes_116 rfl ?_
          refine v_ialdN i iI55 dX5_takes_117 rfl (by omega) (by decide) ?_
          refine v_top ((tB_fk (FK.rf σ) hinv).rw hR _ hi) ?_
          refine v_dup2 dX5_takes_118 rfl rfl ?_
          refine v_ialdN (ofL l i) iI57 dX5_takes_119 rfl h6 (by decide) ?_
          refine v_top (hinv.2.1 _ h6) ?_
          refine v_iload_n dX5_takes_120 rfl ?_
          refine n_ior dX5_takes_121 ?_
          refine v_iastN (ofL l i) iI57 dX5_takes_122 rfl h6 (by decide) ?_
          refine v_iload_n dX5_takes_123 rfl ?_
          refine v_iconst (x := nI 1) dX5_takes_124 (by decide +kernel) ?_
          refine v_aload_n dX5_takes_125 rfl ?_
          refine v_get (j := 19) iO40 rfl dX5_takes_126 (by decide) in_X5_takes_X5 fl_X5_takes_53 rfl ?_
          refine v_iload_n dX5_takes_129 rfl ?_
          refine v_ialdN i iI55 dX5_takes_130 rfl (by omega) (by decide) ?_
          refine v_top ((by rw [sI_row _ _ (by decide)]; exact (tB_fk (FK.rf σ) hinv).rw hR _ hi : (sI _ 57 _ _).1 55 i = nI (ofL l i))) ?_
          refine n_shl1 dX5_takes_131 (by omega) ?_
          refine n_ior dX5_takes_132 ?_
          refine v_istore_n (L' := [(2, _), (0, _), (3, _)]) dX5_takes_133 rfl (by decide) rfl ?_
          refine n_iinc (n := 1) (L' := [(3, _), (2, _), (0, _)]) dX5_takes_134 rfl (by decide) rfl ?_
          refine v_goto (tgt := 100) dX5_takes_137 (by decide) ?_
          refine v_sub [2, 1, 0] rfl ?_
          exact ih _ (tB_s hinv)
        · intro υ hinv
          have hm := (hg.len ho).2
          refine v_iload_n dX5_takes_100 rfl ?_
          refine v_aload_n dX5_takes_101 rfl ?_
          refine v_get (j := 13) iO40 rfl dX5_takes_102 (by decide) in_X5_takes_X5 fl_X5_takes_186 rfl ?_
          refine v_top ((((tB_fk (FK.rf σ) hinv)).om hc).1.trans (by rw [← (hg.len ho).1])) ?_
          refine n_icmp_ge (tgt := 140) dX5_takes_105 (by decide) (by omega) (by omega) (fun c105 => ?_) (fun c105 => absurd c105 (by omega))
          exact v_vret rfl dX5_takes_140 ⟨rfl, by rw [mg, if_neg (by omega), if_neg (by omega)]; exact BM_more hg hb hinv⟩
      · refine v_aload_n dX5_takes_31 rfl ?_
        refine v_iload_n dX5_takes_32 rfl ?_
        refine pX5_22 dX5_takes_33 in_X5_takes_X5 fl_X5_takes_195 ?_
        refine v_aload_n dX5_takes_36 rfl ?_
        refine v_iconst (x := nI 0) dX5_takes_37 (by decide +kernel) ?_
        refine pX5_21 dX5_takes_38 in_X5_takes_X5 fl_X5_takes_192 ?_
        refine v_iconst (x := nI 0) dX5_takes_41 (by decide +kernel) ?_
        refine v_istore_n (L' := [(2, _), (0, _), (1, _)]) dX5_takes_42 rfl (by decide) rfl ?_
        refine v_sub [1, 0] rfl ?_
        refine loopN (fun p => ∀ τ : SS, tA o l σ p τ → V v M_X5_takes (zR v M_X5_takes (fun r' σ' => r' = none ∧ (BM o (mg (wt o 0) (x :: t) [l]) σ' ∧ FK σ σ'))) 43 [(0, .ref (v.1 40)), (2, .int (nI p))] [] τ) 6 ?_ ?_ _ (tA_0 σ)
        · intro p hi ih τ hinv
          have hm := (hg.len ho).2
          refine v_iload_n dX5_takes_43 rfl ?_
          refine v_bipush (x := nI 6) dX5_takes_44 (by decide +kernel) ?_
          refine n_icmp_ge (tgt := 86) dX5_takes_46 (by decide) (by omega) (by omega) (fun c46 => absurd c46 (by omega)) (fun c46 => ?_)
          refine v_aload_n dX5_takes_49 rfl ?_
          refine v_get (j := 23) iO40 rfl dX5_takes_50 (by decide) in_X5_takes_X5 fl_X5_takes_59 rfl ?_
          refine v_iload_n dX5_takes_53 rfl ?_
          refine v_iconst (x := nI 0) dX5_takes_54 (by decide +kernel) ?_
          refine v_iastN p iI57 dX5_takes_55 rfl (by omega) (by decide) ?_
          refine v_aload_n dX5_takes_56 rfl ?_
          refine v_get (j := 20) iO40 rfl dX5_takes_57 (by decide) in_X5_takes_X5 fl_X5_takes_56 rfl ?_
          refine v_iload_n dX5_takes_60 rfl ?_
          refine v_iload_n dX5_takes_61 rfl ?_
          refine v_aload_n dX5_takes_62 rfl ?_
          refine v_get (j := 13) iO40 rfl dX5_takes_63 (by decide) in_X5_takes_X5 fl_X5_takes_186 rfl ?_
          refine v_top ((hinv.2.2.2.om hc).1.trans (by rw [← (hg.len ho).1])) ?_
          refine n_icmp_ge (tgt := 78) dX5_takes_66 (by decide) (by omega) (by omega) (fun c66 => ?_) (fun c66 => ?_)
          · refine v_iconst (x := nI 0) dX5_takes_78 (by decide +kernel) ?_
            refine v_iastN p iI56 dX5_takes_79 rfl (by omega) (by decide) ?_
            refine n_iinc (n := 1) (L' := [(2, _), (0, _)]) dX5_takes_80 rfl (by decide) rfl ?_
            refine v_goto (tgt := 43) dX5_takes_83 (by decide) ?_
            refine v_sub [1, 0] rfl ?_
            first | exact ih _ (tA_s hinv (if_pos c66).symm) | exact ih _ (tA_s hinv (if_neg (by omega)).symm)
          · refine v_aload_n dX5_takes_69 rfl ?_
            refine v_get (j := 19) iO40 rfl dX5_takes_70 (by decide) in_X5_takes_X5 fl_X5_takes_53 rfl ?_
            refine v_iload_n dX5_takes_73 rfl ?_
            refine v_ialdN p iI55 dX5_takes_74 rfl (by omega) (by decide) ?_
            refine v_top ((by rw [sI_row _ _ (by decide)]; exact hinv.2.2.2.rw hR _ c66 : (sI _ 57 _ _).1 55 p = nI (ofL l p))) ?_
            refine v_goto (tgt := 79) dX5_takes_75 (by decide) ?_
            refine v_iastN p iI56 dX5_takes_79 rfl (by omega) (by decide) ?_
            refine n_iinc (n := 1) (L' := [(2, _), (0, _)]) dX5_takes_80 rfl (by decide) rfl ?_
            refine v_goto (tgt := 43) dX5_takes_83 (by decide) ?_
            refine v_sub [1, 0] rfl ?_
            first | exact ih _ (tA_s hinv (if_pos c66).symm) | exact ih _ (tA_s hinv (if_neg (by omega)).symm)
        · intro τ hinv
          have hA := hinv
          refine v_iload_n dX5_takes_43 rfl ?_
          refine v_bipush (x := nI 6) dX5_takes_44 (by decide +kernel) ?_
          refine n_icmp_ge (tgt := 86) dX5_takes_46 (by decide) (by omega) (by omega) (fun c46 => ?_) (fun c46 => absurd c46 (by omega))
          refine v_aload_n dX5_takes_86 rfl ?_
          refine v_dup dX5_takes_87 rfl ?_
          refine v_get (j := 21) iO40 rfl dX5_takes_88 (by decide) in_X5_takes_X5 fl_X5_takes_192 rfl ?_
          refine v_top hA.1 ?_
          refine v_iconst (x := nI 1) dX5_takes_91 (by decide +kernel) ?_
          refine n_iadd dX5_takes_92 ?_
          refine pX5_21 dX5_takes_93 in_X5_takes_X5 fl_X5_takes_192 ?_
          refine v_iconst (x := nI 0) dX5_takes_96 (by decide +kernel) ?_
          refine v_istore_n (L' := [(2, _), (0, _)]) dX5_takes_97 rfl (by decide) rfl ?_
          refine v_iconst (x := nI 0) dX5_takes_98 (by decide +kernel) ?_
          refine v_istore_n (L' := [(3, _), (2, _), (0, _)]) dX5_takes_99 rfl (by decide) rfl ?_
          refine v_sub [2, 1, 0] rfl ?_
          refine loopN (fun i => ∀ υ : SS, tB l 0 (fun _ => 0) τ i υ → V v M_X5_takes (zR v M_X5_takes (fun r' σ' => r' = none ∧ (BM o (mg (wt o 0) (x :: t) [l]) σ' ∧ FK σ σ'))) 100 [(0, .ref (v.1 40)), (2, .int (nI (mkA l i))), (3, .int (nI i))] [] υ) l.length ?_ ?_ _ (tB_0 (fun q hq => (hA.2.2.1 q hq).1))
          · intro i hi ih υ hinv
            have h6 := hg.el ho hi
            have hm := (hg.len ho).2
            refine v_iload_n dX5_takes_100 rfl ?_
            refine v_aload_n dX5_takes_101 rfl ?_
            refine v_get (j := 13) iO40 rfl dX5_takes_102 (by decide) in_X5_takes_X5 fl_X5_takes_186 rfl ?_
            refine v_top ((((tB_fk hA.2.2.2 hinv)).om hc).1.trans (by rw [← (hg.len ho).1])) ?_
            refine n_icmp_ge (tgt := 140) dX5_takes_105 (by decide) (by omega) (by omega) (fun c105 => absurd c105 (by omega)) (fun c105 => ?_)
            refine v_aload_n dX5_takes_108 rfl ?_
            refine v_get (j := 23) iO40 rfl dX5_takes_109 (by decide) in_X5_takes_X5 fl_X5_takes_59 rfl ?_
            refine v_aload_n dX5_takes_112 rfl ?_
            refine v_get (j := 19) iO40 rfl dX5_takes_113 (by decide) in_X5_takes_X5 fl_X5_takes_53 rfl ?_
            refine v_iload_n dX5_takes_116 rfl ?_
            refine v_ialdN i iI55 dX5_takes_117 rfl (by omega) (by decide) ?_
            refine v_top ((tB_fk hA.2.2.2 hinv).rw hR _ hi) ?_
            refine v_dup2 dX5_takes_118 rfl rfl ?_
            refine v_ialdN (ofL l i) iI57 dX5_takes_119 rfl h6 (by decide) ?_
            refine v_top (hinv.2.1 _ h6) ?_
            refine v_iload_n dX5_takes_120 rfl ?_
            refine n_ior dX5_takes_121 ?_
            refine v_iastN (ofL l i) iI57 dX5_takes_122 rfl h6 (by decide) ?_
            refine v_iload_n dX5_takes_123 rfl ?_
            refine v_iconst (x := nI 1) dX5_takes_124 (by decide +kernel) ?_
            refine v_aload_n dX5_takes_125 rfl ?_
            refine v_get (j := 19) iO40 rfl dX5_takes_126 (by decide) in_X5_takes_X5 fl_X5_takes_53 rfl ?_
            refine v_iload_n dX5_takes_129 rfl ?_
            refine v_ialdN i iI55 dX5_takes_130 rfl (by omega) (by decide) ?_
            refine v_top ((by rw [sI_row _ _ (by decide)]; exact (tB_fk hA.2.2.2 hinv).rw hR _ hi : (sI _ 57 _ _).1 55 i = nI (ofL l i))) ?_
            refine n_shl1 dX5_takes_131 (by omega) ?_
            refine n_ior dX5_takes_132 ?_
            refine v_istore_n (L' := [(2, _), (0, _), (3, _)]) dX5_takes_133 rfl (by decide) rfl ?_
            refine n_iinc (n := 1) (L' := [(3, _), (2, _), (0, _)]) dX5_takes_134 rfl (by decide) rfl ?_
            refine v_goto (tgt := 100) dX5_takes_137 (by decide) ?_
            refine v_sub [2, 1, 0] rfl ?_
            exact ih _ (tB_s hinv)
          · intro υ hinv
            have hm := (hg.len ho).2
            refine v_iload_n dX5_takes_100 rfl ?_
            refine v_aload_n dX5_takes_101 rfl ?_
            refine v_get (j := 13) iO40 rfl dX5_takes_102 (by decide) in_X5_takes_X5 fl_X5_takes_186 rfl ?_
            refine v_top ((((tB_fk hA.2.2.2 hinv)).om hc).1.trans (by rw [← (hg.len ho).1])) ?_
            refine n_icmp_ge (tgt := 140) dX5_takes_105 (by decide) (by omega) (by omega) (fun c105 => ?_) (fun c105 => absurd c105 (by omega))
            exact v_vret rfl dX5_takes_140 ⟨rfl, by rw [mg, if_neg (by omega), if_pos c28]; exact BM_one ho hg hA hinv⟩
    · exact v_vret rfl dX5_takes_15 ⟨rfl, by rw [mg, if_pos c12]; exact ⟨hb, FK.rf σ⟩⟩
def FQ (σ τ : SS) : Prop := (∀ a, a ≠ 40 → a ≠ 55 → a ≠ 56 → a ≠ 57 → τ.1 a = σ.1 a) ∧ (∀ j, j ≠ 21 → j ≠ 22 → τ.1 40 j = σ.1 40 j) ∧ τ.2 = σ.2
theorem FQ.rf (σ : SS) : FQ σ σ := ⟨fun _ _ _ _ _ => rfl, fun _ _ _ => rfl, rfl⟩
theorem FQ.tr {σ τ υ : SS} (h : FQ σ τ) (g : FQ τ υ) : FQ σ υ := ⟨fun a h1 h2 h3 h4 => (g.1 a h1 h2 h3 h4).trans (h.1 a h1 h2 h3 h4), fun j h1 h2 => (g.2.1 j h1 h2).trans (h.2.1 j h1 h2), g.2.2.trans h.2.2⟩
theorem FK.fq {σ τ : SS} (h : FK σ τ) : FQ σ τ := ⟨fun a h1 _ h3 h4 => h.1 a h1 h3 h4, h.2⟩
theorem FB.fq {σ τ : SS} (h : FB σ τ) : FQ σ τ := ⟨fun a _ h2 _ _ => h.1 a h2, fun j _ _ => by rw [h.1 40 (by decide)], h.2⟩
theorem FQ.om {o : OD} {σ τ : SS} (f : FQ σ τ) (h : OM o σ) : OM o τ := h.of (f.2.1 13 (by decide) (by decide)) (f.2.1 15 (by decide) (by decide)) (f.1 51 (by decide) (by decide) (by decide) (by decide)) (f.1 52 (by decide) (by decide) (by decide) (by decide)) (f.1 53 (by decide) (by decide) (by decide) (by decide)) (f.1 54 (by decide) (by decide) (by decide) (by decide))
theorem FB.bm {o : OD} {acc : List (List Nat)} {σ τ : SS} (f : FB σ τ) (h : BM o acc σ) : BM o acc τ := by
  rw [BM, f.1 40 (by decide), f.1 56 (by decide), f.1 57 (by decide)]; exact h
def lg (o : OD) (i : Nat) : List Nat := (pr (oP o) 64 0).getD i []
def ba (o : OD) (i : Nat) : List (List Nat) := bestf (wt o 0) (((pr (oP o) 64 0).take i).filter (vl o 0))
theorem lg_good {o : OD} {i : Nat} (hi : i < (pr (oP o) 64 0).length) : good o (lg o i) := by
  have : lg o i = (pr (oP o) 64 0)[i] := by simp [lg, hi]
  rw [good, this]; exact List.getElem_mem hi
theorem ba_s {o : OD} {i : Nat} (hi : i < (pr (oP o) 64 0).length) : ba o (i + 1) = if vl o 0 (lg o i) then mg (wt o 0) (ba o i) [lg o i] else ba o i := by
  have e : lg o i = (pr (oP o) 64 0)[i] := by simp [lg, hi]
  rw [ba, List.take_succ_eq_append_getElem hi, List.filter_append, bestf_app, ← e]
  by_cases c : vl o 0 (lg o i) = true
  · rw [if_pos c, List.filter_cons_of_pos c]; rfl
  · rw [if_neg c, List.filter_cons_of_neg c, List.filter_nil]; exact mg_nil _ _
theorem chain_next : ∀ {L : List (List Nat)}, chain L = true → ∀ i, i + 1 < L.length → nextL (L.getD i []) = some (L.getD (i + 1) [])
  | [], h, i, hi => by cases h
  | [l], h, i, hi => by simp at hi
  | l :: l' :: t, h, i, hi => by
    rw [chain, Bool.and_eq_true] at h
    cases i with
    | zero => exact eq_of_beq h.1
    | succ i => exact chain_next h.2 i (by simpa using hi)
theorem chain_last : ∀ {L : List (List Nat)}, chain L = true → 0 < L.length ∧ nextL (L.getD (L.length - 1) []) = none
  | [], h => by cases h
  | [l], h => by rw [chain] at h; exact ⟨by simp, by simpa using h⟩
  | l :: l' :: t, h => by
    rw [chain, Bool.and_eq_true] at h
    have := chain_last h.2
    refine ⟨by simp, ?_⟩
    have e : (l :: l' :: t).length - 1 = ((l' :: t).length - 1) + 1 := by simp
    rw [e]
    exact this.2
def oIv (o : OD) (σ : SS) (i : Nat) (τ : SS) : Prop := RW (lg o i) τ ∧ BM o (ba o i) τ ∧ FQ σ τ
theorem nxt_lg {o : OD} (ho : OV o) {i : Nat} (hi : i + 1 < (pr (oP o) 64 0).length) : ∃ r', nxt (ofL (lg o i)) (lg o i).length = some r' ∧ toL r' (lg o i).length = lg o (i + 1) := by
  have h := chain_next (chain_all _ ho.1).1 i hi
  rw [← lg, ← lg, nextL] at h
  cases e : nxt (ofL (lg o i)) (lg o i).length with
  | none => rw [e] at h; cases h
  | some r' => rw [e] at h; exact ⟨r', rfl, by injection h⟩
theorem nxt_last {o : OD} (ho : OV o) : nxt (ofL (lg o ((pr (oP o) 64 0).length - 1))) (lg o ((pr (oP o) 64 0).length - 1)).length = none := by
  have h := (chain_last (chain_all _ ho.1).1).2
  rw [← lg, nextL] at h
  cases e : nxt (ofL (lg o ((pr (oP o) 64 0).length - 1))) (lg o ((pr (oP o) 64 0).length - 1)).length with
  | none => rfl
  | some r' => rw [e] at h; cases h
theorem rw_toL {r : Nat → Nat} {m : Nat} {τ : SS} (h : RWf m r τ) {l : List Nat} (e : toL r m = l) : RW l τ := by
  subst e
  rw [RW, toL_len]
  intro i hi
  rw [h i hi, agr_toL r m i hi]
theorem pr_pos {o : OD} (ho : OV o) : 0 < (pr (oP o) 64 0).length := (chain_last (chain_all _ ho.1).1).1
theorem lg_0 {o : OD} (ho : OV o) : lg o 0 = bits (oP o) := by
  have h := (chain_all _ ho.1).2.1
  rw [lg]
  cases e : pr (oP o) 64 0 with
  | nil => rw [e] at h; cases h
  | cons x t => rw [e] at h; injection h
theorem BM_0 {o : OD} (σ : SS) : BM o [] (sI (sI σ 40 21 (nI 0)) 40 22 (-1)) := ⟨by rw [sI_ne _ _ (Or.inr (by decide)), sI_at]; rfl, sI_at _ _ _ _, fun h => absurd rfl h, fun l h => by cases h⟩
theorem FQ_0 (σ : SS) : FQ σ (sI (sI σ 40 21 (nI 0)) 40 22 (-1)) := ⟨fun a h1 _ _ _ => by rw [sI_row _ _ h1, sI_row _ _ h1], fun j h1 h2 => by rw [sI_ne _ _ (Or.inr h2), sI_ne _ _ (Or.inr h1)], rfl⟩
theorem FK.bmrw {l : List Nat} {σ τ : SS} (f : FK σ τ) (h : RW l σ) : RW l τ := f.rw h
theorem ba_end {o : OD} : ba o (pr (oP o) 64 0).length = TL o 0 := by rw [ba, List.take_length]; exact bestf_TL o
set_option maxRecDepth 100000 in
set_option maxHeartbeats 4000000 in
theorem s_X5_orders {v : EE} {o : OD} {σ : SS} (ho : OV o) (hc : OM o σ) : SR v M_X5_orders [.ref (v.1 40)] σ none (fun σ' => BM o (TL o 0) σ' ∧ FQ σ σ') := by
  refine Sp.of rfl (by decide) rfl (Nat.le_of_ble_eq_true rfl) ?_
  show V v M_X5_orders _ 0 [(0, .ref (v.1 40))] [] σ
  refine v_aload_n dX5_orders_0 rfl ?_
  refine v_iconst (x := nI 0) dX5_orders_1 (by decide +kernel) ?_
  refine pX5_21 dX5_orders_2 in_X5_orders_X5 fl_X5_orders_192 ?_
  refine v_aload_n dX5_orders_5 rfl ?_
  refine v_iconst (x := (-1)) dX5_orders_6 rfl ?_
  refine pX5_22 dX5_orders_7 in_X5_orders_X5 fl_X5_orders_195 ?_
  refine v_aload_n dX5_orders_10 rfl ?_
  refine v_callVRv (M' := M_X5_begins) (As := []) iO40 (s_X5_begins ho ((FQ_0 σ).om hc)) dX5_orders_11 gX5_orders_X5_begins rfl rfl nn_X5_begins ⟨rfl, rfl⟩ ⟨by decide, by decide⟩ rfl rfl (Nat.le_of_ble_eq_true rfl) (fun s0 h0 => ?_)
  refine v_iconst (x := 1) dX5_orders_14 rfl ?_
  refine v_istore_n (L' := [(1, _), (0, _)]) dX5_orders_15 rfl (by decide) rfl ?_
  refine v_sub [1, 0] rfl ?_
  refine loopN (fun i => ∀ τ : SS, oIv o σ i τ → V v M_X5_orders (zR v M_X5_orders (fun r' σ' => r' = none ∧ (BM o (TL o 0) σ' ∧ FQ σ σ'))) 16 [(0, .ref (v.1 40)), (1, .int 1)] [] τ) ((pr (oP o) 64 0).length - 1) ?_ ?_ _ ⟨by rw [lg_0 ho]; exact h0.1, h0.2.bm (BM_0 σ), (FQ_0 σ).tr h0.2.fq⟩
  · intro i hi ih τ hinv
    obtain ⟨r1, hr1, hr2⟩ := nxt_lg ho (i := i) (by omega)
    have hg := lg_good (o := o) (i := i) (by have := pr_pos ho; omega)
    have hs := ba_s (o := o) (i := i) (by have := pr_pos ho; omega)
    refine v_iload_n dX5_orders_16 rfl ?_
    refine v_if_eq (tgt := 43) dX5_orders_17 (by decide) (fun c17 => absurd c17 (by decide)) (fun c17 => ?_)
    refine v_aload_n dX5_orders_20 rfl ?_
    refine v_callVi (M' := M_X5_mayBe) (As := []) iO40 (s_X5_mayBe ho (hinv.2.2.om hc) hg hinv.1) dX5_orders_21 gX5_orders_X5_mayBe rfl rfl nn_X5_mayBe ⟨rfl, rfl⟩ ⟨by decide, by decide⟩ rfl rfl (Nat.le_of_ble_eq_true rfl) ?_
    refine b_if_eq (tgt := 35) dX5_orders_24 (by decide) (fun c24 => ?_) (fun c24 => ?_)
    · rw [if_neg (by rw [c24]; decide)] at hs
      have hrw := hinv.1
      have hfq := hinv.2.2
      have hbm := hinv.2.1
      refine v_aload_n dX5_orders_35 rfl ?_
      refine v_callVRi (M' := M_X5_follows) (As := []) iO40 (s_X5_follows (r := ofL (lg o i)) (m := (lg o i).length) ((hfq.om hc).1.trans (by rw [← (hg.len ho).1])) (hg.len ho).2 hrw (fun j hj => by have := hg.el ho hj; omega)) dX5_orders_36 gX5_orders_X5_follows rfl rfl nn_X5_follows ⟨rfl, rfl⟩ ⟨by decide, by decide⟩ rfl rfl (Nat.le_of_ble_eq_true rfl) (fun s2 h2 => ?_)
      refine v_top (y := 1) (by rw [hr1]; rfl) ?_
      refine v_istore_n (L' := [(1, _), (0, _)]) dX5_orders_39 rfl (by decide) rfl ?_
      refine v_goto (tgt := 16) dX5_orders_40 (by decide) ?_
      refine v_sub [1, 0] rfl ?_
      exact ih _ ⟨rw_toL (h2.1 r1 hr1) hr2, by rw [hs]; exact h2.2.2.bm hbm, hfq.tr h2.2.2.fq⟩
    · refine v_aload_n dX5_orders_27 rfl ?_
      refine v_aload_n dX5_orders_28 rfl ?_
      refine v_callVi (M' := M_X5_gaps) (As := []) iO40 (s_X5_gaps ho (hinv.2.2.om hc) hg hinv.1) dX5_orders_29 gX5_orders_X5_gaps rfl rfl nn_X5_gaps ⟨rfl, rfl⟩ ⟨by decide, by decide⟩ rfl rfl (Nat.le_of_ble_eq_true rfl) ?_
      refine v_callVRv (M' := M_X5_takes) (As := [_]) iO40 (s_X5_takes ho (hinv.2.2.om hc) hg hinv.1 hinv.2.1) dX5_orders_32 gX5_orders_X5_takes rfl rfl nn_X5_takes ⟨rfl, rfl⟩ ⟨by decide, by decide⟩ rfl rfl (Nat.le_of_ble_eq_true rfl) (fun s1 h1 => ?_)
      rw [if_pos c24] at hs
      have hrw := h1.2.rw hinv.1
      have hfq := hinv.2.2.tr h1.2.fq
      have hbm := h1.1
      refine v_aload_n dX5_orders_35 rfl ?_
      refine v_callVRi (M' := M_X5_follows) (As := []) iO40 (s_X5_follows (r := ofL (lg o i)) (m := (lg o i).length) ((hfq.om hc).1.trans (by rw [← (hg.len ho).1])) (hg.len ho).2 hrw (fun j hj => by have := hg.el ho hj; omega)) dX5_orders_36 gX5_orders_X5_follows rfl rfl nn_X5_follows ⟨rfl, rfl⟩ ⟨by decide, by decide⟩ rfl rfl (Nat.le_of_ble_eq_true rfl) (fun s2 h2 => ?_)
      refine v_top (y := 1) (by rw [hr1]; rfl) ?_
      refine v_istore_n (L' := [(1, _), (0, _)]) dX5_orders_39 rfl (by decide) rfl ?_
      refine v_goto (tgt := 16) dX5_orders_40 (by decide) ?_
      refine v_sub [1, 0] rfl ?_
      exact ih _ ⟨rw_toL (h2.1 r1 hr1) hr2, by rw [hs]; exact h2.2.2.bm hbm, hfq.tr h2.2.2.fq⟩
  · intro τ hinv
    have hg := lg_good (o := o) (i := ((pr (oP o) 64 0).length - 1)) (by have := pr_pos ho; omega)
    have hs := ba_s (o := o) (i := ((pr (oP o) 64 0).length - 1)) (by have := pr_pos ho; omega)
    refine v_iload_n dX5_orders_16 rfl ?_
    refine v_if_eq (tgt := 43) dX5_orders_17 (by decide) (fun c17 => absurd c17 (by decide)) (fun c17 => ?_)
    refine v_aload_n dX5_orders_20 rfl ?_
    refine v_callVi (M' := M_X5_mayBe) (As := []) iO40 (s_X5_mayBe ho (hinv.2.2.om hc) hg hinv.1) dX5_orders_21 gX5_orders_X5_mayBe rfl rfl nn_X5_mayBe ⟨rfl, rfl⟩ ⟨by decide, by decide⟩ rfl rfl (Nat.le_of_ble_eq_true rfl) ?_
    refine b_if_eq (tgt := 35) dX5_orders_24 (by decide) (fun c24 => ?_) (fun c24 => ?_)
    · rw [if_neg (by rw [c24]; decide)] at hs
      have hrw := hinv.1
      have hfq := hinv.2.2
      have hbm := hinv.2.1
      refine v_aload_n dX5_orders_35 rfl ?_
      refine v_callVRi (M' := M_X5_follows) (As := []) iO40 (s_X5_follows (r := ofL (lg o ((pr (oP o) 64 0).length - 1))) (m := (lg o ((pr (oP o) 64 0).length - 1)).length) ((hfq.om hc).1.trans (by rw [← (hg.len ho).1])) (hg.len ho).2 hrw (fun j hj => by have := hg.el ho hj; omega)) dX5_orders_36 gX5_orders_X5_follows rfl rfl nn_X5_follows ⟨rfl, rfl⟩ ⟨by decide, by decide⟩ rfl rfl (Nat.le_of_ble_eq_true rfl) (fun s2 h2 => ?_)
      refine v_top (y := 0) (by rw [nxt_last ho]; rfl) ?_
      refine v_istore_n (L' := [(1, _), (0, _)]) dX5_orders_39 rfl (by decide) rfl ?_
      refine v_goto (tgt := 16) dX5_orders_40 (by decide) ?_
      refine v_iload_n dX5_orders_16 rfl ?_
      refine v_if_eq (tgt := 43) dX5_orders_17 (by decide) (fun c17 => ?_) (fun c17 => absurd rfl c17)
      exact v_vret rfl dX5_orders_43 ⟨rfl, by rw [← ba_end, show (pr (oP o) 64 0).length = ((pr (oP o) 64 0).length - 1) + 1 by have := pr_pos ho; omega, hs]; exact h2.2.2.bm hbm, hfq.tr h2.2.2.fq⟩
    · refine v_aload_n dX5_orders_27 rfl ?_
      refine v_aload_n dX5_orders_28 rfl ?_
      refine v_callVi (M' := M_X5_gaps) (As := []) iO40 (s_X5_gaps ho (hinv.2.2.om hc) hg hinv.1) dX5_orders_29 gX5_orders_X5_gaps rfl rfl nn_X5_gaps ⟨rfl, rfl⟩ ⟨by decide, by decide⟩ rfl rfl (Nat.le_of_ble_eq_true rfl) ?_
      refine v_callVRv (M' := M_X5_takes) (As := [_]) iO40 (s_X5_takes ho (hinv.2.2.om hc) hg hinv.1 hinv.2.1) dX5_orders_32 gX5_orders_X5_takes rfl rfl nn_X5_takes ⟨rfl, rfl⟩ ⟨by decide, by decide⟩ rfl rfl (Nat.le_of_ble_eq_true rfl) (fun s1 h1 => ?_)
      rw [if_pos c24] at hs
      have hrw := h1.2.rw hinv.1
      have hfq := hinv.2.2.tr h1.2.fq
      have hbm := h1.1
      refine v_aload_n dX5_orders_35 rfl ?_
      refine v_callVRi (M' := M_X5_follows) (As := []) iO40 (s_X5_follows (r := ofL (lg o ((pr (oP o) 64 0).length - 1))) (m := (lg o ((pr (oP o) 64 0).length - 1)).length) ((hfq.om hc).1.trans (by rw [← (hg.len ho).1])) (hg.len ho).2 hrw (fun j hj => by have := hg.el ho hj; omega)) dX5_orders_36 gX5_orders_X5_follows rfl rfl nn_X5_follows ⟨rfl, rfl⟩ ⟨by decide, by decide⟩ rfl rfl (Nat.le_of_ble_eq_true rfl) (fun s2 h2 => ?_)
      refine v_top (y := 0) (by rw [nxt_last ho]; rfl) ?_
      refine v_istore_n (L' := [(1, _), (0, _)]) dX5_orders_39 rfl (by decide) rfl ?_
      refine v_goto (tgt := 16) dX5_orders_40 (by decide) ?_
      refine v_iload_n dX5_orders_16 rfl ?_
      refine v_if_eq (tgt := 43) dX5_orders_17 (by decide) (fun c17 => ?_) (fun c17 => absurd rfl c17)
      exact v_vret rfl dX5_orders_43 ⟨rfl, by rw [← ba_end, show (pr (oP o) 64 0).length = ((pr (oP o) 64 0).length - 1) + 1 by have := pr_pos ho; omega, hs]; exact h2.2.2.bm hbm, hfq.tr h2.2.2.fq⟩
