theorem in_X5_sure_X5 : ∀ w ∈ u_ws RX5 TX5 29, w ∈ mWs M_X5_sure := by decide +kernel
theorem fl_X5_sure_59 : Cond.fieldLink (mOwn M_X5_sure) 59 (TX5 23).1 (TX5 23).2.1 (TX5 23).2.2.1 ∈ mWs M_X5_sure := by decide +kernel
theorem fl_X5_sure_192 : Cond.fieldLink (mOwn M_X5_sure) 192 (TX5 21).1 (TX5 21).2.1 (TX5 21).2.2.1 ∈ mWs M_X5_sure := by decide +kernel
theorem pr_nodup {P : Nat} (hP : P < 64) : ∀ {l : List Nat} {n A : Nat}, l ∈ pr P n A → (∀ x, A.testBit x = true → P.testBit x = true) → l.Nodup
  | [], _, _, _, _ => List.nodup_nil
  | y :: l, n, A, h, hA => by
    rcases pr_cons h with ⟨e, _⟩ | ⟨m, j, l', _, e, hj, h1, h2, h3, _⟩
    · cases e
    · cases e
      have hA' : ∀ x, (A ||| 2 ^ y).testBit x = true → P.testBit x = true := fun x hx => by
        rw [tb_or2] at hx
        by_cases e : y = x
        · rw [← e]; exact h1
        · simp [e] at hx; exact hA x hx
      refine List.nodup_cons.mpr ⟨fun q => ?_, pr_nodup hP h3 hA'⟩
      have := ((pr_mem hP h3 hA' y).mp q).2
      rw [tb_or2] at this
      simp at this
theorem tb0 : ∀ x, (0 : Nat).testBit x = true → False := fun x h => by rw [Nat.zero_testBit] at h; cases h
theorem good.nd {o : OD} (ho : OV o) {l : List Nat} (h : good o l) : l.Nodup := pr_nodup ho.1 h (fun x hx => (tb0 x hx).elim)
theorem good.mem {o : OD} (ho : OV o) {l : List Nat} (h : good o l) (x : Nat) : x ∈ l ↔ (oP o).testBit x = true := by
  rw [pr_mem ho.1 h (fun x hx => (tb0 x hx).elim) x, Nat.zero_testBit]; simp
theorem ofL_inj {l : List Nat} (h : l.Nodup) {i j : Nat} (hi : i < l.length) (hj : j < l.length) (e : ofL l i = ofL l j) : i = j := by
  have e1 : ofL l i = l[i] := by simp [ofL, hi]
  have e2 : ofL l j = l[j] := by simp [ofL, hj]
  rw [e1, e2] at e
  exact (List.getElem?_inj hi h).mp ((by rw [List.getElem?_eq_getElem hi, List.getElem?_eq_getElem hj, e]))
theorem mem_ofL {l : List Nat} {x : Nat} (h : x ∈ l) : ∃ i, i < l.length ∧ ofL l i = x := by
  obtain ⟨i, hi, e⟩ := List.getElem_of_mem h
  exact ⟨i, hi, by simp [ofL, hi, e]⟩
theorem mkA_bit {l : List Nat} {i x : Nat} : (mkA l i).testBit x = true ↔ ∃ j, j < i ∧ ofL l j = x := by
  rw [mkA, om_bit]
  constructor
  · rintro ⟨j, h1, h2⟩; rw [tb_pow, decide_eq_true_eq] at h2; exact ⟨j, h1, h2⟩
  · rintro ⟨j, h1, h2⟩; exact ⟨j, h1, by rw [tb_pow, decide_eq_true_eq]; exact h2⟩
theorem dn_bit {l : List Nat} {p q : Nat} : (dnL l q).testBit p = true ↔ ∃ j, j < l.length ∧ ofL l j = q ∧ ∃ i, i < j ∧ ofL l i = p := by
  rw [dnL, dnp, om_bit]
  constructor
  · rintro ⟨j, h1, h2⟩
    by_cases c : ofL l j = q
    · rw [if_pos c] at h2; exact ⟨j, h1, c, mkA_bit.mp h2⟩
    · rw [if_neg c] at h2; exact (tb0 _ h2).elim
  · rintro ⟨j, h1, h2, h3⟩
    exact ⟨j, h1, by rw [if_pos h2]; exact mkA_bit.mpr h3⟩
theorem bef_iff {p q : Nat} (hpq : p ≠ q) : ∀ {l : List Nat}, bef p q l = true ↔ ∃ i, i < l.length ∧ ofL l i = p ∧ ∀ j, j ≤ i → ofL l j ≠ q
  | [] => by simp [bef]
  | x :: l => by
    have e0 : ofL (x :: l) 0 = x := rfl
    have es : ∀ i, ofL (x :: l) (i + 1) = ofL l i := fun i => by simp [ofL]
    rw [bef]
    by_cases c : x = q
    · rw [if_pos c]
      constructor
      · intro h; cases h
      · rintro ⟨i, _, _, h⟩; exact absurd (e0.trans c) (h 0 (by omega))
    · rw [if_neg c]
      by_cases d : x = p
      · rw [if_pos d]
        exact ⟨fun _ => ⟨0, by simp, d, fun j hj => by rw [show j = 0 by omega, e0]; exact c⟩, fun _ => rfl⟩
      · rw [if_neg d, bef_iff hpq]
        constructor
        · rintro ⟨i, h1, h2, h3⟩
          refine ⟨i + 1, by simp; omega, by rw [es]; exact h2, fun j hj => ?_⟩
          cases j with
          | zero => rw [e0]; exact c
          | succ j => rw [es]; exact h3 j (by omega)
        · rintro ⟨i, h1, h2, h3⟩
          cases i with
          | zero => exact absurd h2 d
          | succ i => exact ⟨i, by simp at h1; omega, by rw [← es]; exact h2, fun j hj => by rw [← es]; exact h3 (j + 1) (by omega)⟩
theorem dn_bef {o : OD} (ho : OV o) {l : List Nat} (h : good o l) {p q : Nat} (hpq : p ≠ q) (hq : (oP o).testBit q = true) : (dnL l q).testBit p = bef p q l := by
  apply Bool.eq_iff_iff.mpr
  rw [dn_bit, bef_iff hpq]
  constructor
  · rintro ⟨j, h1, h2, i, h3, h4⟩
    refine ⟨i, by omega, h4, fun k hk e => ?_⟩
    have := ofL_inj (h.nd ho) (show k < l.length by omega) h1 (e.trans h2.symm)
    omega
  · rintro ⟨i, h1, h2, h3⟩
    obtain ⟨j, hj, e⟩ := mem_ofL ((h.mem ho q).mpr hq)
    refine ⟨j, hj, e, i, ?_, h2⟩
    rcases Nat.lt_or_ge i j with c | c
    · exact c
    · exact absurd e (h3 j c)
theorem bef_not {p q : Nat} (hpq : p ≠ q) : ∀ {l : List Nat}, p ∈ l → q ∈ l → bef q p l = !bef p q l
  | [], h, _ => by cases h
  | x :: l, hp, hq => by
    rw [bef, bef]
    by_cases c : x = q
    · rw [if_pos c, if_neg (fun e => hpq (e.symm.trans c)), if_pos c]; rfl
    · rw [if_neg c]
      by_cases d : x = p
      · rw [if_pos d, if_pos d, if_neg c]; rfl
      · rw [if_neg d, if_neg d, if_neg c]
        exact bef_not hpq ((List.mem_cons.mp hp).resolve_left (fun e => d e.symm)) ((List.mem_cons.mp hq).resolve_left (fun e => c e.symm))
theorem sae_bit {acc : List (List Nat)} {p q : Nat} : (sae acc q).testBit p = true ↔ ∃ l, l ∈ acc ∧ (dnL l q).testBit p = true := by
  have key : ∀ (acc : List (List Nat)) (x : Nat), (acc.foldl (fun x l => x ||| dnL l q) x).testBit p = true ↔ x.testBit p = true ∨ ∃ l, l ∈ acc ∧ (dnL l q).testBit p = true := by
    intro acc
    induction acc with
    | nil => intro x; simp
    | cons y t ih =>
      intro x
      rw [List.foldl_cons, ih, Nat.testBit_or, Bool.or_eq_true]
      constructor
      · rintro ((h | h) | ⟨l, h1, h2⟩)
        · exact Or.inl h
        · exact Or.inr ⟨y, List.mem_cons_self, h⟩
        · exact Or.inr ⟨l, List.mem_cons_of_mem _ h1, h2⟩
      · rintro (h | ⟨l, h1, h2⟩)
        · exact Or.inl (Or.inl h)
        · rcases List.mem_cons.mp h1 with rfl | h1
          · exact Or.inl (Or.inr h2)
          · exact Or.inr ⟨l, h1, h2⟩
  rw [sae, key]
  simp
theorem TL_good {o : OD} (ho : OV o) {l : List Nat} (h : l ∈ TL o 0) : good o l := TL_mem ho.1 (by decide) h
theorem sure_q {o : OD} (ho : OV o) {p q : Nat} (hpq : p ≠ q) (hp : (oP o).testBit p = true) (hq : (oP o).testBit q = true) : ((sae (TL o 0) p).testBit q = false ↔ (TL o 0).countP (bef p q) = (TL o 0).length) ∧ ((sae (TL o 0) q).testBit p = false ↔ (TL o 0).countP (bef p q) = 0) := by
  constructor
  · rw [List.countP_eq_length]
    constructor
    · intro h l hl
      have hg := TL_good ho hl
      have h1 : bef q p l = false := by
        rw [← dn_bef ho hg (Ne.symm hpq) hp]
        cases e : (dnL l p).testBit q with
        | false => rfl
        | true => rw [sae_bit.mpr ⟨l, hl, e⟩] at h; cases h
      rw [bef_not hpq ((hg.mem ho p).mpr hp) ((hg.mem ho q).mpr hq)] at h1
      simpa using h1
    · intro h
      cases e : (sae (TL o 0) p).testBit q with
      | false => rfl
      | true =>
        obtain ⟨l, hl, h2⟩ := sae_bit.mp e
        have hg := TL_good ho hl
        rw [dn_bef ho hg (Ne.symm hpq) hp, bef_not hpq ((hg.mem ho p).mpr hp) ((hg.mem ho q).mpr hq), h l hl] at h2
        cases h2
  · rw [List.countP_eq_zero]
    constructor
    · intro h l hl h2
      have hg := TL_good ho hl
      rw [← dn_bef ho hg hpq hq] at h2
      rw [sae_bit.mpr ⟨l, hl, h2⟩] at h; cases h
    · intro h
      cases e : (sae (TL o 0) q).testBit p with
      | false => rfl
      | true =>
        obtain ⟨l, hl, h2⟩ := sae_bit.mp e
        rw [dn_bef ho (TL_good ho hl) hpq hq] at h2
        exact absurd h2 (h l hl)
theorem sae_lt {o : OD} (ho : OV o) (q : Nat) : sae (TL o 0) q < 64 := by
  apply Nat.lt_pow_two_of_testBit (n := 6)
  intro i hi
  cases e : (sae (TL o 0) q).testBit i with
  | false => rfl
  | true =>
    obtain ⟨l, hl, h2⟩ := sae_bit.mp e
    obtain ⟨j, h1, _, k, h3, h4⟩ := dn_bit.mp h2
    have := (TL_good ho hl).el ho (i := k) (by omega)
    omega
theorem two_tb {w : WD} {p q : Nat} (hp : p < 6) (hq : q < 6) (h : two w (nI p) (nI q) = true) : (pbits w).testBit p = true ∧ (pbits w).testBit q = true := by
  rw [two, Bool.and_eq_true, Bool.and_eq_true, isP, isP, Bool.and_eq_true, Bool.and_eq_true, nI_clamp (by omega), nI_clamp (by omega)] at h
  exact ⟨h.1.1.2, h.1.2.2⟩
set_option maxRecDepth 100000 in
set_option maxHeartbeats 4000000 in
theorem s_X5_sure {v : EE} {s : AS} {z : Nat} {σ : SS} (hr : RM s σ) (hv : WV z (aW s)) (hz : z ≤ 1000000) (P Q : Int32) : SR v M_X5_sure [.ref (v.1 40), .int P, .int Q] σ (some (.int (q_sure (aW s) P Q))) (fun σ' => RM s σ' ∧ FM σ σ') := by
  refine Sp.of rfl (by decide) rfl (Nat.le_of_ble_eq_true rfl) ?_
  show V v M_X5_sure _ 0 [(0, .ref (v.1 40)), (1, .int P), (2, .int Q)] [] σ
  refine v_aload_n dX5_sure_0 rfl ?_
  refine v_iload_n dX5_sure_1 rfl ?_
  refine v_iload_n dX5_sure_2 rfl ?_
  refine v_callVi (M' := M_X5_areTwo) (As := [_, _]) iO40 (s_X5_areTwo hr.2.1 hv _ _) dX5_sure_3 gX5_sure_X5_areTwo rfl rfl nn_X5_areTwo ⟨rfl, rfl⟩ ⟨by decide, by decide⟩ rfl rfl (Nat.le_of_ble_eq_true rfl) ?_
  refine b_if_ne (tgt := 11) dX5_sure_6 (by decide) (fun c6 => ?_) (fun c6 => ?_)
  · have hh := c6
    obtain ⟨p, q, hp, hq, rfl, rfl, hpq⟩ := two_nI hh
    have ht := two_tb hp hq hh
    refine v_aload_n dX5_sure_11 rfl ?_
    refine v_callVRv (M' := M_X5_seeks) (As := []) iO40 (s_X5_seeks hr.2.1 hv hz) dX5_sure_12 gX5_sure_X5_seeks rfl rfl nn_X5_seeks ⟨rfl, rfl⟩ ⟨by decide, by decide⟩ rfl rfl (Nat.le_of_ble_eq_true rfl) (fun s1 h1 => ?_)
    have ho := ov_W hv
    have hb := TL_b ho (A := 0) (by decide)
    have hl := fr_len ho
    have hnB : nB (aW s) = (TL (odW (aW s)) 0).length := rfl
    refine v_aload_n dX5_sure_15 rfl ?_
    refine v_get (j := 21) iO40 rfl dX5_sure_16 (by decide) in_X5_sure_X5 fl_X5_sure_192 rfl ?_
    refine v_top h1.1.n ?_
    refine n_if_ne (tgt := 25) dX5_sure_19 (by decide) (by omega) (fun c19 => ?_) (fun c19 => ?_)
    · have hn := pos_ne (hnB ▸ (Nat.pos_of_ne_zero c19))
      refine v_aload_n dX5_sure_25 rfl ?_
      refine v_get (j := 23) iO40 rfl dX5_sure_26 (by decide) in_X5_sure_X5 fl_X5_sure_59 rfl ?_
      refine v_iload_n dX5_sure_29 rfl ?_
      refine v_ialdN q iI57 dX5_sure_30 rfl hq (by decide) ?_
      refine v_top ((h1.1.2.2.2.1 hn).2 q hq) ?_
      refine v_iload_n dX5_sure_31 rfl ?_
      refine n_ishr dX5_sure_32 (by have := sae_lt ho q; omega) (by omega) ?_
      refine v_iconst (x := nI 1) dX5_sure_33 (by decide +kernel) ?_
      refine n_and1 dX5_sure_34 ?_
      refine v_iconst (x := nI 1) dX5_sure_35 (by decide +kernel) ?_
      refine n_icmp_ne (tgt := 43) dX5_sure_36 (by decide) (by omega) (by omega) (fun c36 => ?_) (fun c36 => ?_)
      · refine v_iconst (x := nI 0) dX5_sure_43 (by decide +kernel) ?_
        refine v_istore_n (L' := [(3, _), (0, _), (1, _), (2, _)]) dX5_sure_44 rfl (by decide) rfl ?_
        refine v_aload_n dX5_sure_45 rfl ?_
        refine v_get (j := 23) iO40 rfl dX5_sure_46 (by decide) in_X5_sure_X5 fl_X5_sure_59 rfl ?_
        refine v_iload_n dX5_sure_49 rfl ?_
        refine v_ialdN p iI57 dX5_sure_50 rfl hp (by decide) ?_
        refine v_top ((h1.1.2.2.2.1 hn).2 p hp) ?_
        refine v_iload_n dX5_sure_51 rfl ?_
        refine n_ishr dX5_sure_52 (by have := sae_lt ho p; omega) (by omega) ?_
        refine v_iconst (x := nI 1) dX5_sure_53 (by decide +kernel) ?_
        refine n_and1 dX5_sure_54 ?_
        refine v_iconst (x := nI 1) dX5_sure_55 (by decide +kernel) ?_
        refine n_icmp_ne (tgt := 63) dX5_sure_56 (by decide) (by omega) (by omega) (fun c56 => ?_) (fun c56 => ?_)
        · refine v_iconst (x := nI 0) dX5_sure_63 (by decide +kernel) ?_
          refine v_istore (L' := [(4, _), (3, _), (0, _), (1, _), (2, _)]) dX5_sure_64 (by decide) rfl ?_
          refine v_iload dX5_sure_66 rfl ?_
          refine v_if_ne (tgt := 75) dX5_sure_68 (by decide) (fun c68 => absurd rfl c68) (fun c68 => ?_)
          refine v_iconst (x := nI 1) dX5_sure_71 (by decide +kernel) ?_
          refine v_goto (tgt := 84) dX5_sure_72 (by decide) ?_
          exact v_iret rfl dX5_sure_84 ⟨congrArg (fun z => some (Value.int z)) (by rw [q_sure, if_pos hh, if_pos (by omega), nI_clamp (by omega), nI_clamp (by omega), cS, nB, if_pos ((sure_q ho hpq ht.1 ht.2).1.mp (by rw [tb_div]; simp; omega))]; rfl), h1.2.rm hr, h1.2.fm⟩
        · refine v_iconst (x := nI 1) dX5_sure_59 (by decide +kernel) ?_
          refine v_goto (tgt := 64) dX5_sure_60 (by decide) ?_
          refine v_istore (L' := [(4, _), (3, _), (0, _), (1, _), (2, _)]) dX5_sure_64 (by decide) rfl ?_
          refine v_iload dX5_sure_66 rfl ?_
          refine v_if_ne (tgt := 75) dX5_sure_68 (by decide) (fun c68 => ?_) (fun c68 => absurd c68 (by decide))
          refine v_iload_n dX5_sure_75 rfl ?_
          refine v_if_ne (tgt := 83) dX5_sure_76 (by decide) (fun c76 => absurd rfl c76) (fun c76 => ?_)
          refine v_iconst (x := nI 2) dX5_sure_79 (by decide +kernel) ?_
          refine v_goto (tgt := 84) dX5_sure_80 (by decide) ?_
          exact v_iret rfl dX5_sure_84 ⟨congrArg (fun z => some (Value.int z)) (by rw [q_sure, if_pos hh, if_pos (by omega), nI_clamp (by omega), nI_clamp (by omega), cS, nB, if_neg (fun h => by have h9 := (sure_q ho hpq ht.1 ht.2).1.mpr h; rw [tb_div] at h9; simp at h9; omega), if_pos ((sure_q ho hpq ht.1 ht.2).2.mp (by rw [tb_div]; simp; omega))]; rfl), h1.2.rm hr, h1.2.fm⟩
      · refine v_iconst (x := nI 1) dX5_sure_39 (by decide +kernel) ?_
        refine v_goto (tgt := 44) dX5_sure_40 (by decide) ?_
        refine v_istore_n (L' := [(3, _), (0, _), (1, _), (2, _)]) dX5_sure_44 rfl (by decide) rfl ?_
        refine v_aload_n dX5_sure_45 rfl ?_
        refine v_get (j := 23) iO40 rfl dX5_sure_46 (by decide) in_X5_sure_X5 fl_X5_sure_59 rfl ?_
        refine v_iload_n dX5_sure_49 rfl ?_
        refine v_ialdN p iI57 dX5_sure_50 rfl hp (by decide) ?_
        refine v_top ((h1.1.2.2.2.1 hn).2 p hp) ?_
        refine v_iload_n dX5_sure_51 rfl ?_
        refine n_ishr dX5_sure_52 (by have := sae_lt ho p; omega) (by omega) ?_
        refine v_iconst (x := nI 1) dX5_sure_53 (by decide +kernel) ?_
        refine n_and1 dX5_sure_54 ?_
        refine v_iconst (x := nI 1) dX5_sure_55 (by decide +kernel) ?_
        refine n_icmp_ne (tgt := 63) dX5_sure_56 (by decide) (by omega) (by omega) (fun c56 => ?_) (fun c56 => ?_)
        · refine v_iconst (x := nI 0) dX5_sure_63 (by decide +kernel) ?_
          refine v_istore (L' := [(4, _), (3, _), (0, _), (1, _), (2, _)]) dX5_sure_64 (by decide) rfl ?_
          refine v_iload dX5_sure_66 rfl ?_
          refine v_if_ne (tgt := 75) dX5_sure_68 (by decide) (fun c68 => absurd rfl c68) (fun c68 => ?_)
          refine v_iconst (x := nI 1) dX5_sure_71 (by decide +kernel) ?_
          refine v_goto (tgt := 84) dX5_sure_72 (by decide) ?_
          exact v_iret rfl dX5_sure_84 ⟨congrArg (fun z => some (Value.int z)) (by rw [q_sure, if_pos hh, if_pos (by omega), nI_clamp (by omega), nI_clamp (by omega), cS, nB, if_pos ((sure_q ho hpq ht.1 ht.2).1.mp (by rw [tb_div]; simp; omega))]; rfl), h1.2.rm hr, h1.2.fm⟩
        · refine v_iconst (x := nI 1) dX5_sure_59 (by decide +kernel) ?_
          refine v_goto (tgt := 64) dX5_sure_60 (by decide) ?_
          refine v_istore (L' := [(4, _), (3, _), (0, _), (1, _), (2, _)]) dX5_sure_64 (by decide) rfl ?_
          refine v_iload dX5_sure_66 rfl ?_
          refine v_if_ne (tgt := 75) dX5_sure_68 (by decide) (fun c68 => ?_) (fun c68 => absurd c68 (by decide))
          refine v_iload_n dX5_sure_75 rfl ?_
          refine v_if_ne (tgt := 83) dX5_sure_76 (by decide) (fun c76 => ?_) (fun c76 => absurd c76 (by decide))
          refine v_iconst (x := nI 0) dX5_sure_83 (by decide +kernel) ?_
          exact v_iret rfl dX5_sure_84 ⟨congrArg (fun z => some (Value.int z)) (by rw [q_sure, if_pos hh, if_pos (by omega), nI_clamp (by omega), nI_clamp (by omega), cS, nB, if_neg (fun h => by have h9 := (sure_q ho hpq ht.1 ht.2).1.mpr h; rw [tb_div] at h9; simp at h9; omega), if_neg (fun h => by have h9 := (sure_q ho hpq ht.1 ht.2).2.mpr h; rw [tb_div] at h9; simp at h9; omega)]; rfl), h1.2.rm hr, h1.2.fm⟩
    · refine v_bipush (x := (-4)) dX5_sure_22 (by decide +kernel) ?_
      exact v_iret rfl dX5_sure_24 ⟨congrArg (fun z => some (Value.int z)) (by rw [q_sure, if_pos hh, if_neg (by omega)]), h1.2.rm hr, h1.2.fm⟩
  · refine v_iconst (x := (-1)) dX5_sure_9 rfl ?_
    exact v_iret rfl dX5_sure_10 ⟨congrArg (fun z => some (Value.int z)) (by rw [q_sure, if_neg (by rw [c6]; decide)]), hr, FM.rf σ⟩
