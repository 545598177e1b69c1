theorem in_X5_follows_X5 : ∀ w ∈ u_ws RX5 TX5 29, w ∈ mWs M_X5_follows := by decide +kernel
theorem fl_X5_follows_53 : Cond.fieldLink (mOwn M_X5_follows) 53 (TX5 19).1 (TX5 19).2.1 (TX5 19).2.2.1 ∈ mWs M_X5_follows := by decide +kernel
theorem fl_X5_follows_186 : Cond.fieldLink (mOwn M_X5_follows) 186 (TX5 13).1 (TX5 13).2.1 (TX5 13).2.2.1 ∈ mWs M_X5_follows := by decide +kernel
def FB (σ τ : SS) : Prop := (∀ a, a ≠ 55 → τ.1 a = σ.1 a) ∧ τ.2 = σ.2
theorem FB.rf (σ : SS) : FB σ σ := ⟨fun _ _ => rfl, rfl⟩
theorem FB.tr {σ τ υ : SS} (h : FB σ τ) (g : FB τ υ) : FB σ υ := ⟨fun a h1 => (g.1 a h1).trans (h.1 a h1), g.2.trans h.2⟩
theorem FB.up {σ τ : SS} (h : FB σ τ) (j : Nat) (x : Int32) : FB σ (sI τ 55 j x) := ⟨fun a ha => (sI_row _ _ ha).trans (h.1 a ha), h.2⟩
def RWf (m : Nat) (r : Nat → Nat) (σ : SS) : Prop := ∀ i, i < m → σ.1 55 i = nI (r i)
theorem RWf.up {m : Nat} {r : Nat → Nat} {σ : SS} (h : RWf m r σ) (j x : Nat) : RWf m (updN r j x) (sI σ 55 j (nI x)) := fun i hi => by
  rw [updN]
  by_cases c : i = j
  · subst c; rw [if_pos rfl, sI_at]
  · rw [if_neg c, sI_ne _ _ (Or.inr c)]; exact h i hi
theorem RWf.swp {m : Nat} {r : Nat → Nat} {σ : SS} (h : RWf m r σ) (a b : Nat) : RWf m (swp r a b) (sI (sI σ 55 a (nI (r b))) 55 b (nI (r a))) := (h.up a (r b)).up b (r a)
theorem scanI_no {r : Nat → Nat} {n : Nat} (h : r (n + 1) < r n) : scanI r (n + 1) = scanI r n := if_pos h
theorem scanI_yes {r : Nat → Nat} {n : Nat} (h : r n ≤ r (n + 1)) : scanI r (n + 1) = some n := if_neg (by omega)
theorem scanJ_no {r : Nat → Nat} {x n : Nat} (h : r (n + 1) < x) : scanJ r x (n + 1) = scanJ r x n := if_pos h
theorem scanJ_yes {r : Nat → Nat} {x n : Nat} (h : x ≤ r n) : scanJ r x n = n := by
  cases n with
  | zero => rfl
  | succ n => exact if_neg (by omega)
theorem nxt_none {r : Nat → Nat} {m : Nat} (h : scanI r (m - 1) = none) : nxt r m = none := by rw [nxt, h]
theorem nxt_some {r : Nat → Nat} {m i : Nat} (h : scanI r (m - 1) = some i) : nxt r m = some (rev (swp r i (scanJ r (r i) (m - 1))) (i + 1) (m - 1) 6) := by rw [nxt, h]
theorem rev_no {r : Nat → Nat} {a b : Nat} (h : b ≤ a) : ∀ n, rev r a b n = r
  | 0 => rfl
  | n + 1 => if_neg (by omega)
theorem rev_yes {r : Nat → Nat} {a b n : Nat} (h : a < b) : rev r a b (n + 1) = rev (swp r a b) (a + 1) (b - 1) n := if_pos h
def fI (m : Nat) (R : Nat → Nat) (σ : SS) (a b t : Nat) (τ : SS) : Prop := ∃ rt, rev rt (a + t) (b - t) (6 - t) = R ∧ RWf m rt τ ∧ FB σ τ ∧ ∀ i, i < m → rt i < 2 ^ 31
theorem swp_lt {m : Nat} {r : Nat → Nat} {a b : Nat} (h : ∀ i, i < m → r i < 2 ^ 31) (ha : a < m) (hb : b < m) : ∀ i, i < m → swp r a b i < 2 ^ 31 := fun i hi => by
  simp only [swp, updN]
  split
  · exact h a ha
  · split
    · exact h b hb
    · exact h i hi
theorem nI_s2 {m : Nat} (h : 0 < m) : nI m - 2 = nI (m - 1 - 0) - 1 := by
  have e : ∀ x : Int32, x - 2 = x - 1 - 1 := fun x => by
    rw [Int32.sub_eq_add_neg, Int32.sub_eq_add_neg, Int32.sub_eq_add_neg, Int32.add_assoc]; rfl
  rw [e, show nI m - 1 = nI (m - 1) from pk_sub (b := 1) (by omega), Nat.sub_zero]
set_option maxRecDepth 100000 in
set_option maxHeartbeats 4000000 in
theorem s_X5_follows {v : EE} {σ : SS} {m : Nat} {r : Nat → Nat} (hm : σ.1 40 13 = nI m) (hm6 : m ≤ 6) (hR : RWf m r σ) (hl : ∀ i, i < m → r i < 2 ^ 31) : SR v M_X5_follows [.ref (v.1 40)] σ (some (.int (bI (nxt r m).isSome))) (fun σ' => (∀ r', nxt r m = some r' → RWf m r' σ') ∧ (nxt r m = none → RWf m r σ') ∧ FB σ σ') := by
  refine Sp.of rfl (by decide) rfl (Nat.le_of_ble_eq_true rfl) ?_
  show V v M_X5_follows _ 0 [(0, .ref (v.1 40))] [] σ
  by_cases h0 : m = 0
  · subst h0
    refine v_aload_n dX5_follows_0 rfl ?_
    refine v_get (j := 13) iO40 rfl dX5_follows_1 (by decide) in_X5_follows_X5 fl_X5_follows_186 rfl ?_
    refine v_top hm ?_
    refine v_iconst (x := 2) dX5_follows_4 rfl ?_
    refine v_isub dX5_follows_5 ?_
    refine v_top (y := -2) (by decide) ?_
    refine v_istore_n (L' := [(1, _), (0, _)]) dX5_follows_6 rfl (by decide) rfl ?_
    refine v_iload_n dX5_follows_7 rfl ?_
    refine v_if_lt (tgt := 34) dX5_follows_8 (by decide) (fun c8 => ?_) (fun c8 => absurd (by decide) c8)
    refine v_iload_n dX5_follows_34 rfl ?_
    refine v_if_ge (tgt := 40) dX5_follows_35 (by decide) (fun c35 => absurd c35 (by decide)) (fun c35 => ?_)
    refine v_iconst (x := nI 0) dX5_follows_38 (by decide +kernel) ?_
    exact v_zret rfl (by decide) dX5_follows_39 ⟨congrArg (fun z => some (Value.int z)) (by rw [nxt_none rfl]; rfl), (fun _ q => by rw [nxt_none rfl] at q; cases q), fun _ => hR, FB.rf σ⟩
  · refine v_aload_n dX5_follows_0 rfl ?_
    refine v_get (j := 13) iO40 rfl dX5_follows_1 (by decide) in_X5_follows_X5 fl_X5_follows_186 rfl ?_
    refine v_top hm ?_
    refine v_iconst (x := 2) dX5_follows_4 rfl ?_
    refine v_isub dX5_follows_5 ?_
    refine v_top (y := nI (m - 1 - 0) - 1) (nI_s2 (by omega)) ?_
    refine v_istore_n (L' := [(1, _), (0, _)]) dX5_follows_6 rfl (by decide) rfl ?_
    refine v_sub [1, 0] rfl ?_
    refine loopN (fun i => scanI r (m - 1 - i) = scanI r (m - 1) → V v M_X5_follows (zR v M_X5_follows (fun r' σ' => r' = (some (.int (bI (nxt r m).isSome))) ∧ ((∀ r', nxt r m = some r' → RWf m r' σ') ∧ (nxt r m = none → RWf m r σ') ∧ FB σ σ'))) 7 [(0, .ref (v.1 40)), (1, .int (nI (m - 1 - i) - 1))] [] (σ)) (m - 1) ?_ ?_ rfl
    · intro i hi ih hal
      obtain ⟨n, hn⟩ : ∃ n, m - 1 - i = n + 1 := ⟨m - 1 - i - 1, by omega⟩
      rw [hn] at hal ⊢
      rw [show m - 1 - (i + 1) = n by omega] at ih
      rw [nI_s1]
      refine v_iload_n dX5_follows_7 rfl ?_
      refine n_if_lt (tgt := 34) dX5_follows_8 (by decide) (by omega) ?_
      refine v_aload_n dX5_follows_11 rfl ?_
      refine v_get (j := 19) iO40 rfl dX5_follows_12 (by decide) in_X5_follows_X5 fl_X5_follows_53 rfl ?_
      refine v_iload_n dX5_follows_15 rfl ?_
      refine v_ialdN n iI55 dX5_follows_16 rfl (by omega) (by decide) ?_
      refine v_top (hR _ (by omega)) ?_
      refine v_aload_n dX5_follows_17 rfl ?_
      refine v_get (j := 19) iO40 rfl dX5_follows_18 (by decide) in_X5_follows_X5 fl_X5_follows_53 rfl ?_
      refine v_iload_n dX5_follows_21 rfl ?_
      refine v_iconst (x := nI 1) dX5_follows_22 (by decide +kernel) ?_
      refine n_iadd dX5_follows_23 ?_
      refine v_ialdN (n + 1) iI55 dX5_follows_24 rfl (by omega) (by decide) ?_
      refine v_top (hR _ (by omega)) ?_
      refine n_icmp_le (tgt := 34) dX5_follows_25 (by decide) (hl _ (by omega)) (hl _ (by omega)) (fun c25 => ?_) (fun c25 => ?_)
      · have hs : scanI r (m - 1) = some n := hal.symm.trans (scanI_yes c25)
        refine v_iload_n dX5_follows_34 rfl ?_
        refine n_if_ge (tgt := 40) dX5_follows_35 (by decide) (by omega) ?_
        refine v_aload_n dX5_follows_40 rfl ?_
        refine v_get (j := 13) iO40 rfl dX5_follows_41 (by decide) in_X5_follows_X5 fl_X5_follows_186 rfl ?_
        refine v_top hm ?_
        refine v_iconst (x := nI 1) dX5_follows_44 (by decide +kernel) ?_
        refine n_isub dX5_follows_45 (by omega) ?_
        refine v_istore_n (L' := [(2, _), (0, _), (1, _)]) dX5_follows_46 rfl (by decide) rfl ?_
        refine v_sub [1, 2, 0] rfl ?_
        refine loopN (fun t => scanJ r (r n) (m - 1 - t) = scanJ r (r n) (m - 1) → V v M_X5_follows (zR v M_X5_follows (fun r' σ' => r' = (some (.int (bI (nxt r m).isSome))) ∧ ((∀ r', nxt r m = some r' → RWf m r' σ') ∧ (nxt r m = none → RWf m r σ') ∧ FB σ σ'))) 47 [(0, .ref (v.1 40)), (1, .int (nI n)), (2, .int (nI (m - 1 - t)))] [] (σ)) (m - 1 - n) ?_ ?_ rfl
        · intro t hi ih hal
          obtain ⟨j, hj⟩ : ∃ j, m - 1 - t = j + 1 := ⟨m - 1 - t - 1, by omega⟩
          rw [hj] at hal ⊢
          rw [show m - 1 - (t + 1) = j by omega] at ih
          refine v_aload_n dX5_follows_47 rfl ?_
          refine v_get (j := 19) iO40 rfl dX5_follows_48 (by decide) in_X5_follows_X5 fl_X5_follows_53 rfl ?_
          refine v_iload_n dX5_follows_51 rfl ?_
          refine v_ialdN (j + 1) iI55 dX5_follows_52 rfl (by omega) (by decide) ?_
          refine v_top (hR _ (by omega)) ?_
          refine v_aload_n dX5_follows_53 rfl ?_
          refine v_get (j := 19) iO40 rfl dX5_follows_54 (by decide) in_X5_follows_X5 fl_X5_follows_53 rfl ?_
          refine v_iload_n dX5_follows_57 rfl ?_
          refine v_ialdN n iI55 dX5_follows_58 rfl (by omega) (by decide) ?_
          refine v_top (hR _ (by omega)) ?_
          refine n_icmp_ge (tgt := 68) dX5_follows_59 (by decide) (hl _ (by omega)) (hl _ (by omega)) (fun c59 => ?_) (fun c59 => ?_)
          · have hJ : scanJ r (r n) (m - 1) = j + 1 := hal.symm.trans (scanJ_yes c59)
            refine v_aload_n dX5_follows_68 rfl ?_
            refine v_get (j := 19) iO40 rfl dX5_follows_69 (by decide) in_X5_follows_X5 fl_X5_follows_53 rfl ?_
            refine v_iload_n dX5_follows_72 rfl ?_
            refine v_ialdN n iI55 dX5_follows_73 rfl (by omega) (by decide) ?_
            refine v_top (hR _ (by omega)) ?_
            refine v_istore_n (L' := [(3, _), (0, _), (1, _), (2, _)]) dX5_follows_74 rfl (by decide) rfl ?_
            refine v_aload_n dX5_follows_75 rfl ?_
            refine v_get (j := 19) iO40 rfl dX5_follows_76 (by decide) in_X5_follows_X5 fl_X5_follows_53 rfl ?_
            refine v_iload_n dX5_follows_79 rfl ?_
            refine v_aload_n dX5_follows_80 rfl ?_
            refine v_get (j := 19) iO40 rfl dX5_follows_81 (by decide) in_X5_follows_X5 fl_X5_follows_53 rfl ?_
            refine v_iload_n dX5_follows_84 rfl ?_
            refine v_ialdN (j + 1) iI55 dX5_follows_85 rfl (by omega) (by decide) ?_
            refine v_top (hR _ (by omega)) ?_
            refine v_iastN n iI55 dX5_follows_86 rfl (by omega) (by decide) ?_
            refine v_aload_n dX5_follows_87 rfl ?_
            refine v_get (j := 19) iO40 rfl dX5_follows_88 (by decide) in_X5_follows_X5 fl_X5_follows_53 rfl ?_
            refine v_iload_n dX5_follows_91 rfl ?_
            refine v_iload_n dX5_follows_92 rfl ?_
            refine v_iastN (j + 1) iI55 dX5_follows_93 rfl (by omega) (by decide) ?_
            refine v_iload_n dX5_follows_94 rfl ?_
            refine v_iconst (x := nI 1) dX5_follows_95 (by decide +kernel) ?_
            refine n_iadd dX5_follows_96 ?_
            refine v_istore (L' := [(4, _), (3, _), (0, _), (1, _), (2, _)]) dX5_follows_97 (by decide) rfl ?_
            refine v_aload_n dX5_follows_99 rfl ?_
            refine v_get (j := 13) iO40 rfl dX5_follows_100 (by decide) in_X5_follows_X5 fl_X5_follows_186 rfl ?_
            refine v_top hm ?_
            refine v_iconst (x := nI 1) dX5_follows_103 (by decide +kernel) ?_
            refine n_isub dX5_follows_104 (by omega) ?_
            refine v_istore (L' := [(5, _), (4, _), (3, _), (0, _), (1, _), (2, _)]) dX5_follows_105 (by decide) rfl ?_
            refine v_sub [3, 1, 0] rfl ?_
            refine loopN (fun t => ∀ τ : SS, fI m (rev (swp r n (j + 1)) (n + 1) (m - 1) 6) σ (n + 1) (m - 1) t τ → V v M_X5_follows (zR v M_X5_follows (fun r' σ' => r' = (some (.int (bI (nxt r m).isSome))) ∧ ((∀ r', nxt r m = some r' → RWf m r' σ') ∧ (nxt r m = none → RWf m r σ') ∧ FB σ σ'))) 107 [(0, .ref (v.1 40)), (4, .int (nI (n + 1 + t))), (5, .int (nI (m - 1 - t)))] [] τ) 6 ?_ ?_ _ ⟨swp r n (j + 1), rfl, hR.swp _ _, ((FB.rf σ).up _ _).up _ _, swp_lt hl (by omega) (by omega)⟩
            · intro t hi ih τ hinv
              obtain ⟨rt, hrt, hW, hF, hlt⟩ := hinv
              refine v_iload dX5_follows_107 rfl ?_
              refine v_iload dX5_follows_109 rfl ?_
              refine n_icmp_ge (tgt := 153) dX5_follows_111 (by decide) (by omega) (by omega) (fun c111 => ?_) (fun c111 => ?_)
              · refine v_iconst (x := nI 1) dX5_follows_153 (by decide +kernel) ?_
                exact v_zret rfl (by decide) dX5_follows_154 ⟨congrArg (fun z => some (Value.int z)) (by rw [(show nxt r m = some (rev (swp r n (j + 1)) (n + 1) (m - 1) 6) by rw [nxt_some hs, hJ])]; rfl), (fun r' q => by rw [(show nxt r m = some (rev (swp r n (j + 1)) (n + 1) (m - 1) 6) by rw [nxt_some hs, hJ])] at q; cases q; rw [← hrt, rev_no c111]; exact hW), (fun q => by rw [(show nxt r m = some (rev (swp r n (j + 1)) (n + 1) (m - 1) 6) by rw [nxt_some hs, hJ])] at q; cases q), hF⟩
              · obtain ⟨B, hB⟩ : ∃ B, m - 1 - t = B + 1 := ⟨m - 1 - t - 1, by omega⟩
                rw [hB]
                rw [show m - 1 - (t + 1) = B by omega] at ih
                refine v_aload_n dX5_follows_114 rfl ?_
                refine v_get (j := 19) iO40 rfl dX5_follows_115 (by decide) in_X5_follows_X5 fl_X5_follows_53 rfl ?_
                refine v_iload dX5_follows_118 rfl ?_
                refine v_ialdN (n + 1 + t) iI55 dX5_follows_120 rfl (by omega) (by decide) ?_
                refine v_top (hW _ (by omega)) ?_
                refine v_istore_n (L' := [(3, _), (0, _), (4, _), (5, _)]) dX5_follows_121 rfl (by decide) rfl ?_
                refine v_aload_n dX5_follows_122 rfl ?_
                refine v_get (j := 19) iO40 rfl dX5_follows_123 (by decide) in_X5_follows_X5 fl_X5_follows_53 rfl ?_
                refine v_iload dX5_follows_126 rfl ?_
                refine v_aload_n dX5_follows_128 rfl ?_
                refine v_get (j := 19) iO40 rfl dX5_follows_129 (by decide) in_X5_follows_X5 fl_X5_follows_53 rfl ?_
                refine v_iload dX5_follows_132 rfl ?_
                refine v_ialdN (B + 1) iI55 dX5_follows_134 rfl (by omega) (by decide) ?_
                refine v_top (hW _ (by omega)) ?_
                refine v_iastN (n + 1 + t) iI55 dX5_follows_135 rfl (by omega) (by decide) ?_
                refine v_aload_n dX5_follows_136 rfl ?_
                refine v_get (j := 19) iO40 rfl dX5_follows_137 (by decide) in_X5_follows_X5 fl_X5_follows_53 rfl ?_
                refine v_iload dX5_follows_140 rfl ?_
                refine v_iload_n dX5_follows_142 rfl ?_
                refine v_iastN (B + 1) iI55 dX5_follows_143 rfl (by omega) (by decide) ?_
                refine n_iinc (n := 1) (L' := [(4, _), (3, _), (0, _), (5, _)]) dX5_follows_144 rfl (by decide) rfl ?_
                refine n_idec (L' := [(5, _), (4, _), (3, _), (0, _)]) dX5_follows_147 rfl (by decide) rfl ?_
                refine v_goto (tgt := 107) dX5_follows_150 (by decide) ?_
                refine v_sub [3, 1, 0] rfl ?_
                exact ih _ ⟨swp rt (n + 1 + t) (B + 1), by rw [← hrt, hB, show 6 - t = (5 - t) + 1 by omega, rev_yes (by omega), show 6 - (t + 1) = 5 - t by omega, show m - 1 - (t + 1) = B by omega]; rfl, hW.swp _ _, (hF.up _ _).up _ _, swp_lt hlt (by omega) (by omega)⟩
            · intro τ hinv
              obtain ⟨rt, hrt, hW, hF, hlt⟩ := hinv
              refine v_iload dX5_follows_107 rfl ?_
              refine v_iload dX5_follows_109 rfl ?_
              refine n_icmp_ge (tgt := 153) dX5_follows_111 (by decide) (by omega) (by omega) (fun c111 => ?_) (fun c111 => absurd c111 (by omega))
              refine v_iconst (x := nI 1) dX5_follows_153 (by decide +kernel) ?_
              exact v_zret rfl (by decide) dX5_follows_154 ⟨congrArg (fun z => some (Value.int z)) (by rw [(show nxt r m = some (rev (swp r n (j + 1)) (n + 1) (m - 1) 6) by rw [nxt_some hs, hJ])]; rfl), (fun r' q => by rw [(show nxt r m = some (rev (swp r n (j + 1)) (n + 1) (m - 1) 6) by rw [nxt_some hs, hJ])] at q; cases q; rw [← hrt, rev_no (by omega)]; exact hW), (fun q => by rw [(show nxt r m = some (rev (swp r n (j + 1)) (n + 1) (m - 1) 6) by rw [nxt_some hs, hJ])] at q; cases q), hF⟩
          · refine n_idec (L' := [(2, _), (0, _), (1, _)]) dX5_follows_62 rfl (by decide) rfl ?_
            refine v_goto (tgt := 47) dX5_follows_65 (by decide) ?_
            refine v_sub [1, 2, 0] rfl ?_
            exact ih ((scanJ_no c59).symm.trans hal)
        · intro hal
          rw [show m - 1 - (m - 1 - n) = n by omega] at hal ⊢
          refine v_aload_n dX5_follows_47 rfl ?_
          refine v_get (j := 19) iO40 rfl dX5_follows_48 (by decide) in_X5_follows_X5 fl_X5_follows_53 rfl ?_
          refine v_iload_n dX5_follows_51 rfl ?_
          refine v_ialdN n iI55 dX5_follows_52 rfl (by omega) (by decide) ?_
          refine v_top (hR _ (by omega)) ?_
          refine v_aload_n dX5_follows_53 rfl ?_
          refine v_get (j := 19) iO40 rfl dX5_follows_54 (by decide) in_X5_follows_X5 fl_X5_follows_53 rfl ?_
          refine v_iload_n dX5_follows_57 rfl ?_
          refine v_ialdN n iI55 dX5_follows_58 rfl (by omega) (by decide) ?_
          refine v_top (hR _ (by omega)) ?_
          refine n_icmp_ge (tgt := 68) dX5_follows_59 (by decide) (hl _ (by omega)) (hl _ (by omega)) (fun c59 => ?_) (fun c59 => absurd c59 (by omega))
          have hJ : scanJ r (r n) (m - 1) = n := hal.symm.trans (scanJ_yes (Nat.le_refl _))
          refine v_aload_n dX5_follows_68 rfl ?_
          refine v_get (j := 19) iO40 rfl dX5_follows_69 (by decide) in_X5_follows_X5 fl_X5_follows_53 rfl ?_
          refine v_iload_n dX5_follows_72 rfl ?_
          refine v_ialdN n iI55 dX5_follows_73 rfl (by omega) (by decide) ?_
          refine v_top (hR _ (by omega)) ?_
          refine v_istore_n (L' := [(3, _), (0, _), (1, _), (2, _)]) dX5_follows_74 rfl (by decide) rfl ?_
          refine v_aload_n dX5_follows_75 rfl ?_
          refine v_get (j := 19) iO40 rfl dX5_follows_76 (by decide) in_X5_follows_X5 fl_X5_follows_53 rfl ?_
          refine v_iload_n dX5_follows_79 rfl ?_
          refine v_aload_n dX5_follows_80 rfl ?_
          refine v_get (j := 19) iO40 rfl dX5_follows_81 (by decide) in_X5_follows_X5 fl_X5_follows_53 rfl ?_
          refine v_iload_n dX5_follows_84 rfl ?_
          refine v_ialdN n iI55 dX5_follows_85 rfl (by omega) (by decide) ?_
          refine v_top (hR _ (by omega)) ?_
          refine v_iastN n iI55 dX5_follows_86 rfl (by omega) (by decide) ?_
          refine v_aload_n dX5_follows_87 rfl ?_
          refine v_get (j := 19) iO40 rfl dX5_follows_88 (by decide) in_X5_follows_X5 fl_X5_follows_53 rfl ?_
          refine v_iload_n dX5_follows_91 rfl ?_
          refine v_iload_n dX5_follows_92 rfl ?_
          refine v_iastN n iI55 dX5_follows_93 rfl (by omega) (by decide) ?_
          refine v_iload_n dX5_follows_94 rfl ?_
          refine v_iconst (x := nI 1) dX5_follows_95 (by decide +kernel) ?_
          refine n_iadd dX5_follows_96 ?_
          refine v_istore (L' := [(4, _), (3, _), (0, _), (1, _), (2, _)]) dX5_follows_97 (by decide) rfl ?_
          refine v_aload_n dX5_follows_99 rfl ?_
          refine v_get (j := 13) iO40 rfl dX5_follows_100 (by decide) in_X5_follows_X5 fl_X5_follows_186 rfl ?_
          refine v_top hm ?_
          refine v_iconst (x := nI 1) dX5_follows_103 (by decide +kernel) ?_
          refine n_isub dX5_follows_104 (by omega) ?_
          refine v_istore (L' := [(5, _), (4, _), (3, _), (0, _), (1, _), (2, _)]) dX5_follows_105 (by decide) rfl ?_
          refine v_sub [3, 1, 0] rfl ?_
          refine loopN (fun t => ∀ τ : SS, fI m (rev (swp r n n) (n + 1) (m - 1) 6) σ (n + 1) (m - 1) t τ → V v M_X5_follows (zR v M_X5_follows (fun r' σ' => r' = (some (.int (bI (nxt r m).isSome))) ∧ ((∀ r', nxt r m = some r' → RWf m r' σ') ∧ (nxt r m = none → RWf m r σ') ∧ FB σ σ'))) 107 [(0, .ref (v.1 40)), (4, .int (nI (n + 1 + t))), (5, .int (nI (m - 1 - t)))] [] τ) 6 ?_ ?_ _ ⟨swp r n n, rfl, hR.swp _ _, ((FB.rf σ).up _ _).up _ _, swp_lt hl (by omega) (by omega)⟩
          · intro t hi ih τ hinv
            obtain ⟨rt, hrt, hW, hF, hlt⟩ := hinv
            refine v_iload dX5_follows_107 rfl ?_
            refine v_iload dX5_follows_109 rfl ?_
            refine n_icmp_ge (tgt := 153) dX5_follows_111 (by decide) (by omega) (by omega) (fun c111 => ?_) (fun c111 => ?_)
            · refine v_iconst (x := nI 1) dX5_follows_153 (by decide +kernel) ?_
              exact v_zret rfl (by decide) dX5_follows_154 ⟨congrArg (fun z => some (Value.int z)) (by rw [(show nxt r m = some (rev (swp r n n) (n + 1) (m - 1) 6) by rw [nxt_some hs, hJ])]; rfl), (fun r' q => by rw [(show nxt r m = some (rev (swp r n n) (n + 1) (m - 1) 6) by rw [nxt_some hs, hJ])] at q; cases q; rw [← hrt, rev_no c111]; exact hW), (fun q => by rw [(show nxt r m = some (rev (swp r n n) (n + 1) (m - 1) 6) by rw [nxt_some hs, hJ])] at q; cases q), hF⟩
            · obtain ⟨B, hB⟩ : ∃ B, m - 1 - t = B + 1 := ⟨m - 1 - t - 1, by omega⟩
              rw [hB]
              rw [show m - 1 - (t + 1) = B by omega] at ih
              refine v_aload_n dX5_follows_114 rfl ?_
              refine v_get (j := 19) iO40 rfl dX5_follows_115 (by decide) in_X5_follows_X5 fl_X5_follows_53 rfl ?_
              refine v_iload dX5_follows_118 rfl ?_
              refine v_ialdN (n + 1 + t) iI55 dX5_follows_120 rfl (by omega) (by decide) ?_
              refine v_top (hW _ (by omega)) ?_
              refine v_istore_n (L' := [(3, _), (0, _), (4, _), (5, _)]) dX5_follows_121 rfl (by decide) rfl ?_
              refine v_aload_n dX5_follows_122 rfl ?_
              refine v_get (j := 19) iO40 rfl dX5_follows_123 (by decide) in_X5_follows_X5 fl_X5_follows_53 rfl ?_
              refine v_iload dX5_follows_126 rfl ?_
              refine v_aload_n dX5_follows_128 rfl ?_
              refine v_get (j := 19) iO40 rfl dX5_follows_129 (by decide) in_X5_follows_X5 fl_X5_follows_53 rfl ?_
              refine v_iload dX5_follows_132 rfl ?_
              refine v_ialdN (B + 1) iI55 dX5_follows_134 rfl (by omega) (by decide) ?_
              refine v_top (hW _ (by omega)) ?_
              refine v_iastN (n + 1 + t) iI55 dX5_follows_135 rfl (by omega) (by decide) ?_
              refine v_aload_n dX5_follows_136 rfl ?_
              refine v_get (j := 19) iO40 rfl dX5_follows_137 (by decide) in_X5_follows_X5 fl_X5_follows_53 rfl ?_
              refine v_iload dX5_follows_140 rfl ?_
              refine v_iload_n dX5_follows_142 rfl ?_
              refine v_iastN (B + 1) iI55 dX5_follows_143 rfl (by omega) (by decide) ?_
              refine n_iinc (n := 1) (L' := [(4, _), (3, _), (0, _), (5, _)]) dX5_follows_144 rfl (by decide) rfl ?_
              refine n_idec (L' := [(5, _), (4, _), (3, _), (0, _)]) dX5_follows_147 rfl (by decide) rfl ?_
              refine v_goto (tgt := 107) dX5_follows_150 (by decide) ?_
              refine v_sub [3, 1, 0] rfl ?_
              exact ih _ ⟨swp rt (n + 1 + t) (B + 1), by rw [← hrt, hB, show 6 - t = (5 - t) + 1 by omega, rev_yes (by omega), show 6 - (t + 1) = 5 - t by omega, show m - 1 - (t + 1) = B by omega]; rfl, hW.swp _ _, (hF.up _ _).up _ _, swp_lt hlt (by omega) (by omega)⟩
          · intro τ hinv
            obtain ⟨rt, hrt, hW, hF, hlt⟩ := hinv
            refine v_iload dX5_follows_107 rfl ?_
            refine v_iload dX5_follows_109 rfl ?_
            refine n_icmp_ge (tgt := 153) dX5_follows_111 (by decide) (by omega) (by omega) (fun c111 => ?_) (fun c111 => absurd c111 (by omega))
            refine v_iconst (x := nI 1) dX5_follows_153 (by decide +kernel) ?_
            exact v_zret rfl (by decide) dX5_follows_154 ⟨congrArg (fun z => some (Value.int z)) (by rw [(show nxt r m = some (rev (swp r n n) (n + 1) (m - 1) 6) by rw [nxt_some hs, hJ])]; rfl), (fun r' q => by rw [(show nxt r m = some (rev (swp r n n) (n + 1) (m - 1) 6) by rw [nxt_some hs, hJ])] at q; cases q; rw [← hrt, rev_no (by omega)]; exact hW), (fun q => by rw [(show nxt r m = some (rev (swp r n n) (n + 1) (m - 1) 6) by rw [nxt_some hs, hJ])] at q; cases q), hF⟩
      · refine v_iinc (y := nI n - 1) (L' := [(1, .int (nI n - 1)), (0, _)]) dX5_follows_28 rfl (nI_m1 n) (by decide) rfl ?_
        refine v_goto (tgt := 7) dX5_follows_31 (by decide) ?_
        refine v_sub [1, 0] rfl ?_
        exact ih ((scanI_no c25).symm.trans hal)
    · intro hal
      rw [Nat.sub_self] at hal ⊢
      refine v_iload_n dX5_follows_7 rfl ?_
      refine v_if_lt (tgt := 34) dX5_follows_8 (by decide) (fun c8 => ?_) (fun c8 => absurd (by decide) c8)
      refine v_iload_n dX5_follows_34 rfl ?_
      refine v_if_ge (tgt := 40) dX5_follows_35 (by decide) (fun c35 => absurd c35 (by decide)) (fun c35 => ?_)
      refine v_iconst (x := nI 0) dX5_follows_38 (by decide +kernel) ?_
      exact v_zret rfl (by decide) dX5_follows_39 ⟨congrArg (fun z => some (Value.int z)) (by rw [nxt_none hal.symm]; rfl), (fun _ q => by rw [nxt_none hal.symm] at q; cases q), fun _ => hR, FB.rf σ⟩
