theorem in_X5_waysOf_X5 : ∀ w ∈ u_ws RX5 TX5 29, w ∈ mWs M_X5_waysOf := by decide +kernel
theorem fl_X5_waysOf_13 : Cond.fieldLink (mOwn M_X5_waysOf) 13 (TX5 3).1 (TX5 3).2.1 (TX5 3).2.2.1 ∈ mWs M_X5_waysOf := by decide +kernel
theorem fl_X5_waysOf_29 : Cond.fieldLink (mOwn M_X5_waysOf) 29 (TX5 8).1 (TX5 8).2.1 (TX5 8).2.2.1 ∈ mWs M_X5_waysOf := by decide +kernel
theorem fl_X5_waysOf_62 : Cond.fieldLink (mOwn M_X5_waysOf) 62 (TX5 24).1 (TX5 24).2.1 (TX5 24).2.2.1 ∈ mWs M_X5_waysOf := by decide +kernel
theorem fl_X5_waysOf_66 : Cond.fieldLink (mOwn M_X5_waysOf) 66 (TX5 25).1 (TX5 25).2.1 (TX5 25).2.2.1 ∈ mWs M_X5_waysOf := by decide +kernel
def FLo (σ τ : SS) : Prop := τ.1 = σ.1 ∧ τ.2.2 = σ.2.2
theorem FLo.rf (σ : SS) : FLo σ σ := ⟨rfl, rfl⟩
theorem FLo.tr {σ τ υ : SS} (h : FLo σ τ) (g : FLo τ υ) : FLo σ υ := ⟨g.1.trans h.1, g.2.trans h.2⟩
theorem FLo.up {σ τ : SS} (h : FLo σ τ) (a j : Nat) (x : Int64) : FLo σ (sJ τ a j x) := h
theorem FLo.mh {w : WD} {σ τ : SS} (h : FLo σ τ) (hw : MH 0 w σ) : MH 0 w τ := by rw [MH, h.1]; exact hw
theorem FLo.rm {s : AS} {σ τ : SS} (h : FLo σ τ) (hr : RM s σ) : RM s τ := by rw [RM, MTx, MH, h.1]; exact hr
theorem FLo.fm {σ τ : SS} (h : FLo σ τ) : FM σ τ := ⟨fun a _ => by rw [h.1], h.2⟩
def Zw (c : Nat) (g : Nat → Nat) (n : Nat) (τ : SS) : Prop := ∀ S, S < n → τ.2.1 c S = lN (g S)
theorem sJ_at (σ : SS) (k j : Nat) (x : Int64) : (sJ σ k j x).2.1 k j = x := by simp [sJ, vp_updL]
theorem sJ_ne (σ : SS) {k j a i : Nat} (x : Int64) (h : a ≠ k ∨ i ≠ j) : (sJ σ k j x).2.1 a i = σ.2.1 a i := by
  simp only [sJ]
  by_cases c : a = k
  · subst c
    rcases h with h | h
    · exact absurd rfl h
    · rw [if_pos rfl]; simp [vp_updL, h]
  · rw [if_neg c]
theorem Zw.s {c n : Nat} {g : Nat → Nat} {τ : SS} (h : Zw c g n τ) : Zw c g (n + 1) (sJ τ c n (lN (g n))) := fun S hS => by
  by_cases e : S = n
  · subst e; rw [sJ_at]
  · rw [sJ_ne _ _ (Or.inr e)]; exact h S (by omega)
theorem Zw.o {c d n j : Nat} {g : Nat → Nat} {τ : SS} {x : Int64} (h : Zw c g n τ) (hd : c ≠ d) : Zw c g n (sJ τ d j x) := fun S hS => by rw [sJ_ne _ _ (Or.inl hd)]; exact h S hS
theorem Zw.c {c n : Nat} {g f : Nat → Nat} {τ : SS} (h : Zw c g n τ) (e : ∀ S, S < n → g S = f S) : Zw c f n τ := fun S hS => by rw [h S hS, e S hS]
def Gm (N : Nat) (α : Nat → Nat) (p m S : Nat) : Nat := sm (fun x => if (α p).testBit x && S.testBit x then Fw N α p (dif S (2 ^ x)) else 0) m
def Gt (N : Nat) (α : Nat → Nat) (p m t S : Nat) : Nat := Gm N α p m S + (if S.testBit m && decide (dif S (2 ^ m) < t) then Fw N α p (dif S (2 ^ m)) else 0)
theorem Gt_y {N : Nat} {α : Nat → Nat} {p m t n : Nat} {τ : SS} (hb : t.testBit m = false) (h : Zw 59 (Gt N α p m t) n τ) : Zw 59 (Gt N α p m (t + 1)) n (sJ τ 59 (t ||| 2 ^ m) (lN (Gt N α p m t (t ||| 2 ^ m) + Fw N α p t))) := fun S hS => by
  by_cases e : S = t ||| 2 ^ m
  · subst e
    rw [sJ_at, Gt, Gt, dif_or hb, tb_or2]
    simp
  · rw [sJ_ne _ _ (Or.inr e), h S hS, Gt, Gt]
    have : (S.testBit m && decide (dif S (2 ^ m) < t)) = (S.testBit m && decide (dif S (2 ^ m) < t + 1)) := by
      cases q : S.testBit m with
      | false => rfl
      | true =>
        have hne : dif S (2 ^ m) ≠ t := fun z => e (by rw [← z, or_dif q])
        simp only [Bool.true_and]
        exact decide_eq_decide.mpr (by omega)
    rw [this]
theorem Gt_n {N : Nat} {α : Nat → Nat} {p m t n : Nat} {τ : SS} (hb : t.testBit m = true) (h : Zw 59 (Gt N α p m t) n τ) (ht : t ||| 2 ^ m < n) : Zw 59 (Gt N α p m (t + 1)) n (sJ τ 59 (t ||| 2 ^ m) (lN (Gt N α p m t (t ||| 2 ^ m) + 0))) := fun S hS => by
  have e2 : Gt N α p m (t + 1) S = Gt N α p m t S := by
    rw [Gt, Gt]
    have : (S.testBit m && decide (dif S (2 ^ m) < t + 1)) = (S.testBit m && decide (dif S (2 ^ m) < t)) := by
      cases q : S.testBit m with
      | false => rfl
      | true =>
        have hne : dif S (2 ^ m) ≠ t := fun z => by
          have := tb_difm (S := S) (m := m)
          rw [z, hb] at this; cases this
        simp only [Bool.true_and]
        exact decide_eq_decide.mpr (by omega)
    rw [this]
  rw [e2]
  by_cases e : S = t ||| 2 ^ m
  · subst e; rw [sJ_at, Nat.add_zero]
  · rw [sJ_ne _ _ (Or.inr e)]; exact h S hS
theorem Gt_0 {N : Nat} {α : Nat → Nat} {p m S : Nat} : Gt N α p m 0 S = Gm N α p m S := by rw [Gt]; simp
theorem Gt_e {N : Nat} {α : Nat → Nat} {p m S : Nat} (hb : (α p).testBit m = true) (hS : S < 1024) : Gt N α p m 1024 S = Gm N α p (m + 1) S := by
  have : dif S (2 ^ m) < 1024 := Nat.lt_of_le_of_lt (dif_le _ _) hS
  rw [Gt, Gm, Gm, sm, hb]
  simp [this]
theorem Gm_n {N : Nat} {α : Nat → Nat} {p m S : Nat} (hb : (α p).testBit m = false) : Gm N α p (m + 1) S = Gm N α p m S := by rw [Gm, sm, hb]; simp [Gm]
theorem shl_end {z : Nat} {w : WD} (hv : WV z w) : shl w (wS w) = shl w 16 := by
  have h16 := wv_S hv
  have : ∀ d, shl w (wS w + d) = shl w (wS w) := by
    intro d
    induction d with
    | zero => rfl
    | succ d ih => rw [show wS w + (d + 1) = (wS w + d) + 1 by omega, shl_n (by rw [sh, decide_eq_false (by omega)]; rfl), ih]
  have h2 := this (16 - wS w)
  rw [show wS w + (16 - wS w) = 16 by omega] at h2
  exact h2.symm
set_option maxRecDepth 100000 in
set_option maxHeartbeats 4000000 in
theorem s_X5_waysOf {v : EE} {w : WD} {z : Nat} {σ : SS} (hw : MH 0 w σ) (hv : WV z w) (hz : z ≤ 1000000) (only sign0 : Int32) {α : Nat → Nat} (hα : ∀ k m, k < wS w → sh w k = true → m < wN w → (α (shl w k).length).testBit m = (mayc w m k && (!decide (nI k = sign0) || decide (nI m = only)))) : SR v M_X5_waysOf [.ref (v.1 40), .int only, .int sign0] σ (some (.long (lN (sm (Fw (wN w) α (nSh w)) (2 ^ wN w))))) (fun σ' => FLo σ σ') := by
  refine Sp.of rfl (by decide) rfl (Nat.le_of_ble_eq_true rfl) ?_
  show V v M_X5_waysOf _ 0 [(0, .ref (v.1 40)), (1, .int only), (2, .int sign0)] [] σ
  refine v_iconst (x := nI 0) dX5_waysOf_0 (by decide +kernel) ?_
  refine v_istore_n (L' := [(3, _), (0, _), (1, _), (2, _)]) dX5_waysOf_1 rfl (by decide) rfl ?_
  refine v_sub [1, 2, 3, 0] rfl ?_
  refine loopN (fun i => ∀ τ : SS, (Zw 58 (Fw (wN w) α 0) i τ ∧ FLo σ τ) → V v M_X5_waysOf (zR v M_X5_waysOf (fun r' σ' => r' = (some (.long (lN (sm (Fw (wN w) α (nSh w)) (2 ^ wN w))))) ∧ (FLo σ σ'))) 2 [(0, .ref (v.1 40)), (1, .int only), (2, .int sign0), (3, .int (nI i))] [] τ) 1024 ?_ ?_ _ ⟨fun S hS => (by omega), FLo.rf σ⟩
  · intro i hi ih τ hinv
    refine v_iload_n dX5_waysOf_2 rfl ?_
    refine v_sipush (x := nI 1024) dX5_waysOf_3 (by decide +kernel) ?_
    refine n_icmp_ge (tgt := 30) dX5_waysOf_6 (by decide) (by omega) (by omega) (fun c6 => absurd c6 (by omega)) (fun c6 => ?_)
    refine v_aload_n dX5_waysOf_9 rfl ?_
    refine v_get (j := 24) iO40 rfl dX5_waysOf_10 (by decide) in_X5_waysOf_X5 fl_X5_waysOf_62 rfl ?_
    refine v_iload_n dX5_waysOf_13 rfl ?_
    refine v_iload_n dX5_waysOf_14 rfl ?_
    refine n_if_ne (tgt := 22) dX5_waysOf_15 (by decide) (by omega) (fun c15 => ?_) (fun c15 => ?_)
    · refine v_lconst (x := 0) dX5_waysOf_22 rfl ?_
      refine v_topl (y := lN (Fw (wN w) α 0 i)) (by rw [Fw, if_neg c15]; rfl) ?_
      refine v_lastN i iJ58 dX5_waysOf_23 rfl (by omega) (by decide) ?_
      refine n_iinc (n := 1) (L' := [(3, _), (0, _), (1, _), (2, _)]) dX5_waysOf_24 rfl (by decide) rfl ?_
      refine v_goto (tgt := 2) dX5_waysOf_27 (by decide) ?_
      refine v_sub [1, 2, 3, 0] rfl ?_
      exact ih _ ⟨hinv.1.s, hinv.2.up _ _ _⟩
    · refine v_lconst (x := 1) dX5_waysOf_18 rfl ?_
      refine v_goto (tgt := 23) dX5_waysOf_19 (by decide) ?_
      refine v_topl (y := lN (Fw (wN w) α 0 i)) (by rw [Fw, if_pos c15]; rfl) ?_
      refine v_lastN i iJ58 dX5_waysOf_23 rfl (by omega) (by decide) ?_
      refine n_iinc (n := 1) (L' := [(3, _), (0, _), (1, _), (2, _)]) dX5_waysOf_24 rfl (by decide) rfl ?_
      refine v_goto (tgt := 2) dX5_waysOf_27 (by decide) ?_
      refine v_sub [1, 2, 3, 0] rfl ?_
      exact ih _ ⟨hinv.1.s, hinv.2.up _ _ _⟩
  · intro τ hinv
    refine v_iload_n dX5_waysOf_2 rfl ?_
    refine v_sipush (x := nI 1024) dX5_waysOf_3 (by decide +kernel) ?_
    refine n_icmp_ge (tgt := 30) dX5_waysOf_6 (by decide) (by omega) (by omega) (fun c6 => ?_) (fun c6 => absurd c6 (by omega))
    refine v_iconst (x := nI 0) dX5_waysOf_30 (by decide +kernel) ?_
    refine v_istore_n (L' := [(3, _), (0, _), (1, _), (2, _)]) dX5_waysOf_31 rfl (by decide) rfl ?_
    refine v_sub [1, 2, 3, 0] rfl ?_
    refine loopN (fun k => ∀ τ : SS, (Zw 58 (Fw (wN w) α (shl w k).length) 1024 τ ∧ FLo σ τ) → V v M_X5_waysOf (zR v M_X5_waysOf (fun r' σ' => r' = (some (.long (lN (sm (Fw (wN w) α (nSh w)) (2 ^ wN w))))) ∧ (FLo σ σ'))) 32 [(0, .ref (v.1 40)), (1, .int only), (2, .int sign0), (3, .int (nI k))] [] τ) (wS w) ?_ ?_ _ hinv
    · intro k hi ih τ hinv
      have hk := hi
      have hS := wv_S hv
      have hN10 := wv_N hv
      refine v_iload_n dX5_waysOf_32 rfl ?_
      refine v_aload_n dX5_waysOf_33 rfl ?_
      refine v_get (j := 3) iO40 rfl dX5_waysOf_34 (by decide) in_X5_waysOf_X5 fl_X5_waysOf_13 rfl ?_
      refine v_iconst (x := nI 0) dX5_waysOf_37 (by decide +kernel) ?_
      refine v_ialdN 0 iI42 dX5_waysOf_38 rfl (by decide) (by decide) ?_
      refine v_top (mh_S (hinv.2.mh hw)) ?_
      refine n_icmp_ge (tgt := 218) dX5_waysOf_39 (by decide) (by omega) (by omega) (fun c39 => absurd c39 (by omega)) (fun c39 => ?_)
      refine v_aload_n dX5_waysOf_42 rfl ?_
      refine v_iload_n dX5_waysOf_43 rfl ?_
      refine v_callVi (M' := M_X5_ofSign) (As := [_]) iO40 (s_X5_ofSign (hinv.2.mh hw) hv (by omega)) dX5_waysOf_44 gX5_waysOf_X5_ofSign rfl rfl nn_X5_ofSign ⟨rfl, rfl⟩ ⟨by decide, by decide⟩ rfl rfl (Nat.le_of_ble_eq_true rfl) ?_
      refine n_if_le (tgt := 212) dX5_waysOf_47 (by decide) (by have := sms_le hv (k := k) (by omega); omega) (fun c47 => ?_) (fun c47 => ?_)
      · refine n_iinc (n := 1) (L' := [(3, _), (0, _), (1, _), (2, _)]) dX5_waysOf_212 rfl (by decide) rfl ?_
        refine v_goto (tgt := 32) dX5_waysOf_215 (by decide) ?_
        refine v_sub [1, 2, 3, 0] rfl ?_
        exact ih _ ⟨by rw [shl_n (show sh w k = false by rw [sh, c47]; simp)]; exact hinv.1, hinv.2⟩
      · have hsh : sh w k = true := by rw [sh, decide_eq_true hk, decide_eq_true c47]; rfl
        have ihk := ih
        refine v_iconst (x := nI 0) dX5_waysOf_50 (by decide +kernel) ?_
        refine v_istore (L' := [(4, _), (0, _), (1, _), (2, _), (3, _)]) dX5_waysOf_51 (by decide) rfl ?_
        refine v_sub [1, 2, 3, 4, 0] rfl ?_
        refine loopN (fun t => ∀ τ : SS, (Zw 58 (Fw (wN w) α (shl w k).length) 1024 τ ∧ Zw 59 (fun _ => 0) t τ ∧ FLo σ τ) → V v M_X5_waysOf (zR v M_X5_waysOf (fun r' σ' => r' = (some (.long (lN (sm (Fw (wN w) α (nSh w)) (2 ^ wN w))))) ∧ (FLo σ σ'))) 53 [(0, .ref (v.1 40)), (1, .int only), (2, .int sign0), (3, .int (nI k)), (4, .int (nI t))] [] τ) 1024 ?_ ?_ _ ⟨hinv.1, fun S hS => (by omega), hinv.2⟩
        · intro t hi ih τ hinv
          refine v_iload dX5_waysOf_53 rfl ?_
          refine v_sipush (x := nI 1024) dX5_waysOf_55 (by decide +kernel) ?_
          refine n_icmp_ge (tgt := 75) dX5_waysOf_58 (by decide) (by omega) (by omega) (fun c58 => absurd c58 (by omega)) (fun c58 => ?_)
          refine v_aload_n dX5_waysOf_61 rfl ?_
          refine v_get (j := 25) iO40 rfl dX5_waysOf_62 (by decide) in_X5_waysOf_X5 fl_X5_waysOf_66 rfl ?_
          refine v_iload dX5_waysOf_65 rfl ?_
          refine v_lconst (x := 0) dX5_waysOf_67 rfl ?_
          refine v_topl (y := lN ((fun _ => 0) t)) rfl ?_
          refine v_lastN t iJ59 dX5_waysOf_68 rfl (by omega) (by decide) ?_
          refine n_iinc (n := 1) (L' := [(4, _), (0, _), (1, _), (2, _), (3, _)]) dX5_waysOf_69 rfl (by decide) rfl ?_
          refine v_goto (tgt := 53) dX5_waysOf_72 (by decide) ?_
          refine v_sub [1, 2, 3, 4, 0] rfl ?_
          exact ih _ ⟨hinv.1.o (by decide), hinv.2.1.s, hinv.2.2.up _ _ _⟩
        · intro τ hinv
          refine v_iload dX5_waysOf_53 rfl ?_
          refine v_sipush (x := nI 1024) dX5_waysOf_55 (by decide +kernel) ?_
          refine n_icmp_ge (tgt := 75) dX5_waysOf_58 (by decide) (by omega) (by omega) (fun c58 => ?_) (fun c58 => absurd c58 (by omega))
          refine v_iconst (x := nI 0) dX5_waysOf_75 (by decide +kernel) ?_
          refine v_istore (L' := [(4, _), (0, _), (1, _), (2, _), (3, _)]) dX5_waysOf_76 (by decide) rfl ?_
          refine v_sub [1, 2, 3, 4, 0] rfl ?_
          refine loopN (fun m => ∀ τ : SS, (Zw 58 (Fw (wN w) α (shl w k).length) 1024 τ ∧ Zw 59 (Gm (wN w) α (shl w k).length m) 1024 τ ∧ FLo σ τ) → V v M_X5_waysOf (zR v M_X5_waysOf (fun r' σ' => r' = (some (.long (lN (sm (Fw (wN w) α (nSh w)) (2 ^ wN w))))) ∧ (FLo σ σ'))) 78 [(0, .ref (v.1 40)), (1, .int only), (2, .int sign0), (3, .int (nI k)), (4, .int (nI m))] [] τ) (wN w) ?_ ?_ _ ⟨hinv.1, hinv.2.1.c (fun S hS => rfl), hinv.2.2⟩
          · intro m hi ih τ hinv
            have hmN := hi
            have key : V v M_X5_waysOf (zR v M_X5_waysOf (fun r' σ' => r' = (some (.long (lN (sm (Fw (wN w) α (nSh w)) (2 ^ wN w))))) ∧ (FLo σ σ'))) 115 [(0, .ref (v.1 40)), (1, .int only), (2, .int sign0), (3, .int (nI k)), (4, .int (nI m))] [.int (bI ((α (shl w k).length).testBit m))] τ := by
              have ihm := ih
              by_cases hb : ((α (shl w k).length).testBit m) = true
              · refine v_istore (L' := [(5, _), (0, _), (1, _), (2, _), (3, _), (4, _)]) dX5_waysOf_115 (by decide) rfl ?_
                refine v_iconst (x := nI 0) dX5_waysOf_117 (by decide +kernel) ?_
                refine v_istore (L' := [(6, _), (5, _), (0, _), (1, _), (2, _), (3, _), (4, _)]) dX5_waysOf_118 (by decide) rfl ?_
                refine v_sub [2, 3, 4, 5, 6, 1, 0] rfl ?_
                refine loopN (fun t => ∀ τ2 : SS, (Zw 58 (Fw (wN w) α (shl w k).length) 1024 τ2 ∧ Zw 59 (Gt (wN w) α (shl w k).length m t) 1024 τ2 ∧ FLo σ τ2) → V v M_X5_waysOf (zR v M_X5_waysOf (fun r' σ' => r' = (some (.long (lN (sm (Fw (wN w) α (nSh w)) (2 ^ wN w))))) ∧ (FLo σ σ'))) 120 [(0, .ref (v.1 40)), (1, .int only), (2, .int sign0), (3, .int (nI k)), (4, .int (nI m)), (5, .int (bI ((α (shl w k).length).testBit m))), (6, .int (nI t))] [] τ2) 1024 ?_ ?_ _ ⟨hinv.1, hinv.2.1.c (fun S hS => Gt_0.symm), hinv.2.2⟩
                · intro t hi ih τ2 hinv2
                  have hl2 : t ||| 2 ^ m < 1024 := Nat.or_lt_two_pow (n := 10) hi (Nat.pow_lt_pow_right (by decide) (by omega))
                  refine v_iload dX5_waysOf_120 rfl ?_
                  refine v_sipush (x := nI 1024) dX5_waysOf_122 (by decide +kernel) ?_
                  refine n_icmp_ge (tgt := 175) dX5_waysOf_125 (by decide) (by omega) (by omega) (fun c125 => absurd c125 (by omega)) (fun c125 => ?_)
                  refine v_iload dX5_waysOf_128 rfl ?_
                  refine b_if_eq (tgt := 175) dX5_waysOf_130 (by decide) (fun c130 => absurd c130 (by rw [hb]; decide)) (fun c130 => ?_)
                  refine v_aload_n dX5_waysOf_133 rfl ?_
                  refine v_get (j := 25) iO40 rfl dX5_waysOf_134 (by decide) in_X5_waysOf_X5 fl_X5_waysOf_66 rfl ?_
                  refine v_iload dX5_waysOf_137 rfl ?_
                  refine v_iconst (x := nI 1) dX5_waysOf_139 (by decide +kernel) ?_
                  refine v_iload dX5_waysOf_140 rfl ?_
                  refine n_shl1 dX5_waysOf_142 (by omega) ?_
                  refine n_ior dX5_waysOf_143 ?_
                  refine v_dup2 dX5_waysOf_144 rfl rfl ?_
                  refine v_laldN (t ||| 2 ^ m) iJ59 dX5_waysOf_145 rfl hl2 (by decide) ?_
                  refine v_topl (hinv2.2.1 _ hl2) ?_
                  refine v_iload dX5_waysOf_146 rfl ?_
                  refine v_iload dX5_waysOf_148 rfl ?_
                  refine n_ishr dX5_waysOf_150 (by omega) (by omega) ?_
                  refine v_iconst (x := nI 1) dX5_waysOf_151 (by decide +kernel) ?_
                  refine n_and1 dX5_waysOf_152 ?_
                  refine n_if_ne (tgt := 166) dX5_waysOf_153 (by decide) (by omega) (fun c153 => ?_) (fun c153 => ?_)
                  · refine v_lconst (x := 0) dX5_waysOf_166 rfl ?_
                    refine v_topl (y := lN 0) rfl ?_
                    refine v_ladd dX5_waysOf_167 ?_
                    refine v_topl (lN_add _ _) ?_
                    refine v_lastN (t ||| 2 ^ m) iJ59 dX5_waysOf_168 rfl hl2 (by decide) ?_
                    refine n_iinc (n := 1) (L' := [(6, _), (0, _), (1, _), (2, _), (3, _), (4, _), (5, _)]) dX5_waysOf_169 rfl (by decide) rfl ?_
                    refine v_goto (tgt := 120) dX5_waysOf_172 (by decide) ?_
                    refine v_sub [1, 2, 3, 4, 5, 6, 0] rfl ?_
                    first | exact ih _ ⟨hinv2.1.o (by decide), Gt_y (by rw [tb_div]; simp; omega) hinv2.2.1, hinv2.2.2.up _ _ _⟩ | exact ih _ ⟨hinv2.1.o (by decide), Gt_n (by rw [tb_div]; simp; omega) hinv2.2.1 hl2, hinv2.2.2.up _ _ _⟩
                  · refine v_aload_n dX5_waysOf_156 rfl ?_
                    refine v_get (j := 24) iO40 rfl dX5_waysOf_157 (by decide) in_X5_waysOf_X5 fl_X5_waysOf_62 rfl ?_
                    refine v_iload dX5_waysOf_160 rfl ?_
                    refine v_laldN t iJ58 dX5_waysOf_162 rfl hi (by decide) ?_
                    refine v_topl (hinv2.1 _ hi) ?_
                    refine v_goto (tgt := 167) dX5_waysOf_163 (by decide) ?_
                    refine v_ladd dX5_waysOf_167 ?_
                    refine v_topl (lN_add _ _) ?_
                    refine v_lastN (t ||| 2 ^ m) iJ59 dX5_waysOf_168 rfl hl2 (by decide) ?_
                    refine n_iinc (n := 1) (L' := [(6, _), (0, _), (1, _), (2, _), (3, _), (4, _), (5, _)]) dX5_waysOf_169 rfl (by decide) rfl ?_
                    refine v_goto (tgt := 120) dX5_waysOf_172 (by decide) ?_
                    refine v_sub [1, 2, 3, 4, 5, 6, 0] rfl ?_
                    first | exact ih _ ⟨hinv2.1.o (by decide), Gt_y (by rw [tb_div]; simp; omega) hinv2.2.1, hinv2.2.2.up _ _ _⟩ | exact ih _ ⟨hinv2.1.o (by decide), Gt_n (by rw [tb_div]; simp; omega) hinv2.2.1 hl2, hinv2.2.2.up _ _ _⟩
                · intro τ2 hinv2
                  refine v_iload dX5_waysOf_120 rfl ?_
                  refine v_sipush (x := nI 1024) dX5_waysOf_122 (by decide +kernel) ?_
                  refine n_icmp_ge (tgt := 175) dX5_waysOf_125 (by decide) (by omega) (by omega) (fun c125 => ?_) (fun c125 => absurd c125 (by omega))
                  refine n_iinc (n := 1) (L' := [(4, _), (0, _), (1, _), (2, _), (3, _), (5, _), (6, _)]) dX5_waysOf_175 rfl (by decide) rfl ?_
                  refine v_goto (tgt := 78) dX5_waysOf_178 (by decide) ?_
                  refine v_sub [1, 2, 3, 4, 0] rfl ?_
                  exact ihm _ ⟨hinv2.1, hinv2.2.1.c (fun S hS => Gt_e hb hS), hinv2.2.2⟩
              · rw [Bool.not_eq_true] at hb
                refine v_istore (L' := [(5, _), (0, _), (1, _), (2, _), (3, _), (4, _)]) dX5_waysOf_115 (by decide) rfl ?_
                refine v_iconst (x := nI 0) dX5_waysOf_117 (by decide +kernel) ?_
                refine v_istore (L' := [(6, _), (5, _), (0, _), (1, _), (2, _), (3, _), (4, _)]) dX5_waysOf_118 (by decide) rfl ?_
                refine v_iload dX5_waysOf_120 rfl ?_
                refine v_sipush (x := nI 1024) dX5_waysOf_122 (by decide +kernel) ?_
                refine n_icmp_ge (tgt := 175) dX5_waysOf_125 (by decide) (by omega) (by omega) (fun c125 => absurd c125 (by omega)) (fun c125 => ?_)
                refine v_iload dX5_waysOf_128 rfl ?_
                refine b_if_eq (tgt := 175) dX5_waysOf_130 (by decide) (fun c130 => ?_) (fun c130 => absurd c130 (by rw [hb]; decide))
                refine n_iinc (n := 1) (L' := [(4, _), (6, _), (5, _), (0, _), (1, _), (2, _), (3, _)]) dX5_waysOf_175 rfl (by decide) rfl ?_
                refine v_goto (tgt := 78) dX5_waysOf_178 (by decide) ?_
                refine v_sub [3, 4, 5, 6, 0] rfl ?_
                exact ihm _ ⟨hinv.1, hinv.2.1.c (fun S hS => (Gm_n hb).symm), hinv.2.2⟩
            refine v_iload dX5_waysOf_78 rfl ?_
            refine v_aload_n dX5_waysOf_80 rfl ?_
            refine v_get (j := 8) iO40 rfl dX5_waysOf_81 (by decide) in_X5_waysOf_X5 fl_X5_waysOf_29 rfl ?_
            refine v_iconst (x := nI 0) dX5_waysOf_84 (by decide +kernel) ?_
            refine v_ialdN 0 iI47 dX5_waysOf_85 rfl (by decide) (by decide) ?_
            refine v_top (mh_N (hinv.2.2.mh hw)) ?_
            refine n_icmp_ge (tgt := 181) dX5_waysOf_86 (by decide) (by omega) (by omega) (fun c86 => absurd c86 (by omega)) (fun c86 => ?_)
            refine v_aload_n dX5_waysOf_89 rfl ?_
            refine v_iload dX5_waysOf_90 rfl ?_
            refine v_iload_n dX5_waysOf_92 rfl ?_
            refine v_callVi (M' := M_X5_mayCut) (As := [_, _]) iO40 (s_X5_mayCut (hinv.2.2.mh hw) hv hz hmN (by omega)) dX5_waysOf_93 gX5_waysOf_X5_mayCut rfl rfl nn_X5_mayCut ⟨rfl, rfl⟩ ⟨by decide, by decide⟩ rfl rfl (Nat.le_of_ble_eq_true rfl) ?_
            refine b_if_eq (tgt := 114) dX5_waysOf_96 (by decide) (fun c96 => ?_) (fun c96 => ?_)
            · refine v_iconst (x := 0) dX5_waysOf_114 rfl ?_
              refine v_sub [0, 1, 2, 3, 4] rfl ?_
              rw [hα k m hk hsh hmN] at key
              first | (rw [c96, Bool.false_and] at key; exact key) | (rw [c96, decide_eq_false c101] at key; exact key) | (rw [c96, decide_eq_true c101, decide_eq_false c107] at key; exact key) | (rw [c96, decide_eq_true c101, decide_eq_true c107] at key; exact key)
            · refine v_iload_n dX5_waysOf_99 rfl ?_
              refine v_iload_n dX5_waysOf_100 rfl ?_
              refine v_icmp_ne (tgt := 110) dX5_waysOf_101 (by decide) (fun c101 => ?_) (fun c101 => ?_)
              · refine v_iconst (x := 1) dX5_waysOf_110 rfl ?_
                refine v_goto (tgt := 115) dX5_waysOf_111 (by decide) ?_
                refine v_sub [0, 1, 2, 3, 4] rfl ?_
                rw [hα k m hk hsh hmN] at key
                first | (rw [c96, Bool.false_and] at key; exact key) | (rw [c96, decide_eq_false c101] at key; exact key) | (rw [c96, decide_eq_true c101, decide_eq_false c107] at key; exact key) | (rw [c96, decide_eq_true c101, decide_eq_true c107] at key; exact key)
              · refine v_iload dX5_waysOf_104 rfl ?_
                refine v_iload_n dX5_waysOf_106 rfl ?_
                refine v_icmp_ne (tgt := 114) dX5_waysOf_107 (by decide) (fun c107 => ?_) (fun c107 => ?_)
                · refine v_iconst (x := 0) dX5_waysOf_114 rfl ?_
                  refine v_sub [0, 1, 2, 3, 4] rfl ?_
                  rw [hα k m hk hsh hmN] at key
                  first | (rw [c96, Bool.false_and] at key; exact key) | (rw [c96, decide_eq_false c101] at key; exact key) | (rw [c96, decide_eq_true c101, decide_eq_false c107] at key; exact key) | (rw [c96, decide_eq_true c101, decide_eq_true c107] at key; exact key)
                · refine v_iconst (x := 1) dX5_waysOf_110 rfl ?_
                  refine v_goto (tgt := 115) dX5_waysOf_111 (by decide) ?_
                  refine v_sub [0, 1, 2, 3, 4] rfl ?_
                  rw [hα k m hk hsh hmN] at key
                  first | (rw [c96, Bool.false_and] at key; exact key) | (rw [c96, decide_eq_false c101] at key; exact key) | (rw [c96, decide_eq_true c101, decide_eq_false c107] at key; exact key) | (rw [c96, decide_eq_true c101, decide_eq_true c107] at key; exact key)
          · intro τ hinv
            refine v_iload dX5_waysOf_78 rfl ?_
            refine v_aload_n dX5_waysOf_80 rfl ?_
            refine v_get (j := 8) iO40 rfl dX5_waysOf_81 (by decide) in_X5_waysOf_X5 fl_X5_waysOf_29 rfl ?_
            refine v_iconst (x := nI 0) dX5_waysOf_84 (by decide +kernel) ?_
            refine v_ialdN 0 iI47 dX5_waysOf_85 rfl (by decide) (by decide) ?_
            refine v_top (mh_N (hinv.2.2.mh hw)) ?_
            refine n_icmp_ge (tgt := 181) dX5_waysOf_86 (by decide) (by omega) (by omega) (fun c86 => ?_) (fun c86 => absurd c86 (by omega))
            refine v_iconst (x := nI 0) dX5_waysOf_181 (by decide +kernel) ?_
            refine v_istore (L' := [(4, _), (0, _), (1, _), (2, _), (3, _)]) dX5_waysOf_182 (by decide) rfl ?_
            refine v_sub [1, 2, 3, 4, 0] rfl ?_
            refine loopN (fun t => ∀ τ : SS, (Zw 58 (Fw (wN w) α ((shl w k).length + 1)) t τ ∧ Zw 59 (Fw (wN w) α ((shl w k).length + 1)) 1024 τ ∧ FLo σ τ) → V v M_X5_waysOf (zR v M_X5_waysOf (fun r' σ' => r' = (some (.long (lN (sm (Fw (wN w) α (nSh w)) (2 ^ wN w))))) ∧ (FLo σ σ'))) 184 [(0, .ref (v.1 40)), (1, .int only), (2, .int sign0), (3, .int (nI k)), (4, .int (nI t))] [] τ) 1024 ?_ ?_ _ ⟨fun S hS => (by omega), hinv.2.1, hinv.2.2⟩
            · intro t hi ih τ hinv
              refine v_iload dX5_waysOf_184 rfl ?_
              refine v_sipush (x := nI 1024) dX5_waysOf_186 (by decide +kernel) ?_
              refine n_icmp_ge (tgt := 212) dX5_waysOf_189 (by decide) (by omega) (by omega) (fun c189 => absurd c189 (by omega)) (fun c189 => ?_)
              refine v_aload_n dX5_waysOf_192 rfl ?_
              refine v_get (j := 24) iO40 rfl dX5_waysOf_193 (by decide) in_X5_waysOf_X5 fl_X5_waysOf_62 rfl ?_
              refine v_iload dX5_waysOf_196 rfl ?_
              refine v_aload_n dX5_waysOf_198 rfl ?_
              refine v_get (j := 25) iO40 rfl dX5_waysOf_199 (by decide) in_X5_waysOf_X5 fl_X5_waysOf_66 rfl ?_
              refine v_iload dX5_waysOf_202 rfl ?_
              refine v_laldN t iJ59 dX5_waysOf_204 rfl (by omega) (by decide) ?_
              refine v_topl (hinv.2.1 _ hi) ?_
              refine v_lastN t iJ58 dX5_waysOf_205 rfl (by omega) (by decide) ?_
              refine n_iinc (n := 1) (L' := [(4, _), (0, _), (1, _), (2, _), (3, _)]) dX5_waysOf_206 rfl (by decide) rfl ?_
              refine v_goto (tgt := 184) dX5_waysOf_209 (by decide) ?_
              refine v_sub [1, 2, 3, 4, 0] rfl ?_
              exact ih _ ⟨hinv.1.s, hinv.2.1.o (by decide), hinv.2.2.up _ _ _⟩
            · intro τ hinv
              refine v_iload dX5_waysOf_184 rfl ?_
              refine v_sipush (x := nI 1024) dX5_waysOf_186 (by decide +kernel) ?_
              refine n_icmp_ge (tgt := 212) dX5_waysOf_189 (by decide) (by omega) (by omega) (fun c189 => ?_) (fun c189 => absurd c189 (by omega))
              refine n_iinc (n := 1) (L' := [(3, _), (0, _), (1, _), (2, _), (4, _)]) dX5_waysOf_212 rfl (by decide) rfl ?_
              refine v_goto (tgt := 32) dX5_waysOf_215 (by decide) ?_
              refine v_sub [1, 2, 3, 0] rfl ?_
              exact ihk _ ⟨by rw [shl_y hsh, List.length_append]; exact hinv.1, hinv.2.2⟩
    · intro τ hinv
      have hS := wv_S hv
      have hz8 := hinv.1
      have hfl := hinv.2
      rw [shl_end hv] at hz8
      refine v_iload_n dX5_waysOf_32 rfl ?_
      refine v_aload_n dX5_waysOf_33 rfl ?_
      refine v_get (j := 3) iO40 rfl dX5_waysOf_34 (by decide) in_X5_waysOf_X5 fl_X5_waysOf_13 rfl ?_
      refine v_iconst (x := nI 0) dX5_waysOf_37 (by decide +kernel) ?_
      refine v_ialdN 0 iI42 dX5_waysOf_38 rfl (by decide) (by decide) ?_
      refine v_top (mh_S (hinv.2.mh hw)) ?_
      refine n_icmp_ge (tgt := 218) dX5_waysOf_39 (by decide) (by omega) (by omega) (fun c39 => ?_) (fun c39 => absurd c39 (by omega))
      refine v_lconst (x := 0) dX5_waysOf_218 rfl ?_
      refine v_lstore_n (L' := [(3, _), (0, _), (1, _), (2, _)]) dX5_waysOf_219 rfl (by decide) rfl ?_
      refine v_iconst (x := nI 0) dX5_waysOf_220 (by decide +kernel) ?_
      refine v_istore (L' := [(5, _), (3, _), (0, _), (1, _), (2, _)]) dX5_waysOf_221 (by decide) rfl ?_
      refine v_sub [2, 1, 0] rfl ?_
      refine loopN (fun t => V v M_X5_waysOf (zR v M_X5_waysOf (fun r' σ' => r' = (some (.long (lN (sm (Fw (wN w) α (nSh w)) (2 ^ wN w))))) ∧ (FLo σ σ'))) 223 [(0, .ref (v.1 40)), (3, .long (lN (sm (Fw (wN w) α (nSh w)) t))), (5, .int (nI t))] [] (τ)) 1024 ?_ ?_
      · intro t hi ih
        refine v_iload dX5_waysOf_223 rfl ?_
        refine v_sipush (x := nI 1024) dX5_waysOf_225 (by decide +kernel) ?_
        refine n_icmp_ge (tgt := 247) dX5_waysOf_228 (by decide) (by omega) (by omega) (fun c228 => absurd c228 (by omega)) (fun c228 => ?_)
        refine v_lload_n dX5_waysOf_231 rfl ?_
        refine v_aload_n dX5_waysOf_232 rfl ?_
        refine v_get (j := 24) iO40 rfl dX5_waysOf_233 (by decide) in_X5_waysOf_X5 fl_X5_waysOf_62 rfl ?_
        refine v_iload dX5_waysOf_236 rfl ?_
        refine v_laldN t iJ58 dX5_waysOf_238 rfl (by omega) (by decide) ?_
        refine v_topl (hz8 _ hi) ?_
        refine v_ladd dX5_waysOf_239 ?_
        refine v_topl (lN_add _ _) ?_
        refine v_lstore_n (L' := [(3, _), (0, _), (5, _)]) dX5_waysOf_240 rfl (by decide) rfl ?_
        refine n_iinc (n := 1) (L' := [(5, _), (3, _), (0, _)]) dX5_waysOf_241 rfl (by decide) rfl ?_
        refine v_goto (tgt := 223) dX5_waysOf_244 (by decide) ?_
        refine v_sub [2, 1, 0] rfl ?_
        exact ih
      · refine v_iload dX5_waysOf_223 rfl ?_
        refine v_sipush (x := nI 1024) dX5_waysOf_225 (by decide +kernel) ?_
        refine n_icmp_ge (tgt := 247) dX5_waysOf_228 (by decide) (by omega) (by omega) (fun c228 => ?_) (fun c228 => absurd c228 (by omega))
        refine v_lload_n dX5_waysOf_247 rfl ?_
        exact v_lret rfl dX5_waysOf_248 ⟨congrArg (fun z => some (Value.long (lN z))) (sm_stop (pow_le10 (wv_N hv)) (fun S h1 _ => Fw_big _ _ h1)), hfl⟩
