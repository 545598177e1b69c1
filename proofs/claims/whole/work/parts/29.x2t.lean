theorem in_X2_tellTo_X2 : ∀ w ∈ u_ws RX2 TX2 3, w ∈ mWs M_X2_tellTo := by decide +kernel
theorem fl_X2_tellTo_15 : Cond.fieldLink (mOwn M_X2_tellTo) 15 (TX2 1).1 (TX2 1).2.1 (TX2 1).2.2.1 ∈ mWs M_X2_tellTo := by decide +kernel
theorem fl_X2_tellTo_19 : Cond.fieldLink (mOwn M_X2_tellTo) 19 (TX2 2).1 (TX2 2).2.1 (TX2 2).2.2.1 ∈ mWs M_X2_tellTo := by decide +kernel
theorem nn_X2_split : (mY M_X2_split).cls = mOwn M_X2_split ∧ (mY M_X2_split).cls ≠ "java/lang/invoke/MethodHandle" ∧ (mY M_X2_split).cls ≠ "java/lang/invoke/VarHandle" ∧ (parseMethodDescriptor (mY M_X2_split).desc).map (fun d => d.parameters.length) = some 1 := by decide +kernel
theorem nn_X3_accept : (mY M_X3_accept).cls = mOwn M_X3_accept ∧ (mY M_X3_accept).cls ≠ "java/lang/invoke/MethodHandle" ∧ (mY M_X3_accept).cls ≠ "java/lang/invoke/VarHandle" ∧ (parseMethodDescriptor (mY M_X3_accept).desc).map (fun d => d.parameters.length) = some 4 := by decide +kernel
theorem nn_X3_clear : (mY M_X3_clear).cls = mOwn M_X3_clear ∧ (mY M_X3_clear).cls ≠ "java/lang/invoke/MethodHandle" ∧ (mY M_X3_clear).cls ≠ "java/lang/invoke/VarHandle" ∧ (parseMethodDescriptor (mY M_X3_clear).desc).map (fun d => d.parameters.length) = some 0 := by decide +kernel
/-- nothing but the wall at b and the row of numbers has changed -/
def F2 (b : Nat) (σ σ' : SS) : Prop := (∀ a, a ≠ 3 → (a < b ∨ b + 8 < a) → σ'.1 a = σ.1 a) ∧ σ'.2 = σ.2
theorem F2.tr {b : Nat} {σ τ υ : SS} (h1 : F2 b σ τ) (h2 : F2 b τ υ) : F2 b σ υ := ⟨fun a h g => (h2.1 a h g).trans (h1.1 a h g), h2.2.trans h1.2⟩
theorem FN.f2 {b : Nat} {σ τ : SS} (h : FN σ τ) : F2 b σ τ := ⟨fun a ha _ => h.1 a ha, h.2⟩
theorem Fr.f2 {b : Nat} {σ τ : SS} (h : Fr b σ τ) : F2 b σ τ := ⟨fun a _ ha => h.1 a ha, h.2⟩
theorem FN.ch {b : Nat} (hb : isW b) {w : WD} {σ τ : SS} (h : FN σ τ) (hw : CH b w σ) : CH b w τ := by
  have e : ∀ i, i ≤ 8 → τ.1 (b + i) = σ.1 (b + i) := fun i hi => h.1 _ (by rcases hb with rfl | rfl <;> omega)
  obtain ⟨h1, h5, h6, h7, h8, h9⟩ := hw
  have e0 : τ.1 b = σ.1 b := e 0 (by omega)
  refine ⟨by rw [e0]; exact h1, ?_, ?_, ?_, ?_, ?_⟩
  · rw [e 1 (by omega), e 2 (by omega)]; exact h5
  · rw [e 3 (by omega), e 4 (by omega), e 5 (by omega)]; exact h6
  · rw [e 6 (by omega)]; exact h7
  · rw [e 7 (by omega)]; exact h8
  · rw [e 8 (by omega)]; exact h9
theorem Fr.ct {b : Nat} (hb : isW b) {u : Nat → Nat} {len : Nat} {σ τ : SS} (h : Fr b σ τ) (hT : CT u len σ) : CT u len τ := by
  have h1 : τ.1 1 = σ.1 1 := h.1 1 (by rcases hb with rfl | rfl <;> omega)
  have h2 : τ.1 2 = σ.1 2 := h.1 2 (by rcases hb with rfl | rfl <;> omega)
  exact ⟨by rw [h1]; exact hT.1, hT.2.1, fun j hj => by rw [h2]; exact hT.2.2 j hj⟩
theorem F2.ct {b : Nat} (hb : isW b) {u : Nat → Nat} {len : Nat} {σ τ : SS} (h : F2 b σ τ) (hT : CT u len σ) : CT u len τ := by
  have h1 : τ.1 1 = σ.1 1 := h.1 1 (by decide) (by rcases hb with rfl | rfl <;> omega)
  have h2 : τ.1 2 = σ.1 2 := h.1 2 (by decide) (by rcases hb with rfl | rfl <;> omega)
  exact ⟨by rw [h1]; exact hT.1, hT.2.1, fun j hj => by rw [h2]; exact hT.2.2 j hj⟩
theorem it_none0 {u : Nat → Nat} {len p : Nat} {w : WD} (h : nums (u p) = 0) : itemAt u len p w = none := by
  rw [nums] at h
  rw [itemAt]
  by_cases c7 : u p = 119
  · simp [c7] at h
  · by_cases c2 : u p = 103 ∨ u p = 98 ∨ u p = 110
    · simp [c7, c2] at h
    · by_cases c3 : u p = 99 ∨ u p = 116 ∨ u p = 97
      · simp [c7, c2, c3] at h
      · rw [if_neg (by omega), if_neg (by omega), if_neg (by omega), if_neg (by omega), if_neg (by omega), if_neg (by omega), if_neg (by omega)]
theorem i2_spec {u : Nat → Nat} {len p a c q : Nat} (h : i2 u len p = some (a, c, q)) : a < 1000 ∧ c < 1000 ∧ (p < q ∧ q ≤ len) := by
  rw [i2] at h
  cases h1 : n1 u len (p + 1) 44 with
  | none => rw [h1] at h; cases h
  | some x =>
    obtain ⟨a1, q1⟩ := x
    rw [h1] at h
    cases h2 : n1 u len q1 59 with
    | none => simp only [h2] at h; cases h
    | some y =>
      obtain ⟨b1, r1⟩ := y
      simp only [h2, Option.some.injEq, Prod.mk.injEq] at h
      have s1 := n1_spec h1
      have s2 := n1_spec h2
      omega
theorem i3_spec {u : Nat → Nat} {len p a c d q : Nat} (h : i3 u len p = some (a, c, d, q)) : a < 1000 ∧ c < 1000 ∧ d < 1000 ∧ (p < q ∧ q ≤ len) := by
  rw [i3] at h
  cases h1 : n1 u len (p + 1) 44 with
  | none => rw [h1] at h; cases h
  | some x =>
    obtain ⟨a1, q1⟩ := x
    rw [h1] at h
    cases h2 : n1 u len q1 44 with
    | none => simp only [h2] at h; cases h
    | some y =>
      obtain ⟨b1, r1⟩ := y
      simp only [h2] at h
      cases h3 : n1 u len r1 59 with
      | none => simp only [h3] at h; cases h
      | some z =>
        obtain ⟨c1, s1⟩ := z
        simp only [h3, Option.some.injEq, Prod.mk.injEq] at h
        have t1 := n1_spec h1
        have t2 := n1_spec h2
        have t3 := n1_spec h3
        omega
set_option maxRecDepth 100000 in
set_option maxHeartbeats 4000000 in
theorem x2_tl {v : EE} {b : Nat} (hb : isW b) {u : Nat → Nat} {len : Nat} (σ0 : SS) : ∀ (f p i z : Nat) (w : WD) (σ : SS), CT u len σ → CH b w σ → WV z w → F2 b σ0 σ → p ≤ len → i ≤ p → len - p < f → tl u len f p w = tell u len → V v M_X2_tellTo (zR v M_X2_tellTo (fun r' σ' => r' = (some (.int (tlA (tell u len)))) ∧ (F2 b σ0 σ' ∧ ∀ w, tell u len = .inr w → CH b w σ'))) 8 [(0, .ref (v.1 1)), (1, .ref (v.1 b)), (2, .int (nI p)), (3, .int (nI i))] [] σ := by
  intro f
  induction f with
  | zero => intro p i z w σ _ _ _ _ _ _ h; omega
  | succ f ih =>
    intro p i z w σ hT hw hv hF hp hi hf ht
    have hl := hT.2.1
    refine v_iload_n dX2_tellTo_8 rfl ?_
    refine v_sipush (x := nI 500) dX2_tellTo_9 (by decide +kernel) ?_
    refine n_icmp_ge (tgt := 76) dX2_tellTo_12 (by decide) (by omega) (by omega) (fun c12 => ?_) (fun c12 => ?_)
    · refine v_bipush (x := (-4)) dX2_tellTo_76 (by decide +kernel) ?_
      exact v_iret rfl dX2_tellTo_78 ⟨by rw [← ht, tl, if_neg (by omega)]; rfl, hF, fun w9 h9 => by rw [← ht, tl, if_neg (by omega)] at h9; cases h9; exact hw⟩
    · refine v_iload_n dX2_tellTo_15 rfl ?_
      refine v_aload_n dX2_tellTo_16 rfl ?_
      refine v_get (j := 2) iO1 rfl dX2_tellTo_17 (by decide) in_X2_tellTo_X2 fl_X2_tellTo_19 rfl ?_
      refine v_top hT.1 ?_
      refine n_icmp_ge (tgt := 76) dX2_tellTo_20 (by decide) (by omega) (by omega) (fun c20 => ?_) (fun c20 => ?_)
      · refine v_bipush (x := (-4)) dX2_tellTo_76 (by decide +kernel) ?_
        exact v_iret rfl dX2_tellTo_78 ⟨by rw [← ht, tl, if_neg (by omega)]; rfl, hF, fun w9 h9 => by rw [← ht, tl, if_neg (by omega)] at h9; cases h9; exact hw⟩
      · have hu := (hT.2.2 p c20).1
        by_cases e9 : u p = 103
        · cases hx : i2 u len p with
          | none =>
            refine v_aload_n dX2_tellTo_23 rfl ?_
            refine v_iload_n dX2_tellTo_24 rfl ?_
            refine v_callVRi (M' := M_X2_split) (As := [_]) iO1 (s_X2_split_2 hT c20 (by rw [e9]; rfl)) dX2_tellTo_25 gX2_tellTo_X2_split rfl rfl nn_X2_split ⟨rfl, rfl⟩ ⟨by decide, by decide⟩ rfl rfl (Nat.le_of_ble_eq_true rfl) (fun s1 h1 => ?_)
            refine v_top (y := -4) (by rw [hx]) ?_
            refine v_istore (L' := [(4, _), (0, _), (1, _), (2, _), (3, _)]) dX2_tellTo_28 (by decide) rfl ?_
            refine v_iload dX2_tellTo_30 rfl ?_
            refine v_if_lt (tgt := 65) dX2_tellTo_32 (by decide) (fun c32 => ?_) (fun c32 => absurd (by decide) c32)
            refine v_iload_n dX2_tellTo_65 rfl ?_
            exact v_iret rfl dX2_tellTo_66 ⟨congrArg (fun z => some (Value.int z)) (by rw [← ht, tl, if_pos c20, show itemAt u len p w = none from by rw [itemAt, if_pos e9, hx]]; rfl), hF.tr h1.1.f2, fun w9 h9 => by rw [← ht, tl, if_pos c20, show itemAt u len p w = none from by rw [itemAt, if_pos e9, hx]] at h9; cases h9⟩
          | some x9 =>
            obtain ⟨a, c, q⟩ := x9
            obtain ⟨ha, hc, hq⟩ := i2_spec hx
            refine v_aload_n dX2_tellTo_23 rfl ?_
            refine v_iload_n dX2_tellTo_24 rfl ?_
            refine v_callVRi (M' := M_X2_split) (As := [_]) iO1 (s_X2_split_2 hT c20 (by rw [e9]; rfl)) dX2_tellTo_25 gX2_tellTo_X2_split rfl rfl nn_X2_split ⟨rfl, rfl⟩ ⟨by decide, by decide⟩ rfl rfl (Nat.le_of_ble_eq_true rfl) (fun s1 h1 => ?_)
            refine v_top (y := nI q) (by rw [hx]) ?_
            have hT1 := h1.1.ct hT
            have hw1 := h1.1.ch hb hw
            refine v_istore (L' := [(4, _), (0, _), (1, _), (2, _), (3, _)]) dX2_tellTo_28 (by decide) rfl ?_
            refine v_iload dX2_tellTo_30 rfl ?_
            refine n_if_lt (tgt := 65) dX2_tellTo_32 (by decide) (by omega) ?_
            refine v_aload_n dX2_tellTo_35 rfl ?_
            refine v_aload_n dX2_tellTo_36 rfl ?_
            refine v_iload_n dX2_tellTo_37 rfl ?_
            refine v_callVi (M' := M_X2_byteAt) (As := [_]) iO1 (s_X2_byteAt hT1 (by omega)) dX2_tellTo_38 gX2_tellTo_X2_byteAt rfl rfl nn_X2_byteAt ⟨rfl, rfl⟩ ⟨by decide, by decide⟩ rfl rfl (Nat.le_of_ble_eq_true rfl) ?_
            refine v_top (y := nI 103) (by rw [bt_in c20, e9]) ?_
            refine v_aload_n dX2_tellTo_41 rfl ?_
            refine v_get (j := 1) iO1 rfl dX2_tellTo_42 (by decide) in_X2_tellTo_X2 fl_X2_tellTo_15 rfl ?_
            refine v_iconst (x := nI 0) dX2_tellTo_45 (by decide +kernel) ?_
            refine v_ialdN 0 iI3 dX2_tellTo_46 rfl (by decide) (by decide) ?_
            refine v_top ((h1.2 a c q hx).1) ?_
            refine v_aload_n dX2_tellTo_47 rfl ?_
            refine v_get (j := 1) iO1 rfl dX2_tellTo_48 (by decide) in_X2_tellTo_X2 fl_X2_tellTo_15 rfl ?_
            refine v_iconst (x := nI 1) dX2_tellTo_51 (by decide +kernel) ?_
            refine v_ialdN 1 iI3 dX2_tellTo_52 rfl (by decide) (by decide) ?_
            refine v_top ((h1.2 a c q hx).2) ?_
            refine v_aload_n dX2_tellTo_53 rfl ?_
            refine v_get (j := 1) iO1 rfl dX2_tellTo_54 (by decide) in_X2_tellTo_X2 fl_X2_tellTo_15 rfl ?_
            refine v_iconst (x := nI 2) dX2_tellTo_57 (by decide +kernel) ?_
            refine v_ialdN 2 iI3 dX2_tellTo_58 rfl (by decide) (by decide) ?_
            refine v_callVRi (M' := M_X3_accept) (As := [_, _, _, _]) (iWO hb) (s_X3_accept_g hb hw1 hv ha hc _) dX2_tellTo_59 gX2_tellTo_X3_accept rfl rfl nn_X3_accept ⟨rfl, rfl⟩ ⟨by decide, by decide⟩ rfl rfl (Nat.le_of_ble_eq_true rfl) (fun s2 h2 => ?_)
            refine b_if_ne (tgt := 67) dX2_tellTo_62 (by decide) (fun c62 => ?_) (fun c62 => ?_)
            · obtain ⟨w1, hw2⟩ : ∃ w1, iG w a c = some w1 := by cases h : iG w a c with | none => rw [h] at c62; cases c62 | some y => exact ⟨y, rfl⟩
              have hit : itemAt u len p w = some (q, w1) := by rw [show itemAt u len p w = (iG w a c).map (fun x => (q, x)) from by rw [itemAt, if_pos e9, hx], hw2]; rfl
              refine v_iload dX2_tellTo_67 rfl ?_
              refine v_istore_n (L' := [(2, _), (4, _), (0, _), (1, _), (3, _)]) dX2_tellTo_69 rfl (by decide) rfl ?_
              refine n_iinc (n := 1) (L' := [(3, _), (2, _), (4, _), (0, _), (1, _)]) dX2_tellTo_70 rfl (by decide) rfl ?_
              refine v_goto (tgt := 8) dX2_tellTo_73 (by decide) ?_
              refine v_sub [3, 4, 1, 0] rfl ?_
              exact ih q (i + 1) (z + 99) w1 s2 (h2.1.ct hb hT1) (h2.2 w1 hw2) (itemAt_wv hv hit) ((hF.tr h1.1.f2).tr h2.1.f2) (itemAt_next hit).2 (by have := itemAt_next hit; omega) (by have := itemAt_next hit; omega) (by rw [← ht, tl, if_pos c20, hit])
            · have hnone : iG w a c = none := by cases h : iG w a c with | none => rfl | some y => rw [h] at c62; cases c62
              refine v_iload_n dX2_tellTo_65 rfl ?_
              exact v_iret rfl dX2_tellTo_66 ⟨congrArg (fun z => some (Value.int z)) (by rw [← ht, tl, if_pos c20, show itemAt u len p w = none from by rw [show itemAt u len p w = (iG w a c).map (fun x => (q, x)) from by rw [itemAt, if_pos e9, hx], hnone]; rfl]; rfl), (hF.tr h1.1.f2).tr h2.1.f2, fun w9 h9 => by rw [← ht, tl, if_pos c20, show itemAt u len p w = none from by rw [show itemAt u len p w = (iG w a c).map (fun x => (q, x)) from by rw [itemAt, if_pos e9, hx], hnone]; rfl] at h9; cases h9⟩
        by_cases e9 : u p = 99
        · cases hx : i3 u len p with
          | none =>
            refine v_aload_n dX2_tellTo_23 rfl ?_
            refine v_iload_n dX2_tellTo_24 rfl ?_
            refine v_callVRi (M' := M_X2_split) (As := [_]) iO1 (s_X2_split_3 hT c20 (by rw [e9]; rfl)) dX2_tellTo_25 gX2_tellTo_X2_split rfl rfl nn_X2_split ⟨rfl, rfl⟩ ⟨by decide, by decide⟩ rfl rfl (Nat.le_of_ble_eq_true rfl) (fun s1 h1 => ?_)
            refine v_top (y := -4) (by rw [hx]) ?_
            refine v_istore (L' := [(4, _), (0, _), (1, _), (2, _), (3, _)]) dX2_tellTo_28 (by decide) rfl ?_
            refine v_iload dX2_tellTo_30 rfl ?_
            refine v_if_lt (tgt := 65) dX2_tellTo_32 (by decide) (fun c32 => ?_) (fun c32 => absurd (by decide) c32)
            refine v_iload_n dX2_tellTo_65 rfl ?_
            exact v_iret rfl dX2_tellTo_66 ⟨congrArg (fun z => some (Value.int z)) (by rw [← ht, tl, if_pos c20, show itemAt u len p w = none from by rw [itemAt, if_neg (by rw [e9]; decide), if_pos e9, hx]]; rfl), hF.tr h1.1.f2, fun w9 h9 => by rw [← ht, tl, if_pos c20, show itemAt u len p w = none from by rw [itemAt, if_neg (by rw [e9]; decide), if_pos e9, hx]] at h9; cases h9⟩
          | some x9 =>
            obtain ⟨a, c, d, q⟩ := x9
            obtain ⟨ha, hc, hd, hq⟩ := i3_spec hx
            refine v_aload_n dX2_tellTo_23 rfl ?_
            refine v_iload_n dX2_tellTo_24 rfl ?_
            refine v_callVRi (M' := M_X2_split) (As := [_]) iO1 (s_X2_split_3 hT c20 (by rw [e9]; rfl)) dX2_tellTo_25 gX2_tellTo_X2_split rfl rfl nn_X2_split ⟨rfl, rfl⟩ ⟨by decide, by decide⟩ rfl rfl (Nat.le_of_ble_eq_true rfl) (fun s1 h1 => ?_)
            refine v_top (y := nI q) (by rw [hx]) ?_
            have hT1 := h1.1.ct hT
            have hw1 := h1.1.ch hb hw
            refine v_istore (L' := [(4, _), (0, _), (1, _), (2, _), (3, _)]) dX2_tellTo_28 (by decide) rfl ?_
            refine v_iload dX2_tellTo_30 rfl ?_
            refine n_if_lt (tgt := 65) dX2_tellTo_32 (by decide) (by omega) ?_
            refine v_aload_n dX2_tellTo_35 rfl ?_
            refine v_aload_n dX2_tellTo_36 rfl ?_
            refine v_iload_n dX2_tellTo_37 rfl ?_
            refine v_callVi (M' := M_X2_byteAt) (As := [_]) iO1 (s_X2_byteAt hT1 (by omega)) dX2_tellTo_38 gX2_tellTo_X2_byteAt rfl rfl nn_X2_byteAt ⟨rfl, rfl⟩ ⟨by decide, by decide⟩ rfl rfl (Nat.le_of_ble_eq_true rfl) ?_
            refine v_top (y := nI 99) (by rw [bt_in c20, e9]) ?_
            refine v_aload_n dX2_tellTo_41 rfl ?_
            refine v_get (j := 1) iO1 rfl dX2_tellTo_42 (by decide) in_X2_tellTo_X2 fl_X2_tellTo_15 rfl ?_
            refine v_iconst (x := nI 0) dX2_tellTo_45 (by decide +kernel) ?_
            refine v_ialdN 0 iI3 dX2_tellTo_46 rfl (by decide) (by decide) ?_
            refine v_top ((h1.2 a c d q hx).1) ?_
            refine v_aload_n dX2_tellTo_47 rfl ?_
            refine v_get (j := 1) iO1 rfl dX2_tellTo_48 (by decide) in_X2_tellTo_X2 fl_X2_tellTo_15 rfl ?_
            refine v_iconst (x := nI 1) dX2_tellTo_51 (by decide +kernel) ?_
            refine v_ialdN 1 iI3 dX2_tellTo_52 rfl (by decide) (by decide) ?_
            refine v_top ((h1.2 a c d q hx).2.1) ?_
            refine v_aload_n dX2_tellTo_53 rfl ?_
            refine v_get (j := 1) iO1 rfl dX2_tellTo_54 (by decide) in_X2_tellTo_X2 fl_X2_tellTo_15 rfl ?_
            refine v_iconst (x := nI 2) dX2_tellTo_57 (by decide +kernel) ?_
            refine v_ialdN 2 iI3 dX2_tellTo_58 rfl (by decide) (by decide) ?_
            refine v_top ((h1.2 a c d q hx).2.2) ?_
            refine v_callVRi (M' := M_X3_accept) (As := [_, _, _, _]) (iWO hb) (s_X3_accept_c hb hw1 hv ha hc hd) dX2_tellTo_59 gX2_tellTo_X3_accept rfl rfl nn_X3_accept ⟨rfl, rfl⟩ ⟨by decide, by decide⟩ rfl rfl (Nat.le_of_ble_eq_true rfl) (fun s2 h2 => ?_)
            refine b_if_ne (tgt := 67) dX2_tellTo_62 (by decide) (fun c62 => ?_) (fun c62 => ?_)
            · obtain ⟨w1, hw2⟩ : ∃ w1, iC w a c d = some w1 := by cases h : iC w a c d with | none => rw [h] at c62; cases c62 | some y => exact ⟨y, rfl⟩
              have hit : itemAt u len p w = some (q, w1) := by rw [show itemAt u len p w = (iC w a c d).map (fun x => (q, x)) from by rw [itemAt, if_neg (by rw [e9]; decide), if_pos e9, hx], hw2]; rfl
              refine v_iload dX2_tellTo_67 rfl ?_
              refine v_istore_n (L' := [(2, _), (4, _), (0, _), (1, _), (3, _)]) dX2_tellTo_69 rfl (by decide) rfl ?_
              refine n_iinc (n := 1) (L' := [(3, _), (2, _), (4, _), (0, _), (1, _)]) dX2_tellTo_70 rfl (by decide) rfl ?_
              refine v_goto (tgt := 8) dX2_tellTo_73 (by decide) ?_
              refine v_sub [3, 4, 1, 0] rfl ?_
              exact ih q (i + 1) (z + 99) w1 s2 (h2.1.ct hb hT1) (h2.2 w1 hw2) (itemAt_wv hv hit) ((hF.tr h1.1.f2).tr h2.1.f2) (itemAt_next hit).2 (by have := itemAt_next hit; omega) (by have := itemAt_next hit; omega) (by rw [← ht, tl, if_pos c20, hit])
            · have hnone : iC w a c d = none := by cases h : iC w a c d with | none => rfl | some y => rw [h] at c62; cases c62
              refine v_iload_n dX2_tellTo_65 rfl ?_
              exact v_iret rfl dX2_tellTo_66 ⟨congrArg (fun z => some (Value.int z)) (by rw [← ht, tl, if_pos c20, show itemAt u len p w = none from by rw [show itemAt u len p w = (iC w a c d).map (fun x => (q, x)) from by rw [itemAt, if_neg (by rw [e9]; decide), if_pos e9, hx], hnone]; rfl]; rfl), (hF.tr h1.1.f2).tr h2.1.f2, fun w9 h9 => by rw [← ht, tl, if_pos c20, show itemAt u len p w = none from by rw [show itemAt u len p w = (iC w a c d).map (fun x => (q, x)) from by rw [itemAt, if_neg (by rw [e9]; decide), if_pos e9, hx], hnone]; rfl] at h9; cases h9⟩
        by_cases e9 : u p = 116
        · cases hx : i3 u len p with
          | none =>
            refine v_aload_n dX2_tellTo_23 rfl ?_
            refine v_iload_n dX2_tellTo_24 rfl ?_
            refine v_callVRi (M' := M_X2_split) (As := [_]) iO1 (s_X2_split_3 hT c20 (by rw [e9]; rfl)) dX2_tellTo_25 gX2_tellTo_X2_split rfl rfl nn_X2_split ⟨rfl, rfl⟩ ⟨by decide, by decide⟩ rfl rfl (Nat.le_of_ble_eq_true rfl) (fun s1 h1 => ?_)
            refine v_top (y := -4) (by rw [hx]) ?_
            refine v_istore (L' := [(4, _), (0, _), (1, _), (2, _), (3, _)]) dX2_tellTo_28 (by decide) rfl ?_
            refine v_iload dX2_tellTo_30 rfl ?_
            refine v_if_lt (tgt := 65) dX2_tellTo_32 (by decide) (fun c32 => ?_) (fun c32 => absurd (by decide) c32)
            refine v_iload_n dX2_tellTo_65 rfl ?_
            exact v_iret rfl dX2_tellTo_66 ⟨congrArg (fun z => some (Value.int z)) (by rw [← ht, tl, if_pos c20, show itemAt u len p w = none from by rw [itemAt, if_neg (by rw [e9]; decide), if_neg (by rw [e9]; decide), if_pos e9, hx]]; rfl), hF.tr h1.1.f2, fun w9 h9 => by rw [← ht, tl, if_pos c20, show itemAt u len p w = none from by rw [itemAt, if_neg (by rw [e9]; decide), if_neg (by rw [e9]; decide), if_pos e9, hx]] at h9; cases h9⟩
          | some x9 =>
            obtain ⟨a, c, d, q⟩ := x9
            obtain ⟨ha, hc, hd, hq⟩ := i3_spec hx
            refine v_aload_n dX2_tellTo_23 rfl ?_
            refine v_iload_n dX2_tellTo_24 rfl ?_
            refine v_callVRi (M' := M_X2_split) (As := [_]) iO1 (s_X2_split_3 hT c20 (by rw [e9]; rfl)) dX2_tellTo_25 gX2_tellTo_X2_split rfl rfl nn_X2_split ⟨rfl, rfl⟩ ⟨by decide, by decide⟩ rfl rfl (Nat.le_of_ble_eq_true rfl) (fun s1 h1 => ?_)
            refine v_top (y := nI q) (by rw [hx]) ?_
            have hT1 := h1.1.ct hT
            have hw1 := h1.1.ch hb hw
            refine v_istore (L' := [(4, _), (0, _), (1, _), (2, _), (3, _)]) dX2_tellTo_28 (by decide) rfl ?_
            refine v_iload dX2_tellTo_30 rfl ?_
            refine n_if_lt (tgt := 65) dX2_tellTo_32 (by decide) (by omega) ?_
            refine v_aload_n dX2_tellTo_35 rfl ?_
            refine v_aload_n dX2_tellTo_36 rfl ?_
            refine v_iload_n dX2_tellTo_37 rfl ?_
            refine v_callVi (M' := M_X2_byteAt) (As := [_]) iO1 (s_X2_byteAt hT1 (by omega)) dX2_tellTo_38 gX2_tellTo_X2_byteAt rfl rfl nn_X2_byteAt ⟨rfl, rfl⟩ ⟨by decide, by decide⟩ rfl rfl (Nat.le_of_ble_eq_true rfl) ?_
            refine v_top (y := nI 116) (by rw [bt_in c20, e9]) ?_
            refine v_aload_n dX2_tellTo_41 rfl ?_
            refine v_get (j := 1) iO1 rfl dX2_tellTo_42 (by decide) in_X2_tellTo_X2 fl_X2_tellTo_15 rfl ?_
            refine v_iconst (x := nI 0) dX2_tellTo_45 (by decide +kernel) ?_
            refine v_ialdN 0 iI3 dX2_tellTo_46 rfl (by decide) (by decide) ?_
            refine v_top ((h1.2 a c d q hx).1) ?_
            refine v_aload_n dX2_tellTo_47 rfl ?_
            refine v_get (j := 1) iO1 rfl dX2_tellTo_48 (by decide) in_X2_tellTo_X2 fl_X2_tellTo_15 rfl ?_
            refine v_iconst (x := nI 1) dX2_tellTo_51 (by decide +kernel) ?_
            refine v_ialdN 1 iI3 dX2_tellTo_52 rfl (by decide) (by decide) ?_
            refine v_top ((h1.2 a c d q hx).2.1) ?_
            refine v_aload_n dX2_tellTo_53 rfl ?_
            refine v_get (j := 1) iO1 rfl dX2_tellTo_54 (by decide) in_X2_tellTo_X2 fl_X2_tellTo_15 rfl ?_
            refine v_iconst (x := nI 2) dX2_tellTo_57 (by decide +kernel) ?_
            refine v_ialdN 2 iI3 dX2_tellTo_58 rfl (by decide) (by decide) ?_
            refine v_top ((h1.2 a c d q hx).2.2) ?_
            refine v_callVRi (M' := M_X3_accept) (As := [_, _, _, _]) (iWO hb) (s_X3_accept_t hb hw1 hv ha hc hd) dX2_tellTo_59 gX2_tellTo_X3_accept rfl rfl nn_X3_accept ⟨rfl, rfl⟩ ⟨by decide, by decide⟩ rfl rfl (Nat.le_of_ble_eq_true rfl) (fun s2 h2 => ?_)
            refine b_if_ne (tgt := 67) dX2_tellTo_62 (by decide) (fun c62 => ?_) (fun c62 => ?_)
            · obtain ⟨w1, hw2⟩ : ∃ w1, iT w a c d = some w1 := by cases h : iT w a c d with | none => rw [h] at c62; cases c62 | some y => exact ⟨y, rfl⟩
              have hit : itemAt u len p w = some (q, w1) := by rw [show itemAt u len p w = (iT w a c d).map (fun x => (q, x)) from by rw [itemAt, if_neg (by rw [e9]; decide), if_neg (by rw [e9]; decide), if_pos e9, hx], hw2]; rfl
              refine v_iload dX2_tellTo_67 rfl ?_
              refine v_istore_n (L' := [(2, _), (4, _), (0, _), (1, _), (3, _)]) dX2_tellTo_69 rfl (by decide) rfl ?_
              refine n_iinc (n := 1) (L' := [(3, _), (2, _), (4, _), (0, _), (1, _)]) dX2_tellTo_70 rfl (by decide) rfl ?_
              refine v_goto (tgt := 8) dX2_tellTo_73 (by decide) ?_
              refine v_sub [3, 4, 1, 0] rfl ?_
              exact ih q (i + 1) (z + 99) w1 s2 (h2.1.ct hb hT1) (h2.2 w1 hw2) (itemAt_wv hv hit) ((hF.tr h1.1.f2).tr h2.1.f2) (itemAt_next hit).2 (by have := itemAt_next hit; omega) (by have := itemAt_next hit; omega) (by rw [← ht, tl, if_pos c20, hit])
            · have hnone : iT w a c d = none := by cases h : iT w a c d with | none => rfl | some y => rw [h] at c62; cases c62
              refine v_iload_n dX2_tellTo_65 rfl ?_
              exact v_iret rfl dX2_tellTo_66 ⟨congrArg (fun z => some (Value.int z)) (by rw [← ht, tl, if_pos c20, show itemAt u len p w = none from by rw [show itemAt u len p w = (iT w a c d).map (fun x => (q, x)) from by rw [itemAt, if_neg (by rw [e9]; decide), if_neg (by rw [e9]; decide), if_pos e9, hx], hnone]; rfl]; rfl), (hF.tr h1.1.f2).tr h2.1.f2, fun w9 h9 => by rw [← ht, tl, if_pos c20, show itemAt u len p w = none from by rw [show itemAt u len p w = (iT w a c d).map (fun x => (q, x)) from by rw [itemAt, if_neg (by rw [e9]; decide), if_neg (by rw [e9]; decide), if_pos e9, hx], hnone]; rfl] at h9; cases h9⟩
        by_cases e9 : u p = 98
        · cases hx : i2 u len p with
          | none =>
            refine v_aload_n dX2_tellTo_23 rfl ?_
            refine v_iload_n dX2_tellTo_24 rfl ?_
            refine v_callVRi (M' := M_X2_split) (As := [_]) iO1 (s_X2_split_2 hT c20 (by rw [e9]; rfl)) dX2_tellTo_25 gX2_tellTo_X2_split rfl rfl nn_X2_split ⟨rfl, rfl⟩ ⟨by decide, by decide⟩ rfl rfl (Nat.le_of_ble_eq_true rfl) (fun s1 h1 => ?_)
            refine v_top (y := -4) (by rw [hx]) ?_
            refine v_istore (L' := [(4, _), (0, _), (1, _), (2, _), (3, _)]) dX2_tellTo_28 (by decide) rfl ?_
            refine v_iload dX2_tellTo_30 rfl ?_
            refine v_if_lt (tgt := 65) dX2_tellTo_32 (by decide) (fun c32 => ?_) (fun c32 => absurd (by decide) c32)
            refine v_iload_n dX2_tellTo_65 rfl ?_
            exact v_iret rfl dX2_tellTo_66 ⟨congrArg (fun z => some (Value.int z)) (by rw [← ht, tl, if_pos c20, show itemAt u len p w = none from by rw [itemAt, if_neg (by rw [e9]; decide), if_neg (by rw [e9]; decide), if_neg (by rw [e9]; decide), if_pos e9, hx]]; rfl), hF.tr h1.1.f2, fun w9 h9 => by rw [← ht, tl, if_pos c20, show itemAt u len p w = none from by rw [itemAt, if_neg (by rw [e9]; decide), if_neg (by rw [e9]; decide), if_neg (by rw [e9]; decide), if_pos e9, hx]] at h9; cases h9⟩
          | some x9 =>
            obtain ⟨a, c, q⟩ := x9
            obtain ⟨ha, hc, hq⟩ := i2_spec hx
            refine v_aload_n dX2_tellTo_23 rfl ?_
            refine v_iload_n dX2_tellTo_24 rfl ?_
            refine v_callVRi (M' := M_X2_split) (As := [_]) iO1 (s_X2_split_2 hT c20 (by rw [e9]; rfl)) dX2_tellTo_25 gX2_tellTo_X2_split rfl rfl nn_X2_split ⟨rfl, rfl⟩ ⟨by decide, by decide⟩ rfl rfl (Nat.le_of_ble_eq_true rfl) (fun s1 h1 => ?_)
            refine v_top (y := nI q) (by rw [hx]) ?_
            have hT1 := h1.1.ct hT
            have hw1 := h1.1.ch hb hw
            refine v_istore (L' := [(4, _), (0, _), (1, _), (2, _), (3, _)]) dX2_tellTo_28 (by decide) rfl ?_
            refine v_iload dX2_tellTo_30 rfl ?_
            refine n_if_lt (tgt := 65) dX2_tellTo_32 (by decide) (by omega) ?_
            refine v_aload_n dX2_tellTo_35 rfl ?_
            refine v_aload_n dX2_tellTo_36 rfl ?_
            refine v_iload_n dX2_tellTo_37 rfl ?_
            refine v_callVi (M' := M_X2_byteAt) (As := [_]) iO1 (s_X2_byteAt hT1 (by omega)) dX2_tellTo_38 gX2_tellTo_X2_byteAt rfl rfl nn_X2_byteAt ⟨rfl, rfl⟩ ⟨by decide, by decide⟩ rfl rfl (Nat.le_of_ble_eq_true rfl) ?_
            refine v_top (y := nI 98) (by rw [bt_in c20, e9]) ?_
            refine v_aload_n dX2_tellTo_41 rfl ?_
            refine v_get (j := 1) iO1 rfl dX2_tellTo_42 (by decide) in_X2_tellTo_X2 fl_X2_tellTo_15 rfl ?_
            refine v_iconst (x := nI 0) dX2_tellTo_45 (by decide +kernel) ?_
            refine v_ialdN 0 iI3 dX2_tellTo_46 rfl (by decide) (by decide) ?_
            refine v_top ((h1.2 a c q hx).1) ?_
            refine v_aload_n dX2_tellTo_47 rfl ?_
            refine v_get (j := 1) iO1 rfl dX2_tellTo_48 (by decide) in_X2_tellTo_X2 fl_X2_tellTo_15 rfl ?_
            refine v_iconst (x := nI 1) dX2_tellTo_51 (by decide +kernel) ?_
            refine v_ialdN 1 iI3 dX2_tellTo_52 rfl (by decide) (by decide) ?_
            refine v_top ((h1.2 a c q hx).2) ?_
            refine v_aload_n dX2_tellTo_53 rfl ?_
            refine v_get (j := 1) iO1 rfl dX2_tellTo_54 (by decide) in_X2_tellTo_X2 fl_X2_tellTo_15 rfl ?_
            refine v_iconst (x := nI 2) dX2_tellTo_57 (by decide +kernel) ?_
            refine v_ialdN 2 iI3 dX2_tellTo_58 rfl (by decide) (by decide) ?_
            refine v_callVRi (M' := M_X3_accept) (As := [_, _, _, _]) (iWO hb) (s_X3_accept_b hb hw1 hv ha hc _) dX2_tellTo_59 gX2_tellTo_X3_accept rfl rfl nn_X3_accept ⟨rfl, rfl⟩ ⟨by decide, by decide⟩ rfl rfl (Nat.le_of_ble_eq_true rfl) (fun s2 h2 => ?_)
            refine b_if_ne (tgt := 67) dX2_tellTo_62 (by decide) (fun c62 => ?_) (fun c62 => ?_)
            · obtain ⟨w1, hw2⟩ : ∃ w1, iB w a c = some w1 := by cases h : iB w a c with | none => rw [h] at c62; cases c62 | some y => exact ⟨y, rfl⟩
              have hit : itemAt u len p w = some (q, w1) := by rw [show itemAt u len p w = (iB w a c).map (fun x => (q, x)) from by rw [itemAt, if_neg (by rw [e9]; decide), if_neg (by rw [e9]; decide), if_neg (by rw [e9]; decide), if_pos e9, hx], hw2]; rfl
              refine v_iload dX2_tellTo_67 rfl ?_
              refine v_istore_n (L' := [(2, _), (4, _), (0, _), (1, _), (3, _)]) dX2_tellTo_69 rfl (by decide) rfl ?_
              refine n_iinc (n := 1) (L' := [(3, _), (2, _), (4, _), (0, _), (1, _)]) dX2_tellTo_70 rfl (by decide) rfl ?_
              refine v_goto (tgt := 8) dX2_tellTo_73 (by decide) ?_
              refine v_sub [3, 4, 1, 0] rfl ?_
              exact ih q (i + 1) (z + 99) w1 s2 (h2.1.ct hb hT1) (h2.2 w1 hw2) (itemAt_wv hv hit) ((hF.tr h1.1.f2).tr h2.1.f2) (itemAt_next hit).2 (by have := itemAt_next hit; omega) (by have := itemAt_next hit; omega) (by rw [← ht, tl, if_pos c20, hit])
            · have hnone : iB w a c = none := by cases h : iB w a c with | none => rfl | some y => rw [h] at c62; cases c62
              refine v_iload_n dX2_tellTo_65 rfl ?_
              exact v_iret rfl dX2_tellTo_66 ⟨congrArg (fun z => some (Value.int z)) (by rw [← ht, tl, if_pos c20, show itemAt u len p w = none from by rw [show itemAt u len p w = (iB w a c).map (fun x => (q, x)) from by rw [itemAt, if_neg (by rw [e9]; decide), if_neg (by rw [e9]; decide), if_neg (by rw [e9]; decide), if_pos e9, hx], hnone]; rfl]; rfl), (hF.tr h1.1.f2).tr h2.1.f2, fun w9 h9 => by rw [← ht, tl, if_pos c20, show itemAt u len p w = none from by rw [show itemAt u len p w = (iB w a c).map (fun x => (q, x)) from by rw [itemAt, if_neg (by rw [e9]; decide), if_neg (by rw [e9]; decide), if_neg (by rw [e9]; decide), if_pos e9, hx], hnone]; rfl] at h9; cases h9⟩
        by_cases e9 : u p = 110
        · cases hx : i2 u len p with
          | none =>
            refine v_aload_n dX2_tellTo_23 rfl ?_
            refine v_iload_n dX2_tellTo_24 rfl ?_
            refine v_callVRi (M' := M_X2_split) (As := [_]) iO1 (s_X2_split_2 hT c20 (by rw [e9]; rfl)) dX2_tellTo_25 gX2_tellTo_X2_split rfl rfl nn_X2_split ⟨rfl, rfl⟩ ⟨by decide, by decide⟩ rfl rfl (Nat.le_of_ble_eq_true rfl) (fun s1 h1 => ?_)
            refine v_top (y := -4) (by rw [hx]) ?_
            refine v_istore (L' := [(4, _), (0, _), (1, _), (2, _), (3, _)]) dX2_tellTo_28 (by decide) rfl ?_
            refine v_iload dX2_tellTo_30 rfl ?_
            refine v_if_lt (tgt := 65) dX2_tellTo_32 (by decide) (fun c32 => ?_) (fun c32 => absurd (by decide) c32)
            refine v_iload_n dX2_tellTo_65 rfl ?_
            exact v_iret rfl dX2_tellTo_66 ⟨congrArg (fun z => some (Value.int z)) (by rw [← ht, tl, if_pos c20, show itemAt u len p w = none from by rw [itemAt, if_neg (by rw [e9]; decide), if_neg (by rw [e9]; decide), if_neg (by rw [e9]; decide), if_neg (by rw [e9]; decide), if_pos e9, hx]]; rfl), hF.tr h1.1.f2, fun w9 h9 => by rw [← ht, tl, if_pos c20, show itemAt u len p w = none from by rw [itemAt, if_neg (by rw [e9]; decide), if_neg (by rw [e9]; decide), if_neg (by rw [e9]; decide), if_neg (by rw [e9]; decide), if_pos e9, hx]] at h9; cases h9⟩
          | some x9 =>
            obtain ⟨a, c, q⟩ := x9
            obtain ⟨ha, hc, hq⟩ := i2_spec hx
            refine v_aload_n dX2_tellTo_23 rfl ?_
            refine v_iload_n dX2_tellTo_24 rfl ?_
            refine v_callVRi (M' := M_X2_split) (As := [_]) iO1 (s_X2_split_2 hT c20 (by rw [e9]; rfl)) dX2_tellTo_25 gX2_tellTo_X2_split rfl rfl nn_X2_split ⟨rfl, rfl⟩ ⟨by decide, by decide⟩ rfl rfl (Nat.le_of_ble_eq_true rfl) (fun s1 h1 => ?_)
            refine v_top (y := nI q) (by rw [hx]) ?_
            have hT1 := h1.1.ct hT
            have hw1 := h1.1.ch hb hw
            refine v_istore (L' := [(4, _), (0, _), (1, _), (2, _), (3, _)]) dX2_tellTo_28 (by decide) rfl ?_
            refine v_iload dX2_tellTo_30 rfl ?_
            refine n_if_lt (tgt := 65) dX2_tellTo_32 (by decide) (by omega) ?_
            refine v_aload_n dX2_tellTo_35 rfl ?_
            refine v_aload_n dX2_tellTo_36 rfl ?_
            refine v_iload_n dX2_tellTo_37 rfl ?_
            refine v_callVi (M' := M_X2_byteAt) (As := [_]) iO1 (s_X2_byteAt hT1 (by omega)) dX2_tellTo_38 gX2_tellTo_X2_byteAt rfl rfl nn_X2_byteAt ⟨rfl, rfl⟩ ⟨by decide, by decide⟩ rfl rfl (Nat.le_of_ble_eq_true rfl) ?_
            refine v_top (y := nI 110) (by rw [bt_in c20, e9]) ?_
            refine v_aload_n dX2_tellTo_41 rfl ?_
            refine v_get (j := 1) iO1 rfl dX2_tellTo_42 (by decide) in_X2_tellTo_X2 fl_X2_tellTo_15 rfl ?_
            refine v_iconst (x := nI 0) dX2_tellTo_45 (by decide +kernel) ?_
            refine v_ialdN 0 iI3 dX2_tellTo_46 rfl (by decide) (by decide) ?_
            refine v_top ((h1.2 a c q hx).1) ?_
            refine v_aload_n dX2_tellTo_47 rfl ?_
            refine v_get (j := 1) iO1 rfl dX2_tellTo_48 (by decide) in_X2_tellTo_X2 fl_X2_tellTo_15 rfl ?_
            refine v_iconst (x := nI 1) dX2_tellTo_51 (by decide +kernel) ?_
            refine v_ialdN 1 iI3 dX2_tellTo_52 rfl (by decide) (by decide) ?_
            refine v_top ((h1.2 a c q hx).2) ?_
            refine v_aload_n dX2_tellTo_53 rfl ?_
            refine v_get (j := 1) iO1 rfl dX2_tellTo_54 (by decide) in_X2_tellTo_X2 fl_X2_tellTo_15 rfl ?_
            refine v_iconst (x := nI 2) dX2_tellTo_57 (by decide +kernel) ?_
            refine v_ialdN 2 iI3 dX2_tellTo_58 rfl (by decide) (by decide) ?_
            refine v_callVRi (M' := M_X3_accept) (As := [_, _, _, _]) (iWO hb) (s_X3_accept_n hb hw1 hv ha hc _) dX2_tellTo_59 gX2_tellTo_X3_accept rfl rfl nn_X3_accept ⟨rfl, rfl⟩ ⟨by decide, by decide⟩ rfl rfl (Nat.le_of_ble_eq_true rfl) (fun s2 h2 => ?_)
            refine b_if_ne (tgt := 67) dX2_tellTo_62 (by decide) (fun c62 => ?_) (fun c62 => ?_)
            · obtain ⟨w1, hw2⟩ : ∃ w1, iN w a c = some w1 := by cases h : iN w a c with | none => rw [h] at c62; cases c62 | some y => exact ⟨y, rfl⟩
              have hit : itemAt u len p w = some (q, w1) := by rw [show itemAt u len p w = (iN w a c).map (fun x => (q, x)) from by rw [itemAt, if_neg (by rw [e9]; decide), if_neg (by rw [e9]; decide), if_neg (by rw [e9]; decide), if_neg (by rw [e9]; decide), if_pos e9, hx], hw2]; rfl
              refine v_iload dX2_tellTo_67 rfl ?_
              refine v_istore_n (L' := [(2, _), (4, _), (0, _), (1, _), (3, _)]) dX2_tellTo_69 rfl (by decide) rfl ?_
              refine n_iinc (n := 1) (L' := [(3, _), (2, _), (4, _), (0, _), (1, _)]) dX2_tellTo_70 rfl (by decide) rfl ?_
              refine v_goto (tgt := 8) dX2_tellTo_73 (by decide) ?_
              refine v_sub [3, 4, 1, 0] rfl ?_
              exact ih q (i + 1) (z + 99) w1 s2 (h2.1.ct hb hT1) (h2.2 w1 hw2) (itemAt_wv hv hit) ((hF.tr h1.1.f2).tr h2.1.f2) (itemAt_next hit).2 (by have := itemAt_next hit; omega) (by have := itemAt_next hit; omega) (by rw [← ht, tl, if_pos c20, hit])
            · have hnone : iN w a c = none := by cases h : iN w a c with | none => rfl | some y => rw [h] at c62; cases c62
              refine v_iload_n dX2_tellTo_65 rfl ?_
              exact v_iret rfl dX2_tellTo_66 ⟨congrArg (fun z => some (Value.int z)) (by rw [← ht, tl, if_pos c20, show itemAt u len p w = none from by rw [show itemAt u len p w = (iN w a c).map (fun x => (q, x)) from by rw [itemAt, if_neg (by rw [e9]; decide), if_neg (by rw [e9]; decide), if_neg (by rw [e9]; decide), if_neg (by rw [e9]; decide), if_pos e9, hx], hnone]; rfl]; rfl), (hF.tr h1.1.f2).tr h2.1.f2, fun w9 h9 => by rw [← ht, tl, if_pos c20, show itemAt u len p w = none from by rw [show itemAt u len p w = (iN w a c).map (fun x => (q, x)) from by rw [itemAt, if_neg (by rw [e9]; decide), if_neg (by rw [e9]; decide), if_neg (by rw [e9]; decide), if_neg (by rw [e9]; decide), if_pos e9, hx], hnone]; rfl] at h9; cases h9⟩
        by_cases e9 : u p = 97
        · cases hx : i3 u len p with
          | none =>
            refine v_aload_n dX2_tellTo_23 rfl ?_
            refine v_iload_n dX2_tellTo_24 rfl ?_
            refine v_callVRi (M' := M_X2_split) (As := [_]) iO1 (s_X2_split_3 hT c20 (by rw [e9]; rfl)) dX2_tellTo_25 gX2_tellTo_X2_split rfl rfl nn_X2_split ⟨rfl, rfl⟩ ⟨by decide, by decide⟩ rfl rfl (Nat.le_of_ble_eq_true rfl) (fun s1 h1 => ?_)
            refine v_top (y := -4) (by rw [hx]) ?_
            refine v_istore (L' := [(4, _), (0, _), (1, _), (2, _), (3, _)]) dX2_tellTo_28 (by decide) rfl ?_
            refine v_iload dX2_tellTo_30 rfl ?_
            refine v_if_lt (tgt := 65) dX2_tellTo_32 (by decide) (fun c32 => ?_) (fun c32 => absurd (by decide) c32)
            refine v_iload_n dX2_tellTo_65 rfl ?_
            exact v_iret rfl dX2_tellTo_66 ⟨congrArg (fun z => some (Value.int z)) (by rw [← ht, tl, if_pos c20, show itemAt u len p w = none from by rw [itemAt, if_neg (by rw [e9]; decide), if_neg (by rw [e9]; decide), if_neg (by rw [e9]; decide), if_neg (by rw [e9]; decide), if_neg (by rw [e9]; decide), if_pos e9, hx]]; rfl), hF.tr h1.1.f2, fun w9 h9 => by rw [← ht, tl, if_pos c20, show itemAt u len p w = none from by rw [itemAt, if_neg (by rw [e9]; decide), if_neg (by rw [e9]; decide), if_neg (by rw [e9]; decide), if_neg (by rw [e9]; decide), if_neg (by rw [e9]; decide), if_pos e9, hx]] at h9; cases h9⟩
          | some x9 =>
            obtain ⟨a, c, d, q⟩ := x9
            obtain ⟨ha, hc, hd, hq⟩ := i3_spec hx
            refine v_aload_n dX2_tellTo_23 rfl ?_
            refine v_iload_n dX2_tellTo_24 rfl ?_
            refine v_callVRi (M' := M_X2_split) (As := [_]) iO1 (s_X2_split_3 hT c20 (by rw [e9]; rfl)) dX2_tellTo_25 gX2_tellTo_X2_split rfl rfl nn_X2_split ⟨rfl, rfl⟩ ⟨by decide, by decide⟩ rfl rfl (Nat.le_of_ble_eq_true rfl) (fun s1 h1 => ?_)
            refine v_top (y := nI q) (by rw [hx]) ?_
            have hT1 := h1.1.ct hT
            have hw1 := h1.1.ch hb hw
            refine v_istore (L' := [(4, _), (0, _), (1, _), (2, _), (3, _)]) dX2_tellTo_28 (by decide) rfl ?_
            refine v_iload dX2_tellTo_30 rfl ?_
            refine n_if_lt (tgt := 65) dX2_tellTo_32 (by decide) (by omega) ?_
            refine v_aload_n dX2_tellTo_35 rfl ?_
            refine v_aload_n dX2_tellTo_36 rfl ?_
            refine v_iload_n dX2_tellTo_37 rfl ?_
            refine v_callVi (M' := M_X2_byteAt) (As := [_]) iO1 (s_X2_byteAt hT1 (by omega)) dX2_tellTo_38 gX2_tellTo_X2_byteAt rfl rfl nn_X2_byteAt ⟨rfl, rfl⟩ ⟨by decide, by decide⟩ rfl rfl (Nat.le_of_ble_eq_true rfl) ?_
            refine v_top (y := nI 97) (by rw [bt_in c20, e9]) ?_
            refine v_aload_n dX2_tellTo_41 rfl ?_
            refine v_get (j := 1) iO1 rfl dX2_tellTo_42 (by decide) in_X2_tellTo_X2 fl_X2_tellTo_15 rfl ?_
            refine v_iconst (x := nI 0) dX2_tellTo_45 (by decide +kernel) ?_
            refine v_ialdN 0 iI3 dX2_tellTo_46 rfl (by decide) (by decide) ?_
            refine v_top ((h1.2 a c d q hx).1) ?_
            refine v_aload_n dX2_tellTo_47 rfl ?_
            refine v_get (j := 1) iO1 rfl dX2_tellTo_48 (by decide) in_X2_tellTo_X2 fl_X2_tellTo_15 rfl ?_
            refine v_iconst (x := nI 1) dX2_tellTo_51 (by decide +kernel) ?_
            refine v_ialdN 1 iI3 dX2_tellTo_52 rfl (by decide) (by decide) ?_
            refine v_top ((h1.2 a c d q hx).2.1) ?_
            refine v_aload_n dX2_tellTo_53 rfl ?_
            refine v_get (j := 1) iO1 rfl dX2_tellTo_54 (by decide) in_X2_tellTo_X2 fl_X2_tellTo_15 rfl ?_
            refine v_iconst (x := nI 2) dX2_tellTo_57 (by decide +kernel) ?_
            refine v_ialdN 2 iI3 dX2_tellTo_58 rfl (by decide) (by decide) ?_
            refine v_top ((h1.2 a c d q hx).2.2) ?_
            refine v_callVRi (M' := M_X3_accept) (As := [_, _, _, _]) (iWO hb) (s_X3_accept_a hb hw1 hv ha hc hd) dX2_tellTo_59 gX2_tellTo_X3_accept rfl rfl nn_X3_accept ⟨rfl, rfl⟩ ⟨by decide, by decide⟩ rfl rfl (Nat.le_of_ble_eq_true rfl) (fun s2 h2 => ?_)
            refine b_if_ne (tgt := 67) dX2_tellTo_62 (by decide) (fun c62 => ?_) (fun c62 => ?_)
            · obtain ⟨w1, hw2⟩ : ∃ w1, iA w a c d = some w1 := by cases h : iA w a c d with | none => rw [h] at c62; cases c62 | some y => exact ⟨y, rfl⟩
              have hit : itemAt u len p w = some (q, w1) := by rw [show itemAt u len p w = (iA w a c d).map (fun x => (q, x)) from by rw [itemAt, if_neg (by rw [e9]; decide), if_neg (by rw [e9]; decide), if_neg (by rw [e9]; decide), if_neg (by rw [e9]; decide), if_neg (by rw [e9]; decide), if_pos e9, hx], hw2]; rfl
              refine v_iload dX2_tellTo_67 rfl ?_
              refine v_istore_n (L' := [(2, _), (4, _), (0, _), (1, _), (3, _)]) dX2_tellTo_69 rfl (by decide) rfl ?_
              refine n_iinc (n := 1) (L' := [(3, _), (2, _), (4, _), (0, _), (1, _)]) dX2_tellTo_70 rfl (by decide) rfl ?_
              refine v_goto (tgt := 8) dX2_tellTo_73 (by decide) ?_
              refine v_sub [3, 4, 1, 0] rfl ?_
              exact ih q (i + 1) (z + 99) w1 s2 (h2.1.ct hb hT1) (h2.2 w1 hw2) (itemAt_wv hv hit) ((hF.tr h1.1.f2).tr h2.1.f2) (itemAt_next hit).2 (by have := itemAt_next hit; omega) (by have := itemAt_next hit; omega) (by rw [← ht, tl, if_pos c20, hit])
            · have hnone : iA w a c d = none := by cases h : iA w a c d with | none => rfl | some y => rw [h] at c62; cases c62
              refine v_iload_n dX2_tellTo_65 rfl ?_
              exact v_iret rfl dX2_tellTo_66 ⟨congrArg (fun z => some (Value.int z)) (by rw [← ht, tl, if_pos c20, show itemAt u len p w = none from by rw [show itemAt u len p w = (iA w a c d).map (fun x => (q, x)) from by rw [itemAt, if_neg (by rw [e9]; decide), if_neg (by rw [e9]; decide), if_neg (by rw [e9]; decide), if_neg (by rw [e9]; decide), if_neg (by rw [e9]; decide), if_pos e9, hx], hnone]; rfl]; rfl), (hF.tr h1.1.f2).tr h2.1.f2, fun w9 h9 => by rw [← ht, tl, if_pos c20, show itemAt u len p w = none from by rw [show itemAt u len p w = (iA w a c d).map (fun x => (q, x)) from by rw [itemAt, if_neg (by rw [e9]; decide), if_neg (by rw [e9]; decide), if_neg (by rw [e9]; decide), if_neg (by rw [e9]; decide), if_neg (by rw [e9]; decide), if_pos e9, hx], hnone]; rfl] at h9; cases h9⟩
        by_cases e9 : u p = 119
        · cases hx : i1 u len p with
          | none =>
            refine v_aload_n dX2_tellTo_23 rfl ?_
            refine v_iload_n dX2_tellTo_24 rfl ?_
            refine v_callVRi (M' := M_X2_split) (As := [_]) iO1 (s_X2_split_1 hT c20 (by rw [e9]; rfl)) dX2_tellTo_25 gX2_tellTo_X2_split rfl rfl nn_X2_split ⟨rfl, rfl⟩ ⟨by decide, by decide⟩ rfl rfl (Nat.le_of_ble_eq_true rfl) (fun s1 h1 => ?_)
            refine v_top (y := -4) (by rw [hx]) ?_
            refine v_istore (L' := [(4, _), (0, _), (1, _), (2, _), (3, _)]) dX2_tellTo_28 (by decide) rfl ?_
            refine v_iload dX2_tellTo_30 rfl ?_
            refine v_if_lt (tgt := 65) dX2_tellTo_32 (by decide) (fun c32 => ?_) (fun c32 => absurd (by decide) c32)
            refine v_iload_n dX2_tellTo_65 rfl ?_
            exact v_iret rfl dX2_tellTo_66 ⟨congrArg (fun z => some (Value.int z)) (by rw [← ht, tl, if_pos c20, show itemAt u len p w = none from by rw [itemAt, if_neg (by rw [e9]; decide), if_neg (by rw [e9]; decide), if_neg (by rw [e9]; decide), if_neg (by rw [e9]; decide), if_neg (by rw [e9]; decide), if_neg (by rw [e9]; decide), if_pos e9, hx]]; rfl), hF.tr h1.1.f2, fun w9 h9 => by rw [← ht, tl, if_pos c20, show itemAt u len p w = none from by rw [itemAt, if_neg (by rw [e9]; decide), if_neg (by rw [e9]; decide), if_neg (by rw [e9]; decide), if_neg (by rw [e9]; decide), if_neg (by rw [e9]; decide), if_neg (by rw [e9]; decide), if_pos e9, hx]] at h9; cases h9⟩
          | some x9 =>
            obtain ⟨a, q⟩ := x9
            have hq := n1_spec (show n1 u len (p + 1) 59 = some (a, q) from hx)
            refine v_aload_n dX2_tellTo_23 rfl ?_
            refine v_iload_n dX2_tellTo_24 rfl ?_
            refine v_callVRi (M' := M_X2_split) (As := [_]) iO1 (s_X2_split_1 hT c20 (by rw [e9]; rfl)) dX2_tellTo_25 gX2_tellTo_X2_split rfl rfl nn_X2_split ⟨rfl, rfl⟩ ⟨by decide, by decide⟩ rfl rfl (Nat.le_of_ble_eq_true rfl) (fun s1 h1 => ?_)
            refine v_top (y := nI q) (by rw [hx]) ?_
            have hT1 := h1.1.ct hT
            have hw1 := h1.1.ch hb hw
            refine v_istore (L' := [(4, _), (0, _), (1, _), (2, _), (3, _)]) dX2_tellTo_28 (by decide) rfl ?_
            refine v_iload dX2_tellTo_30 rfl ?_
            refine n_if_lt (tgt := 65) dX2_tellTo_32 (by decide) (by omega) ?_
            refine v_aload_n dX2_tellTo_35 rfl ?_
            refine v_aload_n dX2_tellTo_36 rfl ?_
            refine v_iload_n dX2_tellTo_37 rfl ?_
            refine v_callVi (M' := M_X2_byteAt) (As := [_]) iO1 (s_X2_byteAt hT1 (by omega)) dX2_tellTo_38 gX2_tellTo_X2_byteAt rfl rfl nn_X2_byteAt ⟨rfl, rfl⟩ ⟨by decide, by decide⟩ rfl rfl (Nat.le_of_ble_eq_true rfl) ?_
            refine v_top (y := nI 119) (by rw [bt_in c20, e9]) ?_
            refine v_aload_n dX2_tellTo_41 rfl ?_
            refine v_get (j := 1) iO1 rfl dX2_tellTo_42 (by decide) in_X2_tellTo_X2 fl_X2_tellTo_15 rfl ?_
            refine v_iconst (x := nI 0) dX2_tellTo_45 (by decide +kernel) ?_
            refine v_ialdN 0 iI3 dX2_tellTo_46 rfl (by decide) (by decide) ?_
            refine v_top (h1.2 a q hx) ?_
            refine v_aload_n dX2_tellTo_47 rfl ?_
            refine v_get (j := 1) iO1 rfl dX2_tellTo_48 (by decide) in_X2_tellTo_X2 fl_X2_tellTo_15 rfl ?_
            refine v_iconst (x := nI 1) dX2_tellTo_51 (by decide +kernel) ?_
            refine v_ialdN 1 iI3 dX2_tellTo_52 rfl (by decide) (by decide) ?_
            refine v_aload_n dX2_tellTo_53 rfl ?_
            refine v_get (j := 1) iO1 rfl dX2_tellTo_54 (by decide) in_X2_tellTo_X2 fl_X2_tellTo_15 rfl ?_
            refine v_iconst (x := nI 2) dX2_tellTo_57 (by decide +kernel) ?_
            refine v_ialdN 2 iI3 dX2_tellTo_58 rfl (by decide) (by decide) ?_
            refine v_callVRi (M' := M_X3_accept) (As := [_, _, _, _]) (iWO hb) (s_X3_accept_w hb hw1 hv hq.1 _ _) dX2_tellTo_59 gX2_tellTo_X3_accept rfl rfl nn_X3_accept ⟨rfl, rfl⟩ ⟨by decide, by decide⟩ rfl rfl (Nat.le_of_ble_eq_true rfl) (fun s2 h2 => ?_)
            refine b_if_ne (tgt := 67) dX2_tellTo_62 (by decide) (fun c62 => ?_) (fun c62 => ?_)
            · obtain ⟨w1, hw2⟩ : ∃ w1, iW w a = some w1 := by cases h : iW w a with | none => rw [h] at c62; cases c62 | some y => exact ⟨y, rfl⟩
              have hit : itemAt u len p w = some (q, w1) := by rw [show itemAt u len p w = (iW w a).map (fun x => (q, x)) from by rw [itemAt, if_neg (by rw [e9]; decide), if_neg (by rw [e9]; decide), if_neg (by rw [e9]; decide), if_neg (by rw [e9]; decide), if_neg (by rw [e9]; decide), if_neg (by rw [e9]; decide), if_pos e9, hx], hw2]; rfl
              refine v_iload dX2_tellTo_67 rfl ?_
              refine v_istore_n (L' := [(2, _), (4, _), (0, _), (1, _), (3, _)]) dX2_tellTo_69 rfl (by decide) rfl ?_
              refine n_iinc (n := 1) (L' := [(3, _), (2, _), (4, _), (0, _), (1, _)]) dX2_tellTo_70 rfl (by decide) rfl ?_
              refine v_goto (tgt := 8) dX2_tellTo_73 (by decide) ?_
              refine v_sub [3, 4, 1, 0] rfl ?_
              exact ih q (i + 1) (z + 99) w1 s2 (h2.1.ct hb hT1) (h2.2 w1 hw2) (itemAt_wv hv hit) ((hF.tr h1.1.f2).tr h2.1.f2) (itemAt_next hit).2 (by have := itemAt_next hit; omega) (by have := itemAt_next hit; omega) (by rw [← ht, tl, if_pos c20, hit])
            · have hnone : iW w a = none := by cases h : iW w a with | none => rfl | some y => rw [h] at c62; cases c62
              refine v_iload_n dX2_tellTo_65 rfl ?_
              exact v_iret rfl dX2_tellTo_66 ⟨congrArg (fun z => some (Value.int z)) (by rw [← ht, tl, if_pos c20, show itemAt u len p w = none from by rw [show itemAt u len p w = (iW w a).map (fun x => (q, x)) from by rw [itemAt, if_neg (by rw [e9]; decide), if_neg (by rw [e9]; decide), if_neg (by rw [e9]; decide), if_neg (by rw [e9]; decide), if_neg (by rw [e9]; decide), if_neg (by rw [e9]; decide), if_pos e9, hx], hnone]; rfl]; rfl), (hF.tr h1.1.f2).tr h2.1.f2, fun w9 h9 => by rw [← ht, tl, if_pos c20, show itemAt u len p w = none from by rw [show itemAt u len p w = (iW w a).map (fun x => (q, x)) from by rw [itemAt, if_neg (by rw [e9]; decide), if_neg (by rw [e9]; decide), if_neg (by rw [e9]; decide), if_neg (by rw [e9]; decide), if_neg (by rw [e9]; decide), if_neg (by rw [e9]; decide), if_pos e9, hx], hnone]; rfl] at h9; cases h9⟩
        have e0 : nums (u p) = 0 := by rw [nums, if_neg (by omega), if_neg (by omega), if_neg (by omega)]
        refine v_aload_n dX2_tellTo_23 rfl ?_
        refine v_iload_n dX2_tellTo_24 rfl ?_
        refine v_callVi (M' := M_X2_split) (As := [_]) iO1 (s_X2_split_0 hT c20 e0) dX2_tellTo_25 gX2_tellTo_X2_split rfl rfl nn_X2_split ⟨rfl, rfl⟩ ⟨by decide, by decide⟩ rfl rfl (Nat.le_of_ble_eq_true rfl) ?_
        refine v_istore (L' := [(4, _), (0, _), (1, _), (2, _), (3, _)]) dX2_tellTo_28 (by decide) rfl ?_
        refine v_iload dX2_tellTo_30 rfl ?_
        refine v_if_lt (tgt := 65) dX2_tellTo_32 (by decide) (fun c32 => ?_) (fun c32 => absurd (by decide) c32)
        refine v_iload_n dX2_tellTo_65 rfl ?_
        exact v_iret rfl dX2_tellTo_66 ⟨congrArg (fun z => some (Value.int z)) (by rw [← ht, tl, if_pos c20, it_none0 e0]; rfl), hF, fun w9 h9 => by rw [← ht, tl, if_pos c20, it_none0 e0] at h9; cases h9⟩
set_option maxRecDepth 100000 in
set_option maxHeartbeats 4000000 in
theorem s_X2_tellTo {v : EE} {b : Nat} (hb : isW b) {u : Nat → Nat} {len : Nat} {σ : SS} (hT : CT u len σ) : SR v M_X2_tellTo [.ref (v.1 1), .ref (v.1 b)] σ (some (.int (tlA (tell u len)))) (fun σ' => F2 b σ σ' ∧ ∀ w, tell u len = .inr w → CH b w σ') := by
  refine Sp.of rfl (by decide) rfl (Nat.le_of_ble_eq_true rfl) ?_
  show V v M_X2_tellTo _ 0 [(0, .ref (v.1 1)), (1, .ref (v.1 b))] [] σ
  refine v_aload_n dX2_tellTo_0 rfl ?_
  refine v_callVRv (M' := M_X3_clear) (As := []) (iWO hb) (s_X3_clear hb) dX2_tellTo_1 gX2_tellTo_X3_clear rfl rfl nn_X3_clear ⟨rfl, rfl⟩ ⟨by decide, by decide⟩ rfl rfl (Nat.le_of_ble_eq_true rfl) (fun s1 h1 => ?_)
  refine v_iconst (x := nI 0) dX2_tellTo_4 (by decide +kernel) ?_
  refine v_istore_n (L' := [(2, _), (0, _), (1, _)]) dX2_tellTo_5 rfl (by decide) rfl ?_
  refine v_iconst (x := nI 0) dX2_tellTo_6 (by decide +kernel) ?_
  refine v_istore_n (L' := [(3, _), (2, _), (0, _), (1, _)]) dX2_tellTo_7 rfl (by decide) rfl ?_
  refine v_sub [2, 3, 1, 0] rfl ?_
  exact x2_tl hb σ 501 0 0 0 w00 s1 (h1.1.ct hb hT) h1.2 wv_00 h1.1.f2 (Nat.zero_le _) (Nat.le_refl _) (by have := hT.2.1; omega) rfl
