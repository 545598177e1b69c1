/-- rows of rows of ints have been made before -/
theorem i_over {args : Array Value} {s : State} (h : (Cond.arrayOver (.array .int)).before args s = true) : ∃ (comp c : ClassId) (k : Class), s.vm.findClass "[I" = some comp ∧ s.vm.classes[c]? = some k ∧ k.kind = .array comp (.array .int) ∧ s.vm.findClass "[[I" = some c := by
  simp only [Cond.before, Cond.holds, Cond.value, beq_iff_eq] at h
  cases hc : s.vm.findClass (FieldType.array .int).toString with
  | none => simp [hc] at h
  | some comp =>
    simp only [hc, Option.bind_some, Option.bind_eq_some_iff, Option.map_eq_some_iff] at h
    obtain ⟨c, hi, k, hk, hb⟩ := h
    obtain ⟨hlt, hp, -⟩ := Array.findIdx?_eq_some_iff_getElem.mp hi
    have hkk : s.vm.classes[c] = k := (Array.getElem?_eq_some_iff.mp hk).2
    rw [hkk] at hp
    cases hkind : k.kind with
    | array component ty =>
      rw [hkind] at hb hp
      simp at hb hp
      exact ⟨comp, c, k, hc, hk, by rw [hkind, hp, hb.1], hb.2⟩
    | _ => rw [hkind] at hb; simp at hb
def σ0 : SS := (s0f, fun _ _ => 0, (22, 31))
def as0 : AS := (fun _ => 0, 0, w00, 0, fun _ _ => 0)
theorem LI_0 : LI 0 σ0 := by
  refine ⟨as0, ⟨⟨Or.inl rfl, rfl, rfl⟩, ⟨rfl, Nat.zero_le _, fun j hj => absurd hj (Nat.not_lt_zero _)⟩, ⟨⟨rfl, rfl, rfl, rfl⟩, fun k hk => absurd hk (Nat.not_lt_zero _), fun k hk => absurd hk (Nat.not_lt_zero _), fun j _ => rfl, fun j _ => rfl, fun k hk => absurd hk (Nat.not_lt_zero _)⟩, ⟨rfl, Nat.zero_le _⟩, fun i j hi => absurd hi (Nat.not_lt_zero _)⟩, ⟨⟨rfl, Nat.zero_le _, fun j hj => absurd hj (Nat.not_lt_zero _)⟩, ⟨⟨rfl, rfl, rfl, by decide⟩, fun k hk => absurd hk (Nat.not_lt_zero _), fun k hk => absurd hk (Nat.not_lt_zero _), fun j _ => rfl, fun j _ => rfl, fun k hk => absurd hk (Nat.not_lt_zero _)⟩, ⟨rfl, Nat.zero_le _⟩, fun i j hi => absurd hi (Nat.not_lt_zero _)⟩, Nat.zero_le _, wv_00.mono (Nat.zero_le _), Nat.zero_le _, fun i hi => absurd hi (Nat.not_lt_zero _)⟩
def zS (b N : Nat) (xs : Nat → Int32) (t : Nat) : ZI := fun p l e R s m args below meth c A Q => zL b N xs p l e R s m args below meth c A 0 0 Q ∧ (va_Z "MasonMarks" "ROWS_OF" "[I" (.ref t) A s s.heap ∧ va_T .int t 7 (fun j => .int (rowsOf j)) A s s.heap) ∧ cN s
/-- the world is whole: the loop -/
theorem i_toV {G : GG} {b N t pc cells slots : Nat} {xs : Nat → Int32} {r : Nat → Nat} {L : List (Nat × Value)} {st : List Value} {σ : SS} (hc : cells ≤ 600000 ∧ slots ≤ 7302249) (k : V (r, G.1, G.2, t) M_L_law (zL b N xs) pc L st σ) : IV G M_L_law (zS b N xs t) pc L st (cW (r, G.1, G.2, t) σ) cells slots := by
  intro p l e R s m args below meth c A Q hZ hC H locs ls hl hP hD hS
  obtain ⟨hz, hr, hn⟩ := hZ
  obtain ⟨hF, hK, hA, hin, hRR, hN, hO⟩ := hC
  refine k p l e R s m args below meth c A cells slots Q hz ⟨hF, hK, ⟨fun i j hi hj e => ?_, fun k hk => ?_⟩, ⟨hr, hn⟩, hRR, by rw [hRR]; exact hc.1, by rw [hRR]; exact hc.2⟩ H locs ls hl hP hS
  · exact hD.1 i j _ _ (cW_at _ σ hi) (cW_at _ σ hj) e
  · exact hD.2 k _ (cW_at _ σ hk)
set_option maxRecDepth 100000 in
set_option maxHeartbeats 4000000 in
theorem w0_eq (G : GG) (r0 r5 : Nat → Nat) (t : Nat) : [0, 1, 2, 3, 4, 5, 6, 7, 8, 9, 10, 11, 12, 13, 14, 15, 16, 17, 18, 20, 21, 22, 23, 24, 25, 26, 27, 28, 29, 30, 31, 32, 33, 34, 35, 36, 37, 38, 39, 40, 41, 42, 43, 44, 45, 46, 47, 48, 49, 50, 51, 52, 53, 54, 55, 56, 57, 58, 59, 60, 61, 19].map (fun j => ((pcs G r0 [0, 1, 2, 3, 4, 5, 6, 7, 8, 9, 10, 11, 12, 13, 14, 15, 16, 17, 18, 61, 19, 20, 21, 22, 23, 24, 25, 26, 27, 28, 29, 30, 31, 32, 33, 34, 35, 36, 37, 38, 39] ++ pcs G r5 [40, 41, 42, 43, 44, 45, 46, 47, 48, 49, 50, 51, 52, 53, 54, 55, 56, 57, 58, 59, 60]).set 20 (r0 19, .inl (G.2 3, 2, .inr (.inr (.inr (.inr (fun i => some (if 20 + i < 40 then r0 (20 + i) else if 20 + i = 61 then r0 (20 + i) else r5 (20 + i)))))))))[j]?) = (cW (fun k => if k < 40 then r0 k else if k = 61 then r0 k else r5 k, G.1, G.2, t) σ0).map some := rfl
set_option maxRecDepth 100000 in
set_option maxHeartbeats 4000000 in
theorem law_start {G : GG} {b N t : Nat} {xs : Nat → Int32} (hL : N ≤ 448) : IV G M_L_law (zS b N xs t) 0 [(0, .ref b)] [] [] 0 0 := by
  refine i_new (ci := 4) (fs := [.null, .null, .null, .null, .null, .null, .null, .int 0]) dL_law_0 inlX4 tyX4 tyX4_ok ⟨by decide +kernel, by decide +kernel, by decide +kernel⟩ rfl (fun j hj => by rcases (show j = 0 ∨ j = 1 ∨ j = 2 ∨ j = 3 ∨ j = 4 ∨ j = 5 ∨ j = 6 ∨ j = 7 by omega) with rfl | rfl | rfl | rfl | rfl | rfl | rfl | rfl <;> rfl) (by decide) (by decide) (fun q0 => ?_)
  refine i_dup dL_law_3 rfl ?_
  refine i_callI (wr := []) (s_X4_init G) dL_law_4 ⟨by decide +kernel, by decide +kernel, by decide +kernel⟩ gL_law_X4_init rfl nn_X4_init rfl ⟨rfl, rfl⟩ ⟨by decide, by decide⟩ ⟨by decide, by decide⟩ (Nat.le_of_ble_eq_true rfl) (fun r0 e0 => ?_)
  subst e0
  refine i_astore_n (L' := [(1, _), (0, _)]) dL_law_7 rfl (by decide) rfl ?_
  refine i_ws (ws' := pcs G r0 [0, 1, 2, 3, 4, 5, 6, 7, 8, 9, 10, 11, 12, 13, 14, 15, 16, 17, 18, 61, 19, 20, 21, 22, 23, 24, 25, 26, 27, 28, 29, 30, 31, 32, 33, 34, 35, 36, 37, 38, 39]) rfl ?_
  refine i_new (ci := 5) (fs := [.int 0, .null, .int 0, .null, .null, .null, .null, .null, .null, .null, .null, .int 0, .null, .int 0, .null, .int 0, .null, .null, .null, .null, .null, .int 0, .int 0, .null, .null, .null, .long 0, .long 0, .null]) dL_law_8 inlX5 tyX5 tyX5_ok ⟨by decide +kernel, by decide +kernel, by decide +kernel⟩ rfl (fun j hj => by rcases (show j = 0 ∨ j = 1 ∨ j = 2 ∨ j = 3 ∨ j = 4 ∨ j = 5 ∨ j = 6 ∨ j = 7 ∨ j = 8 ∨ j = 9 ∨ j = 10 ∨ j = 11 ∨ j = 12 ∨ j = 13 ∨ j = 14 ∨ j = 15 ∨ j = 16 ∨ j = 17 ∨ j = 18 ∨ j = 19 ∨ j = 20 ∨ j = 21 ∨ j = 22 ∨ j = 23 ∨ j = 24 ∨ j = 25 ∨ j = 26 ∨ j = 27 ∨ j = 28 by omega) with rfl | rfl | rfl | rfl | rfl | rfl | rfl | rfl | rfl | rfl | rfl | rfl | rfl | rfl | rfl | rfl | rfl | rfl | rfl | rfl | rfl | rfl | rfl | rfl | rfl | rfl | rfl | rfl | rfl <;> rfl) (by decide) (by decide) (fun q40 => ?_)
  refine i_dup dL_law_11 rfl ?_
  refine i_callI (wr := pcs G r0 [0, 1, 2, 3, 4, 5, 6, 7, 8, 9, 10, 11, 12, 13, 14, 15, 16, 17, 18, 61, 19, 20, 21, 22, 23, 24, 25, 26, 27, 28, 29, 30, 31, 32, 33, 34, 35, 36, 37, 38, 39]) (s_X5_init G) dL_law_12 ⟨by decide +kernel, by decide +kernel, by decide +kernel⟩ gL_law_X5_init rfl nn_X5_init rfl ⟨rfl, rfl⟩ ⟨by decide, by decide⟩ ⟨by decide, by decide⟩ (Nat.le_of_ble_eq_true rfl) (fun r5 e5 => ?_)
  subst e5
  refine i_astore_n (L' := [(2, _), (1, _), (0, _)]) dL_law_15 rfl (by decide) rfl ?_
  refine i_iconst (x := nI 0) dL_law_16 rfl ?_
  refine i_istore_n (L' := [(3, _), (2, _), (1, _), (0, _)]) dL_law_17 rfl (by decide) rfl ?_
  refine i_shelf (q0 := 20) (a := r0 19) (g := fun i => some (if 20 + i < 40 then r0 (20 + i) else if 20 + i = 61 then r0 (20 + i) else r5 (20 + i))) rfl rfl rfl ?_
  refine i_sub [0, 1, 2, 3, 4, 5, 6, 7, 8, 9, 10, 11, 12, 13, 14, 15, 16, 17, 18, 20, 21, 22, 23, 24, 25, 26, 27, 28, 29, 30, 31, 32, 33, 34, 35, 36, 37, 38, 39, 40, 41, 42, 43, 44, 45, 46, 47, 48, 49, 50, 51, 52, 53, 54, 55, 56, 57, 58, 59, 60, 61, 19] (by decide) (w0_eq G r0 r5 t) ?_
  refine i_toV (by decide) ?_
  exact v_sub [3, 2, 1, 0] rfl (law_loop hL LI_0)
set_option maxRecDepth 100000 in
set_option maxHeartbeats 4000000 in
theorem whole_start {p : Program} {e : Env} {s : State} {m : MethodId} {below : List Frame} {meth : Method} {c : Code} (l : Launch) {b L : Nat} {xs : Nat → Int32} (hL : L ≤ 448) (C0 : lw_At p s m meth c b L xs) : W p l e room_1 s m #[Value.ref b] below meth c s.heap [] 0 0 (lw_Z below #[Value.ref b] s) (entryFrame m ([Value.ref b] : List Value).toArray 4) := by
  obtain ⟨hx, hb, hr, hml, hown, hts, hX, hbl, hlocks, hgv⟩ := C0
  obtain ⟨c0, i0, hk0⟩ := u_known (C := RX0) (T := TX0) (N := 10) (n := 10) hts (fun w h => (wu_X0 w h).1) (hts (.instantiable RX0 10) (List.mem_of_getElem? (i := 132) (by decide +kernel)))
  obtain ⟨c1, i1, hk1⟩ := u_known (C := RX1) (T := TX1) (N := 7) (n := 7) hts (fun w h => (wu_X1 w h).1) (hts (.instantiable RX1 7) (List.mem_of_getElem? (i := 104) (by decide +kernel)))
  obtain ⟨c2, i2, hk2⟩ := u_known (C := RX2) (T := TX2) (N := 3) (n := 3) hts (fun w h => (wu_X2 w h).1) (hts (.instantiable RX2 3) (List.mem_of_getElem? (i := 85) (by decide +kernel)))
  obtain ⟨c3, i3, hk3⟩ := u_known (C := RX3) (T := TX3) (N := 12) (n := 12) hts (fun w h => (wu_X3 w h).1) (hts (.instantiable RX3 12) (List.mem_of_getElem? (i := 174) (by decide +kernel)))
  obtain ⟨c4, i4, hk4⟩ := u_known (C := RX4) (T := TX4) (N := 8) (n := 8) hts (fun w h => (wu_X4 w h).1) (hts (.instantiable RX4 8) (List.mem_of_getElem? (i := 77) (by decide +kernel)))
  obtain ⟨c5, i5, hk5⟩ := u_known (C := RX5) (T := TX5) (N := 29) (n := 29) hts (fun w h => (wu_X5 w h).1) (hts (.instantiable RX5 29) (List.mem_of_getElem? (i := 764) (by decide +kernel)))
  obtain ⟨yB, kB, xB, fB, gB, lB⟩ := Cond.arrayClass_spec (hts (.arrayClass .byte) (List.mem_of_getElem? (i := 101) (by decide +kernel)))
  obtain ⟨yI, kI, xI, fI, gI, lI⟩ := Cond.arrayClass_spec (hts (.arrayClass .int) (List.mem_of_getElem? (i := 102) (by decide +kernel)))
  obtain ⟨yJ, kJ, xJ, fJ, gJ, lJ⟩ := Cond.arrayClass_spec (hts (.arrayClass .long) (List.mem_of_getElem? (i := 857) (by decide +kernel)))
  obtain ⟨yC, yA, kA, fC, gA, lA, fA⟩ := i_over (hts (.arrayOver (.array .int)) (List.mem_of_getElem? (i := 172) (by decide +kernel)))
  have eC : yC = yI := Option.some.inj (fC.symm.trans fI)
  subst eC
  obtain ⟨G, hK, hO⟩ : ∃ G : GG, va_K G.1 vwCl (ityp G) s ∧ iAO G s := by
    refine ⟨((fun k => match k with | 0 => c0 | 1 => c1 | 2 => c2 | 3 => c3 | 4 => c4 | _ => c5, fun k => match k with | 0 => i0 | 1 => i1 | 2 => i2 | 3 => i3 | 4 => i4 | _ => i5), fun k => match k with | 0 => yB | 1 => yC | 2 => yJ | _ => yA), ⟨fun k q hq => ?_, fun k q hq => ?_⟩, kA, gA, lA⟩
    · match k, hq with
      | 0, hq => cases hq; exact hk0
      | 1, hq => cases hq; exact hk1
      | 2, hq => cases hq; exact hk2
      | 3, hq => cases hq; exact hk3
      | 4, hq => cases hq; exact hk4
      | 5, hq => cases hq; exact hk5
      | k + 6, hq => simp [vwCl] at hq
    · match k, hq with
      | 0, hq => cases hq; exact ⟨fun n z => ⟨(fun k h => by cases h), kB, gB, xB, lB⟩, fB⟩
      | 1, hq => cases hq; exact ⟨fun n z => ⟨(fun k h => by cases h), kI, gI, xI, lI⟩, fI⟩
      | 2, hq => cases hq; exact ⟨fun n z => ⟨(fun k h => by cases h), kJ, gJ, xJ, lJ⟩, fJ⟩
      | 3, hq => cases hq; exact ⟨fun n z => ⟨(fun k h => by cases h), kA, gA, yC, lA⟩, fA⟩
      | k + 4, hq => simp [ityp] at hq
  have hN : iNs s := ⟨va_Nw.of rfl (hts _ (List.mem_of_getElem? (i := 86) (by decide +kernel))), va_Nw.of rfl (hts _ (List.mem_of_getElem? (i := 105) (by decide +kernel))), va_Nw.of rfl (hts _ (List.mem_of_getElem? (i := 133) (by decide +kernel))), va_Nw.of rfl (hts _ (List.mem_of_getElem? (i := 175) (by decide +kernel)))⟩
  have hN3 : cN s := va_Nw.of rfl (hts _ (List.mem_of_getElem? (i := 589) (by decide +kernel)))
  have hs := flat_of_before _ hgv
  have hold : ∀ a : Nat, a < s.heap.size → ¬ (fun q : Nat => s.heap.size ≤ q) a := fun a h => Nat.not_le.mpr h
  have hlen := va_eqt (hs (.eq (.length (.static "MasonMarks" "ROWS_OF" "[I")) (.int 7)) (by decide +kernel))
  have harr := hs (.arrayOf (.static "MasonMarks" "ROWS_OF" "[I") .int) (by decide +kernel)
  have hel : ∀ j : Nat, j < 7 → (Term.elem (.static "MasonMarks" "ROWS_OF" "[I") (.int (Int32.ofNat j))).eval #[Value.ref b] s none [] s = some (.int (rowsOf j)) := by
    intro j hj
    rcases (show j = 0 ∨ j = 1 ∨ j = 2 ∨ j = 3 ∨ j = 4 ∨ j = 5 ∨ j = 6 by omega) with rfl | rfl | rfl | rfl | rfl | rfl | rfl
    · exact va_eqt (hs (.eq (.elem (.static "MasonMarks" "ROWS_OF" "[I") (.int 0)) (.int 1)) (by decide +kernel))
    · exact va_eqt (hs (.eq (.elem (.static "MasonMarks" "ROWS_OF" "[I") (.int 1)) (.int 1)) (by decide +kernel))
    · exact va_eqt (hs (.eq (.elem (.static "MasonMarks" "ROWS_OF" "[I") (.int 2)) (.int 2)) (by decide +kernel))
    · exact va_eqt (hs (.eq (.elem (.static "MasonMarks" "ROWS_OF" "[I") (.int 3)) (.int 6)) (by decide +kernel))
    · exact va_eqt (hs (.eq (.elem (.static "MasonMarks" "ROWS_OF" "[I") (.int 4)) (.int 24)) (by decide +kernel))
    · exact va_eqt (hs (.eq (.elem (.static "MasonMarks" "ROWS_OF" "[I") (.int 5)) (.int 120)) (by decide +kernel))
    · exact va_eqt (hs (.eq (.elem (.static "MasonMarks" "ROWS_OF" "[I") (.int 6)) (.int 720)) (by decide +kernel))
  obtain ⟨t, ht, hT⟩ := va_Tof (A := fun q : Nat => s.heap.size ≤ q) (f := fun j => .int (rowsOf j)) (N := 7) (by decide) harr hlen hel hold
  have hZ := va_Zof (A := fun q : Nat => s.heap.size ≤ q) (hts (.laysStatic "MasonMarks" "ROWS_OF" "[I") (List.mem_of_getElem? (i := 718) (by decide +kernel))) (hts (.initialized "MasonMarks") (List.mem_of_getElem? (i := 66) (by decide +kernel))) ht hold
  have hl := lv_entry [Value.ref b] (n := 4) (Nat.le_of_ble_eq_true rfl)
  rw [lg_entry_eq]
  exact law_start (G := G) (t := t) (xs := xs) hL p l e room_1 s m _ below meth c (fun q => s.heap.size ≤ q) _ ⟨⟨rfl, rfl, hX, hbl, hr, hlocks, rfl, rfl⟩, ⟨hZ, hT⟩, hN3⟩ ⟨⟨hx, hb, hml, hown, fun w h => hts w (wsL_law_in w h)⟩, hK, fun _ h => h, (fun h => by cases h), rfl, hN, hO⟩ s.heap [] _ hl (fun k q h => by simp at h) ⟨fun i j x y h => by simp at h, fun k q h => by simp at h⟩ va_S.rf
