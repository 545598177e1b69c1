section PUT
variable {v : EE} {M : MT} {Z : ZT} {pc n : Nat} {L : List (Nat × Value)} {st : List Value} {σ : SS}
theorem cE_ld {v : EE} {a : Nat} {f : Nat → Int32} {g : Nat → Int64} {ld ld' : Nat × Nat} (ha : a < 62) (h : a ≠ 0) : cE v a f g ld' = cE v a f g ld := by
  match a, ha, h with
  | 0, _, h => exact absurd rfl h
  | 1, _, _ => rfl
  | 2, _, _ => rfl
  | 3, _, _ => rfl
  | 4, _, _ => rfl
  | 5, _, _ => rfl
  | 6, _, _ => rfl
  | 7, _, _ => rfl
  | 8, _, _ => rfl
  | 9, _, _ => rfl
  | 10, _, _ => rfl
  | 11, _, _ => rfl
  | 12, _, _ => rfl
  | 13, _, _ => rfl
  | 14, _, _ => rfl
  | 15, _, _ => rfl
  | 16, _, _ => rfl
  | 17, _, _ => rfl
  | 18, _, _ => rfl
  | 19, _, _ => rfl
  | 20, _, _ => rfl
  | 21, _, _ => rfl
  | 22, _, _ => rfl
  | 23, _, _ => rfl
  | 24, _, _ => rfl
  | 25, _, _ => rfl
  | 26, _, _ => rfl
  | 27, _, _ => rfl
  | 28, _, _ => rfl
  | 29, _, _ => rfl
  | 30, _, _ => rfl
  | 31, _, _ => rfl
  | 32, _, _ => rfl
  | 33, _, _ => rfl
  | 34, _, _ => rfl
  | 35, _, _ => rfl
  | 36, _, _ => rfl
  | 37, _, _ => rfl
  | 38, _, _ => rfl
  | 39, _, _ => rfl
  | 40, _, _ => rfl
  | 41, _, _ => rfl
  | 42, _, _ => rfl
  | 43, _, _ => rfl
  | 44, _, _ => rfl
  | 45, _, _ => rfl
  | 46, _, _ => rfl
  | 47, _, _ => rfl
  | 48, _, _ => rfl
  | 49, _, _ => rfl
  | 50, _, _ => rfl
  | 51, _, _ => rfl
  | 52, _, _ => rfl
  | 53, _, _ => rfl
  | 54, _, _ => rfl
  | 55, _, _ => rfl
  | 56, _, _ => rfl
  | 57, _, _ => rfl
  | 58, _, _ => rfl
  | 59, _, _ => rfl
  | 60, _, _ => rfl
  | 61, _, _ => rfl
  | n + 62, ha, _ => exact absurd ha (by omega)
theorem pX0_8 {x : Int32} (hd : decode (mCode M) pc = .ok (.putfield n, 3)) (hin : ∀ w ∈ u_ws RX0 TX0 10, w ∈ mWs M) (hm : Cond.fieldLink (mOwn M) n (TX0 8).1 (TX0 8).2.1 (TX0 8).2.2.1 ∈ mWs M) (k : V v M Z (pc + 3) L st (sI σ 10 8 x)) : V v M Z pc L (.int x :: .ref (v.1 10) :: st) σ :=
  v_put (j := 8) (ty := .int) iO10 rfl hd (by decide) tyX0 tyX0_ok nmX0 hin hm rfl (by decide +kernel) rfl rfl (by simp) (by simp [sI, upd]) sI_cE k
theorem pX0_9 {x : Int32} (hd : decode (mCode M) pc = .ok (.putfield n, 3)) (hin : ∀ w ∈ u_ws RX0 TX0 10, w ∈ mWs M) (hm : Cond.fieldLink (mOwn M) n (TX0 9).1 (TX0 9).2.1 (TX0 9).2.2.1 ∈ mWs M) (k : V v M Z (pc + 3) L st (sI σ 10 9 x)) : V v M Z pc L (.int x :: .ref (v.1 10) :: st) σ :=
  v_put (j := 9) (ty := .int) iO10 rfl hd (by decide) tyX0 tyX0_ok nmX0 hin hm rfl (by decide +kernel) rfl rfl (by simp) (by simp [sI, upd]) sI_cE k
theorem pX1_5 {x : Int32} (hd : decode (mCode M) pc = .ok (.putfield n, 3)) (hin : ∀ w ∈ u_ws RX1 TX1 7, w ∈ mWs M) (hm : Cond.fieldLink (mOwn M) n (TX1 5).1 (TX1 5).2.1 (TX1 5).2.2.1 ∈ mWs M) (k : V v M Z (pc + 3) L st (sI σ 4 5 x)) : V v M Z pc L (.int x :: .ref (v.1 4) :: st) σ :=
  v_put (j := 5) (ty := .int) iO4 rfl hd (by decide) tyX1 tyX1_ok nmX1 hin hm rfl (by decide +kernel) rfl rfl (by simp) (by simp [sI, upd]) sI_cE k
theorem pX1_6 {x : Int32} (hd : decode (mCode M) pc = .ok (.putfield n, 3)) (hin : ∀ w ∈ u_ws RX1 TX1 7, w ∈ mWs M) (hm : Cond.fieldLink (mOwn M) n (TX1 6).1 (TX1 6).2.1 (TX1 6).2.2.1 ∈ mWs M) (k : V v M Z (pc + 3) L st (sI σ 4 6 x)) : V v M Z pc L (.int x :: .ref (v.1 4) :: st) σ :=
  v_put (j := 6) (ty := .int) iO4 rfl hd (by decide) tyX1 tyX1_ok nmX1 hin hm rfl (by decide +kernel) rfl rfl (by simp) (by simp [sI, upd]) sI_cE k
theorem pX2_2 {x : Int32} (hd : decode (mCode M) pc = .ok (.putfield n, 3)) (hin : ∀ w ∈ u_ws RX2 TX2 3, w ∈ mWs M) (hm : Cond.fieldLink (mOwn M) n (TX2 2).1 (TX2 2).2.1 (TX2 2).2.2.1 ∈ mWs M) (k : V v M Z (pc + 3) L st (sI σ 1 2 x)) : V v M Z pc L (.int x :: .ref (v.1 1) :: st) σ :=
  v_put (j := 2) (ty := .int) iO1 rfl hd (by decide) tyX2 tyX2_ok nmX2 hin hm rfl (by decide +kernel) rfl rfl (by simp) (by simp [sI, upd]) sI_cE k
theorem pX3_8 {b : Nat} (hb : isW b) {x : Int32} (hd : decode (mCode M) pc = .ok (.putfield n, 3)) (hin : ∀ w ∈ u_ws RX3 TX3 12, w ∈ mWs M) (hm : Cond.fieldLink (mOwn M) n (TX3 8).1 (TX3 8).2.1 (TX3 8).2.2.1 ∈ mWs M) (k : V v M Z (pc + 3) L st (sI σ b 8 x)) : V v M Z pc L (.int x :: .ref (v.1 b) :: st) σ :=
  v_put (j := 8) (ty := .int) (iWO hb) rfl hd (by decide) tyX3 tyX3_ok nmX3 hin hm rfl (by decide +kernel) rfl rfl (by simp) (by simp [sI, upd]) sI_cE k
theorem pX3_9 {b : Nat} (hb : isW b) {x : Int32} (hd : decode (mCode M) pc = .ok (.putfield n, 3)) (hin : ∀ w ∈ u_ws RX3 TX3 12, w ∈ mWs M) (hm : Cond.fieldLink (mOwn M) n (TX3 9).1 (TX3 9).2.1 (TX3 9).2.2.1 ∈ mWs M) (k : V v M Z (pc + 3) L st (sI σ b 9 x)) : V v M Z pc L (.int x :: .ref (v.1 b) :: st) σ :=
  v_put (j := 9) (ty := .int) (iWO hb) rfl hd (by decide) tyX3 tyX3_ok nmX3 hin hm rfl (by decide +kernel) rfl rfl (by simp) (by simp [sI, upd]) sI_cE k
theorem pX3_10 {b : Nat} (hb : isW b) {x : Int32} (hd : decode (mCode M) pc = .ok (.putfield n, 3)) (hin : ∀ w ∈ u_ws RX3 TX3 12, w ∈ mWs M) (hm : Cond.fieldLink (mOwn M) n (TX3 10).1 (TX3 10).2.1 (TX3 10).2.2.1 ∈ mWs M) (k : V v M Z (pc + 3) L st (sI σ b 10 x)) : V v M Z pc L (.int x :: .ref (v.1 b) :: st) σ :=
  v_put (j := 10) (ty := .int) (iWO hb) rfl hd (by decide) tyX3 tyX3_ok nmX3 hin hm rfl (by decide +kernel) rfl rfl (by simp) (by simp [sI, upd]) sI_cE k
theorem pX3_11 {b : Nat} (hb : isW b) {x : Int32} (hd : decode (mCode M) pc = .ok (.putfield n, 3)) (hin : ∀ w ∈ u_ws RX3 TX3 12, w ∈ mWs M) (hm : Cond.fieldLink (mOwn M) n (TX3 11).1 (TX3 11).2.1 (TX3 11).2.2.1 ∈ mWs M) (k : V v M Z (pc + 3) L st (sI σ b 11 x)) : V v M Z pc L (.int x :: .ref (v.1 b) :: st) σ :=
  v_put (j := 11) (ty := .int) (iWO hb) rfl hd (by decide) tyX3 tyX3_ok nmX3 hin hm rfl (by decide +kernel) rfl rfl (by simp) (by simp [sI, upd]) sI_cE k
theorem pX4_7 {x : Int32} (hd : decode (mCode M) pc = .ok (.putfield n, 3)) (hin : ∀ w ∈ u_ws RX4 TX4 8, w ∈ mWs M) (hm : Cond.fieldLink (mOwn M) n (TX4 7).1 (TX4 7).2.1 (TX4 7).2.2.1 ∈ mWs M) (k : V v M Z (pc + 3) L st (sI σ 0 7 x)) : V v M Z pc L (.int x :: .ref (v.1 0) :: st) σ :=
  v_put (j := 7) (ty := .int) iO0 rfl hd (by decide) tyX4 tyX4_ok nmX4 hin hm rfl (by decide +kernel) rfl rfl (by simp) (by simp [sI, upd]) sI_cE k
theorem pX5_0 {x : Int32} (hd : decode (mCode M) pc = .ok (.putfield n, 3)) (hin : ∀ w ∈ u_ws RX5 TX5 29, w ∈ mWs M) (hm : Cond.fieldLink (mOwn M) n (TX5 0).1 (TX5 0).2.1 (TX5 0).2.2.1 ∈ mWs M) (k : V v M Z (pc + 3) L st (sI σ 40 0 x)) : V v M Z pc L (.int x :: .ref (v.1 40) :: st) σ :=
  v_put (j := 0) (ty := .int) iO40 rfl hd (by decide) tyX5 tyX5_ok nmX5 hin hm rfl (by decide +kernel) rfl rfl (by simp) (by simp [sI, upd]) sI_cE k
theorem pX5_2 {x : Int32} (hd : decode (mCode M) pc = .ok (.putfield n, 3)) (hin : ∀ w ∈ u_ws RX5 TX5 29, w ∈ mWs M) (hm : Cond.fieldLink (mOwn M) n (TX5 2).1 (TX5 2).2.1 (TX5 2).2.2.1 ∈ mWs M) (k : V v M Z (pc + 3) L st (sI σ 40 2 x)) : V v M Z pc L (.int x :: .ref (v.1 40) :: st) σ :=
  v_put (j := 2) (ty := .int) iO40 rfl hd (by decide) tyX5 tyX5_ok nmX5 hin hm rfl (by decide +kernel) rfl rfl (by simp) (by simp [sI, upd]) sI_cE k
theorem pX5_11 {x : Int32} (hd : decode (mCode M) pc = .ok (.putfield n, 3)) (hin : ∀ w ∈ u_ws RX5 TX5 29, w ∈ mWs M) (hm : Cond.fieldLink (mOwn M) n (TX5 11).1 (TX5 11).2.1 (TX5 11).2.2.1 ∈ mWs M) (k : V v M Z (pc + 3) L st (sI σ 40 11 x)) : V v M Z pc L (.int x :: .ref (v.1 40) :: st) σ :=
  v_put (j := 11) (ty := .int) iO40 rfl hd (by decide) tyX5 tyX5_ok nmX5 hin hm rfl (by decide +kernel) rfl rfl (by simp) (by simp [sI, upd]) sI_cE k
theorem pX5_13 {x : Int32} (hd : decode (mCode M) pc = .ok (.putfield n, 3)) (hin : ∀ w ∈ u_ws RX5 TX5 29, w ∈ mWs M) (hm : Cond.fieldLink (mOwn M) n (TX5 13).1 (TX5 13).2.1 (TX5 13).2.2.1 ∈ mWs M) (k : V v M Z (pc + 3) L st (sI σ 40 13 x)) : V v M Z pc L (.int x :: .ref (v.1 40) :: st) σ :=
  v_put (j := 13) (ty := .int) iO40 rfl hd (by decide) tyX5 tyX5_ok nmX5 hin hm rfl (by decide +kernel) rfl rfl (by simp) (by simp [sI, upd]) sI_cE k
theorem pX5_15 {x : Int32} (hd : decode (mCode M) pc = .ok (.putfield n, 3)) (hin : ∀ w ∈ u_ws RX5 TX5 29, w ∈ mWs M) (hm : Cond.fieldLink (mOwn M) n (TX5 15).1 (TX5 15).2.1 (TX5 15).2.2.1 ∈ mWs M) (k : V v M Z (pc + 3) L st (sI σ 40 15 x)) : V v M Z pc L (.int x :: .ref (v.1 40) :: st) σ :=
  v_put (j := 15) (ty := .int) iO40 rfl hd (by decide) tyX5 tyX5_ok nmX5 hin hm rfl (by decide +kernel) rfl rfl (by simp) (by simp [sI, upd]) sI_cE k
theorem pX5_21 {x : Int32} (hd : decode (mCode M) pc = .ok (.putfield n, 3)) (hin : ∀ w ∈ u_ws RX5 TX5 29, w ∈ mWs M) (hm : Cond.fieldLink (mOwn M) n (TX5 21).1 (TX5 21).2.1 (TX5 21).2.2.1 ∈ mWs M) (k : V v M Z (pc + 3) L st (sI σ 40 21 x)) : V v M Z pc L (.int x :: .ref (v.1 40) :: st) σ :=
  v_put (j := 21) (ty := .int) iO40 rfl hd (by decide) tyX5 tyX5_ok nmX5 hin hm rfl (by decide +kernel) rfl rfl (by simp) (by simp [sI, upd]) sI_cE k
theorem pX5_22 {x : Int32} (hd : decode (mCode M) pc = .ok (.putfield n, 3)) (hin : ∀ w ∈ u_ws RX5 TX5 29, w ∈ mWs M) (hm : Cond.fieldLink (mOwn M) n (TX5 22).1 (TX5 22).2.1 (TX5 22).2.2.1 ∈ mWs M) (k : V v M Z (pc + 3) L st (sI σ 40 22 x)) : V v M Z pc L (.int x :: .ref (v.1 40) :: st) σ :=
  v_put (j := 22) (ty := .int) iO40 rfl hd (by decide) tyX5 tyX5_ok nmX5 hin hm rfl (by decide +kernel) rfl rfl (by simp) (by simp [sI, upd]) sI_cE k
theorem pX5_26 {x : Int64} (hd : decode (mCode M) pc = .ok (.putfield n, 3)) (hin : ∀ w ∈ u_ws RX5 TX5 29, w ∈ mWs M) (hm : Cond.fieldLink (mOwn M) n (TX5 26).1 (TX5 26).2.1 (TX5 26).2.2.1 ∈ mWs M) (k : V v M Z (pc + 3) L st (sJ σ 40 26 x)) : V v M Z pc L (.long x :: .ref (v.1 40) :: st) σ :=
  v_put (j := 26) (ty := .long) iO40 rfl hd (by decide) tyX5 tyX5_ok nmX5 hin hm rfl (by decide +kernel) rfl rfl (by simp) (by simp [sJ, vp_updL]) sJ_cE k
theorem pX5_27 {x : Int64} (hd : decode (mCode M) pc = .ok (.putfield n, 3)) (hin : ∀ w ∈ u_ws RX5 TX5 29, w ∈ mWs M) (hm : Cond.fieldLink (mOwn M) n (TX5 27).1 (TX5 27).2.1 (TX5 27).2.2.1 ∈ mWs M) (k : V v M Z (pc + 3) L st (sJ σ 40 27 x)) : V v M Z pc L (.long x :: .ref (v.1 40) :: st) σ :=
  v_put (j := 27) (ty := .long) iO40 rfl hd (by decide) tyX5 tyX5_ok nmX5 hin hm rfl (by decide +kernel) rfl rfl (by simp) (by simp [sJ, vp_updL]) sJ_cE k
theorem pX4_5 {y : Nat} (hd : decode (mCode M) pc = .ok (.putfield n, 3)) (hin : ∀ w ∈ u_ws RX4 TX4 8, w ∈ mWs M) (hm : Cond.fieldLink (mOwn M) n (TX4 5).1 (TX4 5).2.1 (TX4 5).2.2.1 ∈ mWs M) (k : V v M Z (pc + 3) L st (σ.1, σ.2.1, (y, σ.2.2.2))) : V v M Z pc L (.ref (v.1 y) :: .ref (v.1 0) :: st) σ :=
  v_put (σ' := (σ.1, σ.2.1, (y, σ.2.2.2))) (j := 5) (ty := .object "MasonMarks$Wall") iO0 rfl hd (by decide) tyX4 tyX4_ok nmX4 hin hm rfl (by decide +kernel) rfl rfl (by simp) (by simp) (fun a ha hq => cE_ld ha hq) k
theorem pX4_6 {y : Nat} (hd : decode (mCode M) pc = .ok (.putfield n, 3)) (hin : ∀ w ∈ u_ws RX4 TX4 8, w ∈ mWs M) (hm : Cond.fieldLink (mOwn M) n (TX4 6).1 (TX4 6).2.1 (TX4 6).2.2.1 ∈ mWs M) (k : V v M Z (pc + 3) L st (σ.1, σ.2.1, (σ.2.2.1, y))) : V v M Z pc L (.ref (v.1 y) :: .ref (v.1 0) :: st) σ :=
  v_put (σ' := (σ.1, σ.2.1, (σ.2.2.1, y))) (j := 6) (ty := .object "MasonMarks$Wall") iO0 rfl hd (by decide) tyX4 tyX4_ok nmX4 hin hm rfl (by decide +kernel) rfl rfl (by simp) (by simp) (fun a ha hq => cE_ld ha hq) k
end PUT
abbrev M_X0_clear : MT := (RX0, cX0_clear, 2, none, wsX0_clear, { frames := 1, cells := 0, slots := 0, locals := 23 }, yX0_clear)
abbrev M_X0_weighWall : MT := (RX0, cX0_weighWall, 3, none, wsX0_weighWall, { frames := 5, cells := 0, slots := 0, locals := 113 }, yX0_weighWall)
abbrev M_X0_weigh : MT := (RX0, cX0_weigh, 2, none, wsX0_weigh, { frames := 3, cells := 0, slots := 0, locals := 70 }, yX0_weigh)
abbrev M_X0_gatherSigns : MT := (RX0, cX0_gatherSigns, 3, none, wsX0_gatherSigns, { frames := 0, cells := 0, slots := 0, locals := 0 }, yX0_gatherSigns)
abbrev M_X0_weighSet : MT := (RX0, cX0_weighSet, 5, none, wsX0_weighSet, { frames := 2, cells := 0, slots := 0, locals := 46 }, yX0_weighSet)
abbrev M_X0_mayFollow : MT := (RX0, cX0_mayFollow, 4, (some .boolean), wsX0_mayFollow, { frames := 0, cells := 0, slots := 0, locals := 0 }, yX0_mayFollow)
abbrev M_X0_isBestStep : MT := (RX0, cX0_isBestStep, 3, (some .boolean), wsX0_isBestStep, { frames := 2, cells := 0, slots := 0, locals := 46 }, yX0_isBestStep)
abbrev M_X0_gapsAdded : MT := (RX0, cX0_gapsAdded, 4, (some .int), wsX0_gapsAdded, { frames := 1, cells := 0, slots := 0, locals := 23 }, yX0_gapsAdded)
abbrev M_X0_strokesOf : MT := (RX0, cX0_strokesOf, 4, (some .int), wsX0_strokesOf, { frames := 0, cells := 0, slots := 0, locals := 0 }, yX0_strokesOf)
abbrev M_X0_traceFirstRow : MT := (RX0, cX0_traceFirstRow, 4, none, wsX0_traceFirstRow, { frames := 4, cells := 0, slots := 0, locals := 90 }, yX0_traceFirstRow)
abbrev M_X0_firstBestStep : MT := (RX0, cX0_firstBestStep, 3, (some .int), wsX0_firstBestStep, { frames := 3, cells := 0, slots := 0, locals := 68 }, yX0_firstBestStep)
abbrev M_X0_exist : MT := (RX0, cX0_exist, 1, (some .boolean), wsX0_exist, { frames := 0, cells := 0, slots := 0, locals := 0 }, yX0_exist)
abbrev M_X0_howMany : MT := (RX0, cX0_howMany, 1, (some .int), wsX0_howMany, { frames := 0, cells := 0, slots := 0, locals := 0 }, yX0_howMany)
abbrev M_X0_fewestGaps : MT := (RX0, cX0_fewestGaps, 1, (some .int), wsX0_fewestGaps, { frames := 0, cells := 0, slots := 0, locals := 0 }, yX0_fewestGaps)
abbrev M_X0_partAt : MT := (RX0, cX0_partAt, 2, (some .int), wsX0_partAt, { frames := 0, cells := 0, slots := 0, locals := 0 }, yX0_partAt)
abbrev M_X0_howManyAhead : MT := (RX0, cX0_howManyAhead, 5, (some .int), wsX0_howManyAhead, { frames := 4, cells := 0, slots := 0, locals := 90 }, yX0_howManyAhead)
abbrev M_X0_reachFrom : MT := (RX0, cX0_reachFrom, 3, none, wsX0_reachFrom, { frames := 3, cells := 0, slots := 0, locals := 68 }, yX0_reachFrom)
abbrev M_X0_signsAt : MT := (RX0, cX0_signsAt, 3, (some .int), wsX0_signsAt, { frames := 1, cells := 0, slots := 0, locals := 21 }, yX0_signsAt)
abbrev M_X0_signsUpTo : MT := (RX0, cX0_signsUpTo, 4, (some .int), wsX0_signsUpTo, { frames := 2, cells := 0, slots := 0, locals := 43 }, yX0_signsUpTo)
abbrev M_X0_signsBehind : MT := (RX0, cX0_signsBehind, 4, (some .int), wsX0_signsBehind, { frames := 2, cells := 0, slots := 0, locals := 43 }, yX0_signsBehind)
abbrev M_X0_goingOver : MT := (RX0, cX0_goingOver, 2, (some .int), wsX0_goingOver, { frames := 3, cells := 0, slots := 0, locals := 66 }, yX0_goingOver)
abbrev M_X0_endingAt : MT := (RX0, cX0_endingAt, 2, (some .int), wsX0_endingAt, { frames := 3, cells := 0, slots := 0, locals := 66 }, yX0_endingAt)
abbrev M_X0_beginningAt : MT := (RX0, cX0_beginningAt, 2, (some .int), wsX0_beginningAt, { frames := 3, cells := 0, slots := 0, locals := 66 }, yX0_beginningAt)
abbrev M_X0_astrayAt : MT := (RX0, cX0_astrayAt, 4, (some .int), wsX0_astrayAt, { frames := 2, cells := 0, slots := 0, locals := 43 }, yX0_astrayAt)
abbrev M_X0_mostWithOneMore : MT := (RX0, cX0_mostWithOneMore, 7, (some .int), wsX0_mostWithOneMore, { frames := 4, cells := 0, slots := 0, locals := 91 }, yX0_mostWithOneMore)
abbrev M_X0_gapsOf : MT := (RX0, cX0_gapsOf, 6, (some .int), wsX0_gapsOf, { frames := 2, cells := 0, slots := 0, locals := 46 }, yX0_gapsOf)
abbrev M_X1_callOver : MT := (RX1, cX1_callOver, 3, none, wsX1_callOver, { frames := 5, cells := 0, slots := 0, locals := 114 }, yX1_callOver)
abbrev M_X1_cuttersOf : MT := (RX1, cX1_cuttersOf, 5, (some .int), wsX1_cuttersOf, { frames := 4, cells := 0, slots := 0, locals := 90 }, yX1_cuttersOf)
abbrev M_X1_mayOwnAt : MT := (RX1, cX1_mayOwnAt, 2, (some .int), wsX1_mayOwnAt, { frames := 0, cells := 0, slots := 0, locals := 0 }, yX1_mayOwnAt)
abbrev M_X1_countGiven : MT := (RX1, cX1_countGiven, 5, none, wsX1_countGiven, { frames := 1, cells := 0, slots := 0, locals := 21 }, yX1_countGiven)
abbrev M_X1_countToGive : MT := (RX1, cX1_countToGive, 6, none, wsX1_countToGive, { frames := 1, cells := 0, slots := 0, locals := 21 }, yX1_countToGive)
abbrev M_X1_allWays : MT := (RX1, cX1_allWays, 1, (some .long), wsX1_allWays, { frames := 0, cells := 0, slots := 0, locals := 0 }, yX1_allWays)
abbrev M_X1_isShown : MT := (RX1, cX1_isShown, 2, (some .boolean), wsX1_isShown, { frames := 0, cells := 0, slots := 0, locals := 0 }, yX1_isShown)
abbrev M_X1_waysTogether : MT := (RX1, cX1_waysTogether, 7, (some .long), wsX1_waysTogether, { frames := 1, cells := 0, slots := 0, locals := 21 }, yX1_waysTogether)
abbrev M_X1_listOwners : MT := (RX1, cX1_listOwners, 3, none, wsX1_listOwners, { frames := 1, cells := 0, slots := 0, locals := 24 }, yX1_listOwners)
abbrev M_X1_ownersBehind : MT := (RX1, cX1_ownersBehind, 5, (some .int), wsX1_ownersBehind, { frames := 0, cells := 0, slots := 0, locals := 0 }, yX1_ownersBehind)
abbrev M_X1_signsWithOneOwner : MT := (RX1, cX1_signsWithOneOwner, 3, (some .int), wsX1_signsWithOneOwner, { frames := 1, cells := 0, slots := 0, locals := 20 }, yX1_signsWithOneOwner)
abbrev M_X1_onlyOwner : MT := (RX1, cX1_onlyOwner, 3, (some .int), wsX1_onlyOwner, { frames := 1, cells := 0, slots := 0, locals := 21 }, yX1_onlyOwner)
abbrev M_X2_append : MT := (RX2, cX2_append, 5, none, wsX2_append, { frames := 0, cells := 0, slots := 0, locals := 0 }, yX2_append)
abbrev M_X2_tellTo : MT := (RX2, cX2_tellTo, 5, (some .int), wsX2_tellTo, { frames := 4, cells := 0, slots := 0, locals := 92 }, yX2_tellTo)
abbrev M_X2_split : MT := (RX2, cX2_split, 6, (some .int), wsX2_split, { frames := 2, cells := 0, slots := 0, locals := 45 }, yX2_split)
abbrev M_X2_numbersOf : MT := (RX2, cX2_numbersOf, 1, (some .int), wsX2_numbersOf, { frames := 0, cells := 0, slots := 0, locals := 0 }, yX2_numbersOf)
abbrev M_X2_figuresAt : MT := (RX2, cX2_figuresAt, 4, (some .int), wsX2_figuresAt, { frames := 1, cells := 0, slots := 0, locals := 21 }, yX2_figuresAt)
abbrev M_X2_numberAt : MT := (RX2, cX2_numberAt, 5, (some .int), wsX2_numberAt, { frames := 1, cells := 0, slots := 0, locals := 21 }, yX2_numberAt)
abbrev M_X2_isFigure : MT := (RX2, cX2_isFigure, 1, (some .boolean), wsX2_isFigure, { frames := 0, cells := 0, slots := 0, locals := 0 }, yX2_isFigure)
abbrev M_X2_byteAt : MT := (RX2, cX2_byteAt, 2, (some .int), wsX2_byteAt, { frames := 0, cells := 0, slots := 0, locals := 0 }, yX2_byteAt)
abbrev M_X3_clear : MT := (RX3, cX3_clear, 1, none, wsX3_clear, { frames := 1, cells := 0, slots := 0, locals := 23 }, yX3_clear)
abbrev M_X3_accept : MT := (RX3, cX3_accept, 5, (some .boolean), wsX3_accept, { frames := 3, cells := 0, slots := 0, locals := 68 }, yX3_accept)
abbrev M_X3_addSign : MT := (RX3, cX3_addSign, 3, (some .boolean), wsX3_addSign, { frames := 1, cells := 0, slots := 0, locals := 21 }, yX3_addSign)
abbrev M_X3_addCourse : MT := (RX3, cX3_addCourse, 4, (some .boolean), wsX3_addCourse, { frames := 1, cells := 0, slots := 0, locals := 21 }, yX3_addCourse)
abbrev M_X3_addStones : MT := (RX3, cX3_addStones, 5, (some .boolean), wsX3_addStones, { frames := 2, cells := 0, slots := 0, locals := 44 }, yX3_addStones)
abbrev M_X3_addBegun : MT := (RX3, cX3_addBegun, 3, (some .boolean), wsX3_addBegun, { frames := 0, cells := 0, slots := 0, locals := 0 }, yX3_addBegun)
abbrev M_X3_addName : MT := (RX3, cX3_addName, 3, (some .boolean), wsX3_addName, { frames := 1, cells := 0, slots := 0, locals := 21 }, yX3_addName)
abbrev M_X3_addStay : MT := (RX3, cX3_addStay, 4, (some .boolean), wsX3_addStay, { frames := 1, cells := 0, slots := 0, locals := 21 }, yX3_addStay)
abbrev M_X3_setPace : MT := (RX3, cX3_setPace, 2, (some .boolean), wsX3_setPace, { frames := 0, cells := 0, slots := 0, locals := 0 }, yX3_setPace)
abbrev M_X3_areWeeks : MT := (RX3, cX3_areWeeks, 2, (some .boolean), wsX3_areWeeks, { frames := 0, cells := 0, slots := 0, locals := 0 }, yX3_areWeeks)
abbrev M_X3_weekBits : MT := (RX3, cX3_weekBits, 2, (some .int), wsX3_weekBits, { frames := 0, cells := 0, slots := 0, locals := 0 }, yX3_weekBits)
abbrev M_X3_hasSign : MT := (RX3, cX3_hasSign, 2, (some .boolean), wsX3_hasSign, { frames := 0, cells := 0, slots := 0, locals := 0 }, yX3_hasSign)
abbrev M_X3_hasCourse : MT := (RX3, cX3_hasCourse, 2, (some .boolean), wsX3_hasCourse, { frames := 0, cells := 0, slots := 0, locals := 0 }, yX3_hasCourse)
abbrev M_X3_hasName : MT := (RX3, cX3_hasName, 2, (some .boolean), wsX3_hasName, { frames := 0, cells := 0, slots := 0, locals := 0 }, yX3_hasName)
abbrev M_X3_hasPart : MT := (RX3, cX3_hasPart, 2, (some .boolean), wsX3_hasPart, { frames := 1, cells := 0, slots := 0, locals := 22 }, yX3_hasPart)
abbrev M_X3_partBits : MT := (RX3, cX3_partBits, 3, (some .int), wsX3_partBits, { frames := 0, cells := 0, slots := 0, locals := 0 }, yX3_partBits)
abbrev M_X3_columnOf : MT := (RX3, cX3_columnOf, 2, (some .int), wsX3_columnOf, { frames := 1, cells := 0, slots := 0, locals := 21 }, yX3_columnOf)
abbrev M_X3_stonesAt : MT := (RX3, cX3_stonesAt, 4, (some .int), wsX3_stonesAt, { frames := 1, cells := 0, slots := 0, locals := 21 }, yX3_stonesAt)
abbrev M_X3_addAt : MT := (RX3, cX3_addAt, 4, none, wsX3_addAt, { frames := 1, cells := 0, slots := 0, locals := 21 }, yX3_addAt)
abbrev M_X3_stonesOfCourse : MT := (RX3, cX3_stonesOfCourse, 4, (some .int), wsX3_stonesOfCourse, { frames := 2, cells := 0, slots := 0, locals := 44 }, yX3_stonesOfCourse)
abbrev M_X3_stonesOfPart : MT := (RX3, cX3_stonesOfPart, 5, (some .int), wsX3_stonesOfPart, { frames := 2, cells := 0, slots := 0, locals := 44 }, yX3_stonesOfPart)
abbrev M_X3_stonesShowing : MT := (RX3, cX3_stonesShowing, 4, (some .int), wsX3_stonesShowing, { frames := 2, cells := 0, slots := 0, locals := 44 }, yX3_stonesShowing)
abbrev M_X3_allStones : MT := (RX3, cX3_allStones, 3, (some .int), wsX3_allStones, { frames := 3, cells := 0, slots := 0, locals := 67 }, yX3_allStones)
abbrev M_X3_partsShowing : MT := (RX3, cX3_partsShowing, 4, (some .int), wsX3_partsShowing, { frames := 2, cells := 0, slots := 0, locals := 44 }, yX3_partsShowing)
abbrev M_X3_signsIn : MT := (RX3, cX3_signsIn, 4, (some .int), wsX3_signsIn, { frames := 3, cells := 0, slots := 0, locals := 67 }, yX3_signsIn)
abbrev M_X3_signsShownBy : MT := (RX3, cX3_signsShownBy, 4, (some .int), wsX3_signsShownBy, { frames := 2, cells := 0, slots := 0, locals := 44 }, yX3_signsShownBy)
abbrev M_X3_strokesOf : MT := (RX3, cX3_strokesOf, 4, (some .int), wsX3_strokesOf, { frames := 0, cells := 0, slots := 0, locals := 0 }, yX3_strokesOf)
abbrev M_X3_weeksOfCourse : MT := (RX3, cX3_weeksOfCourse, 2, (some .int), wsX3_weeksOfCourse, { frames := 1, cells := 0, slots := 0, locals := 21 }, yX3_weeksOfCourse)
abbrev M_X3_menAtLeast : MT := (RX3, cX3_menAtLeast, 3, (some .int), wsX3_menAtLeast, { frames := 3, cells := 0, slots := 0, locals := 67 }, yX3_menAtLeast)
abbrev M_X3_menAtMost : MT := (RX3, cX3_menAtMost, 3, (some .int), wsX3_menAtMost, { frames := 4, cells := 0, slots := 0, locals := 89 }, yX3_menAtMost)
abbrev M_X3_weeksAsked : MT := (RX3, cX3_weeksAsked, 3, (some .int), wsX3_weeksAsked, { frames := 2, cells := 0, slots := 0, locals := 44 }, yX3_weeksAsked)
abbrev M_X3_mayHaveCut : MT := (RX3, cX3_mayHaveCut, 5, (some .boolean), wsX3_mayHaveCut, { frames := 3, cells := 0, slots := 0, locals := 66 }, yX3_mayHaveCut)
abbrev M_X3_firstWeekShowing : MT := (RX3, cX3_firstWeekShowing, 4, (some .int), wsX3_firstWeekShowing, { frames := 2, cells := 0, slots := 0, locals := 44 }, yX3_firstWeekShowing)
abbrev M_X3_oneCourseShowsBoth : MT := (RX3, cX3_oneCourseShowsBoth, 4, (some .boolean), wsX3_oneCourseShowsBoth, { frames := 2, cells := 0, slots := 0, locals := 44 }, yX3_oneCourseShowsBoth)
abbrev M_X4_write : MT := (RX4, cX4_write, 4, (some .int), wsX4_write, { frames := 1, cells := 0, slots := 0, locals := 24 }, yX4_write)
abbrev M_X4_wipe : MT := (RX4, cX4_wipe, 2, (some .int), wsX4_wipe, { frames := 0, cells := 0, slots := 0, locals := 0 }, yX4_wipe)
abbrev M_X4_fault : MT := (RX4, cX4_fault, 1, (some .int), wsX4_fault, { frames := 5, cells := 0, slots := 0, locals := 116 }, yX4_fault)
abbrev M_X4_lay : MT := (RX4, cX4_lay, 2, (some .int), wsX4_lay, { frames := 5, cells := 0, slots := 0, locals := 116 }, yX4_lay)
abbrev M_X4_sign : MT := (RX4, cX4_sign, 3, (some .int), wsX4_sign, { frames := 3, cells := 0, slots := 0, locals := 67 }, yX4_sign)
abbrev M_X4_stones : MT := (RX4, cX4_stones, 4, (some .int), wsX4_stones, { frames := 2, cells := 0, slots := 0, locals := 44 }, yX4_stones)
abbrev M_X4_in : MT := (RX4, cX4_in, 4, (some .int), wsX4_in, { frames := 3, cells := 0, slots := 0, locals := 68 }, yX4_in)
abbrev M_X4_read : MT := (RX4, cX4_read, 4, (some .int), wsX4_read, { frames := 2, cells := 0, slots := 0, locals := 44 }, yX4_read)
abbrev M_X4_alike : MT := (RX4, cX4_alike, 6, (some .int), wsX4_alike, { frames := 4, cells := 0, slots := 0, locals := 90 }, yX4_alike)
abbrev M_X4_chance : MT := (RX4, cX4_chance, 11, (some .long), wsX4_chance, { frames := 4, cells := 0, slots := 0, locals := 90 }, yX4_chance)
abbrev M_X4_best : MT := (RX4, cX4_best, 2, (some .int), wsX4_best, { frames := 6, cells := 0, slots := 0, locals := 135 }, yX4_best)
abbrev M_X4_sure : MT := (RX4, cX4_sure, 4, (some .int), wsX4_sure, { frames := 6, cells := 0, slots := 0, locals := 135 }, yX4_sure)
abbrev M_X4_seam : MT := (RX4, cX4_seam, 4, (some .int), wsX4_seam, { frames := 6, cells := 0, slots := 0, locals := 135 }, yX4_seam)
abbrev M_X4_pause : MT := (RX4, cX4_pause, 5, (some .int), wsX4_pause, { frames := 6, cells := 0, slots := 0, locals := 135 }, yX4_pause)
abbrev M_X4_next : MT := (RX4, cX4_next, 6, (some .int), wsX4_next, { frames := 6, cells := 0, slots := 0, locals := 135 }, yX4_next)
abbrev M_X4_men : MT := (RX4, cX4_men, 3, (some .int), wsX4_men, { frames := 5, cells := 0, slots := 0, locals := 111 }, yX4_men)
abbrev M_X4_asks : MT := (RX4, cX4_asks, 3, (some .int), wsX4_asks, { frames := 3, cells := 0, slots := 0, locals := 66 }, yX4_asks)
abbrev M_X4_may : MT := (RX4, cX4_may, 3, (some .int), wsX4_may, { frames := 4, cells := 0, slots := 0, locals := 90 }, yX4_may)
abbrev M_X4_partings : MT := (RX4, cX4_partings, 1, (some .long), wsX4_partings, { frames := 6, cells := 0, slots := 0, locals := 136 }, yX4_partings)
abbrev M_X4_odds : MT := (RX4, cX4_odds, 4, (some .long), wsX4_odds, { frames := 6, cells := 0, slots := 0, locals := 136 }, yX4_odds)
abbrev M_X4_named : MT := (RX4, cX4_named, 2, (some .int), wsX4_named, { frames := 6, cells := 0, slots := 0, locals := 136 }, yX4_named)
abbrev M_X4_grown : MT := (RX4, cX4_grown, 5, (some .int), wsX4_grown, { frames := 3, cells := 0, slots := 0, locals := 67 }, yX4_grown)
abbrev M_X4_again : MT := (RX4, cX4_again, 5, (some .int), wsX4_again, { frames := 6, cells := 0, slots := 0, locals := 135 }, yX4_again)
abbrev M_X4_found : MT := (RX4, cX4_found, 8, (some .int), wsX4_found, { frames := 4, cells := 0, slots := 0, locals := 91 }, yX4_found)
abbrev M_X4_keep : MT := (RX4, cX4_keep, 1, (some .int), wsX4_keep, { frames := 1, cells := 0, slots := 0, locals := 60 }, yX4_keep)
abbrev M_X4_back : MT := (RX4, cX4_back, 1, (some .int), wsX4_back, { frames := 1, cells := 0, slots := 0, locals := 60 }, yX4_back)
abbrev M_X4_count : MT := (RX4, cX4_count, 2, (some .int), wsX4_count, { frames := 4, cells := 0, slots := 0, locals := 89 }, yX4_count)
abbrev M_X4_areTwoParts : MT := (RX4, cX4_areTwoParts, 3, (some .boolean), wsX4_areTwoParts, { frames := 2, cells := 0, slots := 0, locals := 43 }, yX4_areTwoParts)
abbrev M_X4_planRow : MT := (RX4, cX4_planRow, 8, none, wsX4_planRow, { frames := 1, cells := 0, slots := 0, locals := 23 }, yX4_planRow)
abbrev M_X4_freePart : MT := (RX4, cX4_freePart, 4, (some .int), wsX4_freePart, { frames := 0, cells := 0, slots := 0, locals := 0 }, yX4_freePart)
abbrev M_X4_letCut : MT := (RX4, cX4_letCut, 8, none, wsX4_letCut, { frames := 1, cells := 0, slots := 0, locals := 24 }, yX4_letCut)
abbrev M_X4_drawn : MT := (RX4, cX4_drawn, 5, (some .int), wsX4_drawn, { frames := 0, cells := 0, slots := 0, locals := 0 }, yX4_drawn)
abbrev M_X4_roundedUp : MT := (RX4, cX4_roundedUp, 2, (some .int), wsX4_roundedUp, { frames := 0, cells := 0, slots := 0, locals := 0 }, yX4_roundedUp)
abbrev M_X4_choices : MT := (RX4, cX4_choices, 5, (some .long), wsX4_choices, { frames := 0, cells := 0, slots := 0, locals := 0 }, yX4_choices)
abbrev M_X4_drawsWithShared : MT := (RX4, cX4_drawsWithShared, 7, (some .long), wsX4_drawsWithShared, { frames := 1, cells := 0, slots := 0, locals := 24 }, yX4_drawsWithShared)
abbrev M_X4_lowest : MT := (RX4, cX4_lowest, 12, (some .long), wsX4_lowest, { frames := 0, cells := 0, slots := 0, locals := 0 }, yX4_lowest)
abbrev M_X5_between : MT := (RX5, cX5_between, 6, (some .boolean), wsX5_between, { frames := 0, cells := 0, slots := 0, locals := 0 }, yX5_between)
abbrev M_X5_write : MT := (RX5, cX5_write, 5, (some .int), wsX5_write, { frames := 1, cells := 0, slots := 0, locals := 25 }, yX5_write)
abbrev M_X5_wipe : MT := (RX5, cX5_wipe, 2, (some .int), wsX5_wipe, { frames := 0, cells := 0, slots := 0, locals := 0 }, yX5_wipe)
abbrev M_X5_number : MT := (RX5, cX5_number, 3, (some .int), wsX5_number, { frames := 1, cells := 0, slots := 0, locals := 25 }, yX5_number)
abbrev M_X5_figures : MT := (RX5, cX5_figures, 1, (some .int), wsX5_figures, { frames := 0, cells := 0, slots := 0, locals := 0 }, yX5_figures)
abbrev M_X5_isItem : MT := (RX5, cX5_isItem, 5, (some .boolean), wsX5_isItem, { frames := 4, cells := 0, slots := 0, locals := 94 }, yX5_isItem)
abbrev M_X5_areWeeks : MT := (RX5, cX5_areWeeks, 2, (some .boolean), wsX5_areWeeks, { frames := 1, cells := 0, slots := 0, locals := 25 }, yX5_areWeeks)
abbrev M_X5_weeks : MT := (RX5, cX5_weeks, 2, (some .int), wsX5_weeks, { frames := 0, cells := 0, slots := 0, locals := 0 }, yX5_weeks)
abbrev M_X5_isGood : MT := (RX5, cX5_isGood, 5, (some .boolean), wsX5_isGood, { frames := 3, cells := 0, slots := 0, locals := 70 }, yX5_isGood)
abbrev M_X5_isName : MT := (RX5, cX5_isName, 5, (some .boolean), wsX5_isName, { frames := 2, cells := 0, slots := 0, locals := 46 }, yX5_isName)
abbrev M_X5_kindOf : MT := (RX5, cX5_kindOf, 1, (some .int), wsX5_kindOf, { frames := 0, cells := 0, slots := 0, locals := 0 }, yX5_kindOf)
abbrev M_X5_fault : MT := (RX5, cX5_fault, 2, (some .int), wsX5_fault, { frames := 5, cells := 0, slots := 0, locals := 118 }, yX5_fault)
abbrev M_X5_lay : MT := (RX5, cX5_lay, 2, (some .int), wsX5_lay, { frames := 6, cells := 0, slots := 0, locals := 139 }, yX5_lay)
abbrev M_X5_copies : MT := (RX5, cX5_copies, 4, none, wsX5_copies, { frames := 0, cells := 0, slots := 0, locals := 0 }, yX5_copies)
abbrev M_X5_isSign : MT := (RX5, cX5_isSign, 2, (some .boolean), wsX5_isSign, { frames := 1, cells := 0, slots := 0, locals := 25 }, yX5_isSign)
abbrev M_X5_isKind : MT := (RX5, cX5_isKind, 2, (some .boolean), wsX5_isKind, { frames := 2, cells := 0, slots := 0, locals := 46 }, yX5_isKind)
abbrev M_X5_isCourse : MT := (RX5, cX5_isCourse, 2, (some .boolean), wsX5_isCourse, { frames := 1, cells := 0, slots := 0, locals := 25 }, yX5_isCourse)
abbrev M_X5_isNameOf : MT := (RX5, cX5_isNameOf, 2, (some .boolean), wsX5_isNameOf, { frames := 1, cells := 0, slots := 0, locals := 25 }, yX5_isNameOf)
abbrev M_X5_thereAre : MT := (RX5, cX5_thereAre, 3, (some .int), wsX5_thereAre, { frames := 0, cells := 0, slots := 0, locals := 0 }, yX5_thereAre)
abbrev M_X5_isPart : MT := (RX5, cX5_isPart, 2, (some .boolean), wsX5_isPart, { frames := 1, cells := 0, slots := 0, locals := 25 }, yX5_isPart)
abbrev M_X5_inPart : MT := (RX5, cX5_inPart, 5, (some .int), wsX5_inPart, { frames := 1, cells := 0, slots := 0, locals := 20 }, yX5_inPart)
abbrev M_X5_ofSign : MT := (RX5, cX5_ofSign, 4, (some .int), wsX5_ofSign, { frames := 0, cells := 0, slots := 0, locals := 0 }, yX5_ofSign)
abbrev M_X5_partsOf : MT := (RX5, cX5_partsOf, 4, (some .int), wsX5_partsOf, { frames := 0, cells := 0, slots := 0, locals := 0 }, yX5_partsOf)
abbrev M_X5_sign : MT := (RX5, cX5_sign, 3, (some .int), wsX5_sign, { frames := 2, cells := 0, slots := 0, locals := 46 }, yX5_sign)
abbrev M_X5_stones : MT := (RX5, cX5_stones, 3, (some .int), wsX5_stones, { frames := 3, cells := 0, slots := 0, locals := 67 }, yX5_stones)
abbrev M_X5_in : MT := (RX5, cX5_in, 3, (some .int), wsX5_in, { frames := 3, cells := 0, slots := 0, locals := 67 }, yX5_in)
abbrev M_X5_read : MT := (RX5, cX5_read, 3, (some .int), wsX5_read, { frames := 2, cells := 0, slots := 0, locals := 46 }, yX5_read)
abbrev M_X5_areTwo : MT := (RX5, cX5_areTwo, 3, (some .boolean), wsX5_areTwo, { frames := 2, cells := 0, slots := 0, locals := 46 }, yX5_areTwo)
abbrev M_X5_alike : MT := (RX5, cX5_alike, 8, (some .int), wsX5_alike, { frames := 3, cells := 0, slots := 0, locals := 68 }, yX5_alike)
abbrev M_X5_choose : MT := (RX5, cX5_choose, 5, (some .long), wsX5_choose, { frames := 0, cells := 0, slots := 0, locals := 0 }, yX5_choose)
abbrev M_X5_lowest : MT := (RX5, cX5_lowest, 11, none, wsX5_lowest, { frames := 0, cells := 0, slots := 0, locals := 0 }, yX5_lowest)
abbrev M_X5_chance : MT := (RX5, cX5_chance, 10, (some .long), wsX5_chance, { frames := 3, cells := 0, slots := 0, locals := 68 }, yX5_chance)
abbrev M_X5_lays : MT := (RX5, cX5_lays, 3, none, wsX5_lays, { frames := 1, cells := 0, slots := 0, locals := 23 }, yX5_lays)
abbrev M_X5_follows : MT := (RX5, cX5_follows, 6, (some .boolean), wsX5_follows, { frames := 0, cells := 0, slots := 0, locals := 0 }, yX5_follows)
abbrev M_X5_mayBe : MT := (RX5, cX5_mayBe, 4, (some .boolean), wsX5_mayBe, { frames := 0, cells := 0, slots := 0, locals := 0 }, yX5_mayBe)
abbrev M_X5_gaps : MT := (RX5, cX5_gaps, 7, (some .int), wsX5_gaps, { frames := 0, cells := 0, slots := 0, locals := 0 }, yX5_gaps)
abbrev M_X5_begins : MT := (RX5, cX5_begins, 2, none, wsX5_begins, { frames := 0, cells := 0, slots := 0, locals := 0 }, yX5_begins)
abbrev M_X5_orders : MT := (RX5, cX5_orders, 2, none, wsX5_orders, { frames := 1, cells := 0, slots := 0, locals := 26 }, yX5_orders)
abbrev M_X5_takes : MT := (RX5, cX5_takes, 4, none, wsX5_takes, { frames := 0, cells := 0, slots := 0, locals := 0 }, yX5_takes)
abbrev M_X5_seeks : MT := (RX5, cX5_seeks, 1, none, wsX5_seeks, { frames := 2, cells := 0, slots := 0, locals := 47 }, yX5_seeks)
abbrev M_X5_best : MT := (RX5, cX5_best, 2, (some .int), wsX5_best, { frames := 3, cells := 0, slots := 0, locals := 67 }, yX5_best)
abbrev M_X5_sure : MT := (RX5, cX5_sure, 5, (some .int), wsX5_sure, { frames := 3, cells := 0, slots := 0, locals := 68 }, yX5_sure)
abbrev M_X5_upTo : MT := (RX5, cX5_upTo, 4, (some .int), wsX5_upTo, { frames := 0, cells := 0, slots := 0, locals := 0 }, yX5_upTo)
abbrev M_X5_seamOf : MT := (RX5, cX5_seamOf, 12, (some .int), wsX5_seamOf, { frames := 1, cells := 0, slots := 0, locals := 23 }, yX5_seamOf)
abbrev M_X5_seam : MT := (RX5, cX5_seam, 3, (some .int), wsX5_seam, { frames := 3, cells := 0, slots := 0, locals := 67 }, yX5_seam)
abbrev M_X5_pause : MT := (RX5, cX5_pause, 3, (some .int), wsX5_pause, { frames := 3, cells := 0, slots := 0, locals := 67 }, yX5_pause)
abbrev M_X5_next : MT := (RX5, cX5_next, 7, (some .int), wsX5_next, { frames := 3, cells := 0, slots := 0, locals := 67 }, yX5_next)
abbrev M_X5_allOf : MT := (RX5, cX5_allOf, 4, (some .int), wsX5_allOf, { frames := 0, cells := 0, slots := 0, locals := 0 }, yX5_allOf)
abbrev M_X5_lasts : MT := (RX5, cX5_lasts, 2, (some .int), wsX5_lasts, { frames := 0, cells := 0, slots := 0, locals := 0 }, yX5_lasts)
abbrev M_X5_up : MT := (RX5, cX5_up, 2, (some .int), wsX5_up, { frames := 0, cells := 0, slots := 0, locals := 0 }, yX5_up)
abbrev M_X5_men : MT := (RX5, cX5_men, 7, (some .int), wsX5_men, { frames := 2, cells := 0, slots := 0, locals := 46 }, yX5_men)
abbrev M_X5_asksOf : MT := (RX5, cX5_asksOf, 3, (some .int), wsX5_asksOf, { frames := 1, cells := 0, slots := 0, locals := 21 }, yX5_asksOf)
abbrev M_X5_asks : MT := (RX5, cX5_asks, 3, (some .int), wsX5_asks, { frames := 2, cells := 0, slots := 0, locals := 46 }, yX5_asks)
abbrev M_X5_bits : MT := (RX5, cX5_bits, 3, (some .int), wsX5_bits, { frames := 0, cells := 0, slots := 0, locals := 0 }, yX5_bits)
abbrev M_X5_mayCut : MT := (RX5, cX5_mayCut, 6, (some .boolean), wsX5_mayCut, { frames := 2, cells := 0, slots := 0, locals := 43 }, yX5_mayCut)
abbrev M_X5_may : MT := (RX5, cX5_may, 3, (some .int), wsX5_may, { frames := 3, cells := 0, slots := 0, locals := 68 }, yX5_may)
abbrev M_X5_waysOf : MT := (RX5, cX5_waysOf, 7, (some .long), wsX5_waysOf, { frames := 3, cells := 0, slots := 0, locals := 68 }, yX5_waysOf)
abbrev M_X5_partings : MT := (RX5, cX5_partings, 1, (some .long), wsX5_partings, { frames := 4, cells := 0, slots := 0, locals := 94 }, yX5_partings)
abbrev M_X5_odds : MT := (RX5, cX5_odds, 6, (some .long), wsX5_odds, { frames := 4, cells := 0, slots := 0, locals := 94 }, yX5_odds)
abbrev M_X5_nameOf : MT := (RX5, cX5_nameOf, 6, (some .int), wsX5_nameOf, { frames := 4, cells := 0, slots := 0, locals := 94 }, yX5_nameOf)
abbrev M_X5_named : MT := (RX5, cX5_named, 6, (some .int), wsX5_named, { frames := 5, cells := 0, slots := 0, locals := 119 }, yX5_named)
abbrev M_X5_firstWeek : MT := (RX5, cX5_firstWeek, 4, (some .int), wsX5_firstWeek, { frames := 0, cells := 0, slots := 0, locals := 0 }, yX5_firstWeek)
abbrev M_X5_grown : MT := (RX5, cX5_grown, 4, (some .int), wsX5_grown, { frames := 2, cells := 0, slots := 0, locals := 46 }, yX5_grown)
abbrev M_X5_isIn : MT := (RX5, cX5_isIn, 3, (some .boolean), wsX5_isIn, { frames := 1, cells := 0, slots := 0, locals := 25 }, yX5_isIn)
abbrev M_X5_again : MT := (RX5, cX5_again, 6, (some .int), wsX5_again, { frames := 3, cells := 0, slots := 0, locals := 67 }, yX5_again)
abbrev M_X5_draw : MT := (RX5, cX5_draw, 5, (some .int), wsX5_draw, { frames := 0, cells := 0, slots := 0, locals := 0 }, yX5_draw)
abbrev M_X5_factorial : MT := (RX5, cX5_factorial, 3, (some .int), wsX5_factorial, { frames := 0, cells := 0, slots := 0, locals := 0 }, yX5_factorial)
abbrev M_X5_found : MT := (RX5, cX5_found, 11, (some .int), wsX5_found, { frames := 2, cells := 0, slots := 0, locals := 47 }, yX5_found)
abbrev M_X5_keep : MT := (RX5, cX5_keep, 1, (some .int), wsX5_keep, { frames := 1, cells := 0, slots := 0, locals := 23 }, yX5_keep)
abbrev M_X5_back : MT := (RX5, cX5_back, 1, (some .int), wsX5_back, { frames := 1, cells := 0, slots := 0, locals := 23 }, yX5_back)
abbrev M_X5_count : MT := (RX5, cX5_count, 4, (some .int), wsX5_count, { frames := 1, cells := 0, slots := 0, locals := 23 }, yX5_count)
abbrev M_J6_numberOfTrailingZeros_0f7a4 : MT := (RJ6, cJ6_numberOfTrailingZeros_0f7a4, 2, (some .int), wsJ6_numberOfTrailingZeros_0f7a4, { frames := 0, cells := 0, slots := 0, locals := 0 }, yJ6_numberOfTrailingZeros_0f7a4)
abbrev M_J6_bitCount_0f7a4 : MT := (RJ6, cJ6_bitCount_0f7a4, 1, (some .int), wsJ6_bitCount_0f7a4, { frames := 0, cells := 0, slots := 0, locals := 0 }, yJ6_bitCount_0f7a4)
abbrev M_J9_max_7cf53 : MT := (RJ9, cJ9_max_7cf53, 2, (some .int), wsJ9_max_7cf53, { frames := 0, cells := 0, slots := 0, locals := 0 }, yJ9_max_7cf53)
abbrev M_J9_min_7cf53 : MT := (RJ9, cJ9_min_7cf53, 2, (some .int), wsJ9_min_7cf53, { frames := 0, cells := 0, slots := 0, locals := 0 }, yJ9_min_7cf53)
abbrev M_J7_fill_53178 : MT := (RJ7, cJ7_fill_53178, 4, none, wsJ7_fill_53178, { frames := 0, cells := 0, slots := 0, locals := 0 }, yJ7_fill_53178)
