-- ===== end of PART A; then your names; then what follows =====
/-! THE CLAIM OUT OF ONE WALK OF THE LAW'S BODY. Your part is whole_start (and what it stands on); all else here is the same for every law, but numbers. -/
def R_law : String := "MasonMarksLaw"
def lw_P (b : Addr) (xs : List Int32) (args : Array Value) (s : State) : Prop := args = #[.ref b] ∧ s.IntsAt b xs ∧ xs.length ≤ 448 ∧ (Jvm.Cond.and given_1 narrow_1).before args s = true
def lw_Q (_ : Array Value) (s : State) (o : Outcome) (t : State) : Prop := o = .returned (some (.int 1)) ∧ Framed s o t [] 600000 7302249
def lw_Z (below : List Frame) (a : Array Value) (s : State) : State → Prop := fun t => ∃ o, t.status = .running ∧ Ended t below o ∧ lw_Q a s o t
/-- the law's own end, with 1 on the stack, nothing written that was there before, its room as the claim has it -/
theorem lw_ret {p : Program} {l : Launch} {e : Env} {s : State} {m : MethodId} {below : List Frame} {meth : Method} {c : Code} {b : Nat} (hx : p.tables.exec = Jvm.exec) (hb : c.code = code) (hr : meth.sig.returnType = ret) (hlocks : meth.locks = false) {pc : Nat} {H : Heap} {ls : Array Slot} (hdg : decode code pc = .ok (.ireturn, 1)) : W p l e room_1 s m #[Value.ref b] below meth c H [] 600000 7302249 (lw_Z below #[Value.ref b] s) (F0 m pc ls [.int 1]) := by
  intro T hT X
  obtain ⟨fs, hret, hrun, hended, hW, hframe⟩ := X.leave (v := some (.int 1)) (hlocks := hlocks) (fun h => by rw [hr] at h; cases h)
  have hmeth' : T.vm.method? m = some meth := X.method'
  refine ⟨T.setFrames fs, ?_, .returned (some (.int 1)), hrun, hended, rfl, ⟨_, rfl⟩, hW, hframe⟩
  jvm_step X.here [X.here.top, hx, hb, hdg, hmeth', hr, ret, narrow_b1]
  (try refine ⟨rfl, ?_⟩); (try refine ⟨rfl, ?_⟩)
  first | (intro acts; rw [hret _ acts rfl rfl rfl]) | rw [hret _ _ rfl rfl rfl]
  exact Steps.refl _
/-- what holds at the law's entry: the machine, the code, the tables' words (any of lw_tbl by 'hts w (by decide +kernel)'), the script of L ints xs at the cell b, what the Statement gives of the start (any of its parts by flat_of_before) -/
def lw_At (p : Program) (s : State) (m : MethodId) (meth : Method) (c : Code) (b L : Nat) (xs : Nat → Int32) : Prop :=
  p.tables.exec = Jvm.exec ∧ c.code = code ∧ meth.sig.returnType = ret ∧ c.maxLocals = 4 ∧ s.vm.findClass R_law = some m.cls ∧ (∀ w ∈ lw_tbl, w.before #[Value.ref b] s = true) ∧ va_X b L xs s s.heap ∧ b < s.heap.size ∧ meth.locks = false ∧ (Jvm.Cond.and given_1 narrow_1).before #[Value.ref b] s = true
/-! THE LAW. What is sure of the abstract state stays sure. -/
theorem PV.mono {z z' : Nat} {s : AS} (h : PV z s) (hz : z ≤ z') : PV z' s := ⟨h.1, h.2.1.mono hz, h.2.2.1, fun i hi => ⟨fun j hj => Nat.le_trans ((h.2.2.2 i hi).1 j hj) hz, (h.2.2.2 i hi).2⟩⟩
theorem pv_write {z : Nat} {s : AS} (h : PV z s) (n : Int32) (x : Int64) : PV z (q_write s n x).2 := by
  rw [q_write]
  by_cases c1 : n < 1 ∨ 8 < n
  · rw [if_pos c1]; exact h
  · rw [if_neg c1]
    by_cases c2 : 500 < aL s + n.toNatClampNeg
    · rw [if_pos c2]; exact h
    · rw [if_neg c2]; exact ⟨Nat.not_lt.mp c2, h.2⟩
theorem pv_wipe {z : Nat} {s : AS} (h : PV z s) : PV z (aU s, 0, s.2.2) := ⟨Nat.zero_le _, h.2⟩
theorem pv_lay {z : Nat} {s : AS} (h : PV z s) (hz : 50000 ≤ z) : PV z (q_lay s).2 := by
  rw [q_lay]
  cases e : tell (aU s) (aL s) with
  | inl p => exact h
  | inr w => exact ⟨h.1, (tell_wv e).mono hz, Nat.zero_le _, fun i hi => absurd hi (Nat.not_lt_zero _)⟩
theorem pv_read {z : Nat} {s : AS} (h : PV z s) (c k : Int32) : PV (z + 1) (q_read s c k).2 := by
  have hm := h.mono (Nat.le_succ z)
  rw [q_read]
  by_cases c1 : isN c (wC (aW s)) = true ∧ (isN k (wS (aW s)) = true ∨ k = 98)
  · rw [if_pos c1]
    by_cases c2 : wH (aW s) (c.toNatClampNeg * 18 + 17) = 0
    · rw [if_pos c2]; exact hm
    · rw [if_neg c2]
      have hC := wv_C h.2.1
      obtain ⟨j, hj, hj2, e⟩ := isN_nI c1.1
      have ec : c.toNatClampNeg = j := by rw [e, nI_clamp hj2]
      rcases kd_read h.2.1 (k := k) with ⟨-, l, hl, el, -, hl2⟩ | ⟨hno, -⟩
      · have ek : (kdOf k).toNatClampNeg = l := by rw [el, nI_clamp (by omega)]
        rw [ec, ek]
        exact ⟨h.1, wv_rd2 h.2.1 (by omega) hl2, h.2.2.1, hm.2.2.2⟩
      · exact absurd c1.2 hno
  · rw [if_neg c1]; exact hm
theorem pv_keep {z : Nat} {s : AS} (h : PV z s) : PV z (q_keep s).2 := by
  rw [q_keep]
  by_cases c1 : aK s < 2
  · rw [if_pos c1]
    refine ⟨h.1, h.2.1, (show aK s + 1 ≤ 2 by omega), fun i hi => ?_⟩
    have hi : i < aK s + 1 := hi
    show (∀ j, j < 288 → va_up (aX s) (aK s) (wH (aW s)) i j ≤ z) ∧ ∀ c k, c < 16 → wS (aW s) ≤ k → k < 16 → va_up (aX s) (aK s) (wH (aW s)) i (c * 18 + k) = 0
    by_cases q : i = aK s
    · rw [va_up, if_pos q]
      exact ⟨h.2.1.2.2.2.1, h.2.1.2.2.2.2.1⟩
    · rw [va_up, if_neg q]
      exact h.2.2.2 i (by omega)
  · rw [if_neg c1]; exact h
theorem pv_back {z : Nat} {s : AS} (h : PV z s) : PV z (q_back s).2 := by
  rw [q_back]
  by_cases c1 : aK s = 0
  · rw [if_pos c1]; exact h
  · rw [if_neg c1]
    obtain ⟨g1, g2⟩ := h.2.2.2 (aK s - 1) (by omega)
    obtain ⟨h1, h5, h6, h7, h8, h9, h10⟩ := h.2.1
    exact ⟨h.1, ⟨h1, h5, h6, g1, g2, h9, h10⟩, (show aK s - 1 ≤ 2 by have := h.2.2.1; omega), fun i hi => h.2.2.2 i (by have : i < aK s - 1 := hi; omega)⟩
/-- at the law's loop: one abstract state on both sides -/
def LI (t : Nat) (τ : SS) : Prop := ∃ s : AS, RC s τ ∧ RM s τ ∧ PV (50000 + t) s
theorem LI.up {t : Nat} {τ : SS} (h : LI t τ) : LI (t + 1) τ := by
  obtain ⟨s, h1, h2, h3⟩ := h
  exact ⟨s, h1, h2, h3.mono (by omega)⟩
/-- both have gone the same step -/
theorem LI.of {t : Nat} {s1 : AS} {σ1 σ2 : SS} (h1 : RC s1 σ1) (h2 : RM s1 σ2 ∧ FM σ1 σ2) (hp : PV (50000 + t + 1) s1) : LI (t + 1) σ2 := ⟨s1, h2.2.rc h1, h2.1, hp⟩
abbrev M_L_law : MT := (RL, cL_law, 4, some .boolean, wsL_law, room_1, x)
def zL (b L : Nat) (xs : Nat → Int32) : ZT := fun _ _ _ R s _ args below meth _ A _ _ Q => A = (fun q => s.heap.size ≤ q) ∧ args = #[.ref b] ∧ va_X b L xs s s.heap ∧ b < s.heap.size ∧ meth.sig.returnType = ret ∧ meth.locks = false ∧ R = room_1 ∧ Q = lw_Z below #[.ref b] s
section LR
variable {v : EE} {pc b N : Nat} {xs : Nat → Int32} {L : List (Nat × Value)} {st : List Value} {σ : SS}
theorem v_scr {j : Nat} (hd : decode (mCode M_L_law) pc = .ok (.iaload, 1)) (hN : N ≤ 448) (hj : j < N) (k : V v M_L_law (zL b N xs) (pc + 1) L (.int (xs j) :: st) σ) : V v M_L_law (zL b N xs) pc L (.int (nI j) :: .ref b :: st) σ := by
  intro p l e R s m args below meth c A cells slots Q hZ hC H locs ls hl hP hS
  obtain ⟨rfl, rfl, hX, hb, h5, h6, rfl, rfl⟩ := id hZ
  have h := k p l e _ s m _ below meth c _ cells slots _ hZ hC H locs ls hl hP hS
  refine va_sld hC.1.1 hC.1.2.1 hX hb (Nat.not_le.mpr hb) hS (vp_in_nI hj (by omega)) hd ?_
  rw [nI_clamp (by omega)]
  exact h
theorem v_slen (hd : decode (mCode M_L_law) pc = .ok (.arraylength, 1)) (k : V v M_L_law (zL b N xs) (pc + 1) L (.int (nI N) :: st) σ) : V v M_L_law (zL b N xs) pc L (.ref b :: st) σ := by
  intro p l e R s m args below meth c A cells slots Q hZ hC H locs ls hl hP hS
  obtain ⟨rfl, rfl, hX, hb, h5, h6, rfl, rfl⟩ := id hZ
  exact va_slen hC.1.1 hC.1.2.1 hX hb (Nat.not_le.mpr hb) hS hd (k p l e _ s m _ below meth c _ cells slots _ hZ hC H locs ls hl hP hS)
theorem v_lend (hd : decode (mCode M_L_law) pc = .ok (.ireturn, 1)) : V v M_L_law (zL b N xs) pc L [.int 1] σ := by
  intro p l e R s m args below meth c A cells slots Q hZ hC H locs ls hl hP hS
  obtain ⟨rfl, rfl, hX, hb, h5, h6, rfl, rfl⟩ := id hZ
  refine va_forget (fun q hq => hS.2.2 q hq) ?_
  refine W.widen (k := 600000) (n := 7302249) hC.2.2.2.2.2.1 hC.2.2.2.2.2.2 ?_
  exact lw_ret hC.1.1 hC.1.2.1 h5 h6 hd
end LR
