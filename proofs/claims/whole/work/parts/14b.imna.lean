/-! new int[2][288]: the outer row and its two inner ones -/
/-- a row of defaults, as the machine makes it -/
theorem mn_new {E : CtlPost} {e : Env} {d : Bool} {acts : List Action} {s : State} {c comp : ClassId} {k : Class} {ty : FieldType} {n : Nat} {x : Value} (hk : s.vm.classes[c]? = some k) (hkd : k.kind = .array comp ty) (hl : n ≤ e.platform.arrayLengthLimit) (hh : n * componentBytes ty ≤ e.platform.maxHeapBytes) (hf : fits ty x = true) (hx : x.isDefault = true) (hc : s.heap.size < e.platform.maxCells) (hs : s.slotsUsed + n ≤ e.platform.maxSlots) {Q : Addr → Pre}
    (hq : Q s.heap.size d acts (s.pushCell (arrV c n (fun _ => x)))) : wp (Jvm.newArray c n x) Q E e d acts s := by
  rw [← arrV_new] at hq
  have h1 : ¬ n > e.platform.arrayLengthLimit := Nat.not_lt.mpr hl
  have h2 : ¬ n * componentBytes ty > e.platform.maxHeapBytes := Nat.not_lt.mpr hh
  have hall : (Array.replicate n x).all (·.isDefault) = true := by
    rw [Array.all_replicate]
    split <;> simp [hx]
  have hact : allocActs (Array.replicate n x) s.heap.size acts = acts := by
    unfold allocActs
    exact if_pos hall
  simp only [Jvm.newArray, Jvm.arrayFits, wp_bind', W.ask, W.ite, h1, if_false, wp_pure', W.theClass, hk, hkd, h2, W.alloc, W.stop, Option.some.injEq, exists_eq_left', Array.size_replicate, hact]
  rw [if_neg (by omega)]
  refine ⟨hc, hs, fun i v hv => ?_, hq⟩
  rw [Array.getElem?_replicate] at hv
  split at hv
  · cases hv
    simp [State.fitsSlot, State.slotType?, hk, hkd, hf]
  · cases hv
abbrev mnO (c : ClassId) : Cell := arrV c 2 (fun _ => .null)
abbrev mnI (c : ClassId) : Cell := arrV c 288 (fun _ => .int 0)
/-- the states on the way: the outer row; the first inner one in it; the second -/
def mn1 (s : State) (cO : ClassId) : State := s.pushCell (mnO cO)
def mn3 (s : State) (cO cI : ClassId) : State := ((mn1 s cO).pushCell (mnI cI)).setCell s.heap.size ((mnO cO).setSlot 0 (.ref (mn1 s cO).heap.size))
def mnS (s : State) (cO cI : ClassId) : State := ((mn3 s cO cI).pushCell (mnI cI)).setCell s.heap.size (((mnO cO).setSlot 0 (.ref (mn1 s cO).heap.size)).setSlot 1 (.ref (mn3 s cO cI).heap.size))
theorem mn1_size (s : State) (cO : ClassId) : (mn1 s cO).heap.size = s.heap.size + 1 := by simp [mn1]
theorem mn3_size (s : State) (cO cI : ClassId) : (mn3 s cO cI).heap.size = s.heap.size + 2 := by simp [mn3, mn1, State.setCell]
theorem mn2_at (s : State) (cO cI : ClassId) : ((mn1 s cO).pushCell (mnI cI)).heap[s.heap.size]? = some (mnO cO) := by
  have hlt : s.heap.size < (mn1 s cO).heap.size := by rw [mn1_size]; omega
  rw [State.heap_pushCell_of_lt (h := hlt)]
  exact State.heap_pushCell_size _ _
theorem mn4_at (s : State) (cO cI : ClassId) : ((mn3 s cO cI).pushCell (mnI cI)).heap[s.heap.size]? = some ((mnO cO).setSlot 0 (.ref (mn1 s cO).heap.size)) := by
  have hlt : s.heap.size < (mn3 s cO cI).heap.size := by rw [mn3_size]; omega
  rw [State.heap_pushCell_of_lt (h := hlt)]
  exact State.heap_setCell_self (mn2_at s cO cI)
theorem mnS_heap (s : State) (cO cI : ClassId) : (mnS s cO cI).heap.size = s.heap.size + 3 ∧ (∀ a, a < s.heap.size → (mnS s cO cI).heap[a]? = s.heap[a]?) ∧ (mnS s cO cI).heap[s.heap.size]? = some (((mnO cO).setSlot 0 (.ref (s.heap.size + 1))).setSlot 1 (.ref (s.heap.size + 2))) ∧ (mnS s cO cI).heap[s.heap.size + 1]? = some (mnI cI) ∧ (mnS s cO cI).heap[s.heap.size + 2]? = some (mnI cI) := by
  have e1 := mn1_size s cO
  have e3 := mn3_size s cO cI
  refine ⟨?_, ?_, ?_, ?_, ?_⟩
  · have : (mnS s cO cI).heap.size = (mn3 s cO cI).heap.size + 1 := by simp [mnS, State.setCell]
    omega
  · intro a ha
    have l3 : a < (mn3 s cO cI).heap.size := by omega
    have l1 : a < (mn1 s cO).heap.size := by omega
    unfold mnS
    rw [State.heap_setCell_other (show s.heap.size ≠ a by omega), State.heap_pushCell_of_lt (h := l3)]
    unfold mn3
    rw [State.heap_setCell_other (show s.heap.size ≠ a by omega), State.heap_pushCell_of_lt (h := l1)]
    exact State.heap_pushCell_of_lt _ _ ha
  · have h := State.heap_setCell_self (x := ((mnO cO).setSlot 0 (.ref (mn1 s cO).heap.size)).setSlot 1 (.ref (mn3 s cO cI).heap.size)) (mn4_at s cO cI)
    rw [← e1, ← e3]
    exact h
  · have l3 : s.heap.size + 1 < (mn3 s cO cI).heap.size := by omega
    unfold mnS
    rw [State.heap_setCell_other (show s.heap.size ≠ s.heap.size + 1 by omega), State.heap_pushCell_of_lt (h := l3)]
    unfold mn3
    rw [State.heap_setCell_other (show s.heap.size ≠ s.heap.size + 1 by omega), ← e1]
    exact State.heap_pushCell_size _ _
  · unfold mnS
    rw [State.heap_setCell_other (show s.heap.size ≠ s.heap.size + 2 by omega), ← e3]
    exact State.heap_pushCell_size _ _
theorem mnS_setTop (s : State) (f : JFrame) (cO cI : ClassId) : mnS (s.setTop f) cO cI = (mnS s cO cI).setTop f := rfl
theorem mn_make {E : CtlPost} {e : Env} {d : Bool} {acts : List Action} {s : State} {cO cI cc : ClassId} {kO kI : Class} (hkO : s.vm.classes[cO]? = some kO) (hO : kO.kind = .array cI (.array .int)) (hkI : s.vm.classes[cI]? = some kI) (hI : kI.kind = .array cc .int) (hl : 288 ≤ e.platform.arrayLengthLimit) (hh : 288 * 4 ≤ e.platform.maxHeapBytes) (hc : s.heap.size + 3 ≤ e.platform.maxCells) (hs : s.slotsUsed + 578 ≤ e.platform.maxSlots) {Q : Addr → Pre}
    (hq : ∀ d' acts', Q s.heap.size d' acts' (mnS s cO cI)) : wp (multianewarray.make cO [2, 288]) Q E e d acts s := by
  have n1 : ¬ (2 : Int32) < 0 := by decide
  have n2 : ¬ (288 : Int32) < 0 := by decide
  have z1 : (2 : Int32).toNatClampNeg = 2 := by decide
  have z2 : (288 : Int32).toNatClampNeg = 288 := by decide
  have u1 : (mn1 s cO).slotsUsed = s.slotsUsed + 2 := by simp [mn1, mnO, arrV_size]
  have u3 : (mn3 s cO cI).slotsUsed = s.slotsUsed + 290 := by simp [mn3, mn1, mnO, mnI, arrV_size]
  have e1 := mn1_size s cO
  have e3 := mn3_size s cO cI
  have hm1 : ∀ {d : Bool} {acts : List Action} {u : State} {Q : Addr → Pre}, u.vm = s.vm → u.heap.size < e.platform.maxCells → u.slotsUsed + 288 ≤ e.platform.maxSlots → Q u.heap.size d acts (u.pushCell (mnI cI)) → wp (multianewarray.make cI [288]) Q E e d acts u := by
    intro d acts u Q hv h1 h2 h3
    rw [multianewarray.make]
    simp only [wp_bind', W.ite, n2, if_false, wp_pure', W.theClass, hv, hkI, hI, Option.some.injEq, exists_eq_left', z2]
    exact mn_new (by rw [hv]; exact hkI) hI hl hh rfl rfl h1 h2 h3
  rw [multianewarray.make]
  simp only [wp_bind', W.ite, n1, if_false, wp_pure', W.theClass, hkO, hO, Option.some.injEq, exists_eq_left', z1]
  refine mn_new hkO hO (by omega) (by show 2 * 4 ≤ _; omega) rfl rfl (by omega) (by omega) ?_
  have hfind : ([(288 : Int32)].find? (· < 0)) = none := by simp [n2]
  simp only [hfind]
  rw [ite_self, wp_bind', Std.Legacy.Range.forIn_eq_forIn_range']
  have hsz : ([:2] : Std.Legacy.Range).size = 2 := by decide
  rw [hsz]
  show wp (forIn ([0, 1] : List Nat) PUnit.unit _) _ E e d acts (mn1 s cO)
  simp only [List.forIn_cons, List.forIn_nil, wp_bind']
  refine hm1 rfl (by omega) (by omega) ?_
  rw [wp_bind', W.writeLoc]
  refine ⟨mnO cO, mn2_at s cO cI, (fun h => by cases h), by rw [arrV_size]; decide, by simp [State.fitsSlot, State.slotType?, mn1, hkO, hO, arrV, fits], ?_⟩
  simp only [wp_bind', wp_pure']
  refine hm1 (u := mn3 s cO cI) rfl (by omega) (by omega) ?_
  rw [wp_bind', W.writeLoc]
  refine ⟨(mnO cO).setSlot 0 (.ref (mn1 s cO).heap.size), mn4_at s cO cI, (fun h => by cases h), by simp [Cell.setSlot, arrV], by simp [State.fitsSlot, State.slotType?, mn3, mn1, hkO, hO, arrV, fits, Cell.setSlot], ?_⟩
  simp only [wp_pure']
  exact hq _ _
section IM
variable {G : GG} {M : MT} {Z : ZI} {pc : Nat} {L : List (Nat × Value)} {st : List Value} {ws : va_W} {cells slots : Nat}
set_option maxHeartbeats 4000000 in
theorem i_mna {idx : Nat} (hd : decode (mCode M) pc = .ok (.multianewarray idx 2, 4)) (hm : Cond.classLink (mOwn M) idx "[[I" ∈ mWs M) (hc : cells + 3 ≤ (mRm M).cells) (hs : slots + 578 ≤ (mRm M).slots)
    (k : ∀ q q0 q1 : Nat, IV G M Z (pc + 4) L (.ref q :: st) (ws ++ [(q, .inl (G.2 3, 2, .inr (.inr (.inr (.inr (fun i => if i = 0 then some q0 else some q1)))))), (q0, .inl (G.2 1, 288, .inl (fun _ => 0))), (q1, .inl (G.2 1, 288, .inl (fun _ => 0)))]) (cells + 3) (slots + 578)) : IV G M Z pc L (.int 288 :: .int 2 :: st) ws cells slots := by
  intro p l e R s m args below meth c A Q hZ hC H locs ls hl hP hD hS
  intro T hT X
  obtain ⟨hF, hK, hA, hin, hRR, hN, kA, hkA, hkindA⟩ := id hC
  have hpl : e.platform.magicAccessors = ({} : Platform).magicAccessors := by rw [X.admits.platform]
  obtain ⟨c0, hfc0, hcl⟩ := Cond.classLink_spec hF.2.2.2.1 (hF.2.2.2.2 _ hm) e.platform hpl
  have hfA : s.vm.findClass "[[I" = some (G.2 3) := (hK.2 3 _ rfl).2
  have ec : c0 = G.2 3 := Option.some.inj (hfc0.symm.trans hfA)
  subst ec
  obtain ⟨-, kC, hkC, cc, hkindC⟩ := (hK.2 1 _ rfl).1 0 (fun _ => .int 0)
  obtain ⟨hg₁, hwarm₁, hready₁⟩ := State.classEntry (e := e) X.warmed hcl
  generalize T.vm.noted m.cls idx (.cls (G.2 3)) = vm₁ at hg₁ hwarm₁ hready₁
  have hal : s.vm.Alike vm₁ := hwarm₁.alike
  obtain ⟨kA₁, hkA₁, heA⟩ := hal.2.2 _ _ hkA
  obtain ⟨kC₁, hkC₁, heC⟩ := hal.2.2 _ _ hkC
  have hcells : cells + 3 ≤ R.cells := by rw [hRR]; exact hc
  have hslots : slots + 578 ≤ R.slots := by rw [hRR]; exact hs
  obtain ⟨hr1, hr2⟩ := X.roomAbove hcells hslots
  have X1 := X.noted hwarm₁
  have X3 := ((X1.pushed (mnO (G.2 3))).pushed (mnI (G.2 1))).stored (mn2_at (T.setVm vm₁) (G.2 3) (G.2 1)) 0 (.ref (mn1 (T.setVm vm₁) (G.2 3)).heap.size)
  have X5 := (X3.pushed (mnI (G.2 1))).stored (mn4_at (T.setVm vm₁) (G.2 3) (G.2 1)) 1 (.ref (mn3 (T.setVm vm₁) (G.2 3) (G.2 1)).heap.size)
  simp only [mnO, mnI, arrV_size] at X5
  obtain ⟨g1, g2, g3, g4, g5⟩ := mnS_heap (T.setVm vm₁) (G.2 3) (G.2 1)
  have hH : (T.setVm vm₁).heap = H := hT
  rw [hH] at g1 g2 g3 g4 g5
  have hAq : ∀ j, A (H.size + j) := fun j => hA _ (Nat.le_trans hS.1 (Nat.le_add_right _ _))
  have hout : ((mnO (G.2 3)).setSlot 0 (.ref (H.size + 1))).setSlot 1 (.ref (H.size + 2)) = vp_cell (G.2 3) (2, .inr (.inr (.inr (.inr (fun i => if i = 0 then some (H.size + 1) else some (H.size + 2)))))) := by
    rw [vp_cell_q, arrV_store, arrV_store]
    exact arrV_two rfl rfl
  have hnew : va_P G.1 vwCl [(H.size, .inl (G.2 3, 2, .inr (.inr (.inr (.inr (fun i => if i = 0 then some (H.size + 1) else some (H.size + 2))))))), (H.size + 1, .inl (G.2 1, 288, .inl (fun _ => 0))), (H.size + 2, .inl (G.2 1, 288, .inl (fun _ => 0)))] (mnS (T.setVm vm₁) (G.2 3) (G.2 1)).heap := by
    intro j q hq
    match j, hq with
    | 0, hq => cases hq; show _ = some (vp_cell _ _); rw [← hout]; exact g3
    | 1, hq => cases hq; exact g4
    | 2, hq => cases hq; exact g5
    | j + 3, hq => simp at hq
  have hlt : ∀ (j : Nat) (q : Nat × va_E), ws[j]? = some q → q.1 < H.size := fun j q hq => (hP j q hq).lt
  have hP1 := (hP.kept (fun j q hq => g2 q.1 (hlt j q hq))).app hnew
  obtain ⟨t, a1, b1⟩ := k H.size (H.size + 1) (H.size + 2) p l e R s m args below meth c A Q hZ hC (mnS (T.setVm vm₁) (G.2 3) (G.2 1)).heap _ ls hl hP1 (by
    refine ⟨fun i j x y hi hj hxy => ?_, fun j x hj => ?_⟩
    · have key : ∀ (i : Nat) (x : Nat × va_E), ([(H.size, .inl (G.2 3, 2, .inr (.inr (.inr (.inr (fun i => if i = 0 then some (H.size + 1) else some (H.size + 2))))))), (H.size + 1, .inl (G.2 1, 288, .inl (fun _ => 0))), (H.size + 2, .inl (G.2 1, 288, .inl (fun _ => 0)))] : va_W)[i]? = some x → x.1 = H.size + i := by
        intro i x hx
        match i, hx with
        | 0, hx => cases hx; rfl
        | 1, hx => cases hx; rfl
        | 2, hx => cases hx; rfl
        | i + 3, hx => simp at hx
      by_cases c1 : i < ws.length <;> by_cases c2 : j < ws.length
      · rw [List.getElem?_append_left c1] at hi
        rw [List.getElem?_append_left c2] at hj
        exact hD.1 i j x y hi hj hxy
      · rw [List.getElem?_append_left c1] at hi
        rw [List.getElem?_append_right (by omega)] at hj
        have := hlt i x hi
        have := key _ y hj
        omega
      · rw [List.getElem?_append_right (by omega)] at hi
        rw [List.getElem?_append_left c2] at hj
        have := hlt j y hj
        have := key _ x hi
        omega
      · rw [List.getElem?_append_right (by omega)] at hi hj
        have := key _ x hi
        have := key _ y hj
        omega
    · by_cases c1 : j < ws.length
      · rw [List.getElem?_append_left c1] at hj
        exact hD.2 j x hj
      · rw [List.getElem?_append_right (by omega)] at hj
        match j - ws.length, hj with
        | 0, hj => cases hj; exact hAq 0
        | 1, hj => cases hj; exact hAq 1
        | 2, hj => cases hj; exact hAq 2
        | i + 3, hj => simp at hj) (by
    refine ⟨Nat.le_trans hS.1 (by rw [g1]; omega), fun q h1 h2 => (g2 q (Nat.lt_of_lt_of_le h1 hS.1)).trans (hS.2.1 q h1 h2), fun q hq => ?_⟩
    rcases List.mem_append.mp hq with h | h
    · rcases List.mem_append.mp h with h | h
      · exact hS.2.2 q h
      · rw [List.mem_singleton.mp h]
        exact hT ▸ hAq 0
    · rw [List.mem_singleton.mp h]
      exact hT ▸ hAq 0) (mnS (T.setVm vm₁) (G.2 3) (G.2 1)) rfl X5
  refine ⟨t, ?_, b1⟩
  have hdc : decode c.code pc = .ok (.multianewarray idx 2, 4) := by rw [hF.2.1]; exact hd
  have hexec := hF.1
  have hl1 : 288 ≤ e.platform.arrayLengthLimit := by rw [Launch.admits_arrayLengthLimit X.admits]; decide
  have hh1 : 288 * 4 ≤ e.platform.maxHeapBytes := by rw [Launch.admits_maxHeapBytes X.admits]; decide
  jvm_step X.here [hexec, hdc]
  simp only [multianewarray.sem, wp_bind', W.resolveClassAt_links (State.method?_setTop (F0 m pc ls (.int 288 :: .int 2 :: st)) X.here.top) hg₁]
  rw [W.popN, if_neg (by decide)]
  refine ⟨F0 m pc ls (.int 288 :: .int 2 :: st), State.topJava?_setTop' (s := T.setVm vm₁) _ X.here.top, [.int 2, .int 288], st, rfl, rfl, ?_⟩
  simp only [List.mapM_cons, List.mapM_nil, wp_bind', wp_pure']
  refine mn_make (kO := kA₁) (kI := kC₁) (cI := G.2 1) (cc := cc) hkA₁ (by rw [heA]; exact hkindA) hkC₁ (by rw [heC]; exact hkindC) hl1 hh1 (by show T.heap.size + 3 ≤ _; omega) (by show T.slotsUsed + 578 ≤ _; omega) (fun d' acts' => ?_)
  have eS : ((T.setTop (F0 m pc ls (.int 288 :: .int 2 :: st))).setVm vm₁).setTop (F0 m pc ls st) = (T.setVm vm₁).setTop (F0 m pc ls st) := by
    show ((T.setVm vm₁).setTop _).setTop _ = _
    rw [State.setTop_setTop]
  have eS2 : mnS (((T.setTop (F0 m pc ls (.int 288 :: .int 2 :: st))).setVm vm₁).setTop (F0 m pc ls st)) (G.2 3) (G.2 1) = (mnS (T.setVm vm₁) (G.2 3) (G.2 1)).setTop (F0 m pc ls st) := by rw [eS, mnS_setTop]
  rw [eS2]
  have htop : (mnS (T.setVm vm₁) (G.2 3) (G.2 1)).topJava?.isSome := X5.here.top
  simp only [wp_bind', W.mark, W.pushRef]
  refine ⟨F0 m pc ls st, State.topJava?_setTop' _ htop, fun acts => ?_⟩
  have hHe : (((T.setTop (F0 m pc ls (.int 288 :: .int 2 :: st))).setVm vm₁).setTop { method := m, pc := pc, locals := ls, stack := st, locked := none }).heap = H := hT
  rw [hHe]
  simp [jvm, htop]
  exact a1
end IM
