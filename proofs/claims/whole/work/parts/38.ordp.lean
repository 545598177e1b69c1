def dif (a b : Nat) : Nat := a ^^^ (a &&& b)
theorem tb_dif (a b i : Nat) : (dif a b).testBit i = (a.testBit i && !b.testBit i) := by
  rw [dif, Nat.testBit_xor, Nat.testBit_and]
  cases a.testBit i <;> cases b.testBit i <;> rfl
theorem nI_dif (a b : Nat) : nI a &&& (nI b ^^^ (-1)) = nI (dif a b) := by
  apply Int32.toBitVec_inj.mp
  apply BitVec.eq_of_getLsbD_eq
  intro i hi
  have h1 : ((-1 : Int32).toBitVec).getLsbD i = true := by
    rw [show (-1 : Int32).toBitVec = BitVec.allOnes 32 by decide, BitVec.getLsbD_allOnes]
    simp [hi]
  rw [Int32.toBitVec_and, Int32.toBitVec_xor, BitVec.getLsbD_and, BitVec.getLsbD_xor, h1]
  have h2 : ∀ n : Nat, ((nI n).toBitVec).getLsbD i = n.testBit i := by
    intro n
    show (BitVec.ofNat 32 n).getLsbD i = n.testBit i
    rw [BitVec.getLsbD_ofNat]
    simp [hi]
  rw [h2, h2, h2, tb_dif]
  simp
theorem tb_z {a : Nat} : a = 0 ↔ ∀ i, a.testBit i = false := by
  constructor
  · rintro rfl i; exact Nat.zero_testBit i
  · intro h; exact Nat.eq_of_testBit_eq (fun i => by rw [h i, Nat.zero_testBit])
theorem tb_nz {a : Nat} : a ≠ 0 ↔ ∃ i, a.testBit i = true := by
  constructor
  · intro h
    apply Classical.byContradiction
    intro q
    exact h (tb_z.mpr (fun i => by cases e : a.testBit i with
      | false => rfl
      | true => exact absurd ⟨i, e⟩ q))
  · rintro ⟨i, h⟩ rfl; rw [Nat.zero_testBit] at h; cases h
theorem tb_64 {a i : Nat} (h : a < 64) (hi : 6 ≤ i) : a.testBit i = false := Nat.testBit_lt_two_pow (Nat.lt_of_lt_of_le h (show 2 ^ 6 ≤ 2 ^ i from Nat.pow_le_pow_right (by decide) hi))
theorem tb_64i {a i : Nat} (h : a < 64) (hi : a.testBit i = true) : i < 6 := by
  apply Classical.byContradiction
  intro q
  rw [tb_64 h (by omega)] at hi
  cases hi
theorem or_64 {A j : Nat} (h : A < 64) (hj : j < 6) : A ||| 2 ^ j < 64 := Nat.or_lt_two_pow (n := 6) h (Nat.pow_lt_pow_right (by decide) hj)
theorem or_gt {A j : Nat} (h : A.testBit j = false) : A < A ||| 2 ^ j := by
  have h1 : A ≤ A ||| 2 ^ j := Nat.left_le_or
  have h2 : A ≠ A ||| 2 ^ j := fun e => by
    have := congrArg (fun x => x.testBit j) e
    simp [Nat.testBit_or, h] at this
  omega
theorem tb_or2 (A j i : Nat) : (A ||| 2 ^ j).testBit i = (A.testBit i || decide (j = i)) := by rw [Nat.testBit_or, tb_pow]
def fm {α : Type} (f : Nat → List α) : Nat → List α
  | 0 => []
  | j + 1 => fm f j ++ f j
theorem fm_cong {α : Type} {f g : Nat → List α} : ∀ {n : Nat}, (∀ j, j < n → f j = g j) → fm f n = fm g n
  | 0, _ => rfl
  | n + 1, h => by rw [fm, fm, fm_cong (fun j hj => h j (by omega)), h n (by omega)]
theorem fm_nil {α : Type} {f : Nat → List α} : ∀ {n : Nat}, (∀ j, j < n → f j = []) → fm f n = []
  | 0, _ => rfl
  | n + 1, h => by rw [fm, fm_nil (fun j hj => h j (by omega)), h n (by omega)]; rfl
theorem fm_mem {α : Type} {f : Nat → List α} {x : α} : ∀ {n : Nat}, x ∈ fm f n ↔ ∃ j, j < n ∧ x ∈ f j
  | 0 => by simp [fm]
  | n + 1 => by
    rw [fm, List.mem_append, fm_mem]
    constructor
    · rintro (⟨j, h1, h2⟩ | h)
      · exact ⟨j, by omega, h2⟩
      · exact ⟨n, by omega, h⟩
    · rintro ⟨j, h1, h2⟩
      by_cases e : j = n
      · subst e; exact Or.inr h2
      · exact Or.inl ⟨j, by omega, h2⟩
theorem fm_filter {α : Type} {f : Nat → List α} (c : α → Bool) : ∀ n : Nat, (fm f n).filter c = fm (fun j => (f j).filter c) n
  | 0 => rfl
  | n + 1 => by rw [fm, List.filter_append, fm_filter c n, fm]
theorem fm_len {α : Type} {f : Nat → List α} : ∀ n : Nat, (fm f n).length = sm (fun j => (f j).length) n
  | 0 => rfl
  | n + 1 => by rw [fm, List.length_append, fm_len n, sm]
theorem fm_cnt {α : Type} {f : Nat → List α} (c : α → Bool) : ∀ n : Nat, (fm f n).countP c = sm (fun j => (f j).countP c) n
  | 0 => rfl
  | n + 1 => by rw [fm, List.countP_append, fm_cnt c n, sm]
def hw {α : Type} (w : α → Nat) : List α → Nat
  | [] => 0
  | x :: _ => w x
def mg {α : Type} (w : α → Nat) : List α → List α → List α
  | a, [] => a
  | [], y :: b => y :: b
  | x :: a, y :: b => if w x < w y then x :: a else if w y < w x then y :: b else x :: a ++ y :: b
theorem mg_nil {α : Type} (w : α → Nat) (a : List α) : mg w a [] = a := by cases a <;> rfl
theorem nil_mg {α : Type} (w : α → Nat) (a : List α) : mg w [] a = a := by cases a <;> rfl
theorem mg_assoc {α : Type} (w : α → Nat) (a b c : List α) : mg w (mg w a b) c = mg w a (mg w b c) := by
  cases c with
  | nil => rw [mg_nil, mg_nil]
  | cons z c =>
    cases b with
    | nil => rw [mg_nil, nil_mg]
    | cons y b =>
      cases a with
      | nil => rw [nil_mg, nil_mg]
      | cons x a =>
        rcases Nat.lt_trichotomy (w x) (w y) with h1 | h1 | h1 <;> rcases Nat.lt_trichotomy (w y) (w z) with h2 | h2 | h2
        · have h3 : w x < w z := by omega
          simp [mg, h1, h2, h3]
        · have h3 : w x < w z := by omega
          have h4 : ¬ w y < w z := by omega
          have h5 : ¬ w z < w y := by omega
          simp [mg, h1, h3, h4, h5]
        · have h4 : ¬ w y < w z := by omega
          simp [mg, h1, h2, h4]
        · have h4 : ¬ w x < w y := by omega
          have h5 : ¬ w y < w x := by omega
          have h3 : w x < w z := by omega
          simp [mg, h2, h3, h4, h5]
        · have h4 : ¬ w x < w y := by omega
          have h5 : ¬ w y < w x := by omega
          have h6 : ¬ w y < w z := by omega
          have h7 : ¬ w z < w y := by omega
          have h8 : ¬ w x < w z := by omega
          have h9 : ¬ w z < w x := by omega
          simp [mg, h4, h5, h6, h7, h8, h9]
        · have h4 : ¬ w x < w y := by omega
          have h5 : ¬ w y < w x := by omega
          have h6 : ¬ w y < w z := by omega
          have h8 : ¬ w x < w z := by omega
          have h9 : w z < w x := by omega
          simp [mg, h2, h4, h5, h6, h8, h9]
        · have h4 : ¬ w x < w y := by omega
          simp [mg, h1, h2, h4]
        · have h4 : ¬ w x < w y := by omega
          have h6 : ¬ w y < w z := by omega
          have h7 : ¬ w z < w y := by omega
          simp [mg, h1, h4, h6, h7]
        · have h4 : ¬ w x < w y := by omega
          have h6 : ¬ w y < w z := by omega
          have h8 : ¬ w x < w z := by omega
          have h9 : w z < w x := by omega
          simp [mg, h1, h2, h4, h6, h8, h9]
def bestf {α : Type} (w : α → Nat) (L : List α) : List α := L.foldl (fun acc l => mg w acc [l]) []
theorem bestf_acc {α : Type} (w : α → Nat) : ∀ (L acc : List α), L.foldl (fun acc l => mg w acc [l]) acc = mg w acc (bestf w L)
  | [], acc => by rw [bestf]; exact (mg_nil w acc).symm
  | x :: L, acc => by
    have e : bestf w (x :: L) = mg w [x] (bestf w L) := by
      show L.foldl (fun acc l => mg w acc [l]) (mg w [] [x]) = _
      rw [bestf_acc w L, nil_mg]
    rw [List.foldl_cons, bestf_acc w L, e, mg_assoc]
theorem bestf_app {α : Type} (w : α → Nat) (a b : List α) : bestf w (a ++ b) = mg w (bestf w a) (bestf w b) := by
  rw [bestf, List.foldl_append, bestf_acc]; rfl
theorem mg_map {α β : Type} (w : α → Nat) (w' : β → Nat) (f : β → α) (c : Nat) (h : ∀ l, w (f l) = c + w' l) (a b : List β) : mg w (a.map f) (b.map f) = (mg w' a b).map f := by
  cases b with
  | nil => rw [List.map_nil, mg_nil, mg_nil]
  | cons y b =>
    cases a with
    | nil => rw [List.map_nil, nil_mg, nil_mg]
    | cons x a =>
      simp only [List.map_cons, mg, h]
      rcases Nat.lt_trichotomy (w' x) (w' y) with h1 | h1 | h1
      · simp [h1]
      · rw [if_neg (by omega), if_neg (by omega), if_neg (by omega), if_neg (by omega)]; simp
      · rw [if_neg (by omega), if_pos (by omega), if_neg (by omega), if_pos h1]; simp
theorem bestf_map {α β : Type} (w : α → Nat) (w' : β → Nat) (f : β → α) (c : Nat) (h : ∀ l, w (f l) = c + w' l) : ∀ L : List β, bestf w (L.map f) = (bestf w' L).map f
  | [] => rfl
  | x :: L => by
    have e1 : bestf w ((x :: L).map f) = mg w [f x] (bestf w (L.map f)) := by
      rw [List.map_cons, show f x :: L.map f = [f x] ++ L.map f from rfl, bestf_app]; rfl
    have e2 : bestf w' (x :: L) = mg w' [x] (bestf w' L) := by
      rw [show x :: L = [x] ++ L from rfl, bestf_app]; rfl
    rw [e1, e2, bestf_map w w' f c h L, ← mg_map w w' f c h]; rfl
theorem mg_mem {α : Type} {w : α → Nat} {x : α} {a b : List α} (h : x ∈ mg w a b) : x ∈ a ∨ x ∈ b := by
  cases b with
  | nil => rw [mg_nil] at h; exact Or.inl h
  | cons y b =>
    cases a with
    | nil => rw [nil_mg] at h; exact Or.inr h
    | cons z a =>
      rw [mg] at h
      split at h
      · exact Or.inl h
      · split at h
        · exact Or.inr h
        · exact List.mem_append.mp h
-- the orders
abbrev OD : Type := Nat × (Nat → Nat) × Nat × (Nat → Nat) × (Nat → Nat)
abbrev oP (o : OD) : Nat := o.1
abbrev oM (o : OD) : Nat → Nat := o.2.1
abbrev oS (o : OD) : Nat := o.2.2.1
abbrev oW (o : OD) : Nat → Nat := o.2.2.2.1
abbrev oT (o : OD) : Nat → Nat := o.2.2.2.2
def OV (o : OD) : Prop := oP o < 64 ∧ (∀ p, p < 6 → oM o p < 64) ∧ oS o ≤ 16 ∧ (∀ k, k < oS o → oW o k < 64 ∧ oT o k ≤ 9)
def ok (o : OD) (A j : Nat) : Bool := (oP o).testBit j && !A.testBit j && decide (dif (oM o j) A = 0)
def gb (o : OD) (A p k : Nat) : Bool := !(oW o k).testBit p && (decide (oW o k &&& A ≠ 0) && decide (oW o k &&& dif (dif (oP o) A) (2 ^ p) ≠ 0))
def ga (o : OD) (A p : Nat) : Nat := sm (fun k => if gb o A p k then oT o k else 0) (oS o)
def wt (o : OD) : Nat → List Nat → Nat
  | _, [] => 0
  | A, p :: l => ga o A p + wt o (A ||| 2 ^ p) l
def st1 (o : OD) (F : Nat → List (List Nat)) (A : Nat) : Nat → List (List Nat)
  | 0 => if A = oP o then [[]] else []
  | j + 1 => if ok o A j then mg (wt o A) (st1 o F A j) ((F (A ||| 2 ^ j)).map (fun l => j :: l)) else st1 o F A j
def BL (o : OD) : Nat → Nat → List (List Nat)
  | 0, A => if A = oP o then [[]] else []
  | n + 1, A => st1 o (BL o n) A 6
def TL (o : OD) (A : Nat) : List (List Nat) := BL o (64 - A) A
theorem st1_cong {o : OD} {F G : Nat → List (List Nat)} {A : Nat} : ∀ {n : Nat}, (∀ j, j < n → ok o A j = true → F (A ||| 2 ^ j) = G (A ||| 2 ^ j)) → st1 o F A n = st1 o G A n
  | 0, _ => rfl
  | n + 1, h => by
    rw [st1, st1, st1_cong (fun j hj => h j (by omega))]
    by_cases c : ok o A n = true
    · rw [if_pos c, if_pos c, h n (by omega) c]
    · rw [if_neg c, if_neg c]
theorem ok_nb {o : OD} {A j : Nat} (h : ok o A j = true) : (oP o).testBit j = true ∧ A.testBit j = false ∧ dif (oM o j) A = 0 := by
  simp only [ok, Bool.and_eq_true, Bool.not_eq_true', decide_eq_true_eq] at h
  exact ⟨h.1.1, h.1.2, h.2⟩
theorem BL_stab {o : OD} : ∀ (n m A : Nat), A < 64 → 64 - A ≤ n → 64 - A ≤ m → BL o n A = BL o m A
  | 0, _, A, h, h1, _ => by omega
  | n + 1, 0, A, h, _, h2 => by omega
  | n + 1, m + 1, A, h, h1, h2 => by
    rw [BL, BL]
    refine st1_cong (fun j hj hk => ?_)
    have := or_gt (ok_nb hk).2.1
    exact BL_stab n m _ (or_64 h hj) (by omega) (by omega)
theorem TL_eq {o : OD} {A : Nat} (h : A < 64) : TL o A = st1 o (TL o) A 6 := by
  rw [TL, show 64 - A = (63 - A) + 1 by omega, BL]
  refine st1_cong (fun j hj hk => ?_)
  have := or_gt (ok_nb hk).2.1
  exact BL_stab _ _ _ (or_64 h hj) (by omega) (by omega)
def pr (P : Nat) : Nat → Nat → List (List Nat)
  | 0, A => if A = P then [[]] else []
  | n + 1, A => if A = P then [[]] else fm (fun j => if P.testBit j && !A.testBit j then (pr P n (A ||| 2 ^ j)).map (fun l => j :: l) else []) 6
def vl (o : OD) : Nat → List Nat → Bool
  | _, [] => true
  | A, p :: l => decide (dif (oM o p) A = 0) && vl o (A ||| 2 ^ p) l
theorem st1_P {o : OD} {F : Nat → List (List Nat)} : ∀ j, st1 o F (oP o) j = [[]]
  | 0 => if_pos rfl
  | j + 1 => by
    rw [st1, if_neg (fun h => by have := ok_nb h; rw [this.1] at this; cases this.2.1), st1_P j]
theorem bestf_pr {o : OD} : ∀ (n A : Nat), bestf (wt o A) ((pr (oP o) n A).filter (vl o A)) = BL o n A
  | 0, A => by
    rw [pr, BL]
    by_cases h : A = oP o
    · rw [if_pos h]; rfl
    · rw [if_neg h]; rfl
  | n + 1, A => by
    rw [pr, BL]
    by_cases h : A = oP o
    · rw [if_pos h, h, st1_P]; rfl
    · rw [if_neg h, fm_filter]
      have key : ∀ m, m ≤ 6 → bestf (wt o A) (fm (fun j => (if (oP o).testBit j && !A.testBit j then (pr (oP o) n (A ||| 2 ^ j)).map (fun l => j :: l) else []).filter (vl o A)) m) = st1 o (BL o n) A m := by
        intro m
        induction m with
        | zero => intro _; rw [st1, if_neg h]; rfl
        | succ m ih =>
          intro hm
          rw [fm, bestf_app, ih (by omega), st1]
          by_cases c : ok o A m = true
          · have c' := ok_nb c
            rw [if_pos c, if_pos (by rw [c'.1, c'.2.1]; rfl), List.filter_map]
            have e : (vl o A ∘ fun l => m :: l) = vl o (A ||| 2 ^ m) := by
              funext l
              simp only [Function.comp, vl, c'.2.2, decide_true, Bool.true_and]
            rw [e, bestf_map (wt o A) (wt o (A ||| 2 ^ m)) (fun l => m :: l) (ga o A m) (fun l => rfl), bestf_pr n]
          · rw [if_neg c]
            have e : (if (oP o).testBit m && !A.testBit m then (pr (oP o) n (A ||| 2 ^ m)).map (fun l => m :: l) else []).filter (vl o A) = [] := by
              by_cases q : ((oP o).testBit m && !A.testBit m) = true
              · rw [if_pos q]
                have : ¬ dif (oM o m) A = 0 := fun z => c (by rw [ok, q, z]; rfl)
                rw [List.filter_map, List.map_eq_nil_iff, List.filter_eq_nil_iff]
                intro l _
                simp [vl, this]
              · rw [if_neg q]; rfl
            rw [e]
            exact mg_nil _ _
      exact key 6 (by omega)
theorem bestf_TL (o : OD) : bestf (wt o 0) ((pr (oP o) 64 0).filter (vl o 0)) = TL o 0 := bestf_pr 64 0
-- membership
theorem pr_cons {P : Nat} {n A : Nat} {l : List Nat} (h : l ∈ pr P n A) : (l = [] ∧ A = P) ∨ ∃ m j l', n = m + 1 ∧ l = j :: l' ∧ j < 6 ∧ P.testBit j = true ∧ A.testBit j = false ∧ l' ∈ pr P m (A ||| 2 ^ j) ∧ A ≠ P := by
  cases n with
  | zero =>
    rw [pr] at h
    by_cases c : A = P
    · rw [if_pos c] at h; exact Or.inl ⟨List.mem_singleton.mp h, c⟩
    · rw [if_neg c] at h; cases h
  | succ n =>
    rw [pr] at h
    by_cases c : A = P
    · rw [if_pos c] at h; exact Or.inl ⟨List.mem_singleton.mp h, c⟩
    · rw [if_neg c, fm_mem] at h
      obtain ⟨j, hj, h⟩ := h
      by_cases q : (P.testBit j && !A.testBit j) = true
      · rw [if_pos q] at h
        obtain ⟨l', h1, h2⟩ := List.mem_map.mp h
        simp only [Bool.and_eq_true, Bool.not_eq_true'] at q
        exact Or.inr ⟨n, j, l', rfl, h2.symm, hj, q.1, q.2, h1, c⟩
      · rw [if_neg q] at h; cases h
theorem pr_mem {P : Nat} (hP : P < 64) : ∀ {l : List Nat} {n A : Nat}, l ∈ pr P n A → (∀ x, A.testBit x = true → P.testBit x = true) → ∀ x, x ∈ l ↔ (P.testBit x = true ∧ A.testBit x = false)
  | [], n, A, h, hA, x => by
    rcases pr_cons h with ⟨_, rfl⟩ | ⟨m, j, l', _, e, _⟩
    · constructor
      · intro q; cases q
      · rintro ⟨h1, h2⟩; rw [h1] at h2; cases h2
    · cases e
  | y :: l, n, A, h, hA, x => by
    rcases pr_cons h with ⟨e, _⟩ | ⟨m, j, l', _, e, hj, h1, h2, h3, _⟩
    · cases e
    · cases e
      have ih := pr_mem hP h3 (fun x hx => by
        rw [tb_or2] at hx
        by_cases e : y = x
        · rw [← e]; exact h1
        · simp [e] at hx; exact hA x hx) x
      rw [List.mem_cons, ih, tb_or2]
      constructor
      · rintro (rfl | ⟨h4, h5⟩)
        · exact ⟨h1, h2⟩
        · simp only [Bool.or_eq_false_iff] at h5
          exact ⟨h4, h5.1⟩
      · rintro ⟨h4, h5⟩
        by_cases e : x = y
        · exact Or.inl e
        · refine Or.inr ⟨h4, ?_⟩
          rw [h5]
          simp [Ne.symm e]

-- concatenation of the best steps
def mf (o : OD) (A x : Nat) : Bool := ok o A x && !(TL o (A ||| 2 ^ x)).isEmpty
def few (o : OD) (A : Nat) : Nat := hw (wt o A) (TL o A)
def wx (o : OD) (A x : Nat) : Nat := ga o A x + few o (A ||| 2 ^ x)
def bst (o : OD) (A x : Nat) : Bool := mf o A x && decide (wx o A x = few o A)
def tx (o : OD) (A x : Nat) : List (List Nat) := (TL o (A ||| 2 ^ x)).map (fun l => x :: l)
theorem isE {α : Type} {l : List α} : (!l.isEmpty) = true ↔ l ≠ [] := by cases l <;> simp
theorem mf_iff {o : OD} {A x : Nat} : mf o A x = true ↔ ok o A x = true ∧ TL o (A ||| 2 ^ x) ≠ [] := by rw [mf, Bool.and_eq_true, isE]
theorem bst_iff {o : OD} {A x : Nat} : bst o A x = true ↔ mf o A x = true ∧ wx o A x = few o A := by rw [bst, Bool.and_eq_true, decide_eq_true_eq]
theorem hw_tx {o : OD} {A x : Nat} (h : TL o (A ||| 2 ^ x) ≠ []) : hw (wt o A) (tx o A x) = wx o A x := by
  rw [tx, wx, few]
  cases e : TL o (A ||| 2 ^ x) with
  | nil => exact absurd e h
  | cons l t => rfl
theorem tx_ne {o : OD} {A x : Nat} (h : TL o (A ||| 2 ^ x) ≠ []) : tx o A x ≠ [] := fun e => h (List.map_eq_nil_iff.mp e)
theorem st1_cat {o : OD} {A : Nat} (h : A ≠ oP o) : ∀ j, st1 o (TL o) A j = fm (fun x => if mf o A x && decide (wx o A x = hw (wt o A) (st1 o (TL o) A j)) then tx o A x else []) j ∧ ∀ x, x < j → mf o A x = true → st1 o (TL o) A j ≠ [] ∧ hw (wt o A) (st1 o (TL o) A j) ≤ wx o A x
  | 0 => ⟨by rw [st1, if_neg h]; rfl, fun x hx => by omega⟩
  | j + 1 => by
    obtain ⟨ih1, ih2⟩ := st1_cat h j
    by_cases c : mf o A j = true
    · have c' := mf_iff.mp c
      have e : st1 o (TL o) A (j + 1) = mg (wt o A) (st1 o (TL o) A j) (tx o A j) := by rw [st1, if_pos c'.1]; rfl
      have ht := hw_tx c'.2
      cases ea : st1 o (TL o) A j with
      | nil =>
        have e2 : st1 o (TL o) A (j + 1) = tx o A j := by rw [e, ea, nil_mg]
        rw [e2, ht]
        have hno : ∀ x, x < j → mf o A x = false := fun x hx => by
          cases q : mf o A x with
          | false => rfl
          | true => exact absurd ea (ih2 x hx q).1
        refine ⟨?_, fun x hx hm => ?_⟩
        · rw [fm, fm_nil (fun x hx => by rw [hno x hx]; rfl)]
          simp [c]
        · by_cases q : x = j
          · subst q; exact ⟨tx_ne c'.2, Nat.le_refl _⟩
          · rw [hno x (by omega)] at hm; cases hm
      | cons u a =>
        rw [ea] at ih1 ih2
        cases eb : tx o A j with
        | nil => exact absurd eb (tx_ne c'.2)
        | cons y b =>
          have hy : wt o A y = wx o A j := by rw [eb] at ht; exact ht
          have hu : hw (wt o A) (u :: a) = wt o A u := rfl
          rw [hu] at ih1 ih2
          rw [e, ea, eb, mg]
          rcases Nat.lt_trichotomy (wt o A u) (wt o A y) with h1 | h1 | h1
          · rw [if_pos h1, hu]
            refine ⟨?_, fun x hx hm => ?_⟩
            · rw [fm, ← ih1, if_neg (by simp [c, ← hy]; omega), List.append_nil]
            · by_cases q : x = j
              · subst q; exact ⟨by simp, by omega⟩
              · exact ih2 x (by omega) hm
          · rw [if_neg (by omega), if_neg (by omega)]
            have hu' : hw (wt o A) (u :: a ++ y :: b) = wt o A u := rfl
            rw [hu']
            refine ⟨?_, fun x hx hm => ?_⟩
            · rw [fm, ← ih1, if_pos (by simp [c, ← hy, h1]), eb]
            · by_cases q : x = j
              · subst q; exact ⟨by simp, by omega⟩
              · exact ⟨by simp, (ih2 x (by omega) hm).2⟩
          · rw [if_neg (by omega), if_pos h1]
            have hu' : hw (wt o A) (y :: b) = wt o A y := rfl
            rw [hu']
            refine ⟨?_, fun x hx hm => ?_⟩
            · rw [fm, fm_nil (fun x hx => ?_), if_pos (by simp [c, ← hy]), eb]; rfl
              refine if_neg (fun q => ?_)
              rw [Bool.and_eq_true, decide_eq_true_eq] at q
              have := (ih2 x hx q.1).2
              omega
            · by_cases q : x = j
              · subst q; exact ⟨by simp, by omega⟩
              · exact ⟨by simp, by have := (ih2 x (by omega) hm).2; omega⟩
    · have e : st1 o (TL o) A (j + 1) = st1 o (TL o) A j := by
        rw [st1]
        by_cases q : ok o A j = true
        · rw [if_pos q]
          have : TL o (A ||| 2 ^ j) = [] := Classical.byContradiction (fun z => c (mf_iff.mpr ⟨q, z⟩))
          rw [this]; exact mg_nil _ _
        · rw [if_neg q]
      rw [e]
      refine ⟨?_, fun x hx hm => ?_⟩
      · rw [fm, ← ih1, if_neg (by simp [c]), List.append_nil]
      · by_cases q : x = j
        · subst q; exact absurd hm c
        · exact ih2 x (by omega) hm
theorem TL_cat {o : OD} {A : Nat} (hA : A < 64) (h : A ≠ oP o) : TL o A = fm (fun x => if bst o A x then tx o A x else []) 6 := by
  have := (st1_cat (o := o) h 6).1
  rw [← TL_eq hA] at this
  exact this
theorem TL_P {o : OD} (h : oP o < 64) : TL o (oP o) = [[]] := by rw [TL_eq h, st1_P]
theorem TL_len {o : OD} {A : Nat} (hA : A < 64) (h : A ≠ oP o) : (TL o A).length = sm (fun x => if bst o A x then (TL o (A ||| 2 ^ x)).length else 0) 6 := by
  rw [TL_cat hA h, fm_len]
  refine sm_cong (fun x _ => ?_)
  by_cases c : bst o A x = true
  · rw [if_pos c, if_pos c, tx, List.length_map]
  · rw [if_neg c, if_neg c]; rfl
theorem bst_ok {o : OD} {A x : Nat} (h : bst o A x = true) : ok o A x = true ∧ TL o (A ||| 2 ^ x) ≠ [] := mf_iff.mp (bst_iff.mp h).1
theorem fm_first {α : Type} {f : Nat → List α} : ∀ {n : Nat}, fm f n ≠ [] → ∃ p, p < n ∧ f p ≠ [] ∧ (∀ x, x < p → f x = []) ∧ (fm f n).head? = (f p).head?
  | 0, h => absurd rfl h
  | n + 1, h => by
    by_cases c : fm f n = []
    · rw [fm, c, List.nil_append] at h
      refine ⟨n, by omega, h, fun x hx => ?_, by rw [fm, c]; rfl⟩
      apply Classical.byContradiction
      intro q
      obtain ⟨y, hy⟩ := List.exists_mem_of_ne_nil _ q
      have := fm_mem.mpr ⟨x, hx, hy⟩
      rw [c] at this; cases this
    · obtain ⟨p, h1, h2, h3, h4⟩ := fm_first c
      refine ⟨p, by omega, h2, h3, ?_⟩
      rw [← h4, fm]
      cases e : fm f n with
      | nil => exact absurd e c
      | cons y t => rfl
def fr (o : OD) (A : Nat) : List Nat := (TL o A).headD []
theorem fr_step {o : OD} {A : Nat} (hA : A < 64) (h : A ≠ oP o) (hn : TL o A ≠ []) : ∃ p, p < 6 ∧ bst o A p = true ∧ (∀ x, x < p → bst o A x = false) ∧ fr o A = p :: fr o (A ||| 2 ^ p) := by
  have e := TL_cat hA h
  have hn' := hn
  rw [e] at hn'
  obtain ⟨p, h1, h2, h3, h4⟩ := fm_first hn'
  rw [← e] at h4
  have hp : bst o A p = true := by
    cases q : bst o A p with
    | true => rfl
    | false => exact absurd (by rw [q]; rfl) h2
  refine ⟨p, h1, hp, fun x hx => ?_, ?_⟩
  · cases q : bst o A x with
    | false => rfl
    | true =>
      have := h3 x hx
      rw [q] at this
      exact absurd this (tx_ne (bst_ok q).2)
  · rw [hp] at h4
    have h5 := (bst_ok hp).2
    rw [fr, fr]
    cases e1 : TL o A with
    | nil => exact absurd e1 hn
    | cons l t =>
      cases e2 : TL o (A ||| 2 ^ p) with
      | nil => exact absurd e2 h5
      | cons l2 t2 =>
        rw [e1] at h4
        simp only [if_true, tx, e2, List.map_cons, List.head?_cons, Option.some.injEq] at h4
        exact h4
theorem bst_none {o : OD} {A : Nat} (hn : TL o A = []) (hA : A < 64) (h : A ≠ oP o) : ∀ x, x < 6 → bst o A x = false := by
  intro x hx
  cases q : bst o A x with
  | false => rfl
  | true =>
    exfalso
    have e := TL_cat hA h
    obtain ⟨y, hy⟩ := List.exists_mem_of_ne_nil _ (tx_ne (bst_ok q).2)
    have : y ∈ fm (fun x => if bst o A x then tx o A x else []) 6 := fm_mem.mpr ⟨x, hx, by rw [q]; exact hy⟩
    rw [← e, hn] at this
    cases this
theorem TL_mem {o : OD} (hP : oP o < 64) : ∀ {l : List Nat} {A : Nat}, A < 64 → l ∈ TL o A → l ∈ pr (oP o) (64 - A) A
  | l, A, hA, h => by
    rw [TL, ← bestf_pr] at h
    have key : ∀ (L : List (List Nat)) (w : List Nat → Nat) (x : List Nat), x ∈ bestf w L → x ∈ L := by
      intro L w x
      induction L with
      | nil => intro h; cases h
      | cons y L ih =>
        intro h
        rw [show y :: L = [y] ++ L from rfl, bestf_app] at h
        rcases mg_mem h with h | h
        · exact List.mem_cons.mpr (Or.inl (List.mem_singleton.mp h))
        · exact List.mem_cons_of_mem _ (ih h)
    exact (List.mem_filter.mp (key _ _ _ h)).1
-- gaps of a row
def gl : Bool → List Bool → Nat
  | _, [] => 0
  | s, b :: t => (if !b && (s && t.any id) then 1 else 0) + gl (s || b) t
def ff : Nat → List Bool → (Option Nat × Nat × Nat) → (Option Nat × Nat × Nat)
  | _, [], x => x
  | i, b :: t, x => ff (i + 1) t (if b then ((match x.1 with | none => some i | some f => some f), i, x.2.2 + 1) else x)
def fv (l : List Bool) : Nat := match ff 0 l (none, 0, 0) with
  | (none, _, _) => 0
  | (some f, la, h) => la + 1 - f - h
def bls : Nat → List (List Bool)
  | 0 => [[]]
  | n + 1 => (bls n).map (fun l => false :: l) ++ (bls n).map (fun l => true :: l)
theorem bls_mem : ∀ l : List Bool, l ∈ bls l.length
  | [] => List.mem_singleton.mpr rfl
  | b :: l => by
    rw [List.length_cons, bls, List.mem_append]
    cases b
    · exact Or.inl (List.mem_map.mpr ⟨l, bls_mem l, rfl⟩)
    · exact Or.inr (List.mem_map.mpr ⟨l, bls_mem l, rfl⟩)
theorem fv_all : ∀ n, n < 7 → (bls n).all (fun l => fv l == gl false l) = true := by decide +kernel
theorem fv_gl {l : List Bool} (h : l.length < 7) : fv l = gl false l := by
  have := List.all_eq_true.mp (fv_all l.length h) l (bls_mem l)
  exact eq_of_beq this
def pat (o : OD) (k : Nat) (l : List Nat) : List Bool := l.map (fun x => (oW o k).testBit x)
theorem sm_add (f g : Nat → Nat) : ∀ n, sm (fun k => f k + g k) n = sm f n + sm g n
  | 0 => rfl
  | n + 1 => by simp only [sm, sm_add f g n]; omega
theorem and_nz {a b : Nat} : a &&& b ≠ 0 ↔ ∃ i, a.testBit i = true ∧ b.testBit i = true := by
  rw [tb_nz]
  constructor
  · rintro ⟨i, h⟩; rw [Nat.testBit_and, Bool.and_eq_true] at h; exact ⟨i, h⟩
  · rintro ⟨i, h⟩; exact ⟨i, by rw [Nat.testBit_and, Bool.and_eq_true]; exact h⟩
theorem wt_gl {o : OD} (hP : oP o < 64) : ∀ {l : List Nat} {n A : Nat}, l ∈ pr (oP o) n A → (∀ x, A.testBit x = true → (oP o).testBit x = true) → wt o A l = sm (fun k => oT o k * gl (decide (oW o k &&& A ≠ 0)) (pat o k l)) (oS o)
  | [], n, A, h, hA => by
    rw [wt]
    exact (sm_zero.mpr (fun k _ => by rw [pat, List.map_nil, gl, Nat.mul_zero])).symm
  | y :: l, n, A, h, hA => by
    rcases pr_cons h with ⟨e, _⟩ | ⟨m, j, l', _, e, hj, h1, h2, h3, _⟩
    · cases e
    · cases e
      have hA' : ∀ x, (A ||| 2 ^ y).testBit x = true → (oP o).testBit x = true := fun x hx => by
        rw [tb_or2] at hx
        by_cases e : y = x
        · rw [← e]; exact h1
        · simp [e] at hx; exact hA x hx
      have hm := pr_mem hP h3 hA'
      rw [wt, wt_gl hP h3 hA', ga, ← sm_add]
      refine sm_cong (fun k _ => ?_)
      rw [show pat o k (y :: l) = (oW o k).testBit y :: pat o k l from rfl, gl, Nat.mul_add]
      have e1 : (pat o k l).any id = decide (oW o k &&& dif (dif (oP o) A) (2 ^ y) ≠ 0) := by
        apply Bool.eq_iff_iff.mpr
        rw [decide_eq_true_eq, and_nz, List.any_eq_true]
        constructor
        · rintro ⟨b, hb, hb'⟩
          obtain ⟨x, hx, rfl⟩ := List.mem_map.mp hb
          have := (hm x).mp hx
          rw [tb_or2, Bool.or_eq_false_iff] at this
          exact ⟨x, hb', by rw [tb_dif, tb_dif, tb_pow, this.1, this.2.1, this.2.2]; rfl⟩
        · rintro ⟨x, hx, hx'⟩
          rw [tb_dif, tb_dif, tb_pow] at hx'
          simp only [Bool.and_eq_true, Bool.not_eq_true'] at hx'
          exact ⟨true, List.mem_map.mpr ⟨x, (hm x).mpr ⟨hx'.1.1, by rw [tb_or2, hx'.1.2, hx'.2]; rfl⟩, hx⟩, rfl⟩
      have e2 : (decide (oW o k &&& A ≠ 0) || (oW o k).testBit y) = decide (oW o k &&& (A ||| 2 ^ y) ≠ 0) := by
        apply Bool.eq_iff_iff.mpr
        rw [Bool.or_eq_true, decide_eq_true_eq, decide_eq_true_eq, and_nz, and_nz]
        constructor
        · rintro (⟨i, a, b⟩ | a)
          · exact ⟨i, a, by rw [tb_or2, b]; rfl⟩
          · exact ⟨y, a, by rw [tb_or2]; simp⟩
        · rintro ⟨i, a, b⟩
          rw [tb_or2, Bool.or_eq_true, decide_eq_true_eq] at b
          rcases b with b | rfl
          · exact Or.inl ⟨i, a, b⟩
          · exact Or.inr a
      rw [e1, e2]
      have e3 : (if gb o A y k = true then oT o k else 0) = oT o k * (if gb o A y k = true then 1 else 0) := by
        by_cases c : gb o A y k = true
        · rw [if_pos c, if_pos c, Nat.mul_one]
        · rw [if_neg c, if_neg c, Nat.mul_zero]
      rw [e3]
      rfl
theorem and_0 (a : Nat) : a &&& 0 = 0 := Nat.and_zero a
theorem wt_fv {o : OD} (hP : oP o < 64) {l : List Nat} {n : Nat} (h : l ∈ pr (oP o) n 0) (hl : l.length < 7) : wt o 0 l = sm (fun k => oT o k * fv (pat o k l)) (oS o) := by
  rw [wt_gl hP h (fun x hx => by rw [Nat.zero_testBit] at hx; cases hx)]
  refine sm_cong (fun k _ => ?_)
  rw [fv_gl (by rw [pat, List.length_map]; exact hl), Nat.and_zero]
  rfl
-- rows of P and the next row
def bits (P : Nat) : List Nat := fm (fun j => if P.testBit j then [j] else []) 6
def scanI (r : Nat → Nat) : Nat → Option Nat
  | 0 => none
  | i + 1 => if r (i + 1) < r i then scanI r i else some i
def scanJ (r : Nat → Nat) (x : Nat) : Nat → Nat
  | 0 => 0
  | j + 1 => if r (j + 1) < x then scanJ r x j else j + 1
def updN (r : Nat → Nat) (a x : Nat) : Nat → Nat := fun k => if k = a then x else r k
def swp (r : Nat → Nat) (a b : Nat) : Nat → Nat := updN (updN r a (r b)) b (r a)
def rev (r : Nat → Nat) (a b : Nat) : Nat → (Nat → Nat)
  | 0 => r
  | n + 1 => if a < b then rev (swp r a b) (a + 1) (b - 1) n else r
def ofL (l : List Nat) : Nat → Nat := fun i => l.getD i 0
def toL (r : Nat → Nat) (m : Nat) : List Nat := (List.range m).map r
def canon (r : Nat → Nat) (m : Nat) : Nat → Nat := ofL (toL r m)
def nxt (r : Nat → Nat) (m : Nat) : Option (Nat → Nat) := match scanI r (m - 1) with
  | none => none
  | some i => some (rev (swp r i (scanJ r (r i) (m - 1))) (i + 1) (m - 1) 6)
def nextL (l : List Nat) : Option (List Nat) := (nxt (ofL l) l.length).map (fun r => toL r l.length)
def chain : List (List Nat) → Bool
  | [] => false
  | [l] => (nextL l).isNone
  | l :: l' :: t => (nextL l == some l') && chain (l' :: t)
def agr (m : Nat) (r r' : Nat → Nat) : Prop := ∀ i, i < m → r i = r' i
theorem scanI_cong {m : Nat} {r r' : Nat → Nat} (h : agr m r r') : ∀ {i : Nat}, i < m ∨ i = 0 → scanI r i = scanI r' i
  | 0, _ => rfl
  | i + 1, hi => by rw [scanI, scanI, h (i + 1) (by omega), h i (by omega), scanI_cong h (Or.inl (by omega))]
theorem scanJ_cong {m : Nat} {r r' : Nat → Nat} (h : agr m r r') (x : Nat) : ∀ {i : Nat}, i < m → scanJ r x i = scanJ r' x i
  | 0, _ => rfl
  | i + 1, hi => by rw [scanJ, scanJ, h (i + 1) hi, scanJ_cong h x (by omega)]
theorem scanJ_le (r : Nat → Nat) (x : Nat) : ∀ i : Nat, scanJ r x i ≤ i
  | 0 => Nat.le_refl _
  | i + 1 => by
    rw [scanJ]
    by_cases c : r (i + 1) < x
    · rw [if_pos c]; have := scanJ_le r x i; omega
    · rw [if_neg c]; omega
theorem scanI_lt (r : Nat → Nat) : ∀ {n i : Nat}, scanI r n = some i → i < n ∧ r i ≤ r (i + 1)
  | 0, i, h => by cases h
  | n + 1, i, h => by
    rw [scanI] at h
    by_cases c : r (n + 1) < r n
    · rw [if_pos c] at h; have := scanI_lt r h; omega
    · rw [if_neg c] at h; cases h; omega
theorem swp_cong {m : Nat} {r r' : Nat → Nat} (h : agr m r r') {a b : Nat} (ha : a < m) (hb : b < m) : agr m (swp r a b) (swp r' a b) := fun i hi => by
  simp only [swp, updN]
  rw [h a ha, h b hb, h i hi]
theorem rev_cong {m : Nat} : ∀ {n : Nat} {r r' : Nat → Nat} {a b : Nat}, agr m r r' → b < m → agr m (rev r a b n) (rev r' a b n)
  | 0, r, r', a, b, h, _ => h
  | n + 1, r, r', a, b, h, hb => by
    rw [rev, rev]
    by_cases c : a < b
    · rw [if_pos c, if_pos c]; exact rev_cong (swp_cong h (by omega) hb) (by omega)
    · rw [if_neg c, if_neg c]; exact h
theorem toL_cong {m : Nat} {r r' : Nat → Nat} (h : agr m r r') : toL r m = toL r' m := by
  rw [toL, toL]
  exact List.map_congr_left (fun i hi => h i (List.mem_range.mp hi))
theorem toL_len (r : Nat → Nat) (m : Nat) : (toL r m).length = m := by rw [toL, List.length_map, List.length_range]
theorem agr_toL (r : Nat → Nat) (m : Nat) : agr m r (ofL (toL r m)) := fun i hi => by
  simp [ofL, toL, hi]
theorem agr_ofL {r : Nat → Nat} {l : List Nat} (h : agr l.length (ofL l) r) : toL r l.length = l := by
  rw [← toL_cong h]
  apply List.ext_getElem
  · rw [toL_len]
  · intro i h1 h2
    simp [toL, ofL, h2]
theorem nxt_toL {l : List Nat} {r : Nat → Nat} (h : agr l.length (ofL l) r) : nextL l = (nxt r l.length).map (fun r => toL r l.length) := by
  rw [nextL, nxt, nxt, scanI_cong h (by omega)]
  cases e : scanI r (l.length - 1) with
  | none => rfl
  | some i =>
    have hi := (scanI_lt r e).1
    simp only [Option.map_some]
    rw [scanJ_cong h _ (by omega), h i (by omega)]
    have := scanJ_le r (r i) (l.length - 1)
    exact congrArg some (toL_cong (rev_cong (swp_cong h (by omega) (by omega)) (by omega)))
set_option maxRecDepth 100000 in
theorem chain_all : ∀ P, P < 64 → chain (pr P 64 0) = true ∧ (pr P 64 0).head? = some (bits P) ∧ (pr P 64 0).all (fun l => l.length == (bits P).length) = true ∧ (pr P 64 0).length ≤ 720 := by decide +kernel
