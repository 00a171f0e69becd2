/-! The graph of stages as a mathematical value, and what the calls do to it: class and reference are both tied to it. -/
/-- how many; (state, content, kind, function, number, async, queued) of each; inputs; what it awaits; its turn; turns given; the line; the pool -/
abbrev gT : Type := Nat × (Nat → Nat → Int32) × (Nat → List Nat) × (Nat → Option Nat) × (Nat → Nat) × Nat × List Nat × List Nat
def gN (g : gT) : Nat := g.1
def gF (g : gT) : Nat → Nat → Int32 := g.2.1
def gI (g : gT) : Nat → List Nat := g.2.2.1
def gA (g : gT) : Nat → Option Nat := g.2.2.2.1
def gU (g : gT) : Nat → Nat := g.2.2.2.2.1
def gC (g : gT) : Nat := g.2.2.2.2.2.1
def gL (g : gT) : List Nat := g.2.2.2.2.2.2.1
def gP (g : gT) : List Nat := g.2.2.2.2.2.2.2
def gsF (g : gT) (k f : Nat) (v : Int32) : gT := (g.1, fun a => if a = k then va_up (gF g a) f v else gF g a, g.2.2)
def gsA (g : gT) (k : Nat) (r : Option Nat) : gT := (g.1, g.2.1, g.2.2.1, va_up (gA g) k r, g.2.2.2.2)
def gsL (g : gT) (x : List Nat) : gT := (g.1, g.2.1, g.2.2.1, g.2.2.2.1, g.2.2.2.2.1, g.2.2.2.2.2.1, x, g.2.2.2.2.2.2.2)
def gsP (g : gT) (x : List Nat) : gT := (g.1, g.2.1, g.2.2.1, g.2.2.2.1, g.2.2.2.2.1, g.2.2.2.2.2.1, g.2.2.2.2.2.2.1, x)
/-- state and content -/
def gsS (g : gT) (k : Nat) (u v : Int32) : gT := gsF (gsF g k 0 u) k 1 v
/-- its turn -/
def gsU (g : gT) (k : Nat) : gT := (g.1, g.2.1, g.2.2.1, g.2.2.2.1, va_up (gU g) k (gC g), gC g + 1, g.2.2.2.2.2.2)
theorem gF_sF (g : gT) (k f : Nat) (v : Int32) (a c : Nat) : gF (gsF g k f v) a c = if a = k ∧ c = f then v else gF g a c := by
  show (if a = k then va_up (gF g a) f v else gF g a) c = _
  by_cases h : a = k
  · rw [if_pos h]
    by_cases h2 : c = f
    · rw [if_pos ⟨h, h2⟩, h2, va_up_self]
    · rw [va_up_ne _ _ h2, if_neg (fun z => h2 z.2)]
  · rw [if_neg h, if_neg (fun z => h z.1)]
/-- the turn as the class keeps it: 2 ^ 30 while it's pending -/
def g_tv (g : gT) (k : Nat) : Nat := if gF g k 0 = 0 then 1073741824 else gU g k
def g_on (g : gT) (k : Nat) : Bool := !decide (gF g k 0 = 0)
def g_able (g : gT) (k : Nat) : Bool := !(g_on g k) && !decide (gF g k 2 = 9) && (match gA g k with
  | some j => g_on g j
  | none => if gF g k 2 = 6 ∨ gF g k 2 = 8 then (gI g k).any (g_on g) else (gI g k).all (g_on g))
def g_sc1 (g : gT) (k : Nat) : gT := if gF g k 6 = 0 ∧ g_able g k = true then
    (if ¬ gF g k 5 = 0 ∧ gA g k = none then gsP (gsF g k 6 1) (gP g ++ [k]) else gsL (gsF g k 6 1) (gL g ++ [k])) else g
def g_scN (g : gT) : Nat → gT
  | 0 => g
  | m + 1 => g_sc1 (g_scN g m) m
def g_scan (g : gT) : gT := g_scN g (gN g)
/-- what a stage becomes: as another, wrapped; or what its function makes -/
def g_fol (g : gT) (j : Nat) : Int32 × Int32 := (if gF g j 0 = 1 then 1 else 3, gF g j 1)
def g_use (g : gT) (k : Nat) (x : Int32) : Int32 × Int32 := if fn_thr (gF g k 3) (gF g k 4) x = 0 then (1, fn_mk (gF g k 3) (gF g k 4) x) else (3, fn_thr (gF g k 3) (gF g k 4) x)
def g_app (g : gT) (k j : Nat) : Int32 × Int32 := if gF g j 0 = 1 then g_use g k (gF g j 1) else g_fol g j
/-- the input that came first -/
def g_ft (g : gT) (b : Nat) : List Nat → Nat
  | [] => b
  | i :: r => g_ft g (if g_tv g i < g_tv g b then i else b) r
def g_first (g : gT) (k : Nat) : Nat := g_ft g ((gI g k).headD 0) (gI g k).tail
def g_sum (g : gT) (x : Int32) : List Nat → Int32 × Int32
  | [] => (1, x)
  | i :: r => if gF g i 0 = 1 then g_sum g (x + gF g i 1) r else g_fol g i
def g_cmp (g : gT) (k j : Nat) : (Int32 × Int32) ⊕ Nat := match gA g k with
  | some a => .inl (g_fol g a)
  | none => if gF g j 0 = 1 then (if fn_thr (gF g k 3) (gF g k 4) (gF g j 1) = 0 then (if ¬ fn_mk (gF g k 3) (gF g k 4) (gF g j 1) < 0 ∧ (fn_mk (gF g k 3) (gF g k 4) (gF g j 1)).toNatClampNeg < gN g then .inr (fn_mk (gF g k 3) (gF g k 4) (gF g j 1)).toNatClampNeg else .inl (3, 8)) else .inl (3, fn_thr (gF g k 3) (gF g k 4) (gF g j 1))) else .inl (g_fol g j)
/-- an outcome, or the number of the stage that is awaited -/
def g_dec (g : gT) (k : Nat) : (Int32 × Int32) ⊕ Nat :=
  let j := (gI g k).headD 0
  if gF g k 2 = 0 then .inl (g_app g k j)
  else if gF g k 2 = 1 then .inl (if gF g j 0 = 1 then g_fol g j else g_use g k (gF g j 1))
  else if gF g k 2 = 2 then .inl (g_use g k (if gF g j 0 = 1 then gF g j 1 else -1 - gF g j 1))
  else if gF g k 2 = 3 then .inl (if gF g j 0 = 1 ∧ ¬ fn_thr (gF g k 3) (gF g k 4) (gF g j 1) = 0 then (3, fn_thr (gF g k 3) (gF g k 4) (gF g j 1)) else g_fol g j)
  else if gF g k 2 = 4 then g_cmp g k j
  else if gF g k 2 = 5 then
    (let b := (gI g k).getD 1 0
     .inl (if gF g j 0 = 1 then (if gF g b 0 = 1 then g_use g k (gF g j 1 + gF g b 1) else g_fol g b) else g_fol g j))
  else if gF g k 2 = 6 then .inl (g_app g k (g_first g k))
  else if gF g k 2 = 7 then .inl (g_sum g 0 (gI g k))
  else .inl (g_fol g (g_first g k))
def g_give (g : gT) (k : Nat) (u v : Int32) : gT := g_scan (gsU (gsS g k u v) k)
def g_res (g : gT) (k : Nat) : gT := if gF g k 0 = 0 then (match g_dec (gsF g k 6 0) k with
    | .inl q => g_give (gsF g k 6 0) k q.1 q.2
    | .inr j => g_scan (gsA (gsF g k 6 0) k (some j))) else gsF g k 6 0
def g_work : Nat → gT → gT
  | 0, g => g
  | m + 1, g => match gL g with
    | [] => g
    | k :: r => g_work m (g_res (gsL g r) k)
/-- one more stage -/
def g_mk (g : gT) (kd fn nu asy : Int32) (ins : List Nat) : gT :=
  (gN g + 1, fun a => if a = gN g then (fun c => if c = 2 then kd else if c = 3 then fn else if c = 4 then nu else if c = 5 then asy else 0) else gF g a, va_up (gI g) (gN g) ins, va_up (gA g) (gN g) none, g.2.2.2.2)
/-! The class's graph in the store. -/
def RQ (σ : ps_S) (q r : Nat) (x : List Nat) : Prop := ps_R σ 2 q 0 = some (4, r) ∧ ps_L σ 4 r = 48 ∧ x.length ≤ 48 ∧ ps_I σ 2 q 2 = nI x.length ∧ ∃ f, f < 48 ∧ ps_I σ 2 q 1 = nI f ∧ ∀ i k, x[i]? = some k → ps_R σ 4 r ((f + i) % 48) = some (3, k)
def RS (σ : ps_S) (g : gT) (k : Nat) : Prop :=
  (ps_R σ 4 0 k = some (3, k) ∧ ps_I σ 3 k 0 = nI k ∧ ps_I σ 3 k 1 = gF g k 2 ∧ ps_I σ 3 k 2 = gF g k 3 ∧ ps_I σ 3 k 3 = gF g k 4 ∧ ps_I σ 3 k 4 = gF g k 5 ∧ ps_R σ 3 k 5 = some (4, 3 + k) ∧ ps_L σ 4 (3 + k) = (gI g k).length ∧ ∀ j i, (gI g k)[j]? = some i → ps_R σ 4 (3 + k) j = some (3, i)) ∧
  (ps_I σ 3 k 6 = gF g k 0 ∧ ps_I σ 3 k 7 = gF g k 1 ∧ ps_I σ 3 k 8 = nI (g_tv g k) ∧ ps_R σ 3 k 9 = (gA g k).map (fun j => (3, j)) ∧ ps_I σ 3 k 10 = gF g k 6)
def RC0 (σ : ps_S) (g : gT) : Prop :=
  ps_R σ 1 0 0 = some (4, 0) ∧ ps_R σ 1 0 1 = some (2, 0) ∧ ps_R σ 1 0 2 = some (2, 1) ∧ ps_I σ 1 0 3 = nI (gN g) ∧ ps_I σ 1 0 4 = nI (gC g) ∧ ps_L σ 4 0 = 48 ∧ ps_N σ 1 = 1 ∧ ps_N σ 2 = 2 ∧ ps_N σ 3 = gN g
def RC (σ : ps_S) (g : gT) : Prop := RC0 σ g ∧ (∀ k, k < gN g → RS σ g k) ∧ RQ σ 0 1 (gL g) ∧ RQ σ 1 2 (gP g)
def sumN (f : Nat → Nat) : Nat → Nat
  | 0 => 0
  | m + 1 => sumN f m + f m
/-- how often a stage may still be worked on in the line -/
def g_ph (g : gT) (k : Nat) : Nat := if gF g k 0 = 0 then (if gA g k = none then 2 else 1) else 0
def gE (g : gT) : Prop := gC g + sumN (g_ph g) (gN g) ≤ 2 * gN g
/-- what holds of every graph that calls make -/
def gW (g : gT) : Prop := gN g ≤ 48 ∧ (gE g ∧ ∀ k, gU g k ≤ 96) ∧ (∀ k, k < gN g → (gI g k).length ≤ 48 ∧ (∀ i ∈ gI g k, i < gN g) ∧ (∀ j, gA g k = some j → j < gN g))
def gK (g : gT) : Prop := ∀ k, k < gN g → (gF g k 2 = 9 ∨ 0 < (gI g k).length) ∧ (gF g k 2 = 5 → 1 < (gI g k).length)
def gQ (g : gT) : Prop := (gL g ++ gP g).Nodup ∧ ∀ k, k ∈ gL g ++ gP g → k < gN g ∧ ¬ gF g k 6 = 0 ∧ ¬ gF g k 2 = 9
def gOK (g : gT) : Prop := gW g ∧ gK g ∧ gQ g
theorem ps_I_sI (σ : ps_S) (κ i j : Nat) (v : Int32) (a b c : Nat) : ps_I (ps_sI σ κ i j v) a b c = if a = κ ∧ b = i ∧ c = j then v else ps_I σ a b c := by
  show ps_up (ps_I σ) κ i j v a b c = _
  by_cases h : a = κ ∧ b = i
  · obtain ⟨rfl, rfl⟩ := h
    rw [ps_up_self]
    by_cases h2 : c = j
    · rw [if_pos ⟨rfl, rfl, h2⟩, h2, va_up_self]
    · rw [va_up_ne _ _ h2, if_neg (fun z => h2 z.2.2)]
  · rw [ps_up_ne _ _ _ h, if_neg (fun z => h ⟨z.1, z.2.1⟩)]
theorem ps_R_sR (σ : ps_S) (κ i j : Nat) (v : Option (Nat × Nat)) (a b c : Nat) : ps_R (ps_sR σ κ i j v) a b c = if a = κ ∧ b = i ∧ c = j then v else ps_R σ a b c := by
  show ps_up (ps_R σ) κ i j v a b c = _
  by_cases h : a = κ ∧ b = i
  · obtain ⟨rfl, rfl⟩ := h
    rw [ps_up_self]
    by_cases h2 : c = j
    · rw [if_pos ⟨rfl, rfl, h2⟩, h2, va_up_self]
    · rw [va_up_ne _ _ h2, if_neg (fun z => h2 z.2.2)]
  · rw [ps_up_ne _ _ _ h, if_neg (fun z => h ⟨z.1, z.2.1⟩)]
theorem ps_R_sI (σ : ps_S) (κ i j : Nat) (v : Int32) : ps_R (ps_sI σ κ i j v) = ps_R σ := rfl
theorem ps_L_sI (σ : ps_S) (κ i j : Nat) (v : Int32) : ps_L (ps_sI σ κ i j v) = ps_L σ := rfl
theorem ps_N_sI (σ : ps_S) (κ i j : Nat) (v : Int32) : ps_N (ps_sI σ κ i j v) = ps_N σ := rfl
theorem ps_J_sI (σ : ps_S) (κ i j : Nat) (v : Int32) : ps_J (ps_sI σ κ i j v) = ps_J σ := rfl
theorem ps_I_sR (σ : ps_S) (κ i j : Nat) (v : Option (Nat × Nat)) : ps_I (ps_sR σ κ i j v) = ps_I σ := rfl
theorem ps_J_sR (σ : ps_S) (κ i j : Nat) (v : Option (Nat × Nat)) : ps_J (ps_sR σ κ i j v) = ps_J σ := rfl
theorem ps_L_sR (σ : ps_S) (κ i j : Nat) (v : Option (Nat × Nat)) : ps_L (ps_sR σ κ i j v) = ps_L σ := rfl
theorem ps_N_sR (σ : ps_S) (κ i j : Nat) (v : Option (Nat × Nat)) : ps_N (ps_sR σ κ i j v) = ps_N σ := rfl
/-- all but the kinds of the class's graph is as it was -/
def FrG (σ σ' : ps_S) : Prop := ∀ κ, ¬ (1 ≤ κ ∧ κ ≤ 4) → ps_I σ' κ = ps_I σ κ ∧ ps_J σ' κ = ps_J σ κ ∧ ps_R σ' κ = ps_R σ κ ∧ ps_L σ' κ = ps_L σ κ ∧ ps_N σ' κ = ps_N σ κ
theorem FrG.rf (σ : ps_S) : FrG σ σ := fun _ _ => ⟨rfl, rfl, rfl, rfl, rfl⟩
theorem FrG.tr {a b c : ps_S} (h1 : FrG a b) (h2 : FrG b c) : FrG a c := fun κ hκ =>
  ⟨(h2 κ hκ).1.trans (h1 κ hκ).1, (h2 κ hκ).2.1.trans (h1 κ hκ).2.1, (h2 κ hκ).2.2.1.trans (h1 κ hκ).2.2.1, (h2 κ hκ).2.2.2.1.trans (h1 κ hκ).2.2.2.1, (h2 κ hκ).2.2.2.2.trans (h1 κ hκ).2.2.2.2⟩
theorem FrG.sI {σ : ps_S} {κ i j : Nat} {v : Int32} (h : 1 ≤ κ ∧ κ ≤ 4) : FrG σ (ps_sI σ κ i j v) := fun a ha => by
  refine ⟨?_, rfl, rfl, rfl, rfl⟩
  funext b c
  rw [ps_I_sI]
  exact if_neg (fun z : a = κ ∧ b = i ∧ c = j => ha (by rw [z.1]; exact h))
theorem FrG.sR {σ : ps_S} {κ i j : Nat} {v : Option (Nat × Nat)} (h : 1 ≤ κ ∧ κ ≤ 4) : FrG σ (ps_sR σ κ i j v) := fun a ha => by
  refine ⟨rfl, rfl, ?_, rfl, rfl⟩
  funext b c
  rw [ps_R_sR]
  exact if_neg (fun z : a = κ ∧ b = i ∧ c = j => ha (by rw [z.1]; exact h))
theorem ps_sR_self (σ : ps_S) (κ i j : Nat) {v : Option (Nat × Nat)} (h : ps_R σ κ i j = v) : ps_sR σ κ i j v = σ := by
  have e : ps_up σ.2.2.1 κ i j v = σ.2.2.1 := by
    funext a b c
    by_cases hc : a = κ ∧ b = i
    · obtain ⟨rfl, rfl⟩ := hc
      rw [ps_up_self]
      by_cases h2 : c = j
      · subst h2
        rw [va_up_self]
        exact h.symm
      · rw [va_up_ne _ _ h2]
    · rw [ps_up_ne _ _ _ hc]
  show (σ.1, σ.2.1, ps_up σ.2.2.1 κ i j v, σ.2.2.2) = σ
  rw [e]
theorem ldrop {α : Type} {l : List α} {i : Nat} {x : α} (h : l[i]? = some x) : l.drop i = x :: l.drop (i + 1) := by
  obtain ⟨h1, h2⟩ := List.getElem?_eq_some_iff.mp h
  rw [List.drop_eq_getElem_cons h1, h2]
theorem lget {α : Type} {l : List α} {i : Nat} (h : i < l.length) : ∃ x, l[i]? = some x ∧ x ∈ l := ⟨l[i], List.getElem?_eq_getElem h, List.getElem_mem h⟩
theorem g_tv_lt (g : gT) (k : Nat) (h : gU g k < 2 ^ 31) : g_tv g k < 2 ^ 31 := by
  unfold g_tv
  split
  · decide
  · exact h
/-- how many of these inputs have an outcome -/
def g_cnt (g : gT) (c : Nat) : List Nat → Nat
  | [] => c
  | i :: r => g_cnt g (if gF g i 0 = 0 then c else c + 1) r
theorem g_cnt_eq (g : gT) : ∀ (l : List Nat) (c : Nat), (0 < g_cnt g c l ↔ 0 < c ∨ l.any (g_on g) = true) ∧ (g_cnt g c l = c + l.length ↔ l.all (g_on g) = true) ∧ g_cnt g c l ≤ c + l.length
  | [], c => by simp [g_cnt]
  | i :: r, c => by
    have ih := g_cnt_eq g r (if gF g i 0 = 0 then c else c + 1)
    rw [g_cnt]
    by_cases h : gF g i 0 = 0
    · rw [if_pos h] at ih ⊢
      have hon : g_on g i = false := by simp [g_on, h]
      refine ⟨by rw [ih.1]; simp [hon], ?_, by have := ih.2.2; simp; omega⟩
      simp [hon]
      have := ih.2.2
      omega
    · rw [if_neg h] at ih ⊢
      have hon : g_on g i = true := by simp [g_on, h]
      refine ⟨by rw [ih.1]; simp [hon], ?_, by have := ih.2.2; simp; omega⟩
      rw [List.all_cons, hon, Bool.true_and, ← ih.2.1]
      simp
      omega
