/-! calls that throw -/
def a_st (g : gT) (s : Int32) : Prop := ¬ s < 0 ∧ s.toNatClampNeg < gN g
theorem RP.gm {σ σ' : ps_S} {t : tT} {g g' : gT} (h : RP σ t g) (hR : RC σ' g') (hf : FrG σ σ') (hN : ps_N σ' 4 = ps_N σ 4 + 1) (hn : gN g' = gN g + 1) : RP σ' t g' :=
  ⟨⟨(congrFun (congrFun (hf 0 (by decide)).2.2.1 0) 0).trans h.1.1, (congrFun (congrFun (hf 0 (by decide)).2.2.1 0) 1).trans h.1.2⟩, hR, h.2.2.1.fr hf, by rw [hN, hn, h.2.2.2]; omega⟩
def g_new (g : gT) (kd fn a as : Int32) (ins : List Nat) : gT := g_scan (g_mk g kd fn a as ins)
theorem gN_new (g : gT) (kd fn a as : Int32) (ins : List Nat) : gN (g_new g kd fn a as ins) = gN g + 1 := (gSame.scan _).1
theorem gN_lt1 (g : gT) (kd fn a as : Int32) (ins : List Nat) : gN g < gN (g_new g kd fn a as ins) := by rw [gN_new]; omega
theorem new_src {σ σ' : ps_S} (h : ps_N σ' = ps_N (ps_mk (ps_mk σ 4 0) 3 0)) : ps_N σ' 4 = ps_N σ 4 + 1 := by
  rw [h, mk_N _ (by decide), mk_N1]
theorem new_one {σ σ' : ps_S} {b j : Nat} {v : Option (Nat × Nat)} (h : ps_N σ' = ps_N (ps_mk (ps_sR (ps_mk σ 4 1) 4 b j v) 3 0)) : ps_N σ' 4 = ps_N σ 4 + 1 := by
  rw [h, mk_N _ (by decide), ps_N_sR, mk_N1]
theorem new_two {σ σ' : ps_S} {b j c i : Nat} {v w : Option (Nat × Nat)} (h : ps_N σ' = ps_N (ps_mk (ps_sR (ps_sR (ps_mk σ 4 2) 4 b j v) 4 c i w) 3 0)) : ps_N σ' 4 = ps_N σ 4 + 1 := by
  rw [h, mk_N _ (by decide), ps_N_sR, ps_N_sR, mk_N1]
theorem one_L {σ : ps_S} {n b j : Nat} {v : Option (Nat × Nat)} (h : ps_N σ 4 = n) : ps_L (ps_sR (ps_mk σ 4 1) 4 b j v) 4 n = 1 := by
  rw [ps_L_sR, ← h, mk_L1]
theorem two_L {σ : ps_S} {n b j c i : Nat} {v w : Option (Nat × Nat)} (h : ps_N σ 4 = n) : ps_L (ps_sR (ps_sR (ps_mk σ 4 2) 4 b j v) 4 c i w) 4 n = 2 := by
  rw [ps_L_sR, ps_L_sR, ← h, mk_L1]
theorem one_I {σ : ps_S} {n s : Nat} : ∀ j i, [s][j]? = some i → ps_R (ps_sR (ps_mk σ 4 1) 4 n 0 (some (3, s))) 4 n j = some (3, i) := by
  intro j i h
  match j, h with
  | 0, h => cases h; exact ps_R_eq _ _ _ _ _
theorem two_I {σ : ps_S} {n s t : Nat} : ∀ j i, [s, t][j]? = some i → ps_R (ps_sR (ps_sR (ps_mk σ 4 2) 4 n 0 (some (3, s))) 4 n 1 (some (3, t))) 4 n j = some (3, i) := by
  intro j i h
  match j, h with
  | 0, h =>
    cases h
    rw [ps_R_f _ _ (by decide)]
    exact ps_R_eq _ _ _ _ _
  | 1, h => cases h; exact ps_R_eq _ _ _ _ _
theorem le_imp5 {k : Int32} (h : ¬ 4 < k) (z : k = 5) : (1 : Nat) < 1 := absurd (by rw [z]; decide) h
def a_then (g : gT) (s k f : Int32) : Prop := a_st g s ∧ ¬ k < 0 ∧ ¬ 4 < k ∧ ¬ fn_has f = 0
def a_opn (t : tT) (s po : Int32) : Prop := (s = -1 ∨ t_isO t s) ∧ ¬ po < 0 ∧ po ≤ 2
def t_par (t : tT) (s : Int32) : Option Nat := if ¬ s < 0 ∧ s.toNatClampNeg < tN t then some s.toNatClampNeg else none
theorem find_par (t : tT) (s : Int32) : t_find t s = (t_par t s).map (fun c => (5, c)) := by
  unfold t_find t_par
  split <;> rfl
theorem par_lt {t : tT} {s : Int32} : ∀ c, t_par t s = some c → c < tN t := by
  intro c h
  unfold t_par at h
  split at h
  next hc => cases h; exact hc.2
  next => cases h
def tk_cost (x : Int32) : Int32 := if x < 1 then 0 else if 50 < x then 0 else 1
def a_frk (t : tT) (s co f : Int32) : Prop := t_isO t s ∧ ¬ tk_cost co = 0 ∧ ¬ fn_has f = 0
def a_bnd (t : tT) (s k : Int32) : Prop := (¬ s < 0 ∧ s.toNatClampNeg < tN t) ∧ (¬ k < 0 ∧ k.toNatClampNeg < 4)
def a_both (g : gT) (s t k f : Int32) : Prop := a_st g s ∧ a_st g t ∧ ¬ k < 5 ∧ ¬ 6 < k ∧ ¬ fn_has f = 0
