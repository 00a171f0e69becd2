/-! Scopes and tasks as a mathematical value. -/
/-- scopes: how many; (policy, effective deadline, state, stopped, late, own deadline) of each; parents; results; values; binds. tasks: how many; (cost, function, a, x, state, worked, content) of each; owners; turns; how many ended; the time -/
abbrev tT : Type := (Nat × (Nat → Nat → Int32) × (Nat → Option Nat) × (Nat → Nat) × (Nat → Nat → Int32) × (Nat → Nat → Int32)) × (Nat × (Nat → Nat → Int32) × (Nat → Nat) × (Nat → Nat) × Nat × Int32)
def tN (t : tT) : Nat := t.1.1
def tS (t : tT) : Nat → Nat → Int32 := t.1.2.1
def tP (t : tT) : Nat → Option Nat := t.1.2.2.1
def tR (t : tT) : Nat → Nat := t.1.2.2.2.1
def tV (t : tT) : Nat → Nat → Int32 := t.1.2.2.2.2.1
def tB (t : tT) : Nat → Nat → Int32 := t.1.2.2.2.2.2
def uN (t : tT) : Nat := t.2.1
def uK (t : tT) : Nat → Nat → Int32 := t.2.2.1
def uO (t : tT) : Nat → Nat := t.2.2.2.1
def uT (t : tT) : Nat → Nat := t.2.2.2.2.1
def uE (t : tT) : Nat := t.2.2.2.2.2.1
def uC (t : tT) : Int32 := t.2.2.2.2.2.2
def f2 (f : Nat → Nat → Int32) (a b : Nat) (v : Int32) : Nat → Nat → Int32 := fun x => if x = a then va_up (f x) b v else f x
theorem f2_eq (f : Nat → Nat → Int32) (a b : Nat) (v : Int32) (x y : Nat) : f2 f a b v x y = if x = a ∧ y = b then v else f x y := by
  unfold f2
  by_cases h : x = a
  · rw [if_pos h]
    by_cases h2 : y = b
    · rw [if_pos ⟨h, h2⟩, h2, va_up_self]
    · rw [va_up_ne _ _ h2, if_neg (fun z => h2 z.2)]
  · rw [if_neg h, if_neg (fun z => h z.1)]
def tsS (t : tT) (c f : Nat) (v : Int32) : tT := ((t.1.1, f2 (tS t) c f v, t.1.2.2), t.2)
def tsV (t : tT) (c k : Nat) (v : Int32) : tT := ((t.1.1, t.1.2.1, t.1.2.2.1, t.1.2.2.2.1, f2 (tV t) c k v, f2 (tB t) c k 1), t.2)
def usK (t : tT) (j f : Nat) (v : Int32) : tT := (t.1, (t.2.1, f2 (uK t) j f v, t.2.2.2))
def usC (t : tT) (v : Int32) : tT := (t.1, (t.2.1, t.2.2.1, t.2.2.2.1, t.2.2.2.2.1, t.2.2.2.2.2.1, v))
/-- a task's turn -/
def usE (t : tT) (j : Nat) : tT := (t.1, (t.2.1, t.2.2.1, t.2.2.2.1, va_up (uT t) j (uE t), uE t + 1, t.2.2.2.2.2.2))
def t_bel (pa : Nat → Option Nat) : Nat → Option Nat → Nat → Bool
  | 0, _, _ => false
  | _ + 1, none, _ => false
  | m + 1, some x, c => if x = c then true else t_bel pa m (pa x) c
def t_low (t : tT) (i c : Nat) : Bool := t_bel (tP t) (tN t) (tP t i) c
def t_lk (t : tT) : Nat → Option Nat → Nat → Int32
  | 0, _, _ => 0
  | _ + 1, none, _ => 0
  | m + 1, some x, k => if tB t x k = 0 then t_lk t m (tP t x) k else tV t x k
def t_look (t : tT) (c k : Nat) : Int32 := t_lk t (tN t) (some c) k
def u_cnt (t : tT) (c : Nat) (s : Int32) : Nat → Nat
  | 0 => 0
  | m + 1 => u_cnt t c s m + (if uO t m = c ∧ uK t m 4 = s then 1 else 0)
def anyN (p : Nat → Bool) : Nat → Bool
  | 0 => false
  | m + 1 => anyN p m || p m
theorem anyN_t {p : Nat → Bool} {i : Nat} (h : p i = true) : ∀ n, i < n → anyN p n = true
  | 0, hi => by omega
  | n + 1, hi => by
    rw [anyN]
    by_cases hn : i = n
    · rw [← hn, h, Bool.or_true]
    · rw [anyN_t h n (by omega), Bool.true_or]
/-- the running tasks of a scope are cancelled: of the first m -/
def u_can (t : tT) (c : Nat) : Nat → tT
  | 0 => t
  | m + 1 => if uO (u_can t c m) m = c ∧ uK (u_can t c m) m 4 = 0 then usK (u_can t c m) m 4 3 else u_can t c m
def t_st1 (t : tT) (c i : Nat) : tT := if i = c ∨ (¬ tS t i 2 = 2 ∧ t_low t i c = true) then u_can (tsS t i 3 1) i (uN t) else t
def t_stN (t : tT) (c : Nat) : Nat → tT
  | 0 => t
  | m + 1 => t_st1 (t_stN t c m) c m
def t_stop (t : tT) (c : Nat) : tT := t_stN t c (tN t)
def t_past (t : tT) (c : Nat) : Bool := !decide (tS t c 1 = -1) && decide (tS t c 1 ≤ uC t)
def t_la1 (t : tT) (i : Nat) : tT := if ¬ tS t i 2 = 2 ∧ t_past t i = true then t_stop (tsS t i 4 1) i else t
def t_laN (t : tT) : Nat → tT
  | 0 => t
  | m + 1 => t_la1 (t_laN t m) m
def t_late (t : tT) : tT := t_laN t (tN t)
/-- a task works once -/
def u_thr (t : tT) (j : Nat) : Int32 := fn_thr (uK t j 1) (uK t j 2) (uK t j 3)
def u_wk (t : tT) (j : Nat) : tT := if uK t j 5 + 1 < uK t j 0 then usK t j 5 (uK t j 5 + 1) else usK (usK (usK t j 5 (uK t j 5 + 1)) j 4 (if u_thr t j = 0 then 1 else 2)) j 6 (if u_thr t j = 0 then fn_mk (uK t j 1) (uK t j 2) (uK t j 3) else u_thr t j)
def t_by (t : tT) (j : Nat) : Bool := (decide (tS t (uO t j) 0 = 1) && decide (uK t j 4 = 2)) || (decide (tS t (uO t j) 0 = 2) && decide (uK t j 4 = 1))
def u_end (t : tT) (j : Nat) : tT := if t_by (usE t j) j = true then t_stop (usE t j) (uO t j) else usE t j
def u_ps1 (t : tT) (j : Nat) : tT := if uK t j 4 = 0 then (if uK (u_wk t j) j 4 = 0 then u_wk t j else u_end (u_wk t j) j) else t
def u_psN (t : tT) : Nat → tT
  | 0 => t
  | m + 1 => u_ps1 (u_psN t m) m
/-- how many tasks end -/
def u_pc1 (t : tT) (j : Nat) : Nat := if uK t j 4 = 0 then (if uK (u_wk t j) j 4 = 0 then 0 else 1) else 0
def u_pcN (t : tT) : Nat → Nat
  | 0 => 0
  | m + 1 => u_pcN t m + u_pc1 (u_psN t m) m
def t_tick (t : tT) : tT := t_late (usC t (uC t + 1))
def t_pass (t : tT) : tT := u_psN (t_tick t) (uN t)
/-- the first task of a scope that ended so: of the first m -/
def u_fst (t : tT) (c : Nat) (s : Int32) : Nat → Option Nat
  | 0 => none
  | m + 1 => if uO t m = c ∧ uK t m 4 = s then (match u_fst t c s m with
      | none => some m
      | some b => if uT t m < uT t b then some m else some b) else u_fst t c s m
def u_sum (t : tT) (c : Nat) : Nat → Int32
  | 0 => 0
  | m + 1 => if uO t m = c ∧ uK t m 4 = 1 then u_sum t c m + uK t m 6 else u_sum t c m
def t_ok (t : tT) (c : Nat) : Bool := if tS t c 0 = 2 then decide (0 < u_cnt t c 1 (uN t)) else decide (u_cnt t c 2 (uN t) = 0) && decide (u_cnt t c 3 (uN t) = 0)
def u_val (t : tT) (r : Option Nat) : Int32 := match r with
  | none => 0
  | some j => uK t j 6
def t_val (t : tT) (c : Nat) : Int32 := if tS t c 0 = 2 then u_val t (u_fst t c 1 (uN t)) else u_sum t c (uN t)
/-- what a scope's result becomes -/
def t_out (t : tT) (c : Nat) : Int32 × Int32 := if tS t c 4 = 0 then (if t_ok t c = true then (1, t_val t c) else (2, u_val t (u_fst t c 2 (uN t)))) else (2, 7)
def t_unc (t : tT) (c : Nat) : Bool := anyN (fun i => !decide (tS t i 2 = 2) && t_low t i c) (tN t)
def t_opn (t : tT) (c : Nat) : Bool := anyN (fun i => decide (tS t i 2 = 0) && t_low t i c) (tN t)
def t_can (t : tT) (c : Nat) : Bool := decide (tS t c 2 = 1) && decide (u_cnt t c 0 (uN t) = 0) && !(t_unc t c)
def t_give (t : tT) (g : gT) (c : Nat) : gT := if gF g (tR t c) 0 = 0 then g_give g (tR t c) (t_out t c).1 (t_out t c).2 else g
def t_cl1 (x : tT × gT) (c : Nat) : tT × gT := if t_can x.1 c = true then (tsS x.1 c 2 2, t_give (tsS x.1 c 2 2) x.2 c) else x
/-- scopes are closed from above: those from m - 1 down to 0 -/
def t_clN (x : tT × gT) : Nat → tT × gT
  | 0 => x
  | m + 1 => t_clN (t_cl1 x m) m
def t_close (x : tT × gT) : tT × gT := t_clN x (tN x.1)
/-- a deadline as it counts -/
def t_eff (t : tT) (p : Option Nat) (d : Int32) : Int32 := match p with
  | none => if 0 ≤ d then d else -1
  | some c => if tS t c 1 = -1 then (if 0 ≤ d then d else -1) else (if 0 ≤ d then (if tS t c 1 < d then tS t c 1 else d) else tS t c 1)
def t_mk (t : tT) (p : Option Nat) (po d : Int32) (r : Nat) : tT :=
  ((tN t + 1, fun x => if x = tN t then (fun f => if f = 0 then po else if f = 1 then t_eff t p d else if f = 5 then (if 0 ≤ d then d else -1) else 0) else tS t x, va_up (tP t) (tN t) p, va_up (tR t) (tN t) r, fun x => if x = tN t then (fun _ => 0) else tV t x, fun x => if x = tN t then (fun _ => 0) else tB t x), t.2)
def u_mk (t : tT) (c : Nat) (co fn a : Int32) : tT :=
  (t.1, (uN t + 1, fun x => if x = uN t then (fun f => if f = 0 then co else if f = 1 then fn else if f = 2 then a else if f = 3 then t_look t c 0 else if f = 4 then (if tS t c 3 = 0 then 0 else 3) else 0) else uK t x, va_up (uO t) (uN t) c, va_up (uT t) (uN t) 0, t.2.2.2.2.2))
/-! The class's scopes and tasks in the store. -/
def RTs (σ : ps_S) (t : tT) (c : Nat) : Prop :=
  (ps_R σ 8 0 c = some (5, c) ∧ ps_I σ 5 c 0 = nI c ∧ ps_R σ 5 c 1 = (tP t c).map (fun p => (5, p)) ∧ ps_I σ 5 c 2 = tS t c 0 ∧ ps_I σ 5 c 3 = tS t c 1 ∧ ps_R σ 5 c 4 = some (3, tR t c)) ∧
  (ps_R σ 5 c 5 = some (10, c) ∧ ps_R σ 5 c 6 = some (11, c) ∧ ps_L σ 10 c = 4 ∧ ps_L σ 11 c = 4 ∧ (∀ k, k < 4 → ps_I σ 10 c k = tV t c k ∧ ps_I σ 11 c k = tB t c k)) ∧
  ps_I σ 5 c 7 = tS t c 2 ∧ ps_I σ 5 c 8 = tS t c 3 ∧ ps_I σ 5 c 9 = tS t c 4
def RTk (σ : ps_S) (t : tT) (j : Nat) : Prop :=
  (ps_R σ 9 0 j = some (6, j) ∧ ps_R σ 6 j 0 = some (5, uO t j) ∧ ps_I σ 6 j 1 = uK t j 0 ∧ ps_I σ 6 j 2 = uK t j 1 ∧ ps_I σ 6 j 3 = uK t j 2 ∧ ps_I σ 6 j 4 = uK t j 3) ∧
  ps_I σ 6 j 5 = uK t j 4 ∧ ps_I σ 6 j 6 = uK t j 5 ∧ ps_I σ 6 j 7 = uK t j 6 ∧ ps_I σ 6 j 8 = nI (uT t j)
def RT0 (σ : ps_S) (t : tT) : Prop :=
  (ps_R σ 7 0 0 = some (8, 0) ∧ ps_R σ 7 0 1 = some (9, 0) ∧ ps_L σ 8 0 = 12 ∧ ps_L σ 9 0 = 30 ∧ ps_N σ 5 = tN t ∧ ps_N σ 6 = uN t ∧ ps_N σ 10 = tN t ∧ ps_N σ 11 = tN t) ∧
  ps_I σ 7 0 2 = nI (tN t) ∧ ps_I σ 7 0 3 = nI (uN t) ∧ ps_I σ 7 0 4 = uC t ∧ ps_I σ 7 0 5 = nI (uE t)
def RT (σ : ps_S) (t : tT) : Prop := RT0 σ t ∧ (∀ c, c < tN t → RTs σ t c) ∧ ∀ j, j < uN t → RTk σ t j
def u_run (t : tT) (j : Nat) : Nat := if uK t j 4 = 0 then 1 else 0
def tW (t : tT) : Prop := (tN t ≤ 12 ∧ uN t ≤ 30) ∧ (∀ c, c < tN t → ∀ p, tP t c = some p → p < c) ∧ (∀ j, j < uN t → uO t j < tN t) ∧ (uE t + sumN (u_run t) (uN t) ≤ uN t ∧ ∀ j, uT t j ≤ 30) ∧ (∀ c k, tB t c k = 0 ∨ tB t c k = 1)
/-- all but the kinds of the tree is as it was -/
def FrT (σ σ' : ps_S) : Prop := ∀ κ, ¬ (5 ≤ κ ∧ κ ≤ 11) → ps_I σ' κ = ps_I σ κ ∧ ps_J σ' κ = ps_J σ κ ∧ ps_R σ' κ = ps_R σ κ ∧ ps_L σ' κ = ps_L σ κ ∧ ps_N σ' κ = ps_N σ κ
theorem FrT.rf (σ : ps_S) : FrT σ σ := fun _ _ => ⟨rfl, rfl, rfl, rfl, rfl⟩
theorem FrT.tr {a b c : ps_S} (h1 : FrT a b) (h2 : FrT b c) : FrT a c := fun κ hκ =>
  ⟨(h2 κ hκ).1.trans (h1 κ hκ).1, (h2 κ hκ).2.1.trans (h1 κ hκ).2.1, (h2 κ hκ).2.2.1.trans (h1 κ hκ).2.2.1, (h2 κ hκ).2.2.2.1.trans (h1 κ hκ).2.2.2.1, (h2 κ hκ).2.2.2.2.trans (h1 κ hκ).2.2.2.2⟩
theorem FrT.sI {σ : ps_S} {κ i j : Nat} {v : Int32} (h : 5 ≤ κ ∧ κ ≤ 11) : FrT σ (ps_sI σ κ i j v) := fun a ha => by
  refine ⟨?_, rfl, rfl, rfl, rfl⟩
  funext b c
  rw [ps_I_sI]
  exact if_neg (fun z : a = κ ∧ b = i ∧ c = j => ha (by rw [z.1]; exact h))
theorem FrT.sR {σ : ps_S} {κ i j : Nat} {v : Option (Nat × Nat)} (h : 5 ≤ κ ∧ κ ≤ 11) : FrT σ (ps_sR σ κ i j v) := fun a ha => by
  refine ⟨rfl, rfl, ?_, rfl, rfl⟩
  funext b c
  rw [ps_R_sR]
  exact if_neg (fun z : a = κ ∧ b = i ∧ c = j => ha (by rw [z.1]; exact h))
theorem FrT.mk {σ : ps_S} {κ len : Nat} (h : 5 ≤ κ ∧ κ ≤ 11) : FrT σ (ps_mk σ κ len) := fun a ha => by
  have hne : a ≠ κ := fun z => ha (z ▸ h)
  refine ⟨?_, ?_, ?_, ?_, mk_N σ hne⟩
  · funext b; exact mk_I σ (fun z => hne z.1)
  · funext b; exact mk_J σ (fun z => hne z.1)
  · funext b; exact mk_R σ (fun z => hne z.1)
  · funext b; exact mk_L σ (fun z => hne z.1)
/-- the graph doesn't mind the tree, nor the tree the graph -/
theorem RC.fr {σ τ : ps_S} {g : gT} (h : RC σ g) (hf : FrT σ τ) : RC τ g := by
  have q := fun κ (hκ : κ ≤ 4) => hf κ (by omega)
  refine h.same ⟨fun κ i j hc => ?_, fun i _ => ?_, fun κ hκ => (q κ (by omega)).2.2.2.2⟩
  · have hκ : κ ≤ 4 := by rcases hc with z | z <;> omega
    exact ⟨congrFun (congrFun (q κ hκ).1 i) j, congrFun (congrFun (q κ hκ).2.2.1 i) j⟩
  · exact ⟨congrFun (q 4 (by omega)).2.2.2.1 i, fun j _ _ => congrFun (congrFun (q 4 (by omega)).2.2.1 i) j, fun _ j => congrFun (congrFun (q 4 (by omega)).2.2.1 i) j⟩
theorem RT.fr {σ τ : ps_S} {t : tT} (h : RT σ t) (hf : FrG σ τ) : RT τ t := by
  have qI := fun κ (hκ : ¬ (1 ≤ κ ∧ κ ≤ 4)) i j => congrFun (congrFun (hf κ hκ).1 i) j
  have qR := fun κ (hκ : ¬ (1 ≤ κ ∧ κ ≤ 4)) i j => congrFun (congrFun (hf κ hκ).2.2.1 i) j
  have qL := fun κ (hκ : ¬ (1 ≤ κ ∧ κ ≤ 4)) i => congrFun (hf κ hκ).2.2.2.1 i
  have qN := fun κ (hκ : ¬ (1 ≤ κ ∧ κ ≤ 4)) => (hf κ hκ).2.2.2.2
  unfold RT RT0 RTs RTk at h ⊢
  simp only [qI 7 (by decide), qR 7 (by decide), qL 8 (by decide), qL 9 (by decide), qN 5 (by decide), qN 6 (by decide), qN 10 (by decide), qN 11 (by decide), qR 8 (by decide), qR 9 (by decide), qI 5 (by decide), qR 5 (by decide), qL 10 (by decide), qL 11 (by decide), qI 10 (by decide), qI 11 (by decide), qR 6 (by decide), qI 6 (by decide)]
  exact h
