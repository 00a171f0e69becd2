/-! work, scopes, the start -/
theorem advp_post {σ σ' : ps_S} {g : gT} {r : Option ps_A} (h : (gP g = [] → r = some (ps_int 0) ∧ σ' = σ) ∧ (∀ k x, gP g = k :: x → r = some (ps_int 1) ∧ RC σ' (g_res (gsP g x) k) ∧ FrG σ σ' ∧ ps_N σ' = ps_N σ)) :
    r = some (ps_int (if gP g = [] then 0 else 1)) ∧ (gP g = [] → σ' = σ) ∧ (∀ k x, gP g = k :: x → RC σ' (g_res (gsP g x) k) ∧ FrG σ σ' ∧ ps_N σ' = ps_N σ) := by
  refine ⟨?_, fun z => (h.1 z).2, fun k x z => (h.2 k x z).2⟩
  cases hp : gP g with
  | nil => exact (h.1 hp).1
  | cons k x => exact (h.2 k x hp).1
theorem if01 {p : Prop} {h : Decidable p} (hz : (if p then (0 : Int32) else 1) = 0) : p := by
  by_cases hp : p
  · exact hp
  · rw [if_neg hp] at hz; exact absurd hz (by decide)
theorem if01n {p : Prop} {h : Decidable p} (hz : ¬ (if p then (0 : Int32) else 1) = 0) : ¬ p := fun hp => hz (if_pos hp)
theorem if10 {p : Prop} {h : Decidable p} (hz : (if p then (1 : Int32) else 0) = 0) : ¬ p := fun hp => by
  rw [if_pos hp] at hz; exact absurd hz (by decide)
theorem if10n {p : Prop} {h : Decidable p} (hz : ¬ (if p then (1 : Int32) else 0) = 0) : p := by
  by_cases hp : p
  · exact hp
  · exact absurd (if_neg hp) hz
def t_isO (t : tT) (s : Int32) : Prop := (¬ s < 0 ∧ s.toNatClampNeg < tN t) ∧ tS t s.toNatClampNeg 2 = 0
def x_jok (t : tT) (s : Int32) : Prop := t_isO t s ∧ ¬ t_opn t s.toNatClampNeg = true
def x_cok (t : tT) (s : Int32) : Prop := (¬ s < 0 ∧ s.toNatClampNeg < tN t) ∧ ¬ tS t s.toNatClampNeg 2 = 2
def x_bok (t : tT) (s k : Int32) : Prop := t_isO t s ∧ (¬ k < 0 ∧ k.toNatClampNeg < 4)
theorem fopn_none {t : tT} {s : Int32} (h : t_fopn t s = none) : ¬ t_isO t s := fun z => by
  rw [t_fopn, if_pos (show (¬ s < 0 ∧ s.toNatClampNeg < tN t) ∧ tS t s.toNatClampNeg 2 = 0 from z)] at h; cases h
theorem fopn_some {t : tT} {s : Int32} {q : Nat × Nat} (h : t_fopn t s = some q) : t_isO t s ∧ t_fopn t s = some (5, s.toNatClampNeg) := by
  by_cases z : (¬ s < 0 ∧ s.toNatClampNeg < tN t) ∧ tS t s.toNatClampNeg 2 = 0
  · exact ⟨z, if_pos z⟩
  · rw [t_fopn, if_neg z] at h; cases h
theorem find_none {t : tT} {s : Int32} (h : t_find t s = none) : ¬ (¬ s < 0 ∧ s.toNatClampNeg < tN t) := fun z => by
  rw [t_find, if_pos z] at h; cases h
theorem find_some {t : tT} {s : Int32} {q : Nat × Nat} (h : t_find t s = some q) : (¬ s < 0 ∧ s.toNatClampNeg < tN t) ∧ t_find t s = some (5, s.toNatClampNeg) := by
  by_cases z : ¬ s < 0 ∧ s.toNatClampNeg < tN t
  · exact ⟨z, if_pos z⟩
  · rw [t_find, if_neg z] at h; cases h
def t_0 : tT := ((0, fun _ _ => 0, fun _ => none, fun _ => 0, fun _ _ => 0, fun _ _ => 0), (0, fun _ _ => 0, fun _ => 0, fun _ => 0, 0, 0))
theorem cOK_0 : cOK t_0 g_0 := by
  refine ⟨⟨⟨by decide, ⟨Nat.le_refl _, fun k => ?_⟩, fun k hk => absurd hk (Nat.not_lt_zero k)⟩, fun k hk => absurd hk (Nat.not_lt_zero k), List.nodup_nil, fun k hk => by cases hk⟩, ⟨⟨by decide, by decide⟩, fun c hc => absurd hc (Nat.not_lt_zero c), fun c hc => absurd hc (Nat.not_lt_zero c), ⟨by decide, fun j => ?_⟩, fun c k => Or.inl rfl⟩, fun c hc => absurd hc (Nat.not_lt_zero c)⟩
  · show (0 : Nat) ≤ 96; decide
  · show (0 : Nat) ≤ 30; decide
def pp_1 (σ : ps_S) : ps_S := ps_sR (gr_init (ps_mk σ 1 0)) 0 0 0 (some (1, 0))
def pp_init (σ : ps_S) : ps_S := ps_sR (tr_init (ps_mk (pp_1 σ) 7 0)) 0 0 1 (some (7, 0))
theorem mkI (σ : ps_S) (κ len a b : Nat) : ps_I (ps_mk σ κ len) a b = if a = κ ∧ b = ps_N σ κ then fun _ => 0 else ps_I σ a b := rfl
theorem mkR (σ : ps_S) (κ len a b : Nat) : ps_R (ps_mk σ κ len) a b = if a = κ ∧ b = ps_N σ κ then fun _ => none else ps_R σ a b := rfl
theorem mkL (σ : ps_S) (κ len a b : Nat) : ps_L (ps_mk σ κ len) a b = if a = κ ∧ b = ps_N σ κ then len else ps_L σ a b := rfl
theorem mkN (σ : ps_S) (κ len a : Nat) : ps_N (ps_mk σ κ len) a = if a = κ then ps_N σ κ + 1 else ps_N σ a := rfl
set_option maxHeartbeats 4000000 in
theorem RP_init {σ : ps_S} (hz : ∀ κ, 1 ≤ κ → κ ≤ 11 → ps_N σ κ = 0) : RP (pp_init σ) t_0 g_0 := by
  have z1 := hz 1 (by decide) (by decide)
  have z2 := hz 2 (by decide) (by decide)
  have z3 := hz 3 (by decide) (by decide)
  have z4 := hz 4 (by decide) (by decide)
  have z5 := hz 5 (by decide) (by decide)
  have z6 := hz 6 (by decide) (by decide)
  have z7 := hz 7 (by decide) (by decide)
  have z8 := hz 8 (by decide) (by decide)
  have z9 := hz 9 (by decide) (by decide)
  have z10 := hz 10 (by decide) (by decide)
  have z11 := hz 11 (by decide) (by decide)
  refine ⟨⟨?_, ?_⟩, ⟨⟨?_, ?_, ?_, ?_, ?_, ?_, ?_, ?_, ?_⟩, fun k hk => absurd hk (Nat.not_lt_zero k), ⟨?_, ?_, by decide, ?_, 0, by decide, ?_, fun i k h => by cases h⟩, ⟨?_, ?_, by decide, ?_, 0, by decide, ?_, fun i k h => by cases h⟩⟩, ⟨⟨⟨?_, ?_, ?_, ?_, ?_, ?_, ?_, ?_⟩, ?_, ?_, ?_, ?_⟩, fun c hc => absurd hc (Nat.not_lt_zero c), fun c hc => absurd hc (Nat.not_lt_zero c)⟩, ?_⟩ <;>
    simp [pp_init, pp_1, tr_init, gr_init, gr_2, gr_1, q_init, ps_R_sR, ps_I_sR, ps_L_sR, ps_N_sR, mkI, mkR, mkL, mkN, z1, z2, z3, z4, z5, z6, z7, z8, z9, z10, z11, gN, gC, gL, gP, g_0, t_0, tN, uN, uC, uE, nI_0]
theorem FrC.sR0 {σ : ps_S} {j : Nat} {v : Option (Nat × Nat)} : ∀ κ, ¬ κ = 0 → ¬ (1 ≤ κ ∧ κ ≤ 11) → ps_R (ps_sR σ 0 0 j v) κ = ps_R σ κ := fun κ h _ => by
  funext b c
  exact ps_R_k σ h
