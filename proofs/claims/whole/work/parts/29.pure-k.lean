/-! the first that ended; closing -/
theorem u_fst_s (t : tT) (c : Nat) (s : Int32) (m : Nat) : u_fst t c s (m + 1) = if uO t m = c ∧ uK t m 4 = s then (match u_fst t c s m with
      | none => some m
      | some b => if uT t m < uT t b then some m else some b) else u_fst t c s m := rfl
theorem fst_neg {t : tT} {c m : Nat} {s : Int32} (h : ¬ (uO t m = c ∧ uK t m 4 = s)) : u_fst t c s (m + 1) = u_fst t c s m := by rw [u_fst_s, if_neg h]
theorem fst_none {t : tT} {c m : Nat} {s : Int32} (h : uO t m = c ∧ uK t m 4 = s) (hf : u_fst t c s m = none) : u_fst t c s (m + 1) = some m := by rw [u_fst_s, if_pos h, hf]
theorem fst_lt {t : tT} {c m b : Nat} {s : Int32} (h : uO t m = c ∧ uK t m 4 = s) (hf : u_fst t c s m = some b) (hl : uT t m < uT t b) : u_fst t c s (m + 1) = some m := by
  rw [u_fst_s, if_pos h, hf]
  exact if_pos hl
theorem fst_ge {t : tT} {c m b : Nat} {s : Int32} (h : uO t m = c ∧ uK t m 4 = s) (hf : u_fst t c s m = some b) (hl : ¬ uT t m < uT t b) : u_fst t c s (m + 1) = some b := by
  rw [u_fst_s, if_pos h, hf]
  exact if_neg hl
theorem t_clN_s (x : tT × gT) (m : Nat) : t_clN x (m + 1) = t_clN (t_cl1 x m) m := rfl
theorem tW.mk {t : tT} {po d : Int32} {p : Option Nat} {r : Nat} (h : tW t) (hn : tN t < 12) (hp : ∀ c, p = some c → c < tN t) : tW (t_mk t p po d r) := by
  refine ⟨⟨hn, h.1.2⟩, fun c hc q hq => ?_, fun j hj => Nat.lt_succ_of_lt (h.2.2.1 j hj), h.2.2.2.1, fun c k => ?_⟩
  · have hq' : va_up (tP t) (tN t) p c = some q := hq
    have hc' : c < tN t + 1 := hc
    by_cases hcn : c = tN t
    · subst hcn
      rw [va_up_self] at hq'
      exact hp q hq'
    · rw [va_up_ne _ _ hcn] at hq'
      exact h.2.1 c (by omega) q hq'
  · show (if c = tN t then (fun _ => 0) else tB t c) k = 0 ∨ (if c = tN t then (fun _ => 0) else tB t c) k = 1
    split
    · exact Or.inl rfl
    · exact h.2.2.2.2 c k
theorem tW.mkk {t : tT} {co fn a : Int32} {c : Nat} (h : tW t) (hn : uN t < 30) (hc : c < tN t) : tW (u_mk t c co fn a) := by
  refine ⟨⟨h.1.1, hn⟩, h.2.1, fun j hj => ?_, ⟨?_, fun j => ?_⟩, h.2.2.2.2⟩
  · have hj' : j < uN t + 1 := hj
    show va_up (uO t) (uN t) c j < tN t
    by_cases hjn : j = uN t
    · subst hjn; rw [va_up_self]; exact hc
    · rw [va_up_ne _ _ hjn]; exact h.2.2.1 j (by omega)
  · show uE t + (sumN (u_run (u_mk t c co fn a)) (uN t) + u_run (u_mk t c co fn a) (uN t)) ≤ uN t + 1
    have h1 : sumN (u_run (u_mk t c co fn a)) (uN t) = sumN (u_run t) (uN t) := sumN_congr _ (fun k hk => by unfold u_run; rw [uK_mk t c co fn a (by omega)])
    have h2 : u_run (u_mk t c co fn a) (uN t) ≤ 1 := by unfold u_run; split <;> omega
    have := h.2.2.2.1.1
    omega
  · show va_up (uT t) (uN t) 0 j ≤ 30
    by_cases hjn : j = uN t
    · subst hjn; rw [va_up_self]; omega
    · rw [va_up_ne _ _ hjn]; exact h.2.2.2.1.2 j
theorem sc_L8 (σ : ps_S) (n : Nat) (nu po e : Int32) (p r : Option (Nat × Nat)) : ps_L (sc_init (ps_mk σ 5 0) n nu po e p r) 8 0 = ps_L σ 8 0 := rfl
