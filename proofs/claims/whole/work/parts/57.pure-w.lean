/-! The reference's scopes: below, look, running. -/
theorem bel_lt {pa : Nat → Option Nat} {n o : Nat} (hp : ∀ c, c < n → ∀ p, pa c = some p → p < c) : ∀ (m y : Nat), y < n → y < o → t_bel pa m (some y) o = false
  | 0, y, _, _ => rfl
  | m + 1, y, hy, hyo => by
    rw [t_bel, if_neg (by omega)]
    cases h : pa y with
    | none => exact t_bel_none pa o m
    | some z =>
      have := hp y hy z h
      exact bel_lt hp m z (by omega) (by omega)
def rk : Option Nat → Nat
  | none => 0
  | some y => y + 1
theorem nI_mul4 (y : Nat) : (4 : Int32) * nI y = nI (4 * y) := (Int32.ofNat_mul 4 y).symm
theorem m_opt_some {r : Option Nat} (h : ¬ m_opt r < 0) : ∃ y, r = some y := by
  cases r with
  | none => exact absurd (by decide) h
  | some y => exact ⟨y, rfl⟩
