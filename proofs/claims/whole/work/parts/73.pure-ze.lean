/-! The reference: closing. -/
theorem bel_gt {pa : Nat → Option Nat} {n o : Nat} (hp : ∀ c, c < n → ∀ p, pa c = some p → p < c) : ∀ (m : Nat) (r : Option Nat), (∀ y, r = some y → y < n) → t_bel pa m r o = true → ∃ y, r = some y ∧ o ≤ y
  | 0, _, _, h => by cases h
  | m + 1, none, _, h => by cases h
  | m + 1, some y, hy, h => by
    rw [t_bel] at h
    split at h
    next e => exact ⟨y, rfl, by omega⟩
    next =>
      obtain ⟨z, hz, hoz⟩ := bel_gt hp m (pa y) (fun z hz => by have := hp y (hy y rfl) z hz; have := hy y rfl; omega) h
      have := hp y (hy y rfl) z hz
      exact ⟨y, rfl, by omega⟩
theorem low_gt {t : tT} {i c : Nat} (hW : tW t) (hi : i < tN t) (h : t_low t i c = true) : c < i := by
  obtain ⟨y, hy, hcy⟩ := bel_gt (pa := tP t) (n := tN t) hW.2.1 _ _ (fun y hy => by have := hW.2.1 i hi y hy; omega) h
  have := hW.2.1 i hi y hy
  omega
theorem any_low {t : tT} {c : Nat} (hW : tW t) (q : Nat → Bool) : ∀ m, m ≤ c + 1 → m ≤ tN t → anyN (fun i => q i && t_low t i c) m = false
  | 0, _, _ => rfl
  | m + 1, h1, h2 => by
    rw [anyN, any_low hW q m (by omega) (by omega)]
    cases hl : t_low t m c with
    | false => simp [hl]
    | true =>
      have := low_gt hW (by omega) hl
      omega
theorem nI_m1s (c : Nat) : nI (c + 1) - 1 = nI c := by
  rw [← nI_1, Int32.sub_eq_add_neg, Int32.add_assoc]
  exact Int32.add_zero _
