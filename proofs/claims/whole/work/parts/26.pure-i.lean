/-! branches of the tree's walks -/
theorem past_of {t : tT} {i : Nat} (h : t_past t i = true) : ¬ tS t i 1 = -1 ∧ tS t i 1 ≤ uC t := by
  simpa [t_past] using h
theorem of_past {t : tT} {i : Nat} (h : ¬ tS t i 1 = -1 ∧ tS t i 1 ≤ uC t) : t_past t i = true := by
  simpa [t_past] using h
theorem by_of {t : tT} {j : Nat} : t_by t j = true ↔ (tS t (uO t j) 0 = 1 ∧ uK t j 4 = 2) ∨ (tS t (uO t j) 0 = 2 ∧ uK t j 4 = 1) := by
  simp [t_by]
theorem nI_0iff {n : Nat} (h : n < 2 ^ 31) : nI n = 0 ↔ n = 0 := nI_eq (b := 0) h (by decide)
