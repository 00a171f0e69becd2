/-! The reference: the earliest input, the sum, what one input makes. -/
def m_e (g : gT) (x : Nat) : Nat → Option Nat
  | 0 => none
  | i + 1 => if x.testBit i = true ∧ g_on g i = true then (match m_e g x i with
      | none => some i
      | some b => if gU g i < gU g b then some i else some b) else m_e g x i
theorem m_e_lt (g : gT) (x : Nat) : ∀ i b, m_e g x i = some b → b < i ∧ g_on g b = true
  | 0, b, h => by cases h
  | i + 1, b, h => by
    rw [m_e] at h
    split at h
    next hc =>
      split at h
      next => cases h; exact ⟨Nat.lt_succ_self _, hc.2⟩
      next b' hb =>
        split at h
        · cases h; exact ⟨Nat.lt_succ_self _, hc.2⟩
        · cases h
          have := m_e_lt g x i b hb
          exact ⟨by omega, this.2⟩
    next =>
      have := m_e_lt g x i b h
      exact ⟨by omega, this.2⟩
theorem m_e_no {g : gT} {x i : Nat} (h : ¬ (x.testBit i = true ∧ g_on g i = true)) : m_e g x (i + 1) = m_e g x i := by rw [m_e, if_neg h]
theorem m_e_none {g : gT} {x i : Nat} (h : x.testBit i = true ∧ g_on g i = true) (he : m_e g x i = none) : m_e g x (i + 1) = some i := by rw [m_e, if_pos h, he]
theorem m_e_lo {g : gT} {x i b : Nat} (h : x.testBit i = true ∧ g_on g i = true) (he : m_e g x i = some b) (hl : gU g i < gU g b) : m_e g x (i + 1) = some i := by
  rw [m_e, if_pos h, he]
  exact if_pos hl
theorem m_e_hi {g : gT} {x i b : Nat} (h : x.testBit i = true ∧ g_on g i = true) (he : m_e g x i = some b) (hl : ¬ gU g i < gU g b) : m_e g x (i + 1) = some b := by
  rw [m_e, if_pos h, he]
  exact if_neg hl
theorem g_sum_app (g : gT) : ∀ (l1 l2 : List Nat) (y z : Int32), g_sum g y l1 = (1, z) → g_sum g y (l1 ++ l2) = g_sum g z l2
  | [], l2, y, z, h => by
    rw [g_sum] at h
    cases h
    rfl
  | i :: r, l2, y, z, h => by
    rw [g_sum] at h
    rw [List.cons_append, g_sum]
    by_cases h1 : gF g i 0 = 1
    · rw [if_pos h1] at h ⊢
      exact g_sum_app g r l2 _ z h
    · rw [if_neg h1] at h
      unfold g_fol at h
      rw [if_neg h1] at h
      exact absurd (Prod.mk.inj h).1 (by decide)
theorem l_set_pre (x m : Nat) : ∀ d, ∃ r, l_set x (m + d) = l_set x m ++ r
  | 0 => ⟨[], (List.append_nil _).symm⟩
  | d + 1 => by
    obtain ⟨r, hr⟩ := l_set_pre x m d
    rw [← Nat.add_assoc, l_set]
    split
    · exact ⟨r ++ [m + d], by rw [hr, List.append_assoc]⟩
    · exact ⟨r, hr⟩
theorem g_sum_stop {g : gT} {x i n : Nat} {acc : Int32} (hs : g_sum g 0 (l_set x i) = (1, acc)) (hb : x.testBit i = true) (h1 : ¬ gF g i 0 = 1) (hi : i < n) : g_sum g 0 (l_set x n) = g_fol g i := by
  obtain ⟨r, hr⟩ := l_set_pre x (i + 1) (n - (i + 1))
  rw [show i + 1 + (n - (i + 1)) = n by omega, l_set, if_pos hb, List.append_assoc] at hr
  rw [hr, g_sum_app g _ _ 0 acc hs, List.singleton_append, g_sum, if_neg h1]
theorem g_sum_one {g : gT} {x i : Nat} {acc : Int32} (hs : g_sum g 0 (l_set x i) = (1, acc)) (hb : x.testBit i = true) (h1 : gF g i 0 = 1) : g_sum g 0 (l_set x (i + 1)) = (1, acc + gF g i 1) := by
  rw [l_set, if_pos hb, g_sum_app g _ _ 0 acc hs, g_sum, if_pos h1]
  rfl
theorem g_sum_no {g : gT} {x i : Nat} {acc : Int32} (hs : g_sum g 0 (l_set x i) = (1, acc)) (hb : x.testBit i = false) : g_sum g 0 (l_set x (i + 1)) = (1, acc) := by
  rw [l_set, hb, if_neg (by decide)]
  exact hs
/-- what a stage with one input makes of it -/
def m_one (g : gT) (k j : Nat) : (Int32 × Int32) ⊕ Nat :=
  if gF g k 2 = 1 then .inl (if gF g j 0 = 1 then g_fol g j else g_use g k (gF g j 1))
  else if gF g k 2 = 2 then .inl (g_use g k (if gF g j 0 = 1 then gF g j 1 else -1 - gF g j 1))
  else if gF g k 2 = 3 then .inl (if gF g j 0 = 1 ∧ ¬ fn_thr (gF g k 3) (gF g k 4) (gF g j 1) = 0 then (3, fn_thr (gF g k 3) (gF g k 4) (gF g j 1)) else g_fol g j)
  else if gF g k 2 = 4 then g_cmp g k j else .inl (g_app g k j)
def g_put (g : gT) (k : Nat) (d : (Int32 × Int32) ⊕ Nat) : gT := match d with
  | .inl q => g_give g k q.1 q.2
  | .inr i => g_scan (gsA g k (some i))
theorem one_c1 {g : gT} {k j : Nat} (h : gF g k 2 = 1) (hj : gF g j 0 = 1) : m_one g k j = .inl (g_fol g j) := by rw [m_one, if_pos h, if_pos hj]
theorem one_c2 {g : gT} {k j : Nat} (h1 : ¬ gF g k 2 = 1) (h2 : ¬ gF g k 2 = 2) (hj : ¬ gF g j 0 = 1) (hA : gA g k = none) : m_one g k j = .inl (g_fol g j) := by
  rw [m_one, if_neg h1, if_neg h2]
  by_cases h3 : gF g k 2 = 3
  · rw [if_pos h3, if_neg (fun z => hj z.1)]
  · rw [if_neg h3]
    by_cases h4 : gF g k 2 = 4
    · rw [if_pos h4, g_cmp, hA]
      simp only [if_neg hj]
    · rw [if_neg h4, g_app, if_neg hj]
theorem one_3 {g : gT} {k j : Nat} (h : gF g k 2 = 3) (hj : gF g j 0 = 1) : m_one g k j = .inl (if fn_thr (gF g k 3) (gF g k 4) (gF g j 1) = 0 then (1, gF g j 1) else (3, fn_thr (gF g k 3) (gF g k 4) (gF g j 1))) := by
  rw [m_one, if_neg (by rw [h]; decide), if_neg (by rw [h]; decide), if_pos h]
  by_cases ht : fn_thr (gF g k 3) (gF g k 4) (gF g j 1) = 0
  · rw [if_neg (fun z => z.2 ht), if_pos ht, g_fol, if_pos hj]
  · rw [if_pos ⟨hj, ht⟩, if_neg ht]
theorem one_1 {g : gT} {k j : Nat} (h : gF g k 2 = 1) (hj : ¬ gF g j 0 = 1) : m_one g k j = .inl (g_use g k (gF g j 1)) := by rw [m_one, if_pos h, if_neg hj]
theorem one_2f {g : gT} {k j : Nat} (h : gF g k 2 = 2) (hj : ¬ gF g j 0 = 1) : m_one g k j = .inl (g_use g k (-1 - gF g j 1)) := by rw [m_one, if_neg (by rw [h]; decide), if_pos h, if_neg hj]
theorem one_2o {g : gT} {k j : Nat} (h : gF g k 2 = 2) (hj : gF g j 0 = 1) : m_one g k j = .inl (g_use g k (gF g j 1)) := by rw [m_one, if_neg (by rw [h]; decide), if_pos h, if_pos hj]
theorem one_0 {g : gT} {k j : Nat} (h1 : ¬ gF g k 2 = 1) (h2 : ¬ gF g k 2 = 2) (h3 : ¬ gF g k 2 = 3) (h4 : ¬ gF g k 2 = 4) (hj : gF g j 0 = 1) : m_one g k j = .inl (g_use g k (gF g j 1)) := by
  rw [m_one, if_neg h1, if_neg h2, if_neg h3, if_neg h4, g_app, if_pos hj]
theorem one_4t {g : gT} {k j : Nat} (h : gF g k 2 = 4) (hj : gF g j 0 = 1) (hA : gA g k = none) (ht : ¬ fn_thr (gF g k 3) (gF g k 4) (gF g j 1) = 0) : m_one g k j = .inl (g_use g k (gF g j 1)) := by
  rw [m_one, if_neg (by rw [h]; decide), if_neg (by rw [h]; decide), if_neg (by rw [h]; decide), if_pos h, g_cmp, hA, g_use]
  simp only [if_pos hj, if_neg ht]
theorem one_4n {g : gT} {k j : Nat} (h : gF g k 2 = 4) (hj : gF g j 0 = 1) (hA : gA g k = none) (hf : ¬ fn_has (gF g k 3) = 0) (ht : fn_thr (gF g k 3) (gF g k 4) (gF g j 1) = 0) (hs : ¬ (¬ m_mk (gF g k 3) (gF g k 4) (gF g j 1) < 0 ∧ (m_mk (gF g k 3) (gF g k 4) (gF g j 1)).toNatClampNeg < gN g)) : m_one g k j = .inl (3, 8) := by
  rw [m_mk_eq hf ht] at hs
  rw [m_one, if_neg (by rw [h]; decide), if_neg (by rw [h]; decide), if_neg (by rw [h]; decide), if_pos h, g_cmp, hA]
  simp only [if_pos hj, if_pos ht, if_neg hs]
theorem one_4s {g : gT} {k j : Nat} (h : gF g k 2 = 4) (hj : gF g j 0 = 1) (hA : gA g k = none) (hf : ¬ fn_has (gF g k 3) = 0) (ht : fn_thr (gF g k 3) (gF g k 4) (gF g j 1) = 0) (hs : ¬ m_mk (gF g k 3) (gF g k 4) (gF g j 1) < 0 ∧ (m_mk (gF g k 3) (gF g k 4) (gF g j 1)).toNatClampNeg < gN g) : m_one g k j = .inr (m_mk (gF g k 3) (gF g k 4) (gF g j 1)).toNatClampNeg := by
  rw [m_mk_eq hf ht] at hs ⊢
  rw [m_one, if_neg (by rw [h]; decide), if_neg (by rw [h]; decide), if_neg (by rw [h]; decide), if_pos h, g_cmp, hA]
  simp only [if_pos hj, if_pos ht, if_pos hs]
theorem use_mk {g : gT} {k : Nat} {x : Int32} (hf : ¬ fn_has (gF g k 3) = 0) : g_give g k (if fn_thr (gF g k 3) (gF g k 4) x = 0 then 1 else 3) (if fn_thr (gF g k 3) (gF g k 4) x = 0 then m_mk (gF g k 3) (gF g k 4) x else fn_thr (gF g k 3) (gF g k 4) x) = g_give g k (g_use g k x).1 (g_use g k x).2 := by
  unfold g_use
  by_cases ht : fn_thr (gF g k 3) (gF g k 4) x = 0
  · rw [if_pos ht, if_pos ht, if_pos ht, m_mk_eq hf ht]
  · rw [if_neg ht, if_neg ht, if_neg ht]
theorem lt7 {f : Int32} (h : f < 5 ∨ f = 6) : f < 7 := by
  rcases h with h | h
  · exact Int32.lt_of_lt_of_le h (by decide)
  · rw [h]; decide
