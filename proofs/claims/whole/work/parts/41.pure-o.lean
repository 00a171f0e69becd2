/-! the reference: functions, settled, able -/
def m_mk (f a x : Int32) : Int32 := if f = 0 then x + a else if f = 1 then x * a else if f = 2 then x else if f = 4 then a else if f = 5 then (if a = 0 then 0 else x / a) else 0
def m_app (σ : ps_S) (f a x : Int32) : ps_S := ps_sI (ps_sI σ 13 0 21 (fn_thr f a x)) 13 0 20 (m_mk f a x)
theorem m_mk_eq {f a x : Int32} (hf : ¬ fn_has f = 0) (h : fn_thr f a x = 0) : m_mk f a x = fn_mk f a x := by
  unfold m_mk fn_mk
  by_cases h0 : f = 0
  · rw [if_pos h0, if_pos h0]
  · rw [if_neg h0, if_neg h0]
    by_cases h1 : f = 1
    · rw [if_pos h1, if_pos h1]
    · rw [if_neg h1, if_neg h1]
      by_cases h4 : f = 4
      · rw [if_neg (by rw [h4]; decide), if_pos h4, if_pos h4]
      · rw [if_neg h4, if_neg h4]
        by_cases h5 : f = 5
        · rw [if_neg (by rw [h5]; decide), if_pos h5, if_pos h5]
        · rw [if_neg h5, if_neg h5]
          by_cases h2 : f = 2
          · rw [if_pos h2]
          · exfalso
            have hn0 : ¬ f < 0 := fun z => hf (by rw [fn_has, if_pos z])
            have hn5 : ¬ 5 < f := fun z => hf (by rw [fn_has, if_neg hn0, if_pos z])
            by_cases h3 : f = 3
            · rw [fn_thr, if_neg h2, if_pos h3] at h
              have key : ∀ y : Int32, ¬ 1 + (y &&& 7) = 0 := by
                intro y z
                have e1 : (1 + (y &&& 7)).toBitVec.toNat = 0 := by rw [z]; rfl
                rw [Int32.toBitVec_add, BitVec.toNat_add, Int32.toBitVec_and, BitVec.toNat_and, show (7 : Int32).toBitVec.toNat = 2 ^ 3 - 1 from rfl, Nat.and_two_pow_sub_one_eq_mod, show (1 : Int32).toBitVec.toNat = 1 from rfl] at e1
                omega
              exact key a h
            · obtain ⟨j, hj, rfl⟩ := nI_of hn0
              rw [show (5 : Int32) = nI 5 from rfl, nI_ltI (by decide) hj] at hn5
              have : j = 0 ∨ j = 1 ∨ j = 2 ∨ j = 3 ∨ j = 4 ∨ j = 5 := by omega
              rcases this with rfl | rfl | rfl | rfl | rfl | rfl
              · exact h0 rfl
              · exact h1 rfl
              · exact h2 rfl
              · exact h3 rfl
              · exact h4 rfl
              · exact h5 rfl
theorem fn_thr_pos {f a x : Int32} : (0 < fn_thr f a x) ↔ ¬ fn_thr f a x = 0 := by
  have key : ∀ y : Int32, 0 < 1 + (y &&& 7) := by
    intro y
    have e1 : (1 + (y &&& 7)).toBitVec.toNat = (1 + y.toBitVec.toNat % 8) := by
      rw [Int32.toBitVec_add, BitVec.toNat_add, Int32.toBitVec_and, BitVec.toNat_and, show (7 : Int32).toBitVec.toNat = 2 ^ 3 - 1 from rfl, Nat.and_two_pow_sub_one_eq_mod, show (1 : Int32).toBitVec.toNat = 1 from rfl]
      omega
    have e2 : 1 + (y &&& 7) = nI (1 + y.toBitVec.toNat % 8) := by
      refine Int32.toBitVec_inj.mp (BitVec.eq_of_toNat_eq ?_)
      rw [e1]
      show _ = (BitVec.ofNat 32 _).toNat
      rw [BitVec.toNat_ofNat]
      omega
    rw [e2, show (0 : Int32) = nI 0 from rfl, nI_ltI (by decide) (by omega)]
    omega
  unfold fn_thr
  repeat' split
  all_goals first
    | exact ⟨fun _ z => absurd (key a) (by rw [z]; decide), fun _ => key a⟩
    | exact ⟨fun _ => by decide, fun _ => by decide⟩
    | exact ⟨fun z => absurd z (by decide), fun z => absurd rfl z⟩
def g_abl (g : gT) (k : Nat) : Bool := !decide (gF g k 2 = 9) && (match gA g k with
  | some j => g_on g j
  | none => if gF g k 2 = 6 ∨ gF g k 2 = 8 then (gI g k).any (g_on g) else (gI g k).all (g_on g))
theorem g_able_abl (g : gT) (k : Nat) : g_able g k = (!(g_on g k) && g_abl g k) := by
  unfold g_able g_abl
  rw [Bool.and_assoc]
  cases gA g k <;> rfl
def m_cnt (g : gT) (x : Nat) : Nat → Nat
  | 0 => 0
  | k + 1 => m_cnt g x k + (if x.testBit k = true ∧ g_on g k = true then 1 else 0)
theorem m_cnt_le (g : gT) (x : Nat) : ∀ k, m_cnt g x k ≤ l_cnt x k
  | 0 => Nat.le_refl _
  | k + 1 => by
    have := m_cnt_le g x k
    rw [m_cnt, l_cnt]
    by_cases h : x.testBit k = true ∧ g_on g k = true
    · rw [if_pos h, h.1]
      show m_cnt g x k + 1 ≤ l_cnt x k + 1
      omega
    · rw [if_neg h]; omega
theorem m_cnt_any (g : gT) (x : Nat) : ∀ k, (l_set x k).any (g_on g) = decide (0 < m_cnt g x k)
  | 0 => rfl
  | k + 1 => by
    have ih := m_cnt_any g x k
    rw [l_set, m_cnt]
    cases hb : x.testBit k
    · rw [if_neg (by decide), if_neg (fun z => absurd z.1 (by decide)), ih, Nat.add_zero]
    · rw [if_pos rfl, List.any_append, ih]
      cases ho : g_on g k
      · rw [if_neg (fun z => absurd z.2 (by decide))]; simp [ho]
      · rw [if_pos ⟨rfl, rfl⟩]; simp [ho]
theorem m_cnt_all (g : gT) (x : Nat) : ∀ k, (l_set x k).all (g_on g) = decide (m_cnt g x k = l_cnt x k)
  | 0 => rfl
  | k + 1 => by
    have ih := m_cnt_all g x k
    have hle := m_cnt_le g x k
    rw [l_set, m_cnt, l_cnt]
    cases hb : x.testBit k
    · rw [if_neg (by decide), if_neg (fun z => absurd z.1 (by decide)), ih]; rfl
    · rw [if_pos rfl, List.all_append, ih]
      cases ho : g_on g k
      · rw [if_neg (fun z => absurd z.2 (by decide))]
        have e : ¬ (m_cnt g x k + 0 = l_cnt x k + true.toNat) := by
          show ¬ (m_cnt g x k + 0 = l_cnt x k + 1); omega
        rw [decide_eq_false e]; simp [ho]
      · rw [if_pos ⟨rfl, rfl⟩]
        show _ = decide (m_cnt g x k + 1 = l_cnt x k + 1)
        by_cases h : m_cnt g x k = l_cnt x k
        · rw [decide_eq_true h, decide_eq_true (by omega)]; simp [ho]
        · rw [decide_eq_false h, decide_eq_false (by omega)]; simp
theorem m_opt_neg {r : Option Nat} (h : ∀ j, r = some j → j < 2 ^ 31) : m_opt r < 0 ↔ r = none := by
  cases r with
  | none => exact ⟨fun _ => rfl, fun _ => by decide⟩
  | some j =>
    refine ⟨fun z => ?_, fun z => by cases z⟩
    have z' : nI j < nI 0 := z
    rw [nI_ltI (h j rfl) (by decide)] at z'
    omega
theorem on_b (g : gT) (k : Nat) : (if g_on g k = true then (1 : Int32) else 0) = 0 ∨ (if g_on g k = true then (1 : Int32) else 0) = 1 := by split; exact Or.inr rfl; exact Or.inl rfl
theorem g_on_eq (g : gT) (k : Nat) : g_on g k = true ↔ ¬ gF g k 0 = 0 := by unfold g_on; simp
theorem b10 {b : Bool} : (if b = true then (1 : Int32) else 0) = 0 ∨ (if b = true then (1 : Int32) else 0) = 1 := by cases b; exact Or.inl rfl; exact Or.inr rfl
theorem if10b {b : Bool} (h : (if b = true then (1 : Int32) else 0) = 0) : b = false := by cases b; rfl; exact absurd h (by decide)
theorem if10t {b : Bool} (h : ¬ (if b = true then (1 : Int32) else 0) = 0) : b = true := by cases b; exact absurd rfl h; rfl
theorem m_kind {g : gT} {σ : ps_S} {k : Nat} (h : m_in σ g k) (h6 : ¬ gF g k 2 ≤ 6) (h9 : ¬ gF g k 2 = 9) : gF g k 2 = 7 ∨ gF g k 2 = 8 := by
  obtain ⟨⟨h0, h9'⟩, -⟩ := h
  generalize gF g k 2 = f at *
  obtain ⟨j, hj, rfl⟩ := nI_of (Int32.not_lt.mpr h0)
  rw [show (6 : Int32) = nI 6 from rfl, nI_leI hj (by decide)] at h6
  rw [show (9 : Int32) = nI 9 from rfl, nI_leI hj (by decide)] at h9'
  rw [show (9 : Int32) = nI 9 from rfl, nI_eq hj (by decide)] at h9
  have : j = 7 ∨ j = 8 := by omega
  rcases this with rfl | rfl
  · exact Or.inl rfl
  · exact Or.inr rfl
theorem m_kind2 {g : gT} {σ : ps_S} {k : Nat} (h : m_in σ g k) (h5 : 5 ≤ gF g k 2) (h6 : gF g k 2 ≤ 6) : gF g k 2 = 5 ∨ gF g k 2 = 6 := by
  obtain ⟨⟨h0, h9'⟩, -⟩ := h
  generalize gF g k 2 = f at *
  obtain ⟨j, hj, rfl⟩ := nI_of (Int32.not_lt.mpr h0)
  rw [show (6 : Int32) = nI 6 from rfl, nI_leI hj (by decide)] at h6
  rw [show (5 : Int32) = nI 5 from rfl, nI_leI (by decide) hj] at h5
  have : j = 5 ∨ j = 6 := by omega
  rcases this with rfl | rfl
  · exact Or.inl rfl
  · exact Or.inr rfl
/-- what stands in first and second of a stage with one or two inputs -/
theorem m_fs {g : gT} {σ : ps_S} {k : Nat} (h : m_in σ g k) (hn : ∀ i ∈ gI g k, i < gN g) (h6 : gF g k 2 ≤ 6) : ∃ a b, ps_I σ 14 6 k = nI a ∧ a < gN g ∧ (gF g k 2 < 5 → gI g k = [a]) ∧ (5 ≤ gF g k 2 → gI g k = [a, b] ∧ ps_I σ 14 7 k = nI b ∧ b < gN g) := by
  by_cases h5 : gF g k 2 < 5
  · obtain ⟨a, ha, hf⟩ := h.2.1 h5
    exact ⟨a, 0, hf, hn a (by rw [ha]; exact List.mem_cons_self), fun _ => ha, fun z => absurd h5 (Int32.not_lt.mpr z)⟩
  · obtain ⟨a, b, ha, hf, hs⟩ := h.2.2.1 (m_kind2 h (Int32.not_lt.mp h5) h6)
    exact ⟨a, b, hf, hn a (by rw [ha]; exact List.mem_cons_self), fun z => absurd z h5, fun _ => ⟨ha, hs, hn b (by rw [ha]; exact List.mem_cons_of_mem _ List.mem_cons_self)⟩⟩
