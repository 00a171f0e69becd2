/-! A new task in the reference. -/
def m_mkU (σ : ps_S) (n : Nat) (c co fn a x h : Int32) : ps_S := ps_sI (ps_sI (ps_sI (ps_sI (ps_sI (ps_sI (ps_sI σ 13 0 35 (nI (n + 1))) 14 19 n c) 14 20 n co) 14 21 n fn) 14 22 n a) 14 23 n x) 14 24 n h
theorem FrB.mkU {σ : ps_S} {n : Nat} {c co fn a x h : Int32} : FrB σ (m_mkU σ n c co fn a x h) := by
  unfold m_mkU
  exact ((((((FrB.sI (Or.inl ⟨rfl, by decide⟩)).tr (FrB.b14 (by decide))).tr (FrB.b14 (by decide))).tr (FrB.b14 (by decide))).tr (FrB.b14 (by decide))).tr (FrB.b14 (by decide))).tr (FrB.b14 (by decide))
theorem fst_mk {t : tT} {c : Nat} {co fn a : Int32} (d : Nat) (s : Int32) : ∀ m, m ≤ uN t → u_fst (u_mk t c co fn a) d s m = u_fst t d s m ∧ ∀ b, u_fst t d s m = some b → b < m
  | 0, _ => ⟨rfl, fun b h => (by cases h)⟩
  | m + 1, hm => by
    obtain ⟨ih, ihl⟩ := fst_mk (t := t) (c := c) (co := co) (fn := fn) (a := a) d s m (by omega)
    have eO : ∀ b, b < uN t → uO (u_mk t c co fn a) b = uO t b := fun b hb => va_up_ne _ _ (by omega)
    have eK : ∀ b f, b < uN t → uK (u_mk t c co fn a) b f = uK t b f := fun b f hb => congrFun (if_neg (show ¬ b = uN t by omega)) f
    have eT : ∀ b, b < uN t → uT (u_mk t c co fn a) b = uT t b := fun b hb => va_up_ne _ _ (by omega)
    constructor
    · rw [u_fst, u_fst, ih, eO m (by omega), eK m 4 (by omega)]
      cases hf : u_fst t d s m with
      | none => rfl
      | some b =>
        have hb := ihl b hf
        simp only [eT m (by omega), eT b (by omega)]
    · intro b hb
      rw [u_fst] at hb
      split at hb
      next =>
        cases hf : u_fst t d s m with
        | none => rw [hf] at hb; cases hb; exact Nat.lt_succ_self _
        | some z =>
          rw [hf] at hb
          have hz := ihl z hf
          simp only at hb
          split at hb
          · cases hb; exact Nat.lt_succ_self _
          · cases hb; omega
      next =>
        have := ihl b hb
        omega
theorem RMB.mkU {σ : ps_S} {t : tT} {c : Nat} {co fn a : Int32} (h : RMB σ t) : RMB (m_mkU σ (uN t) (nI c) co fn a (t_look t c 0) (if tS t c 3 = 0 then 0 else 3)) (u_mk t c co fn a) := by
  obtain ⟨⟨a1, a2, a3⟩, b1, b2, b3, b4⟩ := h
  generalize hσ : m_mkU σ (uN t) (nI c) co fn a (t_look t c 0) (if tS t c 3 = 0 then 0 else 3) = σ'
  have e13 : ∀ j, j ≠ 35 → ps_I σ' 13 0 j = ps_I σ 13 0 j := by
    intro j hj
    rw [← hσ]; unfold m_mkU
    rw [sI_ne (by omega), sI_ne (by omega), sI_ne (by omega), sI_ne (by omega), sI_ne (by omega), sI_ne (by omega), sI_ne (by omega)]
  have e14 : ∀ i j, ¬ (19 ≤ i ∧ i ≤ 24 ∧ j = uN t) → ps_I σ' 14 i j = ps_I σ 14 i j := by
    intro i j hi
    rw [← hσ]; unfold m_mkU
    rw [sI_ne (by omega), sI_ne (by omega), sI_ne (by omega), sI_ne (by omega), sI_ne (by omega), sI_ne (by omega), sI_ne (by omega)]
  have e15 : ∀ i j, ps_I σ' 15 i j = ps_I σ 15 i j := by
    intro i j
    rw [← hσ]; unfold m_mkU
    rw [sI_ne (by omega), sI_ne (by omega), sI_ne (by omega), sI_ne (by omega), sI_ne (by omega), sI_ne (by omega), sI_ne (by omega)]
  have n35 : ps_I σ' 13 0 35 = nI (uN t + 1) := by rw [← hσ]; unfold m_mkU; rw [sI_ne (by omega), sI_ne (by omega), sI_ne (by omega), sI_ne (by omega), sI_ne (by omega), sI_ne (by omega), ps_I_eq]
  have n19 : ps_I σ' 14 19 (uN t) = nI c := by rw [← hσ]; unfold m_mkU; rw [sI_ne (by omega), sI_ne (by omega), sI_ne (by omega), sI_ne (by omega), sI_ne (by omega), ps_I_eq]
  have n20 : ps_I σ' 14 20 (uN t) = co := by rw [← hσ]; unfold m_mkU; rw [sI_ne (by omega), sI_ne (by omega), sI_ne (by omega), sI_ne (by omega), ps_I_eq]
  have n21 : ps_I σ' 14 21 (uN t) = fn := by rw [← hσ]; unfold m_mkU; rw [sI_ne (by omega), sI_ne (by omega), sI_ne (by omega), ps_I_eq]
  have n22 : ps_I σ' 14 22 (uN t) = a := by rw [← hσ]; unfold m_mkU; rw [sI_ne (by omega), sI_ne (by omega), ps_I_eq]
  have n23 : ps_I σ' 14 23 (uN t) = t_look t c 0 := by rw [← hσ]; unfold m_mkU; rw [sI_ne (by omega), ps_I_eq]
  have n24 : ps_I σ' 14 24 (uN t) = if tS t c 3 = 0 then 0 else 3 := by rw [← hσ]; unfold m_mkU; rw [ps_I_eq]
  have hne : ∀ s : Int32, s = 1 ∨ s = 2 → ∀ d, u_fst (u_mk t c co fn a) d s (uN t + 1) = u_fst t d s (uN t) := by
    intro s hs d
    rw [u_fst, if_neg, (fst_mk d s (uN t) (Nat.le_refl _)).1]
    intro z
    have z2 : (if tS t c 3 = 0 then (0 : Int32) else 3) = s := by
      have e : uK (u_mk t c co fn a) (uN t) 4 = if tS t c 3 = 0 then 0 else 3 := congrFun (if_pos rfl) 4
      rw [← e]; exact z.2
    rcases hs with rfl | rfl
    · split at z2 <;> exact absurd z2 (by decide)
    · split at z2 <;> exact absurd z2 (by decide)
  refine ⟨⟨(e13 22 (by decide)).trans a1, fun d hd => ?_, fun d hd => ?_⟩, n35, (e13 34 (by decide)).trans b2, fun j hj => ?_, fun j hj => ?_⟩
  · obtain ⟨⟨r1, r2, r3, r4, r5, r6, r7⟩, ⟨q1, q2⟩, q3⟩ := a2 d hd
    refine ⟨⟨(e14 11 d (by omega)).trans r1, (e14 12 d (by omega)).trans r2, (e14 13 d (by omega)).trans r3, (e14 14 d (by omega)).trans r4, (e14 15 d (by omega)).trans r5, (e15 2 d).trans r6, (e15 3 d).trans r7⟩, ⟨?_, ?_⟩, fun b hb => ⟨(e15 4 _).trans (q3 b hb).1, (e14 18 _ (by omega)).trans (q3 b hb).2⟩⟩
    · rw [e14 16 d (by omega), q1]; exact congrArg m_opt (hne 1 (Or.inl rfl) d).symm
    · rw [e14 17 d (by omega), q2]; exact congrArg m_opt (hne 2 (Or.inr rfl) d).symm
  · have hd' : tN t ≤ d := hd
    obtain ⟨⟨z1, z2, z3⟩, z4⟩ := a3 d hd'
    exact ⟨⟨(e14 14 d (by omega)).trans z1, (e15 2 d).trans z2, (e15 3 d).trans z3⟩, fun b hb => ⟨(e15 4 _).trans (z4 b hb).1, (e14 18 _ (by omega)).trans (z4 b hb).2⟩⟩
  · have hj' : j < uN t + 1 := hj
    by_cases hjn : j = uN t
    · subst hjn
      obtain ⟨z1, z2⟩ := b4 (uN t) (Nat.le_refl _)
      have eK : ∀ f, uK (u_mk t c co fn a) (uN t) f = if f = 0 then co else if f = 1 then fn else if f = 2 then a else if f = 3 then t_look t c 0 else if f = 4 then (if tS t c 3 = 0 then 0 else 3) else 0 := fun f => congrFun (if_pos rfl) f
      unfold RMk
      rw [eK 0, eK 1, eK 2, eK 3, eK 4, eK 5, eK 6, show uO (u_mk t c co fn a) (uN t) = c from va_up_self _ _ _, n19, n20, n21, n22, n23, n24, e14 25 _ (by omega), e14 26 _ (by omega)]
      exact ⟨rfl, rfl, rfl, rfl, rfl, rfl, z1, z2⟩
    · obtain ⟨r1, r2, r3, r4, r5, r6, r7, r8⟩ := b3 j (by omega)
      have eK : ∀ f, uK (u_mk t c co fn a) j f = uK t j f := fun f => congrFun (if_neg hjn) f
      unfold RMk
      simp only [eK, show uO (u_mk t c co fn a) j = uO t j from va_up_ne _ _ hjn, e14 19 j (by omega), e14 20 j (by omega), e14 21 j (by omega), e14 22 j (by omega), e14 23 j (by omega), e14 24 j (by omega), e14 25 j (by omega), e14 26 j (by omega)]
      exact ⟨r1, r2, r3, r4, r5, r6, r7, r8⟩
  · have hj' : uN t + 1 ≤ j := hj
    obtain ⟨z1, z2⟩ := b4 j (by omega)
    exact ⟨(e14 25 j (by omega)).trans z1, (e14 26 j (by omega)).trans z2⟩
