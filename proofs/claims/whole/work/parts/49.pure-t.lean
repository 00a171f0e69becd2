/-- a new stage in the reference -/
def m_mkS (σ : ps_S) (n : Nat) (kd s u : Int32) (set : Int64) (f a as : Int32) : ps_S :=
  ps_sI (ps_sI (ps_sI (ps_sI (ps_sJ (ps_sI (ps_sI (ps_sI (ps_sI σ 13 0 1 (nI (n + 1))) 14 3 n kd) 14 6 n s) 14 7 n u) 16 0 n set) 14 4 n f) 14 5 n a) 15 0 n as) 14 8 n (-1)
def m_sh (g : gT) (kd s u : Int32) (set : Int64) (f fn : Int32) (ins : List Nat) : Prop :=
  (0 ≤ kd ∧ kd ≤ 9) ∧ (kd < 5 → ∃ b, ins = [b] ∧ s = nI b) ∧ (kd = 5 ∨ kd = 6 → ∃ b c, ins = [b, c] ∧ s = nI b ∧ u = nI c) ∧ (kd = 7 ∨ kd = 8 → l_N set < 2 ^ gN g ∧ ins = l_set (l_N set) (gN g)) ∧ (kd < 7 → f = fn ∧ ¬ fn_has fn = 0)
theorem ps_I_sJ (σ : ps_S) (κ i j : Nat) (v : Int64) : ps_I (ps_sJ σ κ i j v) = ps_I σ := rfl
theorem l_set_up {x n : Nat} (h : x < 2 ^ n) : l_set x (n + 1) = l_set x n := by rw [l_set, Nat.testBit_lt_two_pow h, if_neg (by decide)]
theorem FrA.mkS {σ : ps_S} {n : Nat} {kd s u : Int32} {set : Int64} {f a as : Int32} : FrA σ (m_mkS σ n kd s u set f a as) := by
  have hJ : ∀ τ : ps_S, FrA τ (ps_sJ τ 16 0 n set) := fun τ => ⟨fun _ _ _ _ => rfl, fun κ hκ => by funext i j; rw [ps_J_sJ]; exact if_neg (fun z => hκ z.1), rfl, rfl, rfl⟩
  unfold m_mkS
  exact (((((((((FrA.a13 (by decide)).tr (FrA.a14 (by decide))).tr (FrA.a14 (by decide))).tr (FrA.a14 (by decide))).tr (hJ _)).tr (FrA.a14 (by decide))).tr (FrA.a14 (by decide))).tr (FrA.sI (Or.inr (Or.inr ⟨rfl, by decide⟩)))).tr (FrA.a14 (by decide)))
set_option maxHeartbeats 1000000 in
theorem RMA.mk {σ : ps_S} {g : gT} {p : Nat} {kd s u : Int32} {set : Int64} {f a as fn : Int32} {ins : List Nat} (h : RMA σ g p) (hm : m_sh g kd s u set f fn ins) : RMA (m_mkS σ (gN g) kd s u set f a as) (g_mk g kd fn a as ins) p := by
  obtain ⟨⟨a1, a2, a3, a4⟩, ⟨l1, l2, l3⟩, p1, p2⟩ := h
  generalize hσ : m_mkS σ (gN g) kd s u set f a as = σ'
  have eI : ∀ κ i j, ¬ (κ = 13 ∧ j = 1) → ¬ ((κ = 14 ∨ κ = 15) ∧ j = gN g) → ps_I σ' κ i j = ps_I σ κ i j := by
    intro κ i j h1 h2
    rw [← hσ]
    unfold m_mkS
    rw [sI_ne (by omega), sI_ne (by omega), sI_ne (by omega), sI_ne (by omega), ps_I_sJ, sI_ne (by omega), sI_ne (by omega), sI_ne (by omega), sI_ne (by omega)]
  have eC : ∀ i, (i ≠ 3 ∧ i ≠ 6 ∧ i ≠ 7 ∧ i ≠ 4 ∧ i ≠ 5 ∧ i ≠ 8) → ∀ j, ps_I σ' 14 i j = ps_I σ 14 i j := by
    intro i hi j
    rw [← hσ]
    unfold m_mkS
    rw [sI_ne (by omega), sI_ne (by omega), sI_ne (by omega), sI_ne (by omega), ps_I_sJ, sI_ne (by omega), sI_ne (by omega), sI_ne (by omega), sI_ne (by omega)]
  have eQ : ∀ j, ps_I σ' 15 1 j = ps_I σ 15 1 j := by
    intro j
    rw [← hσ]
    unfold m_mkS
    rw [sI_ne (by omega), sI_ne (by omega), sI_ne (by omega), sI_ne (by omega), ps_I_sJ, sI_ne (by omega), sI_ne (by omega), sI_ne (by omega), sI_ne (by omega)]
  have eJ : ∀ j, j ≠ gN g → ps_J σ' 16 0 j = ps_J σ 16 0 j := by
    intro j hj
    rw [← hσ]
    show ps_J (ps_sJ _ 16 0 (gN g) set) 16 0 j = _
    rw [ps_J_sJ, if_neg (fun z => hj z.2.2)]
    rfl
  have eJn : ps_J σ' 16 0 (gN g) = set := by
    rw [← hσ]
    show ps_J (ps_sJ _ 16 0 (gN g) set) 16 0 (gN g) = _
    rw [ps_J_sJ, if_pos ⟨rfl, rfl, rfl⟩]
  have n3 : ps_I σ' 14 3 (gN g) = kd := by rw [← hσ]; unfold m_mkS; rw [sI_ne (by omega), sI_ne (by omega), sI_ne (by omega), sI_ne (by omega), ps_I_sJ, sI_ne (by omega), sI_ne (by omega), ps_I_eq]
  have n6 : ps_I σ' 14 6 (gN g) = s := by rw [← hσ]; unfold m_mkS; rw [sI_ne (by omega), sI_ne (by omega), sI_ne (by omega), sI_ne (by omega), ps_I_sJ, sI_ne (by omega), ps_I_eq]
  have n7 : ps_I σ' 14 7 (gN g) = u := by rw [← hσ]; unfold m_mkS; rw [sI_ne (by omega), sI_ne (by omega), sI_ne (by omega), sI_ne (by omega), ps_I_sJ, ps_I_eq]
  have n4 : ps_I σ' 14 4 (gN g) = f := by rw [← hσ]; unfold m_mkS; rw [sI_ne (by omega), sI_ne (by omega), sI_ne (by omega), ps_I_eq]
  have n5 : ps_I σ' 14 5 (gN g) = a := by rw [← hσ]; unfold m_mkS; rw [sI_ne (by omega), sI_ne (by omega), ps_I_eq]
  have n0 : ps_I σ' 15 0 (gN g) = as := by rw [← hσ]; unfold m_mkS; rw [sI_ne (by omega), ps_I_eq]
  have n8 : ps_I σ' 14 8 (gN g) = -1 := by rw [← hσ]; unfold m_mkS; rw [ps_I_eq]
  have n1 : ps_I σ' 13 0 1 = nI (gN g + 1) := by rw [← hσ]; unfold m_mkS; rw [sI_ne (by omega), sI_ne (by omega), sI_ne (by omega), sI_ne (by omega), ps_I_sJ, sI_ne (by omega), sI_ne (by omega), sI_ne (by omega), ps_I_eq]
  have gFn : ∀ c, gF (g_mk g kd fn a as ins) (gN g) c = if c = 2 then kd else if c = 3 then fn else if c = 4 then a else if c = 5 then as else 0 := fun c => congrFun (if_pos rfl) c
  have gFo : ∀ k c, k ≠ gN g → gF (g_mk g kd fn a as ins) k c = gF g k c := fun k c hk => congrFun (if_neg hk) c
  have gIn : gI (g_mk g kd fn a as ins) (gN g) = ins := va_up_self _ _ _
  have gIo : ∀ k, k ≠ gN g → gI (g_mk g kd fn a as ins) k = gI g k := fun k hk => va_up_ne _ _ hk
  have gAn : gA (g_mk g kd fn a as ins) (gN g) = none := va_up_self _ _ _
  have gAo : ∀ k, k ≠ gN g → gA (g_mk g kd fn a as ins) k = gA g k := fun k hk => va_up_ne _ _ hk
  have hlt : 2 ^ gN g ≤ 2 ^ (gN g + 1) := Nat.pow_le_pow_right (by decide) (Nat.le_succ _)
  refine ⟨⟨n1, (eI 13 0 5 (by omega) (by omega)).trans a2, fun k hk => ?_, fun k hk => ?_⟩, ⟨(eI 13 0 15 (by omega) (by omega)).trans l1, (eI 13 0 16 (by omega) (by omega)).trans l2, fun i j hi => (eC 9 (by decide) _).trans (l3 i j hi)⟩, (eI 13 0 18 (by omega) (by omega)).trans p1, fun i j hi => (eC 10 (by decide) _).trans (p2 i j hi)⟩
  · have hk' : k < gN g + 1 := hk
    by_cases hkn : k = gN g
    · subst hkn
      obtain ⟨z1, z2, z3⟩ := a4 (gN g) (Nat.le_refl _)
      obtain ⟨m1, m2, m3, m4, m5⟩ := hm
      unfold RMg m_in
      rw [gFn 0, gFn 1, gFn 2, gFn 3, gFn 4, gFn 5, gFn 6, gIn, gAn, eC 0 (by decide), eC 1 (by decide), eQ, n3, n4, n5, n6, n7, n8, n0, eJn]
      refine ⟨⟨z1, z2, fun z => absurd rfl z, rfl, rfl, rfl, z3⟩, fun z => ⟨(m5 z).1, rfl, (m5 z).2⟩, m1, m2, m3, fun z => ⟨Nat.lt_of_lt_of_le (m4 z).1 hlt, ?_⟩⟩
      show ins = l_set (l_N set) (gN g + 1)
      rw [l_set_up (m4 z).1]
      exact (m4 z).2
    · have hkg : k < gN g := by omega
      obtain ⟨⟨r1, r2, r3, r4, r5, r6, r7⟩, r8, q1, q2, q3, q4⟩ := a3 k hkg
      have e14 : ∀ i, ps_I σ' 14 i k = ps_I σ 14 i k := fun i => eI 14 i k (by omega) (by omega)
      have e15 : ∀ i, ps_I σ' 15 i k = ps_I σ 15 i k := fun i => eI 15 i k (by omega) (by omega)
      unfold RMg m_in
      simp only [gFo k _ hkn, gIo k hkn, gAo k hkn, e14, e15, eJ k hkn]
      refine ⟨⟨r1, r2, r3, r4, r5, r6, r7⟩, r8, q1, q2, q3, fun z => ⟨Nat.lt_of_lt_of_le (q4 z).1 hlt, ?_⟩⟩
      show gI g k = l_set (l_N (ps_J σ 16 0 k)) (gN g + 1)
      rw [l_set_up (q4 z).1]
      exact (q4 z).2
  · have hk' : gN g + 1 ≤ k := hk
    obtain ⟨z1, z2, z3⟩ := a4 k (by omega)
    exact ⟨(eC 0 (by decide) k).trans z1, (eC 1 (by decide) k).trans z2, (eQ k).trans z3⟩
