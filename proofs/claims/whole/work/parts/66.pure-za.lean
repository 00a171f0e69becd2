/-! A new scope in the reference. -/
def m_mkC (σ : ps_S) (n : Nat) (s po d : Int32) : ps_S := ps_sI (ps_sI (ps_sI (ps_sI (ps_sI (ps_sI σ 13 0 22 (nI (n + 1))) 14 11 n s) 14 12 n po) 14 13 n d) 14 16 n (-1)) 14 17 n (-1)
theorem FrB.mkC {σ : ps_S} {n : Nat} {s po d : Int32} : FrB σ (m_mkC σ n s po d) := by
  unfold m_mkC
  exact (((((FrB.sI (Or.inl ⟨rfl, by decide⟩)).tr (FrB.b14 (by decide))).tr (FrB.b14 (by decide))).tr (FrB.b14 (by decide))).tr (FrB.b14 (by decide))).tr (FrB.b14 (by decide))
theorem fst_tmk (t : tT) (p : Option Nat) (po d : Int32) (r a : Nat) (s : Int32) : ∀ m, u_fst (t_mk t p po d r) a s m = u_fst t a s m
  | 0 => rfl
  | m + 1 => by
    rw [u_fst, u_fst, fst_tmk t p po d r a s m]
    rfl
theorem fst_no {t : tT} {a : Nat} {s : Int32} (h : ∀ j, j < uN t → uO t j < a) : ∀ m, m ≤ uN t → u_fst t a s m = none
  | 0, _ => rfl
  | m + 1, hm => by
    rw [u_fst, if_neg (fun z => by have := h m (by omega); omega)]
    exact fst_no h m (by omega)
theorem RMB.mkC {σ : ps_S} {t : tT} {s po d : Int32} {r : Nat} {p : Option Nat} (h : RMB σ t) (hW : tW t) (hs : s = m_opt p) : RMB (ps_sI (m_mkC σ (tN t) s po (if 0 ≤ d then d else -1)) 14 15 (tN t) (nI r)) (t_mk t p po d r) := by
  obtain ⟨⟨a1, a2, a3⟩, b1, b2, b3, b4⟩ := h
  generalize hσ : ps_sI (m_mkC σ (tN t) s po (if 0 ≤ d then d else -1)) 14 15 (tN t) (nI r) = σ'
  have e13 : ∀ j, j ≠ 22 → ps_I σ' 13 0 j = ps_I σ 13 0 j := by
    intro j hj
    rw [← hσ]; unfold m_mkC
    rw [sI_ne (by omega), sI_ne (by omega), sI_ne (by omega), sI_ne (by omega), sI_ne (by omega), sI_ne (by omega), sI_ne (by omega)]
  have e14 : ∀ i j, ¬ ((i = 11 ∨ i = 12 ∨ i = 13 ∨ i = 15 ∨ i = 16 ∨ i = 17) ∧ j = tN t) → ps_I σ' 14 i j = ps_I σ 14 i j := by
    intro i j hi
    rw [← hσ]; unfold m_mkC
    rw [sI_ne (by omega), sI_ne (by omega), sI_ne (by omega), sI_ne (by omega), sI_ne (by omega), sI_ne (by omega), sI_ne (by omega)]
  have e15 : ∀ i j, ps_I σ' 15 i j = ps_I σ 15 i j := by
    intro i j
    rw [← hσ]; unfold m_mkC
    rw [sI_ne (by omega), sI_ne (by omega), sI_ne (by omega), sI_ne (by omega), sI_ne (by omega), sI_ne (by omega), sI_ne (by omega)]
  have n22 : ps_I σ' 13 0 22 = nI (tN t + 1) := by rw [← hσ]; unfold m_mkC; rw [sI_ne (by omega), sI_ne (by omega), sI_ne (by omega), sI_ne (by omega), sI_ne (by omega), sI_ne (by omega), ps_I_eq]
  have n11 : ps_I σ' 14 11 (tN t) = s := by rw [← hσ]; unfold m_mkC; rw [sI_ne (by omega), sI_ne (by omega), sI_ne (by omega), sI_ne (by omega), sI_ne (by omega), ps_I_eq]
  have n12 : ps_I σ' 14 12 (tN t) = po := by rw [← hσ]; unfold m_mkC; rw [sI_ne (by omega), sI_ne (by omega), sI_ne (by omega), sI_ne (by omega), ps_I_eq]
  have n13 : ps_I σ' 14 13 (tN t) = if 0 ≤ d then d else -1 := by rw [← hσ]; unfold m_mkC; rw [sI_ne (by omega), sI_ne (by omega), sI_ne (by omega), ps_I_eq]
  have n16 : ps_I σ' 14 16 (tN t) = -1 := by rw [← hσ]; unfold m_mkC; rw [sI_ne (by omega), sI_ne (by omega), ps_I_eq]
  have n17 : ps_I σ' 14 17 (tN t) = -1 := by rw [← hσ]; unfold m_mkC; rw [sI_ne (by omega), ps_I_eq]
  have n15 : ps_I σ' 14 15 (tN t) = nI r := by rw [← hσ, ps_I_eq]
  refine ⟨⟨n22, fun c hc => ?_, fun c hc => ?_⟩, (e13 35 (by decide)).trans b1, (e13 34 (by decide)).trans b2, fun j hj => ?_, fun j hj => ?_⟩
  · have hc' : c < tN t + 1 := hc
    by_cases hcn : c = tN t
    · subst hcn
      obtain ⟨⟨z1, z2, z3⟩, z4⟩ := a3 (tN t) (Nat.le_refl _)
      have eS : ∀ f, tS (t_mk t p po d r) (tN t) f = if f = 0 then po else if f = 1 then t_eff t p d else if f = 5 then (if 0 ≤ d then d else -1) else 0 := fun f => congrFun (if_pos rfl) f
      refine ⟨⟨?_, ?_, ?_, ?_, ?_, ?_, ?_⟩, ⟨?_, ?_⟩, fun k hk => ⟨?_, ?_⟩⟩
      · rw [n11, hs]; exact congrArg m_opt (va_up_self _ _ _).symm
      · rw [n12, eS 0]; rfl
      · rw [n13, eS 5]; rfl
      · rw [e14 14 _ (by omega), z1, eS 2]; rfl
      · rw [n15]; exact congrArg nI (va_up_self _ _ _).symm
      · rw [e15, z2, eS 3]; rfl
      · rw [e15, z3, eS 4]; rfl
      · rw [n16, fst_tmk]; exact congrArg m_opt (fst_no hW.2.2.1 _ (Nat.le_refl _)).symm
      · rw [n17, fst_tmk]; exact congrArg m_opt (fst_no hW.2.2.1 _ (Nat.le_refl _)).symm
      · rw [e15, (z4 k hk).1]; show (0 : Int32) = (if tN t = tN t then (fun _ => 0) else tB t (tN t)) k; rw [if_pos rfl]
      · rw [e14 18 _ (by omega), (z4 k hk).2]; show (0 : Int32) = (if tN t = tN t then (fun _ => 0) else tV t (tN t)) k; rw [if_pos rfl]
    · obtain ⟨⟨r1, r2, r3, r4, r5, r6, r7⟩, ⟨q1, q2⟩, q3⟩ := a2 c (by omega)
      have eS : ∀ f, tS (t_mk t p po d r) c f = tS t c f := fun f => congrFun (if_neg hcn) f
      refine ⟨⟨?_, ?_, ?_, ?_, ?_, ?_, ?_⟩, ⟨?_, ?_⟩, fun k hk => ⟨?_, ?_⟩⟩
      · rw [e14 11 _ (by omega), r1]; exact congrArg m_opt (va_up_ne _ _ hcn).symm
      · rw [e14 12 _ (by omega), r2, eS]
      · rw [e14 13 _ (by omega), r3, eS]
      · rw [e14 14 _ (by omega), r4, eS]
      · rw [e14 15 _ (by omega), r5]; exact congrArg nI (va_up_ne _ _ hcn).symm
      · rw [e15, r6, eS]
      · rw [e15, r7, eS]
      · rw [e14 16 _ (by omega), fst_tmk]; exact q1
      · rw [e14 17 _ (by omega), fst_tmk]; exact q2
      · rw [e15, (q3 k hk).1]; exact (congrFun (if_neg hcn) k).symm
      · rw [e14 18 _ (by omega), (q3 k hk).2]; exact (congrFun (if_neg hcn) k).symm
  · have hc' : tN t + 1 ≤ c := hc
    obtain ⟨⟨z1, z2, z3⟩, z4⟩ := a3 c (by omega)
    exact ⟨⟨(e14 14 c (by omega)).trans z1, (e15 2 c).trans z2, (e15 3 c).trans z3⟩, fun b hb => ⟨(e15 4 _).trans (z4 b hb).1, (e14 18 _ (by omega)).trans (z4 b hb).2⟩⟩
  · obtain ⟨r1, r2, r3, r4, r5, r6, r7, r8⟩ := b3 j hj
    exact ⟨(e14 19 j (by omega)).trans r1, (e14 20 j (by omega)).trans r2, (e14 21 j (by omega)).trans r3, (e14 22 j (by omega)).trans r4, (e14 23 j (by omega)).trans r5, (e14 24 j (by omega)).trans r6, (e14 25 j (by omega)).trans r7, (e14 26 j (by omega)).trans r8⟩
  · have hj' : uN t ≤ j := hj
    exact ⟨(e14 25 j (by omega)).trans (b4 j hj').1, (e14 26 j (by omega)).trans (b4 j hj').2⟩
