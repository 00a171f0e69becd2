/-! A running task of the reference is cancelled. -/
theorem usK_K (t : tT) (j f : Nat) (v : Int32) (a b : Nat) : uK (usK t j f v) a b = if a = j ∧ b = f then v else uK t a b := f2_eq (uK t) j f v a b
theorem fst_can {t : tT} {j : Nat} (h0 : uK t j 4 = 0) (a : Nat) {s : Int32} (hs : s = 1 ∨ s = 2) : ∀ m, u_fst (usK t j 4 3) a s m = u_fst t a s m
  | 0 => rfl
  | m + 1 => by
    have ih := fst_can h0 a hs m
    rw [u_fst, u_fst, ih]
    by_cases hm : m = j
    · subst hm
      have e1 : ¬ (uO (usK t m 4 3) m = a ∧ uK (usK t m 4 3) m 4 = s) := fun z => by
        have z2 := z.2
        rw [usK_K, if_pos ⟨rfl, rfl⟩] at z2
        rcases hs with rfl | rfl <;> exact absurd z2 (by decide)
      have e2 : ¬ (uO t m = a ∧ uK t m 4 = s) := fun z => by
        have z2 := z.2
        rw [h0] at z2
        rcases hs with rfl | rfl <;> exact absurd z2 (by decide)
      rw [if_neg e1, if_neg e2]
    · have e3 : uK (usK t j 4 3) m 4 = uK t m 4 := by rw [usK_K, if_neg (fun z => hm z.1)]
      rw [e3]
      rfl
theorem RMB.can {σ : ps_S} {t : tT} {j : Nat} (h : RMB σ t) (hj : j < uN t) (h0 : uK t j 4 = 0) : RMB (ps_sI σ 14 24 j 3) (usK t j 4 3) := by
  obtain ⟨⟨a1, a2, a3⟩, b1, b2, b3, b4⟩ := h
  have e13 : ∀ y, ps_I (ps_sI σ 14 24 j 3) 13 0 y = ps_I σ 13 0 y := fun y => sI_ne (by omega)
  have e14 : ∀ x y, ¬ (x = 24 ∧ y = j) → ps_I (ps_sI σ 14 24 j 3) 14 x y = ps_I σ 14 x y := fun x y hn => sI_ne (by omega)
  have e15 : ∀ x y, ps_I (ps_sI σ 14 24 j 3) 15 x y = ps_I σ 15 x y := fun x y => sI_ne (by omega)
  refine ⟨⟨(e13 22).trans a1, fun d hd => ?_, fun d hd => ?_⟩, (e13 35).trans b1, (e13 34).trans b2, fun k hk => ?_, fun k hk => ?_⟩
  · obtain ⟨⟨r1, r2, r3, r4, r5, r6, r7⟩, ⟨q1, q2⟩, q3⟩ := a2 d hd
    refine ⟨⟨(e14 11 d (by omega)).trans r1, (e14 12 d (by omega)).trans r2, (e14 13 d (by omega)).trans r3, (e14 14 d (by omega)).trans r4, (e14 15 d (by omega)).trans r5, (e15 2 d).trans r6, (e15 3 d).trans r7⟩, ⟨?_, ?_⟩, fun b hb => ⟨(e15 4 _).trans (q3 b hb).1, (e14 18 _ (by omega)).trans (q3 b hb).2⟩⟩
    · rw [e14 16 d (by omega), fst_can h0 d (Or.inl rfl)]; exact q1
    · rw [e14 17 d (by omega), fst_can h0 d (Or.inr rfl)]; exact q2
  · obtain ⟨⟨z1, z2, z3⟩, z4⟩ := a3 d hd
    exact ⟨⟨(e14 14 d (by omega)).trans z1, (e15 2 d).trans z2, (e15 3 d).trans z3⟩, fun b hb => ⟨(e15 4 _).trans (z4 b hb).1, (e14 18 _ (by omega)).trans (z4 b hb).2⟩⟩
  · obtain ⟨r1, r2, r3, r4, r5, r6, r7, r8⟩ := b3 k hk
    have eK : ∀ f, f ≠ 4 → uK (usK t j 4 3) k f = uK t k f := fun f hf => by rw [usK_K, if_neg (fun z => hf z.2)]
    refine ⟨(e14 19 k (by omega)).trans r1, ?_, ?_, ?_, ?_, ?_, ?_, ?_⟩
    · rw [eK 0 (by decide), e14 20 k (by omega)]; exact r2
    · rw [eK 1 (by decide), e14 21 k (by omega)]; exact r3
    · rw [eK 2 (by decide), e14 22 k (by omega)]; exact r4
    · rw [eK 3 (by decide), e14 23 k (by omega)]; exact r5
    · rw [usK_K]
      by_cases hkj : k = j
      · rw [if_pos ⟨hkj, rfl⟩, hkj, ps_I_eq]
      · rw [if_neg (fun z => hkj z.1), e14 24 k (by omega)]; exact r6
    · rw [eK 5 (by decide), e14 25 k (by omega)]; exact r7
    · rw [eK 6 (by decide), e14 26 k (by omega)]; exact r8
  · exact ⟨(e14 25 k (by omega)).trans (b4 k hk).1, (e14 26 k (by omega)).trans (b4 k hk).2⟩
