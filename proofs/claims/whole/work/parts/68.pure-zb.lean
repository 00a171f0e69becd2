/-! The reference's scopes under writes. -/
theorem fst_tsS (t : tT) (c f : Nat) (v : Int32) (a : Nat) (s : Int32) : ∀ m, u_fst (tsS t c f v) a s m = u_fst t a s m
  | 0 => rfl
  | m + 1 => by
    rw [u_fst, u_fst, fst_tsS t c f v a s m]
    rfl
theorem tsS_S (t : tT) (c f : Nat) (v : Int32) (a b : Nat) : tS (tsS t c f v) a b = if a = c ∧ b = f then v else tS t a b := f2_eq (tS t) c f v a b
theorem RMB.sS {σ : ps_S} {t : tT} {κ i c f : Nat} {v : Int32} (h : RMB σ t) (hc : c < tN t) (hf : (κ = 14 ∧ i = 14 ∧ f = 2) ∨ (κ = 15 ∧ i = 2 ∧ f = 3) ∨ (κ = 15 ∧ i = 3 ∧ f = 4)) : RMB (ps_sI σ κ i c v) (tsS t c f v) := by
  obtain ⟨⟨a1, a2, a3⟩, b1, b2, b3, b4⟩ := h
  have e13 : ∀ j, ps_I (ps_sI σ κ i c v) 13 0 j = ps_I σ 13 0 j := fun j => sI_ne (by omega)
  have e : ∀ x y z, ¬ (x = κ ∧ y = i ∧ z = c) → ps_I (ps_sI σ κ i c v) x y z = ps_I σ x y z := fun x y z hn => sI_ne hn
  refine ⟨⟨(e13 22).trans a1, fun d hd => ?_, fun d hd => ?_⟩, (e13 35).trans b1, (e13 34).trans b2, fun j hj => ?_, fun j hj => ?_⟩
  · obtain ⟨⟨r1, r2, r3, r4, r5, r6, r7⟩, ⟨q1, q2⟩, q3⟩ := a2 d hd
    have key : ∀ x y b, (x = 14 ∧ y = 14 ∧ b = 2) ∨ (x = 15 ∧ y = 2 ∧ b = 3) ∨ (x = 15 ∧ y = 3 ∧ b = 4) → ps_I σ x y d = tS t d b → ps_I (ps_sI σ κ i c v) x y d = tS (tsS t c f v) d b := by
      intro x y b hb hq
      rw [tsS_S]
      by_cases hz : d = c ∧ b = f
      · rw [if_pos hz, hz.1]
        have hx : x = κ := by omega
        have hy : y = i := by omega
        rw [hx, hy, ps_I_eq]
      · rw [if_neg hz, e x y d (by omega)]
        exact hq
    refine ⟨⟨(e 14 11 d (by omega)).trans r1, ?_, ?_, key 14 14 2 (by omega) r4, (e 14 15 d (by omega)).trans r5, key 15 2 3 (by omega) r6, key 15 3 4 (by omega) r7⟩, ⟨?_, ?_⟩, fun b hb => ⟨(e 15 4 _ (by omega)).trans (q3 b hb).1, (e 14 18 _ (by omega)).trans (q3 b hb).2⟩⟩
    · rw [e 14 12 d (by omega), tsS_S, if_neg (by omega)]; exact r2
    · rw [e 14 13 d (by omega), tsS_S, if_neg (by omega)]; exact r3
    · rw [e 14 16 d (by omega), fst_tsS]; exact q1
    · rw [e 14 17 d (by omega), fst_tsS]; exact q2
  · have hd' : tN t ≤ d := hd
    obtain ⟨⟨z1, z2, z3⟩, z4⟩ := a3 d hd'
    exact ⟨⟨(e 14 14 d (by omega)).trans z1, (e 15 2 d (by omega)).trans z2, (e 15 3 d (by omega)).trans z3⟩, fun b hb => ⟨(e 15 4 _ (by omega)).trans (z4 b hb).1, (e 14 18 _ (by omega)).trans (z4 b hb).2⟩⟩
  · obtain ⟨r1, r2, r3, r4, r5, r6, r7, r8⟩ := b3 j hj
    exact ⟨(e 14 19 j (by omega)).trans r1, (e 14 20 j (by omega)).trans r2, (e 14 21 j (by omega)).trans r3, (e 14 22 j (by omega)).trans r4, (e 14 23 j (by omega)).trans r5, (e 14 24 j (by omega)).trans r6, (e 14 25 j (by omega)).trans r7, (e 14 26 j (by omega)).trans r8⟩
  · have hj' : uN t ≤ j := hj
    exact ⟨(e 14 25 j (by omega)).trans (b4 j hj').1, (e 14 26 j (by omega)).trans (b4 j hj').2⟩
