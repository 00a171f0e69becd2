/-! The reference's scopes: keys, answers. -/
theorem key3 {k : Int32} (h : ¬ k < 0) : k ≤ 3 ↔ k.toNatClampNeg < 4 := by
  obtain ⟨j, hj, rfl⟩ := nI_of h
  rw [nI_clamp hj, show (3 : Int32) = nI 3 from rfl, nI_leI hj (by decide)]
  omega
theorem w_three {w : Int32} (h0 : ¬ w < 0) (h3 : w ≤ 3) (n0 : ¬ w = 0) (n1 : ¬ w = 1) (n2 : ¬ w = 2) : w = 3 := by
  obtain ⟨j, hj, rfl⟩ := nI_of h0
  rw [show (3 : Int32) = nI 3 from rfl, nI_leI hj (by decide)] at h3
  have : j = 0 ∨ j = 1 ∨ j = 2 ∨ j = 3 := by omega
  rcases this with rfl | rfl | rfl | rfl
  · exact absurd rfl n0
  · exact absurd rfl n1
  · exact absurd rfl n2
  · rfl
theorem xt_out {t : tT} {s w : Int32} (h : w < 0 ∨ ¬ w ≤ 3) : x_task t s w = -1 := by
  have key : ∀ c : Int32, 0 ≤ c → c ≤ 3 → ¬ w = c := by
    intro c h1 h2 z
    rcases h with h | h
    · rw [z] at h; exact absurd h (Int32.not_lt.mpr h1)
    · rw [z] at h; exact h h2
  unfold x_task
  rw [if_neg (key 0 (by decide) (by decide)), if_neg (key 1 (by decide) (by decide)), if_neg (key 2 (by decide) (by decide)), if_neg (key 3 (by decide) (by decide))]
  split <;> rfl
theorem tsV_S (t : tT) (c k : Nat) (v : Int32) : tS (tsV t c k v) = tS t := rfl
theorem fst_tsV (t : tT) (c k : Nat) (v : Int32) (a : Nat) (s : Int32) : ∀ m, u_fst (tsV t c k v) a s m = u_fst t a s m
  | 0 => rfl
  | m + 1 => by
    rw [u_fst, u_fst, fst_tsV t c k v a s m]
    rfl
theorem RMB.bnd {σ : ps_S} {t : tT} {c k : Nat} {v : Int32} (h : RMB σ t) (hc : c < tN t) (hk : k < 4) : RMB (ps_sI (ps_sI σ 15 4 (4 * c + k) 1) 14 18 (4 * c + k) v) (tsV t c k v) := by
  obtain ⟨⟨a1, a2, a3⟩, b1, b2, b3, b4⟩ := h
  have e13 : ∀ j, ps_I (ps_sI (ps_sI σ 15 4 (4 * c + k) 1) 14 18 (4 * c + k) v) 13 0 j = ps_I σ 13 0 j := fun j => by rw [sI_ne (by omega), sI_ne (by omega)]
  have e14 : ∀ i j, ¬ (i = 18 ∧ j = 4 * c + k) → ps_I (ps_sI (ps_sI σ 15 4 (4 * c + k) 1) 14 18 (4 * c + k) v) 14 i j = ps_I σ 14 i j := fun i j hi => by rw [sI_ne (by omega), sI_ne (by omega)]
  have e15 : ∀ i j, ¬ (i = 4 ∧ j = 4 * c + k) → ps_I (ps_sI (ps_sI σ 15 4 (4 * c + k) 1) 14 18 (4 * c + k) v) 15 i j = ps_I σ 15 i j := fun i j hi => by rw [sI_ne (by omega), sI_ne (by omega)]
  refine ⟨⟨(e13 22).trans a1, fun d hd => ?_, fun d hd => ?_⟩, (e13 35).trans b1, (e13 34).trans b2, fun j hj => ?_, fun j hj => ?_⟩
  · obtain ⟨⟨r1, r2, r3, r4, r5, r6, r7⟩, ⟨q1, q2⟩, q3⟩ := a2 d hd
    refine ⟨⟨(e14 11 d (by omega)).trans r1, (e14 12 d (by omega)).trans r2, (e14 13 d (by omega)).trans r3, (e14 14 d (by omega)).trans r4, (e14 15 d (by omega)).trans r5, (e15 2 d (by omega)).trans r6, (e15 3 d (by omega)).trans r7⟩, ⟨?_, ?_⟩, fun b hb => ?_⟩
    · rw [e14 16 d (by omega), fst_tsV]; exact q1
    · rw [e14 17 d (by omega), fst_tsV]; exact q2
    · show _ = f2 (tB t) c k 1 d b ∧ _ = f2 (tV t) c k v d b
      rw [f2_eq, f2_eq]
      by_cases hdb : d = c ∧ b = k
      · obtain ⟨rfl, rfl⟩ := hdb
        rw [if_pos ⟨rfl, rfl⟩, if_pos ⟨rfl, rfl⟩]
        exact ⟨by rw [sI_ne (by omega), ps_I_eq], ps_I_eq _ _ _ _ _⟩
      · rw [if_neg hdb, if_neg hdb, e15 4 _ (by omega), e14 18 _ (by omega)]
        exact q3 b hb
  · have hd' : tN t ≤ d := hd
    obtain ⟨⟨z1, z2, z3⟩, z4⟩ := a3 d hd'
    refine ⟨⟨(e14 14 d (by omega)).trans z1, (e15 2 d (by omega)).trans z2, (e15 3 d (by omega)).trans z3⟩, fun b hb => ?_⟩
    rw [e15 4 _ (by omega), e14 18 _ (by omega)]
    exact z4 b hb
  · obtain ⟨r1, r2, r3, r4, r5, r6, r7, r8⟩ := b3 j hj
    exact ⟨(e14 19 j (by omega)).trans r1, (e14 20 j (by omega)).trans r2, (e14 21 j (by omega)).trans r3, (e14 22 j (by omega)).trans r4, (e14 23 j (by omega)).trans r5, (e14 24 j (by omega)).trans r6, (e14 25 j (by omega)).trans r7, (e14 26 j (by omega)).trans r8⟩
  · have hj' : uN t ≤ j := hj
    exact ⟨(e14 25 j (by omega)).trans (b4 j hj').1, (e14 26 j (by omega)).trans (b4 j hj').2⟩
theorem FrB.b14 {σ : ps_S} {i k : Nat} {v : Int32} (h : 11 ≤ i) : FrB σ (ps_sI σ 14 i k v) := FrB.sI (Or.inr (Or.inl ⟨rfl, h⟩))
theorem FrB.b15 {σ : ps_S} {i k : Nat} {v : Int32} (h : 2 ≤ i) : FrB σ (ps_sI σ 15 i k v) := FrB.sI (Or.inr (Or.inr ⟨rfl, h⟩))
