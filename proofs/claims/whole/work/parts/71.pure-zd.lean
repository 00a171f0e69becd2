/-! The reference: how a scope ends. -/
def tU (t : tT) : Prop := ∀ j, j < uN t → uK t j 4 = 0 ∨ uK t j 4 = 1 ∨ uK t j 4 = 2 ∨ uK t j 4 = 3
def m_wh (t : tT) (c : Nat) : Nat → Bool
  | 0 => true
  | m + 1 => m_wh t c m && (!decide (uO t m = c) || decide (uK t m 4 = 1))
theorem cnt_s {t : tT} {c : Nat} {s : Int32} (m : Nat) : u_cnt t c s (m + 1) = u_cnt t c s m + (if uO t m = c ∧ uK t m 4 = s then 1 else 0) := rfl
theorem wh_cnt {t : tT} (hU : tU t) (c : Nat) : ∀ m, m ≤ uN t → m_wh t c m = (decide (u_cnt t c 0 m = 0) && (decide (u_cnt t c 2 m = 0) && decide (u_cnt t c 3 m = 0)))
  | 0, _ => rfl
  | m + 1, hm => by
    have ih := wh_cnt hU c m (by omega)
    rw [m_wh, ih, cnt_s, cnt_s, cnt_s]
    by_cases ho : uO t m = c
    · rcases hU m (by omega) with h | h | h | h <;> simp [ho, h]
    · simp [ho]
theorem fst_cnt (t : tT) (c : Nat) (s : Int32) : ∀ m, (u_fst t c s m = none ↔ u_cnt t c s m = 0) ∧ ∀ b, u_fst t c s m = some b → b < m
  | 0 => ⟨⟨fun _ => rfl, fun _ => rfl⟩, fun b h => (by cases h)⟩
  | m + 1 => by
    obtain ⟨h1, h2⟩ := fst_cnt t c s m
    rw [u_fst, cnt_s]
    by_cases hc : uO t m = c ∧ uK t m 4 = s
    · rw [if_pos hc, if_pos hc]
      refine ⟨⟨fun z => ?_, fun z => absurd z (by omega)⟩, fun b hb => ?_⟩
      · cases hf : u_fst t c s m with
        | none => rw [hf] at z; cases z
        | some y =>
          rw [hf] at z
          simp only at z
          split at z <;> cases z
      · cases hf : u_fst t c s m with
        | none => rw [hf] at hb; cases hb; omega
        | some y =>
          rw [hf] at hb
          have := h2 y hf
          simp only at hb
          split at hb
          · cases hb; omega
          · cases hb; omega
    · rw [if_neg hc, if_neg hc, Nat.add_zero]
      exact ⟨h1, fun b hb => Nat.lt_succ_of_lt (h2 b hb)⟩
theorem ok_lt2 {t : tT} {c : Nat} (hU : tU t) (h2 : ¬ 2 ≤ tS t c 0) (h0 : u_cnt t c 0 (uN t) = 0) : t_ok t c = m_wh t c (uN t) := by
  rw [t_ok, if_neg (fun z => h2 (by rw [z]; decide)), wh_cnt hU c _ (Nat.le_refl _), h0]
  rfl
theorem ok_2 {t : tT} {c : Nat} (h2 : tS t c 0 = 2) : (t_ok t c = true) ↔ ¬ u_fst t c 1 (uN t) = none := by
  rw [t_ok, if_pos h2, decide_eq_true_iff, (fst_cnt t c 1 (uN t)).1]
  omega
theorem val_2 {t : tT} {c b : Nat} (h2 : tS t c 0 = 2) (hf : u_fst t c 1 (uN t) = some b) : t_val t c = uK t b 6 := by
  rw [t_val, if_pos h2, hf]
  rfl
theorem val_lt2 {t : tT} {c : Nat} (h2 : ¬ 2 ≤ tS t c 0) : t_val t c = u_sum t c (uN t) := by
  rw [t_val, if_neg (fun z => h2 (by rw [z]; decide))]
theorem le2_eq {p : Int32} (h : p ≤ 2) (h2 : 2 ≤ p) : p = 2 := Int32.le_antisymm h h2
