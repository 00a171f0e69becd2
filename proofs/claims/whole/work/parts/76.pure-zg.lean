/-! What scopes and tasks keep: the rest of the invariants. -/
def tI (t : tT) : Prop := tD t ∧ tU t ∧ (∀ j, j < uN t → ¬ fn_has (uK t j 1) = 0) ∧ (∀ j, j < uN t → uK t j 4 = 0 → ¬ tS t (uO t j) 2 = 2 ∧ 0 ≤ uK t j 5 ∧ uK t j 5 < uK t j 0 ∧ uK t j 0 ≤ 50) ∧ ∀ j, j < uN t → uK t j 4 = 1 ∨ uK t j 4 = 2 → uT t j < uE t
theorem tKeep.D {t t' : tT} (h : tKeep t t') (hD : tD t) : tD t' := by
  obtain ⟨⟨a1, a2, a3, a4, a5, a6⟩, a7⟩ := h
  intro c hc
  rw [a1] at hc
  obtain ⟨h1, h2, h3⟩ := hD c hc
  rw [(a6 c).2.1, (a6 c).2.2, a2]
  refine ⟨h1, h2, h3.trans ?_⟩
  unfold t_eff
  cases tP t c with
  | none => rfl
  | some p => simp only [(a6 p).2.1]
/-- stopping and lateness: only stopped, late, and states of running tasks -/
def tL (t t' : tT) : Prop := tKeep t t' ∧ (∀ c, tS t' c 2 = tS t c 2) ∧ (∀ j f, ¬ f = 4 → uK t' j f = uK t j f) ∧ (∀ j, uK t' j 4 = uK t j 4 ∨ uK t' j 4 = 3) ∧ uC t' = uC t
theorem tL.rf (t : tT) : tL t t := ⟨tKeep.rf t, fun _ => rfl, fun _ _ _ => rfl, fun _ => Or.inl rfl, rfl⟩
theorem tL.tr {a b c : tT} (h1 : tL a b) (h2 : tL b c) : tL a c := by
  refine ⟨h1.1.tr h2.1, fun x => (h2.2.1 x).trans (h1.2.1 x), fun j f hf => (h2.2.2.1 j f hf).trans (h1.2.2.1 j f hf), fun j => ?_, h2.2.2.2.2.trans h1.2.2.2.2⟩
  rcases h2.2.2.2.1 j with z | z
  · rcases h1.2.2.2.1 j with y | y
    · exact Or.inl (z.trans y)
    · exact Or.inr (z.trans y)
  · exact Or.inr z
theorem tL.sS (t : tT) (c f : Nat) (v : Int32) (hf : f = 3 ∨ f = 4) : tL t (tsS t c f v) :=
  ⟨tKeep.sS t c f v (by omega), fun a => by rw [tsS_S, if_neg (by omega)], fun _ _ _ => rfl, fun _ => Or.inl rfl, rfl⟩
theorem tL.can (t : tT) (c : Nat) : ∀ m, tL t (u_can t c m)
  | 0 => tL.rf t
  | m + 1 => by
    rw [u_can]
    split
    · refine (tL.can t c m).tr ⟨tKeep.sK _ _ _ _ (fun _ => Or.inl (by decide)), fun _ => rfl, fun j f hf => ?_, fun j => ?_, rfl⟩
      · rw [usK_K, if_neg (fun z => hf z.2)]
      · rw [usK_K]
        split
        · exact Or.inr rfl
        · exact Or.inl rfl
    · exact tL.can t c m
theorem tL.st1 (t : tT) (c i : Nat) : tL t (t_st1 t c i) := by
  unfold t_st1
  split
  · exact (tL.sS t i 3 1 (by omega)).tr (tL.can _ _ _)
  · exact tL.rf t
theorem tL.stN (t : tT) (c : Nat) : ∀ m, tL t (t_stN t c m)
  | 0 => tL.rf t
  | m + 1 => (tL.stN t c m).tr (tL.st1 _ _ _)
theorem tL.stop (t : tT) (c : Nat) : tL t (t_stop t c) := tL.stN t c _
theorem tL.la1 (t : tT) (i : Nat) : tL t (t_la1 t i) := by
  unfold t_la1
  split
  · exact (tL.sS t i 4 1 (by omega)).tr (tL.stop _ _)
  · exact tL.rf t
theorem tL.laN (t : tT) : ∀ m, tL t (t_laN t m)
  | 0 => tL.rf t
  | m + 1 => (tL.laN t m).tr (tL.la1 _ _)
theorem tL.I {t t' : tT} (h : tL t t') (hI : tI t) : tI t' := by
  obtain ⟨hk, h2, h3, h4, h5⟩ := h
  obtain ⟨i1, i2, i3, i4, i5⟩ := hI
  obtain ⟨e1, e2, e3, e4, e5⟩ := hk.2
  refine ⟨hk.D i1, fun j hj => ?_, fun j hj => ?_, fun j hj h0 => ?_, fun j hj h0 => ?_⟩
  · rcases h4 j with z | z
    · rw [z]; exact i2 j (e1 ▸ hj)
    · exact Or.inr (Or.inr (Or.inr z))
  · rw [h3 j 1 (by decide)]; exact i3 j (e1 ▸ hj)
  · have h00 := e5 j h0
    rw [h2, e2, h3 j 5 (by decide), h3 j 0 (by decide)]
    exact i4 j (e1 ▸ hj) h00
  · rw [e3, e4]
    rcases h4 j with z | z
    · exact i5 j (e1 ▸ hj) (z ▸ h0)
    · rw [z] at h0
      rcases h0 with y | y <;> exact absurd y (by decide)
theorem usC_I {t : tT} {v : Int32} (h : tI t) : tI (usC t v) := h
theorem usC_W {t : tT} {v : Int32} (h : tW t) : tW (usC t v) := h
/-- late first or last -/
theorem can_tsS (t : tT) (i f : Nat) (v : Int32) (c : Nat) : ∀ m, u_can (tsS t i f v) c m = tsS (u_can t c m) i f v
  | 0 => rfl
  | m + 1 => by
    rw [u_can, u_can, can_tsS t i f v c m]
    show (if uO (u_can t c m) m = c ∧ uK (u_can t c m) m 4 = 0 then _ else _) = _
    split
    · rfl
    · rfl
theorem f2_comm (f : Nat → Nat → Int32) {a b c d : Nat} (v w : Int32) (h : ¬ (a = c ∧ b = d)) : f2 (f2 f a b v) c d w = f2 (f2 f c d w) a b v := by
  funext x y
  rw [f2_eq, f2_eq, f2_eq, f2_eq]
  by_cases h1 : x = c ∧ y = d
  · rw [if_pos h1, if_neg (fun z => h ⟨z.1.symm.trans h1.1, z.2.symm.trans h1.2⟩), if_pos h1]
  · rw [if_neg h1, if_neg h1]
theorem tsS_comm (t : tT) {a b c d : Nat} (v w : Int32) (h : ¬ (a = c ∧ b = d)) : tsS (tsS t a b v) c d w = tsS (tsS t c d w) a b v :=
  congrArg (fun z => (((t.1.1, z, t.1.2.2), t.2) : tT)) (f2_comm (tS t) v w h)
theorem st1_late (t : tT) (i c x : Nat) : t_st1 (tsS t i 4 1) c x = tsS (t_st1 t c x) i 4 1 := by
  have e2 : tS (tsS t i 4 1) x 2 = tS t x 2 := by rw [tsS_S, if_neg (by omega)]
  unfold t_st1
  rw [e2]
  show (if x = c ∨ (¬ tS t x 2 = 2 ∧ t_low t x c = true) then _ else _) = _
  split
  · rw [tsS_comm t (a := i) (b := 4) (c := x) (d := 3) 1 1 (by omega), can_tsS]
    rfl
  · rfl
theorem stN_late (t : tT) (i c : Nat) : ∀ m, t_stN (tsS t i 4 1) c m = tsS (t_stN t c m) i 4 1
  | 0 => rfl
  | m + 1 => by rw [t_stN, t_stN, stN_late t i c m, st1_late]
theorem stop_late (t : tT) (i c : Nat) : t_stop (tsS t i 4 1) c = tsS (t_stop t c) i 4 1 := stN_late t i c _
/-- a deadline has passed -/
theorem past_iff {t : tT} {c : Nat} (hD : tD t) (hc : c < tN t) : t_past t c = true ↔ (0 ≤ tS t c 1 ∧ tS t c 1 ≤ uC t) := by
  unfold t_past
  rw [Bool.and_eq_true, Bool.not_eq_true', decide_eq_false_iff_not, decide_eq_true_iff]
  constructor
  · intro h
    exact ⟨(hD c hc).2.1.resolve_left h.1, h.2⟩
  · intro h
    exact ⟨fun z => absurd h.1 (by rw [z]; decide), h.2⟩
/-- a task works -/
theorem fst_eq {t t' : tT} (hO : uO t' = uO t) (hT : uT t' = uT t) {s : Int32} (hK : ∀ j, uK t' j 4 = uK t j 4) (a : Nat) : ∀ m, u_fst t' a s m = u_fst t a s m
  | 0 => rfl
  | m + 1 => by rw [u_fst, u_fst, fst_eq hO hT hK a m, hO, hT, hK m]
theorem RMB.tm {σ : ps_S} {t : tT} {v : Int32} (h : RMB σ t) : RMB (ps_sI σ 13 0 34 v) (usC t v) := by
  have e13 : ∀ j, j ≠ 34 → ps_I (ps_sI σ 13 0 34 v) 13 0 j = ps_I σ 13 0 j := fun j hj => sI_ne (by omega)
  have e14 : ∀ i j, ps_I (ps_sI σ 13 0 34 v) 14 i j = ps_I σ 14 i j := fun i j => sI_ne (by omega)
  have e15 : ∀ i j, ps_I (ps_sI σ 13 0 34 v) 15 i j = ps_I σ 15 i j := fun i j => sI_ne (by omega)
  have ef : ∀ a (s : Int32) m, u_fst (usC t v) a s m = u_fst t a s m := fun a s m => fst_eq (t := t) (t' := usC t v) rfl rfl (fun _ => rfl) a m
  obtain ⟨⟨a1, a2, a3⟩, b1, b2, b3, b4⟩ := h
  refine ⟨⟨(e13 22 (by decide)).trans a1, fun d hd => ?_, fun d hd => ?_⟩, (e13 35 (by decide)).trans b1, ps_I_eq _ _ _ _ _, fun k hk => ?_, fun k hk => ?_⟩
  · obtain ⟨r, ⟨q1, q2⟩, q3⟩ := a2 d hd
    unfold RMs
    simp only [e14, e15, ef]
    exact ⟨r, ⟨q1, q2⟩, q3⟩
  · simp only [e14, e15]; exact a3 d hd
  · unfold RMk; simp only [e14]; exact b3 k hk
  · simp only [e14]; exact b4 k hk
theorem RMB.s13 {σ : ps_S} {t : tT} {f : Nat} {v : Int32} (h : RMB σ t) (hf : f = 20 ∨ f = 21) : RMB (ps_sI σ 13 0 f v) t := by
  have e13 : ∀ j, j ≠ f → ps_I (ps_sI σ 13 0 f v) 13 0 j = ps_I σ 13 0 j := fun j hj => sI_ne (by omega)
  have e14 : ∀ i j, ps_I (ps_sI σ 13 0 f v) 14 i j = ps_I σ 14 i j := fun i j => sI_ne (by omega)
  have e15 : ∀ i j, ps_I (ps_sI σ 13 0 f v) 15 i j = ps_I σ 15 i j := fun i j => sI_ne (by omega)
  unfold RMB RMS RMK RMs RMk at h ⊢
  simp only [e13 22 (by omega), e13 34 (by omega), e13 35 (by omega), e14, e15]
  exact h
theorem RMB.app {σ : ps_S} {t : tT} {f a x : Int32} (h : RMB σ t) : RMB (m_app σ f a x) t := (h.s13 (Or.inr rfl)).s13 (Or.inl rfl)
theorem FrB.app {σ : ps_S} {f a x : Int32} : FrB σ (m_app σ f a x) := (FrB.sI (Or.inl ⟨rfl, by decide⟩)).tr (FrB.sI (Or.inl ⟨rfl, by decide⟩))
theorem RMB.wk {σ : ps_S} {t : tT} {j : Nat} {v : Int32} (h : RMB σ t) (hj : j < uN t) : RMB (ps_sI σ 14 25 j v) (usK t j 5 v) := by
  obtain ⟨⟨a1, a2, a3⟩, b1, b2, b3, b4⟩ := h
  have e13 : ∀ y, ps_I (ps_sI σ 14 25 j v) 13 0 y = ps_I σ 13 0 y := fun y => sI_ne (by omega)
  have e14 : ∀ x y, ¬ (x = 25 ∧ y = j) → ps_I (ps_sI σ 14 25 j v) 14 x y = ps_I σ 14 x y := fun x y hn => sI_ne (by omega)
  have e15 : ∀ x y, ps_I (ps_sI σ 14 25 j v) 15 x y = ps_I σ 15 x y := fun x y => sI_ne (by omega)
  have ef : ∀ a (s : Int32) m, u_fst (usK t j 5 v) a s m = u_fst t a s m := fun a s m => fst_eq (t := t) (t' := usK t j 5 v) rfl rfl (fun k => by rw [usK_K, if_neg (by omega)]) a m
  refine ⟨⟨(e13 22).trans a1, fun d hd => ?_, fun d hd => ?_⟩, (e13 35).trans b1, (e13 34).trans b2, fun k hk => ?_, fun k hk => ?_⟩
  · obtain ⟨⟨r1, r2, r3, r4, r5, r6, r7⟩, ⟨q1, q2⟩, q3⟩ := a2 d hd
    refine ⟨⟨(e14 11 d (by omega)).trans r1, (e14 12 d (by omega)).trans r2, (e14 13 d (by omega)).trans r3, (e14 14 d (by omega)).trans r4, (e14 15 d (by omega)).trans r5, (e15 2 d).trans r6, (e15 3 d).trans r7⟩, ⟨?_, ?_⟩, fun b hb => ⟨(e15 4 _).trans (q3 b hb).1, (e14 18 _ (by omega)).trans (q3 b hb).2⟩⟩
    · rw [e14 16 d (by omega), ef]; exact q1
    · rw [e14 17 d (by omega), ef]; exact q2
  · obtain ⟨⟨z1, z2, z3⟩, z4⟩ := a3 d hd
    exact ⟨⟨(e14 14 d (by omega)).trans z1, (e15 2 d).trans z2, (e15 3 d).trans z3⟩, fun b hb => ⟨(e15 4 _).trans (z4 b hb).1, (e14 18 _ (by omega)).trans (z4 b hb).2⟩⟩
  · obtain ⟨r1, r2, r3, r4, r5, r6, r7, r8⟩ := b3 k hk
    have eK : ∀ f, f ≠ 5 → uK (usK t j 5 v) k f = uK t k f := fun f hf => by rw [usK_K, if_neg (fun z => hf z.2)]
    refine ⟨(e14 19 k (by omega)).trans r1, ?_, ?_, ?_, ?_, ?_, ?_, ?_⟩
    · rw [eK 0 (by decide), e14 20 k (by omega)]; exact r2
    · rw [eK 1 (by decide), e14 21 k (by omega)]; exact r3
    · rw [eK 2 (by decide), e14 22 k (by omega)]; exact r4
    · rw [eK 3 (by decide), e14 23 k (by omega)]; exact r5
    · rw [eK 4 (by decide), e14 24 k (by omega)]; exact r6
    · rw [usK_K]
      by_cases hkj : k = j
      · rw [if_pos ⟨hkj, rfl⟩, hkj, ps_I_eq]
      · rw [if_neg (fun z => hkj z.1), e14 25 k (by omega)]; exact r7
    · rw [eK 6 (by decide), e14 26 k (by omega)]; exact r8
  · have hk' : uN t ≤ k := hk
    exact ⟨(e14 25 k (by omega)).trans (b4 k hk).1, (e14 26 k (by omega)).trans (b4 k hk).2⟩
