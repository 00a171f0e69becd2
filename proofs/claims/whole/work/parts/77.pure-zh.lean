/-! A task ends: who was first. -/
def u_en (t : tT) (j : Nat) (s v : Int32) : tT := usE (usK (usK t j 4 s) j 6 v) j
theorem en_K (t : tT) (j : Nat) (s v : Int32) (a b : Nat) : uK (u_en t j s v) a b = if a = j ∧ b = 6 then v else if a = j ∧ b = 4 then s else uK t a b := by
  show uK (usK (usK t j 4 s) j 6 v) a b = _
  rw [usK_K, usK_K]
theorem en_K4j {t : tT} {j : Nat} {s v : Int32} : uK (u_en t j s v) j 4 = s := by rw [en_K, if_neg (by omega), if_pos ⟨rfl, rfl⟩]
theorem en_K4 {t : tT} {j : Nat} {s v : Int32} {a : Nat} (h : ¬ a = j) : uK (u_en t j s v) a 4 = uK t a 4 := by rw [en_K, if_neg (fun z => h z.1), if_neg (fun z => h z.1)]
theorem en_T (t : tT) (j : Nat) (s v : Int32) (a : Nat) : uT (u_en t j s v) a = if a = j then uE t else uT t a := by
  show va_up (uT t) j (uE t) a = _
  by_cases h : a = j
  · rw [if_pos h, h, va_up_self]
  · rw [if_neg h, va_up_ne _ _ h]
theorem fst_of {t : tT} {c : Nat} {s : Int32} : ∀ m b, u_fst t c s m = some b → b < m ∧ uO t b = c ∧ uK t b 4 = s
  | 0, b, h => by cases h
  | m + 1, b, h => by
    rw [u_fst] at h
    split at h
    next hc =>
      cases hf : u_fst t c s m with
      | none =>
        rw [hf] at h
        cases h
        exact ⟨by omega, hc⟩
      | some b' =>
        have := fst_of m b' hf
        rw [hf] at h
        dsimp only at h
        split at h
        · cases h; exact ⟨by omega, hc⟩
        · cases h; exact ⟨by omega, this.2⟩
    next =>
      have := fst_of m b h
      exact ⟨by omega, this.2⟩
/-- others' firsts stay -/
theorem fst_en_ne {t : tT} {j : Nat} {s v : Int32} (h0 : uK t j 4 = 0) {a : Nat} {r : Int32} (hr0 : ¬ r = 0) (hne : ¬ (uO t j = a ∧ s = r)) : ∀ m, u_fst (u_en t j s v) a r m = u_fst t a r m
  | 0 => rfl
  | m + 1 => by
    have ih := fst_en_ne (v := v) h0 hr0 hne m
    have eO : uO (u_en t j s v) m = uO t m := rfl
    by_cases hm : m = j
    · subst hm
      rw [u_fst, u_fst, ih, eO, en_K4j, if_neg hne, if_neg (fun z => hr0 (z.2.symm.trans h0))]
    · rw [u_fst, u_fst, ih, eO, en_K4 hm]
      by_cases hc : uO t m = a ∧ uK t m 4 = r
      · rw [if_pos hc, if_pos hc]
        cases hf : u_fst t a r m with
        | none => rfl
        | some b =>
          have hb := fst_of m b hf
          have hbj : ¬ b = j := fun z => hr0 (hb.2.2.symm.trans (z ▸ h0))
          dsimp only
          rw [en_T, en_T, if_neg hm, if_neg hbj]
      · rw [if_neg hc, if_neg hc]
def u_fo (r : Option Nat) (j : Nat) : Option Nat := match r with
  | none => some j
  | some b => some b
/-- the ended task is the first, if none was -/
theorem fst_en {t : tT} {j : Nat} {s v : Int32} (h0 : uK t j 4 = 0) (hs : s = 1 ∨ s = 2) (hT : ∀ k, k < uN t → uK t k 4 = 1 ∨ uK t k 4 = 2 → uT t k < uE t) : ∀ m, m ≤ uN t → u_fst (u_en t j s v) (uO t j) s m = if j < m then u_fo (u_fst t (uO t j) s m) j else u_fst t (uO t j) s m
  | 0, _ => rfl
  | m + 1, hm => by
    have ih := fst_en (v := v) h0 hs hT m (by omega)
    have hs0 : ¬ s = 0 := by rcases hs with rfl | rfl <;> decide
    have eO : uO (u_en t j s v) m = uO t m := rfl
    by_cases hmj : m = j
    · subst hmj
      have hlt : ¬ (m < m) := Nat.lt_irrefl m
      rw [u_fst, u_fst, ih, eO, en_K4j, if_neg hlt]
      rw [if_pos (show uO t m = uO t m ∧ s = s from ⟨rfl, rfl⟩), if_pos (Nat.lt_succ_self m), if_neg (fun z : uO t m = uO t m ∧ uK t m 4 = s => hs0 (z.2.symm.trans h0))]
      cases hf : u_fst t (uO t m) s m with
      | none => rfl
      | some b =>
        have hb := fst_of m b hf
        have hbT := hT b (by omega) (by rw [hb.2.2]; exact hs)
        show (if uT (u_en t m s v) m < uT (u_en t m s v) b then some m else some b) = some b
        rw [en_T, en_T, if_pos rfl, if_neg (show ¬ b = m by omega), if_neg (by omega)]
    · rw [u_fst, u_fst, ih, eO, en_K4 hmj]
      by_cases hc : uO t m = uO t j ∧ uK t m 4 = s
      · rw [if_pos hc, if_pos hc]
        have hmT := hT m (by omega) (by rw [hc.2]; exact hs)
        by_cases hjm : j < m
        · rw [if_pos hjm, if_pos (show j < m + 1 by omega)]
          cases hf : u_fst t (uO t j) s m with
          | none =>
            show (if uT (u_en t j s v) m < uT (u_en t j s v) j then some m else some j) = some m
            rw [en_T, en_T, if_neg hmj, if_pos rfl, if_pos hmT]
          | some b =>
            have hb := fst_of m b hf
            have hbj : ¬ b = j := fun z => hs0 (hb.2.2.symm.trans (z ▸ h0))
            show (if uT (u_en t j s v) m < uT (u_en t j s v) b then some m else some b) = u_fo (if uT t m < uT t b then some m else some b) j
            rw [en_T, en_T, if_neg hmj, if_neg hbj]
            by_cases hlt : uT t m < uT t b
            · rw [if_pos hlt]; rfl
            · rw [if_neg hlt]; rfl
        · rw [if_neg hjm, if_neg (show ¬ j < m + 1 by omega)]
          cases hf : u_fst t (uO t j) s m with
          | none => rfl
          | some b =>
            have hb := fst_of m b hf
            have hbj : ¬ b = j := fun z => hs0 (hb.2.2.symm.trans (z ▸ h0))
            show (if uT (u_en t j s v) m < uT (u_en t j s v) b then some m else some b) = (if uT t m < uT t b then some m else some b)
            rw [en_T, en_T, if_neg hmj, if_neg hbj]
      · rw [if_neg hc, if_neg hc]
        by_cases hjm : j < m
        · rw [if_pos hjm, if_pos (show j < m + 1 by omega)]
        · rw [if_neg hjm, if_neg (show ¬ j < m + 1 by omega)]
def m_en (σ : ps_S) (j c i : Nat) (s v w : Int32) : ps_S := ps_sI (ps_sI (ps_sI σ 14 24 j s) 14 26 j v) 14 i c w
theorem FrB.en {σ : ps_S} {j c i : Nat} {s v w : Int32} (hi : 11 ≤ i) : FrB σ (m_en σ j c i s v w) := ((FrB.b14 (by decide)).tr (FrB.b14 (by decide))).tr (FrB.b14 hi)
theorem RMB.en {σ : ps_S} {t : tT} {j i : Nat} {s v w : Int32} (h : RMB σ t) (hW : tW t) (hj : j < uN t) (h0 : uK t j 4 = 0) (hT : ∀ k, k < uN t → uK t k 4 = 1 ∨ uK t k 4 = 2 → uT t k < uE t)
    (hs : (s = 1 ∧ i = 16) ∨ (s = 2 ∧ i = 17)) (hw : w = m_opt (u_fo (u_fst t (uO t j) s (uN t)) j)) : RMB (m_en σ j (uO t j) i s v w) (u_en t j s v) := by
  have hoj := hW.2.2.1 j hj
  have hs' : s = 1 ∨ s = 2 := by rcases hs with z | z; exact Or.inl z.1; exact Or.inr z.1
  obtain ⟨⟨a1, a2, a3⟩, b1, b2, b3, b4⟩ := h
  generalize hσ : m_en σ j (uO t j) i s v w = σ'
  have hi : i = 16 ∨ i = 17 := by omega
  have e13 : ∀ y, ps_I σ' 13 0 y = ps_I σ 13 0 y := fun y => by rw [← hσ]; unfold m_en; rw [sI_ne (by omega), sI_ne (by omega), sI_ne (by omega)]
  have e14 : ∀ x y, ¬ (x = 24 ∧ y = j) → ¬ (x = 26 ∧ y = j) → ¬ (x = i ∧ y = uO t j) → ps_I σ' 14 x y = ps_I σ 14 x y := fun x y n1 n2 n3 => by rw [← hσ]; unfold m_en; rw [sI_ne (by omega), sI_ne (by omega), sI_ne (by omega)]
  have e15 : ∀ x y, ps_I σ' 15 x y = ps_I σ 15 x y := fun x y => by rw [← hσ]; unfold m_en; rw [sI_ne (by omega), sI_ne (by omega), sI_ne (by omega)]
  have n24 : ps_I σ' 14 24 j = s := by rw [← hσ]; unfold m_en; rw [sI_ne (by omega), sI_ne (by omega), ps_I_eq]
  have n26 : ps_I σ' 14 26 j = v := by rw [← hσ]; unfold m_en; rw [sI_ne (by omega), ps_I_eq]
  have ni : ps_I σ' 14 i (uO t j) = w := by rw [← hσ]; unfold m_en; rw [ps_I_eq]
  have hfs : u_fst (u_en t j s v) (uO t j) s (uN t) = u_fo (u_fst t (uO t j) s (uN t)) j := by rw [fst_en h0 hs' hT _ (Nat.le_refl _), if_pos hj]
  refine ⟨⟨(e13 22).trans a1, fun d hd => ?_, fun d hd => ?_⟩, (e13 35).trans b1, (e13 34).trans b2, fun k hk => ?_, fun k hk => ?_⟩
  · obtain ⟨⟨r1, r2, r3, r4, r5, r6, r7⟩, ⟨q1, q2⟩, q3⟩ := a2 d hd
    refine ⟨⟨(e14 11 d (by omega) (by omega) (by omega)).trans r1, (e14 12 d (by omega) (by omega) (by omega)).trans r2, (e14 13 d (by omega) (by omega) (by omega)).trans r3, (e14 14 d (by omega) (by omega) (by omega)).trans r4, (e14 15 d (by omega) (by omega) (by omega)).trans r5, (e15 2 d).trans r6, (e15 3 d).trans r7⟩, ⟨?_, ?_⟩, fun b hb => ⟨(e15 4 _).trans (q3 b hb).1, (e14 18 _ (by omega) (by omega) (by omega)).trans (q3 b hb).2⟩⟩
    · show _ = m_opt (u_fst (u_en t j s v) d 1 (uN t))
      by_cases hz : uO t j = d ∧ s = 1
      · obtain ⟨hd', hs1⟩ := hz
        have hi16 : i = 16 := by
          rcases hs with z | z
          · exact z.2
          · rw [hs1] at z; exact absurd z.1 (by decide)
        rw [← hd', ← hi16, ni, hw, ← hs1, hfs]
      · rw [fst_en_ne h0 (by decide) hz, ← q1]
        refine e14 16 d (by omega) (by omega) (fun z => ?_)
        rcases hs with y | y
        · exact hz ⟨z.2.symm, y.1⟩
        · omega
    · show _ = m_opt (u_fst (u_en t j s v) d 2 (uN t))
      by_cases hz : uO t j = d ∧ s = 2
      · obtain ⟨hd', hs1⟩ := hz
        have hi17 : i = 17 := by
          rcases hs with z | z
          · rw [hs1] at z; exact absurd z.1 (by decide)
          · exact z.2
        rw [← hd', ← hi17, ni, hw, ← hs1, hfs]
      · rw [fst_en_ne h0 (by decide) hz, ← q2]
        refine e14 17 d (by omega) (by omega) (fun z => ?_)
        rcases hs with y | y
        · omega
        · exact hz ⟨z.2.symm, y.1⟩
  · have hd' : tN t ≤ d := hd
    obtain ⟨⟨z1, z2, z3⟩, z4⟩ := a3 d hd
    exact ⟨⟨(e14 14 d (by omega) (by omega) (by omega)).trans z1, (e15 2 d).trans z2, (e15 3 d).trans z3⟩, fun b hb => ⟨(e15 4 _).trans (z4 b hb).1, (e14 18 _ (by omega) (by omega) (by omega)).trans (z4 b hb).2⟩⟩
  · obtain ⟨r1, r2, r3, r4, r5, r6, r7, r8⟩ := b3 k hk
    have eK : ∀ f, ¬ f = 4 → ¬ f = 6 → uK (u_en t j s v) k f = uK t k f := fun f n4 n6 => by rw [en_K, if_neg (fun z => n6 z.2), if_neg (fun z => n4 z.2)]
    refine ⟨(e14 19 k (by omega) (by omega) (by omega)).trans r1, ?_, ?_, ?_, ?_, ?_, ?_, ?_⟩
    · rw [eK 0 (by decide) (by decide), e14 20 k (by omega) (by omega) (by omega)]; exact r2
    · rw [eK 1 (by decide) (by decide), e14 21 k (by omega) (by omega) (by omega)]; exact r3
    · rw [eK 2 (by decide) (by decide), e14 22 k (by omega) (by omega) (by omega)]; exact r4
    · rw [eK 3 (by decide) (by decide), e14 23 k (by omega) (by omega) (by omega)]; exact r5
    · rw [en_K, if_neg (by omega)]
      by_cases hkj : k = j
      · rw [if_pos ⟨hkj, rfl⟩, hkj, n24]
      · rw [if_neg (fun z => hkj z.1), e14 24 k (by omega) (by omega) (by omega)]; exact r6
    · rw [eK 5 (by decide) (by decide), e14 25 k (by omega) (by omega) (by omega)]; exact r7
    · rw [en_K]
      by_cases hkj : k = j
      · rw [if_pos ⟨hkj, rfl⟩, hkj, n26]
      · rw [if_neg (fun z => hkj z.1), if_neg (fun z => hkj z.1), e14 26 k (by omega) (by omega) (by omega)]; exact r8
  · have hk' : uN t ≤ k := hk
    exact ⟨(e14 25 k (by omega) (by omega) (by omega)).trans (b4 k hk).1, (e14 26 k (by omega) (by omega) (by omega)).trans (b4 k hk).2⟩
