/-! What scopes and tasks keep. -/
theorem sumN_mono {f f' : Nat → Nat} (h : ∀ k, f' k ≤ f k) : ∀ m, sumN f' m ≤ sumN f m
  | 0 => Nat.le_refl _
  | m + 1 => by
    have := sumN_mono h m
    have := h m
    rw [sumN, sumN]
    omega
def tKeep (t t' : tT) : Prop := (tN t' = tN t ∧ tP t' = tP t ∧ tR t' = tR t ∧ tV t' = tV t ∧ tB t' = tB t ∧ (∀ c, tS t' c 0 = tS t c 0 ∧ tS t' c 1 = tS t c 1 ∧ tS t' c 5 = tS t c 5)) ∧ (uN t' = uN t ∧ uO t' = uO t ∧ uT t' = uT t ∧ uE t' = uE t ∧ (∀ j, uK t' j 4 = 0 → uK t j 4 = 0))
theorem tKeep.rf (t : tT) : tKeep t t := ⟨⟨rfl, rfl, rfl, rfl, rfl, fun _ => ⟨rfl, rfl, rfl⟩⟩, rfl, rfl, rfl, rfl, fun _ h => h⟩
theorem tKeep.tr {a b c : tT} (h1 : tKeep a b) (h2 : tKeep b c) : tKeep a c := by
  obtain ⟨⟨a1, a2, a3, a4, a5, a6⟩, a7, a8, a9, a10, a11⟩ := h1
  obtain ⟨⟨b1, b2, b3, b4, b5, b6⟩, b7, b8, b9, b10, b11⟩ := h2
  exact ⟨⟨b1.trans a1, b2.trans a2, b3.trans a3, b4.trans a4, b5.trans a5, fun x => ⟨(b6 x).1.trans (a6 x).1, (b6 x).2.1.trans (a6 x).2.1, (b6 x).2.2.trans (a6 x).2.2⟩⟩, b7.trans a7, b8.trans a8, b9.trans a9, b10.trans a10, fun j h => a11 j (b11 j h)⟩
theorem tKeep.sS (t : tT) (c f : Nat) (v : Int32) (hf : f = 2 ∨ f = 3 ∨ f = 4) : tKeep t (tsS t c f v) :=
  ⟨⟨rfl, rfl, rfl, rfl, rfl, fun a => ⟨by rw [tS_sS]; exact if_neg (by omega), by rw [tS_sS]; exact if_neg (by omega), by rw [tS_sS]; exact if_neg (by omega)⟩⟩, rfl, rfl, rfl, rfl, fun _ h => h⟩
theorem tKeep.sK (t : tT) (j f : Nat) (v : Int32) (h : f = 4 → ¬ v = 0 ∨ uK t j 4 = 0) : tKeep t (usK t j f v) := by
  refine ⟨⟨rfl, rfl, rfl, rfl, rfl, fun _ => ⟨rfl, rfl, rfl⟩⟩, rfl, rfl, rfl, rfl, fun a ha => ?_⟩
  rw [uK_sK] at ha
  by_cases hc : a = j ∧ 4 = f
  · rw [if_pos hc] at ha
    rcases h hc.2.symm with z | z
    · exact absurd ha z
    · rw [hc.1]; exact z
  · rw [if_neg hc] at ha
    exact ha
theorem tKeep.can (t : tT) (c : Nat) : ∀ m, tKeep t (u_can t c m)
  | 0 => tKeep.rf t
  | m + 1 => by
    rw [u_can]
    split
    · exact (tKeep.can t c m).tr (tKeep.sK _ _ _ _ (fun _ => Or.inl (by decide)))
    · exact tKeep.can t c m
theorem tKeep.st1 (t : tT) (c i : Nat) : tKeep t (t_st1 t c i) := by
  unfold t_st1
  split
  · exact (tKeep.sS t i 3 1 (by omega)).tr (tKeep.can _ _ _)
  · exact tKeep.rf t
theorem tKeep.stN (t : tT) (c : Nat) : ∀ m, tKeep t (t_stN t c m)
  | 0 => tKeep.rf t
  | m + 1 => (tKeep.stN t c m).tr (tKeep.st1 _ _ _)
theorem tKeep.stop (t : tT) (c : Nat) : tKeep t (t_stop t c) := tKeep.stN t c _
theorem tKeep.la1 (t : tT) (i : Nat) : tKeep t (t_la1 t i) := by
  unfold t_la1
  split
  · exact (tKeep.sS t i 4 1 (by omega)).tr (tKeep.stop _ _)
  · exact tKeep.rf t
theorem tKeep.laN (t : tT) : ∀ m, tKeep t (t_laN t m)
  | 0 => tKeep.rf t
  | m + 1 => (tKeep.laN t m).tr (tKeep.la1 _ _)
theorem tKeep.tick (t : tT) : tKeep t (t_tick t) := tKeep.tr (b := usC t (uC t + 1)) ⟨⟨rfl, rfl, rfl, rfl, rfl, fun _ => ⟨rfl, rfl, rfl⟩⟩, rfl, rfl, rfl, rfl, fun _ h => h⟩ (tKeep.laN _ _)
theorem tKeep.wk (t : tT) (j : Nat) : tKeep t (u_wk t j) := by
  unfold u_wk
  split
  · exact tKeep.sK _ _ _ _ (fun z => absurd z (by decide))
  · refine ((tKeep.sK t j 5 _ (fun z => absurd z (by decide))).tr (tKeep.sK _ j 4 _ (fun _ => Or.inl ?_))).tr (tKeep.sK _ j 6 _ (fun z => absurd z (by decide)))
    split <;> decide
theorem tKeep.low {t t' : tT} (h : tKeep t t') (i c : Nat) : t_low t' i c = t_low t i c := by
  unfold t_low
  rw [h.1.1, h.1.2.1]
theorem tKeep.W {t t' : tT} (h : tKeep t t') (hW : tW t) : tW t' := by
  obtain ⟨⟨a1, a2, a3, a4, a5, a6⟩, a7, a8, a9, a10, a11⟩ := h
  unfold tW
  rw [a1, a2, a7, a8, a9, a10, a5]
  refine ⟨hW.1, hW.2.1, hW.2.2.1, ⟨?_, hW.2.2.2.1.2⟩, hW.2.2.2.2⟩
  have := sumN_mono (f := u_run t) (f' := u_run t') (fun k => by
    unfold u_run
    by_cases hk : uK t' k 4 = 0
    · rw [if_pos hk, if_pos (a11 k hk)]; exact Nat.le_refl _
    · rw [if_neg hk]; exact Nat.zero_le _) (uN t)
  have := hW.2.2.2.1.1
  omega
theorem tW.e30 {t : tT} (h : tW t) : uE t ≤ 30 := by
  have := h.1.2
  have := h.2.2.2.1.1
  omega
/-- a running task ends -/
theorem tW.end {t : tT} {j : Nat} (h : tW t) (hj : j < uN t) (h0 : uK t j 4 = 0) (h1 : ¬ uK (u_wk t j) j 4 = 0) : tW (usE (u_wk t j) j) := by
  have hk := tKeep.wk t j
  have h2 := hk.W h
  have hu : uN (u_wk t j) = uN t := hk.2.1
  have he : uE (u_wk t j) = uE t := hk.2.2.2.2.1
  refine ⟨h2.1, h2.2.1, h2.2.2.1, ⟨?_, fun a => ?_⟩, h2.2.2.2.2⟩
  · show uE (u_wk t j) + 1 + sumN (u_run (u_wk t j)) (uN (u_wk t j)) ≤ uN (u_wk t j)
    rw [hu, he]
    have hs := sumN_upd (f := u_run t) (f' := fun a => if a = j then 0 else u_run t a) (k := j) (fun a ha => if_neg ha) (uN t) hj
    have hm := sumN_mono (f := fun a => if a = j then 0 else u_run t a) (f' := u_run (u_wk t j)) (fun a => by
      by_cases ha : a = j
      · subst ha
        unfold u_run
        rw [if_neg h1]
        exact Nat.zero_le _
      · show u_run (u_wk t j) a ≤ if a = j then 0 else u_run t a
        rw [if_neg ha]
        unfold u_run
        by_cases hz : uK (u_wk t j) a 4 = 0
        · rw [if_pos hz, if_pos (hk.2.2.2.2.2 a hz)]; exact Nat.le_refl _
        · rw [if_neg hz]; exact Nat.zero_le _) (uN t)
    have h3 : u_run t j = 1 := if_pos h0
    have := h.2.2.2.1.1
    simp only [if_pos] at hs
    omega
  · show va_up (uT (u_wk t j)) j (uE (u_wk t j)) a ≤ 30
    by_cases ha : a = j
    · subst ha
      rw [va_up_self, he]
      exact h.e30
    · rw [va_up_ne _ _ ha]
      exact h2.2.2.2.1.2 a
theorem uN_end (t : tT) (j : Nat) : uN (u_end t j) = uN t ∧ tN (u_end t j) = tN t := by
  unfold u_end
  split
  · exact ⟨(tKeep.stop _ _).2.1, (tKeep.stop _ _).1.1⟩
  · exact ⟨rfl, rfl⟩
theorem tW.ende {t : tT} {j : Nat} (h : tW (usE t j)) : tW (u_end t j) := by
  unfold u_end
  split
  · exact (tKeep.stop _ _).W h
  · exact h
theorem tW.ps1 {t : tT} {j : Nat} (h : tW t) (hj : j < uN t) : tW (u_ps1 t j) := by
  unfold u_ps1
  split
  next h0 =>
    split
    next => exact (tKeep.wk t j).W h
    next h1 => exact tW.ende (h.end hj h0 h1)
  next => exact h
theorem uN_ps1 (t : tT) (j : Nat) : uN (u_ps1 t j) = uN t ∧ tN (u_ps1 t j) = tN t := by
  unfold u_ps1
  split
  · split
    · exact ⟨(tKeep.wk t j).2.1, (tKeep.wk t j).1.1⟩
    · exact ⟨(uN_end _ _).1.trans (tKeep.wk t j).2.1, (uN_end _ _).2.trans (tKeep.wk t j).1.1⟩
  · exact ⟨rfl, rfl⟩
theorem uN_psN (t : tT) : ∀ m, uN (u_psN t m) = uN t ∧ tN (u_psN t m) = tN t
  | 0 => ⟨rfl, rfl⟩
  | m + 1 => ⟨(uN_ps1 _ _).1.trans (uN_psN t m).1, (uN_ps1 _ _).2.trans (uN_psN t m).2⟩
theorem tW.psN {t : tT} (h : tW t) : ∀ m, m ≤ uN t → tW (u_psN t m)
  | 0, _ => h
  | m + 1, hm => (tW.psN h m (by omega)).ps1 (by rw [(uN_psN t m).1]; omega)
def t_find (t : tT) (s : Int32) : Option (Nat × Nat) := if ¬ s < 0 ∧ s.toNatClampNeg < tN t then some (5, s.toNatClampNeg) else none
def t_fopn (t : tT) (s : Int32) : Option (Nat × Nat) := if (¬ s < 0 ∧ s.toNatClampNeg < tN t) ∧ tS t s.toNatClampNeg 2 = 0 then some (5, s.toNatClampNeg) else none
def u_find (t : tT) (s : Int32) : Option (Nat × Nat) := if ¬ s < 0 ∧ s.toNatClampNeg < uN t then some (6, s.toNatClampNeg) else none
theorem u_cnt_le (t : tT) (c : Nat) (s : Int32) : ∀ m, u_cnt t c s m ≤ m
  | 0 => Nat.le_refl _
  | m + 1 => by
    have := u_cnt_le t c s m
    rw [u_cnt]
    split <;> omega
theorem u_fst_lt (t : tT) (c : Nat) (s : Int32) : ∀ m b, u_fst t c s m = some b → b < m
  | 0, b, h => by cases h
  | m + 1, b, h => by
    rw [u_fst] at h
    split at h
    · cases hf : u_fst t c s m with
      | none =>
        rw [hf] at h
        cases h
        omega
      | some b' =>
        have := u_fst_lt t c s m b' hf
        rw [hf] at h
        dsimp only at h
        split at h
        · cases h; omega
        · cases h; omega
    · have := u_fst_lt t c s m b h
      omega
/-- all but the kinds of the class's graph and tree is as it was -/
def FrC (σ σ' : ps_S) : Prop := ∀ κ, ¬ (1 ≤ κ ∧ κ ≤ 11) → ps_I σ' κ = ps_I σ κ ∧ ps_J σ' κ = ps_J σ κ ∧ ps_R σ' κ = ps_R σ κ ∧ ps_L σ' κ = ps_L σ κ ∧ ps_N σ' κ = ps_N σ κ
theorem FrC.rf (σ : ps_S) : FrC σ σ := fun _ _ => ⟨rfl, rfl, rfl, rfl, rfl⟩
theorem FrC.tr {a b c : ps_S} (h1 : FrC a b) (h2 : FrC b c) : FrC a c := fun κ hκ =>
  ⟨(h2 κ hκ).1.trans (h1 κ hκ).1, (h2 κ hκ).2.1.trans (h1 κ hκ).2.1, (h2 κ hκ).2.2.1.trans (h1 κ hκ).2.2.1, (h2 κ hκ).2.2.2.1.trans (h1 κ hκ).2.2.2.1, (h2 κ hκ).2.2.2.2.trans (h1 κ hκ).2.2.2.2⟩
theorem FrC.ofG {σ τ : ps_S} (h : FrG σ τ) : FrC σ τ := fun κ hκ => h κ (by omega)
theorem FrC.ofT {σ τ : ps_S} (h : FrT σ τ) : FrC σ τ := fun κ hκ => h κ (by omega)
/-- results of scopes are stages -/
def tgW (t : tT) (g : gT) : Prop := ∀ c, c < tN t → tR t c < gN g
theorem gN_give (g : gT) (k : Nat) (u v : Int32) : gN (g_give g k u v) = gN g := (gSame.scan _).1
theorem gN_tgive (t : tT) (g : gT) (c : Nat) : gN (t_give t g c) = gN g := by
  unfold t_give
  split
  · exact gN_give _ _ _ _
  · rfl
theorem t_out_ne (t : tT) (c : Nat) : ¬ (t_out t c).1 = 0 := by
  unfold t_out
  split
  · split
    · show ¬ (1 : Int32) = 0; decide
    · show ¬ (2 : Int32) = 0; decide
  · show ¬ (2 : Int32) = 0; decide
theorem gOK.tgive {t : tT} {g : gT} {c : Nat} (h : gOK g) (hc : tR t c < gN g) : gOK (t_give t g c) := by
  unfold t_give
  split
  next h0 => exact h.give hc h0 (t_out_ne t c)
  next => exact h
theorem nI_m1 {m : Nat} (hm : m < 2 ^ 31) : nI m - 1 < 0 ↔ m = 0 := by
  cases m with
  | zero => exact ⟨fun _ => rfl, fun _ => by decide⟩
  | succ m =>
    rw [nI_pred]
    exact ⟨fun z => absurd z (nI_pos (by omega)), fun z => by omega⟩
