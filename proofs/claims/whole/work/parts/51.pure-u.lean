/-! The reference's public calls. -/
def FrM (σ σ' : ps_S) : Prop := ∀ κ, κ < 13 → ps_I σ' κ = ps_I σ κ ∧ ps_J σ' κ = ps_J σ κ ∧ ps_R σ' κ = ps_R σ κ ∧ ps_L σ' κ = ps_L σ κ ∧ ps_N σ' κ = ps_N σ κ
theorem FrM.rf (σ : ps_S) : FrM σ σ := fun _ _ => ⟨rfl, rfl, rfl, rfl, rfl⟩
theorem FrM.tr {a b c : ps_S} (h1 : FrM a b) (h2 : FrM b c) : FrM a c := fun κ hκ =>
  ⟨(h2 κ hκ).1.trans (h1 κ hκ).1, (h2 κ hκ).2.1.trans (h1 κ hκ).2.1, (h2 κ hκ).2.2.1.trans (h1 κ hκ).2.2.1, (h2 κ hκ).2.2.2.1.trans (h1 κ hκ).2.2.2.1, (h2 κ hκ).2.2.2.2.trans (h1 κ hκ).2.2.2.2⟩
theorem FrM.ofA {σ σ' : ps_S} (h : FrA σ σ') : FrM σ σ' := fun κ hκ => by
  refine ⟨?_, h.2.1 κ (by omega), by rw [h.2.2.1], by rw [h.2.2.2.1], by rw [h.2.2.2.2]⟩
  funext i j
  exact h.1 κ i j (by unfold inMA; omega)
theorem FrM.ofB {σ σ' : ps_S} (h : FrB σ σ') : FrM σ σ' := fun κ hκ => by
  refine ⟨?_, by rw [h.2.1], by rw [h.2.2.1], by rw [h.2.2.2.1], by rw [h.2.2.2.2]⟩
  funext i j
  exact h.1 κ i j (by unfold inMB; omega)
theorem FrM.th {σ : ps_S} {v : Int32} : FrM σ (ps_sI σ 13 0 0 v) := fun κ hκ => by
  refine ⟨?_, rfl, rfl, rfl, rfl⟩
  funext i j
  exact sI_ne (by omega)
theorem FrA.th {σ σ' : ps_S} (h : FrA σ σ') : ps_I σ' 13 0 0 = ps_I σ 13 0 0 := h.1 13 0 0 (by unfold inMA; omega)
theorem FrB.th {σ σ' : ps_S} (h : FrB σ σ') : ps_I σ' 13 0 0 = ps_I σ 13 0 0 := h.1 13 0 0 (by unfold inMB; omega)
theorem RM0.th {σ : ps_S} {v : Int32} (h : RM0 σ) : RM0 (ps_sI σ 13 0 0 v) := h
theorem RMB.th {σ : ps_S} {t : tT} {v : Int32} (h : RMB σ t) : RMB (ps_sI σ 13 0 0 v) t := by
  have e13 : ∀ j, j ≠ 0 → ps_I (ps_sI σ 13 0 0 v) 13 0 j = ps_I σ 13 0 j := fun j hj => sI_ne (by omega)
  have e14 : ∀ i j, ps_I (ps_sI σ 13 0 0 v) 14 i j = ps_I σ 14 i j := fun i j => sI_ne (by omega)
  have e15 : ∀ i j, ps_I (ps_sI σ 13 0 0 v) 15 i j = ps_I σ 15 i j := fun i j => sI_ne (by omega)
  unfold RMB RMS RMK RMs RMk at h ⊢
  simp only [e13 22 (by decide), e13 34 (by decide), e13 35 (by decide), e14, e15]
  exact h
theorem RM.th {σ : ps_S} {t : tT} {g : gT} {p : Nat} {v : Int32} (h : RM σ t g p) : RM (ps_sI σ 13 0 0 v) t g p := ⟨h.1.th, h.2.1.sc (Or.inl rfl), h.2.2.th⟩
theorem RM.A {σ σ' : ps_S} {t : tT} {g g' : gT} {p p' : Nat} (h : RM σ t g p) (hA : RMA σ' g' p') (hf : FrA σ σ') : RM σ' t g' p' := ⟨h.1.A hf, hA, h.2.2.A hf⟩
theorem RM.B {σ σ' : ps_S} {t t' : tT} {g : gT} {p : Nat} (h : RM σ t g p) (hB : RMB σ' t') (hf : FrB σ σ') : RM σ' t' g p := ⟨h.1.B hf, h.2.1.B hf, hB⟩
def gY (g : gT) : Prop := gX g ∧ gL g = []
theorem abl_congr {g g' : gT} {k : Nat} (h2 : gF g' k 2 = gF g k 2) (hA : gA g' k = gA g k) (hI : gI g' k = gI g k) (ho : ∀ a, (a ∈ gI g k ∨ gA g k = some a) → g_on g' a = g_on g a) : g_abl g' k = g_abl g k := by
  unfold g_abl
  rw [h2, hA, hI]
  cases hz : gA g k with
  | some j => simp only [ho j (Or.inr hz)]
  | none =>
    have e1 : (gI g k).any (g_on g') = (gI g k).any (g_on g) := by
      rw [Bool.eq_iff_iff, List.any_eq_true, List.any_eq_true]
      exact ⟨fun ⟨x, hx, hf⟩ => ⟨x, hx, by rw [← ho x (Or.inl hx)]; exact hf⟩, fun ⟨x, hx, hf⟩ => ⟨x, hx, by rw [ho x (Or.inl hx)]; exact hf⟩⟩
    have e2 : (gI g k).all (g_on g') = (gI g k).all (g_on g) := by
      rw [Bool.eq_iff_iff, List.all_eq_true, List.all_eq_true]
      exact ⟨fun h x hx => by rw [← ho x (Or.inl hx)]; exact h x hx, fun h x hx => by rw [ho x (Or.inl hx)]; exact h x hx⟩
    simp only [e1, e2]
theorem gX.mk {g : gT} {kd fn a as : Int32} {ins : List Nat} (h : gX g) (hO : gOK g) : gX (g_mk g kd fn a as ins) := by
  have gFo : ∀ k c, k ≠ gN g → gF (g_mk g kd fn a as ins) k c = gF g k c := fun k c hk => congrFun (if_neg hk) c
  have gAo : ∀ k, k ≠ gN g → gA (g_mk g kd fn a as ins) k = gA g k := fun k hk => va_up_ne _ _ hk
  have on : ∀ k, k < gN g → g_on (g_mk g kd fn a as ins) k = g_on g k := by
    intro k hk
    unfold g_on
    rw [gFo k 0 (by omega)]
  refine ⟨fun k j hj => ?_, fun k hk => ?_, fun k hk => ?_⟩
  · by_cases hkn : k = gN g
    · rw [hkn, show gA (g_mk g kd fn a as ins) (gN g) = none from va_up_self _ _ _] at hj
      cases hj
    · rw [gAo k hkn] at hj
      rw [gFo k 2 hkn]
      exact h.1 k j hj
  · have hkN := (hO.2.2.2 k hk).1
    rw [on k hkN, abl_congr (g := g) (gFo k 2 (by omega)) (gAo k (by omega)) (va_up_ne _ _ (by omega)) (fun b hb => on b (by
      rcases hb with hb | hb
      · exact (hO.1.2.2 k hkN).2.1 b hb
      · exact (hO.1.2.2 k hkN).2.2 b hb))]
    exact h.2.1 k hk
  · rw [on k (hO.2.2.2 k (List.mem_append_left _ hk)).1]
    exact h.2.2 k hk
theorem ne48 {n : Nat} (h : n < 48) : ¬ nI n = 48 := fun z => by
  rw [show (48 : Int32) = nI 48 from rfl, nI_eq (by omega) (by decide)] at z
  omega
theorem eq48 {n : Nat} (h : ¬ n < 48) (h2 : n ≤ 48) : nI n = 48 := by rw [show n = 48 by omega]; rfl
theorem st_nI {s : Int32} (h : ¬ s < 0) : s = nI s.toNatClampNeg := by
  obtain ⟨j, hj, rfl⟩ := nI_of h
  rw [nI_clamp hj]
theorem sh_9 {g : gT} {s u : Int32} {set : Int64} {f fn : Int32} {ins : List Nat} : m_sh g 9 s u set f fn ins :=
  ⟨⟨by decide, by decide⟩, fun z => absurd z (by decide), fun z => absurd z (by decide), fun z => absurd z (by decide), fun z => absurd z (by decide)⟩
theorem sh_then {g : gT} {s k f : Int32} (hb : a_then g s k f) : m_sh g k s s 0 f f [s.toNatClampNeg] := by
  refine ⟨⟨Int32.not_lt.mp hb.2.1, ?_⟩, fun _ => ⟨_, rfl, st_nI hb.1.1⟩, fun z => absurd hb.2.2.1 ?_, fun z => absurd hb.2.2.1 ?_, fun _ => ⟨rfl, hb.2.2.2⟩⟩
  · exact Int32.le_trans (Int32.not_lt.mp hb.2.2.1) (by decide)
  · rcases z with z | z <;> (rw [z]; decide)
  · rcases z with z | z <;> (rw [z]; decide)
theorem sh_both {g : gT} {s u k f : Int32} (hb : a_both g s u k f) : m_sh g k s u 0 f f [s.toNatClampNeg, u.toNatClampNeg] := by
  refine ⟨⟨?_, ?_⟩, fun z => absurd z hb.2.2.1, fun _ => ⟨_, _, rfl, st_nI hb.1.1, st_nI hb.2.1.1⟩, fun z => absurd hb.2.2.2.1 ?_, fun _ => ⟨rfl, hb.2.2.2.2⟩⟩
  · exact Int32.le_trans (by decide) (Int32.not_lt.mp hb.2.2.1)
  · exact Int32.le_trans (Int32.not_lt.mp hb.2.2.2.1) (by decide)
  · rcases z with z | z <;> (rw [z]; decide)
theorem sh_sev {g : gT} {set : Int64} {k : Int32} (hb : a_sev g set k) (h48 : gN g ≤ 48) : m_sh g k 0 0 set 0 (-1) (l_set (l_N set) (gN g)) := by
  have h7 := Int32.not_lt.mp hb.2.1
  refine ⟨⟨Int32.le_trans (by decide) h7, Int32.le_trans hb.2.2 (by decide)⟩, fun z => absurd z (Int32.not_lt.mpr (Int32.le_trans (by decide) h7)), fun z => absurd h7 ?_, fun _ => ⟨(hasAll_N hb.1 h48).2, rfl⟩, fun z => absurd z hb.2.1⟩
  rcases z with z | z <;> (rw [z]; decide)
theorem sa_sh {x : Int64} {n : Nat} (hn : n ≤ 48) : l_sa x n = 0 ↔ l_sh x n = 0 := by
  by_cases hx : l_N x < 2 ^ 63
  · rw [l_N0, l_N0, l_N_sa (by omega) hx, l_N_sh x (by omega)]
  · have h1 : ¬ l_sh x n = 0 := by
      rw [l_N0, l_N_sh x (by omega)]
      intro z
      rcases Nat.div_eq_zero_iff.mp z with z | z
      · exact absurd z (Nat.ne_of_gt (Nat.two_pow_pos _))
      · have : 2 ^ n ≤ 2 ^ 48 := Nat.pow_le_pow_right (by decide) hn
        omega
    refine ⟨fun z => absurd z ?_, fun z => absurd z h1⟩
    intro z
    have hm : x.toBitVec.msb = true := by
      rw [BitVec.msb_eq_decide, decide_eq_true_iff]
      have : ¬ x.toBitVec.toNat < 2 ^ 63 := hx
      show 2 ^ 63 ≤ _
      omega
    have e : (l_sa x n).toBitVec.msb = true := by
      show (x >>> ((nI n).toInt64 &&& 63)).toBitVec.msb = true
      rw [Int64.toBitVec_shiftRight, BitVec.sshiftRight_eq', BitVec.msb_sshiftRight]
      exact hm
    rw [z] at e
    exact absurd e (by decide)
