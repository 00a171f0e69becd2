/-! The reference: deadlines. -/
def cm (d e : Int32) : Int32 := if e = -1 then d else if d < 0 ∨ e < d then e else d
def m_d (d o : Int32) : Int32 := if 0 ≤ o ∧ (d < 0 ∨ o < d) then o else d
theorem cmd_none {d o : Int32} (hd : d = -1 ∨ 0 ≤ d) (ho : o = -1 ∨ 0 ≤ o) : cm d (if 0 ≤ o then o else -1) = m_d d o := by
  have e1 : (-1 : Int32).toInt = -1 := rfl
  have e0 : (0 : Int32).toInt = 0 := rfl
  unfold cm m_d
  simp only [Int32.le_iff_toInt_le, Int32.lt_iff_toInt_lt, ← Int32.toInt_inj, e1, e0] at *
  repeat' split
  all_goals first
    | rfl
    | omega
    | (exfalso; omega)
    | (simp_all; done)
    | (simp_all; omega)
theorem cmd_some {d o q : Int32} (hd : d = -1 ∨ 0 ≤ d) (ho : o = -1 ∨ 0 ≤ o) (hq : q = -1 ∨ 0 ≤ q) : cm d (if q = -1 then (if 0 ≤ o then o else -1) else (if 0 ≤ o then (if q < o then q else o) else q)) = cm (m_d d o) q := by
  have e1 : (-1 : Int32).toInt = -1 := rfl
  have e0 : (0 : Int32).toInt = 0 := rfl
  unfold cm m_d
  simp only [Int32.le_iff_toInt_le, Int32.lt_iff_toInt_lt, ← Int32.toInt_inj, e1, e0] at *
  repeat' split
  all_goals first
    | rfl
    | omega
    | (exfalso; omega)
    | (simp_all; done)
    | (simp_all; omega)
def tD (t : tT) : Prop := ∀ c, c < tN t → (tS t c 5 = -1 ∨ 0 ≤ tS t c 5) ∧ (tS t c 1 = -1 ∨ 0 ≤ tS t c 1) ∧ tS t c 1 = t_eff t (tP t c) (tS t c 5)
def m_cmb (t : tT) (d : Int32) : Option Nat → Int32
  | none => d
  | some y => cm d (tS t y 1)
theorem cmb_step {t : tT} {d : Int32} {y : Nat} (hD : tD t) (hd : d = -1 ∨ 0 ≤ d) (hW : tW t) (hy : y < tN t) : m_cmb t d (some y) = m_cmb t (m_d d (tS t y 5)) (tP t y) := by
  obtain ⟨h1, h2, h3⟩ := hD y hy
  show cm d (tS t y 1) = _
  rw [h3]
  cases hz : tP t y with
  | none => exact cmd_none hd h1
  | some z =>
    have hzN : z < tN t := by have := hW.2.1 y hy z hz; omega
    exact cmd_some hd h1 (hD z hzN).2.1
theorem m_d_ok {d o : Int32} (hd : d = -1 ∨ 0 ≤ d) : m_d d o = -1 ∨ 0 ≤ m_d d o := by
  unfold m_d
  split
  next h => exact Or.inr h.1
  next => exact hd
