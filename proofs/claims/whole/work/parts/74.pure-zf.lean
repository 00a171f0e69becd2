/-! What the reference's closing keeps. -/
def zI (t : tT) (g : gT) : Prop := cOK t g ∧ gX g ∧ tU t ∧ ∀ c, c < tN t → tS t c 0 ≤ 2 ∧ gF g (tR t c) 2 = 9
theorem give_F2 (g : gT) (k : Nat) (u v : Int32) (a : Nat) : gF (g_give g k u v) a 2 = gF g a 2 := by
  unfold g_give
  rw [(gSame.scan _).2.2.2.2.2 a 2 (by decide), gsU_F, gS_f g k u v a (by decide) (by decide)]
theorem out_ne (t : tT) (c : Nat) : ¬ (t_out t c).1 = 0 := by
  unfold t_out
  split
  · split
    · show ¬ (1 : Int32) = 0; decide
    · show ¬ (2 : Int32) = 0; decide
  · show ¬ (2 : Int32) = 0; decide
theorem tgive_F2 (t : tT) (g : gT) (c a : Nat) : gF (t_give t g c) a 2 = gF g a 2 := by
  unfold t_give
  split
  · exact give_F2 _ _ _ _ _
  · rfl
theorem gX.tgive {t : tT} {g : gT} {c : Nat} (h : gX g) (hO : gOK g) (h9 : gF g (tR t c) 2 = 9) : gX (t_give t g c) := by
  unfold t_give
  split
  · exact h.give (out_ne t c) (fun z => (hO.2.2.2 _ (List.mem_append_left _ z)).2.2 h9)
  · exact h
theorem zI.cl1 {x : tT × gT} {c : Nat} (h : zI x.1 x.2) (hc : c < tN x.1) : zI (t_cl1 x c).1 (t_cl1 x c).2 := by
  obtain ⟨h1, h2, h3, h4⟩ := h
  refine ⟨(t_cl1_ok h1 hc).1, ?_, ?_, ?_⟩
  · unfold t_cl1
    split
    · exact h2.tgive h1.1 (h4 c hc).2
    · exact h2
  · unfold t_cl1
    split
    · exact h3
    · exact h3
  · unfold t_cl1
    split
    · intro d hd
      refine ⟨?_, ?_⟩
      · show tS (tsS x.1 c 2 2) d 0 ≤ 2
        rw [tsS_S, if_neg (by omega)]
        exact (h4 d hd).1
      · show gF (t_give (tsS x.1 c 2 2) x.2 c) (tR x.1 d) 2 = 9
        rw [tgive_F2]
        exact (h4 d hd).2
    · exact h4
theorem can_eq {t : tT} {c : Nat} : t_can t c = (decide (tS t c 2 = 1) && decide (u_cnt t c 0 (uN t) = 0) && !(anyN (fun i => !decide (tS t i 2 = 2) && t_low t i c) (tN t))) := rfl
theorem cl1_no {x : tT × gT} {c : Nat} (h : t_can x.1 c = false) : t_cl1 x c = x := by
  unfold t_cl1
  rw [if_neg (by rw [h]; decide)]
theorem cl1_yes {x : tT × gT} {c : Nat} (h : t_can x.1 c = true) : t_cl1 x c = (tsS x.1 c 2 2, t_give (tsS x.1 c 2 2) x.2 c) := by
  unfold t_cl1
  rw [if_pos h]
