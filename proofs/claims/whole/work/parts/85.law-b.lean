/-! The law: what holds before every call. -/
def LI (σ : ps_S) (t : tT) (g : gT) : Prop := RP σ t g ∧ RM σ t g 0 ∧ zV t g ∧ ps_L σ 12 0 = 1
theorem RM.fc {σ σ' : ps_S} {t : tT} {g : gT} {p : Nat} (h : RM σ t g p) (hf : FrC σ σ') : RM σ' t g p := by
  have q := fun κ (hκ : 12 ≤ κ) => hf κ (by omega)
  unfold RM RM0 RMA RMB RMG RML RMP RMS RMK RMg RMs RMk m_in at h ⊢
  obtain ⟨⟨h1, h2, h3⟩, h4⟩ := h
  refine ⟨⟨fun f x hx => ?_, fun κ a hk1 hk2 => ?_, ?_⟩, ?_⟩
  · rw [(q 13 (by decide)).2.2.1]; exact h1 f x hx
  · rw [(q κ (by omega)).2.2.2.1]; exact h2 κ a hk1 hk2
  · rw [(q 13 (by decide)).2.2.2.2]; exact h3
  · simp only [(q 13 (by decide)).1, (q 14 (by decide)).1, (q 15 (by decide)).1, (q 16 (by decide)).2.1]
    exact h4
theorem RP.fm {σ σ' : ps_S} {t : tT} {g : gT} (h : RP σ t g) (hf : FrM σ σ') : RP σ' t g := by
  have q := fun κ (hκ : κ < 13) => hf κ hκ
  unfold RP RC RC0 RS RQ RT RT0 RTs RTk at h ⊢
  simp only [(q 0 (by decide)).1, (q 0 (by decide)).2.2.1, (q 1 (by decide)).1, (q 1 (by decide)).2.2.1, (q 1 (by decide)).2.2.2.2, (q 2 (by decide)).1, (q 2 (by decide)).2.2.1, (q 2 (by decide)).2.2.2.2, (q 3 (by decide)).1, (q 3 (by decide)).2.2.1, (q 3 (by decide)).2.2.2.2, (q 4 (by decide)).2.2.1, (q 4 (by decide)).2.2.2.1, (q 4 (by decide)).2.2.2.2, (q 5 (by decide)).1, (q 5 (by decide)).2.2.1, (q 5 (by decide)).2.2.2.2, (q 6 (by decide)).1, (q 6 (by decide)).2.2.1, (q 6 (by decide)).2.2.2.2, (q 7 (by decide)).1, (q 7 (by decide)).2.2.1, (q 8 (by decide)).2.2.1, (q 8 (by decide)).2.2.2.1, (q 9 (by decide)).2.2.1, (q 9 (by decide)).2.2.2.1, (q 10 (by decide)).1, (q 10 (by decide)).2.2.2.1, (q 10 (by decide)).2.2.2.2, (q 11 (by decide)).1, (q 11 (by decide)).2.2.2.1, (q 11 (by decide)).2.2.2.2]
  exact h
theorem RP.sJ {σ : ps_S} {t : tT} {g : gT} {v : Int64} (h : RP σ t g) : RP (ps_sJ σ 12 0 0 v) t g := h
theorem RM.sJ {σ : ps_S} {t : tT} {g : gT} {p : Nat} {v : Int64} (h : RM σ t g p) : RM (ps_sJ σ 12 0 0 v) t g p := by
  have e : ps_J (ps_sJ σ 12 0 0 v) 16 = ps_J σ 16 := by
    funext i j
    rw [ps_J_sJ, if_neg (by omega)]
  have eI : ps_I (ps_sJ σ 12 0 0 v) = ps_I σ := rfl
  unfold RM RMA RMB RMG RML RMP RMS RMK RMg RMs RMk m_in at h ⊢
  obtain ⟨h0, h1⟩ := h
  refine ⟨h0, ?_⟩
  simp only [e, eI]
  exact h1
theorem sJ_J (σ : ps_S) (v : Int64) : ps_J (ps_sJ σ 12 0 0 v) 12 0 0 = v := by rw [ps_J_sJ, if_pos ⟨rfl, rfl, rfl⟩]
theorem FrC.l12 {σ σ' : ps_S} (h : FrC σ σ') (hl : ps_L σ 12 0 = 1) : ps_L σ' 12 0 = 1 := by rw [(h 12 (by decide)).2.2.2.1]; exact hl
theorem FrM.l12 {σ σ' : ps_S} (h : FrM σ σ') (hl : ps_L σ 12 0 = 1) : ps_L σ' 12 0 = 1 := by rw [(h 12 (by decide)).2.2.2.1]; exact hl
theorem FrM.j12 {σ σ' : ps_S} (h : FrM σ σ') {v : Int64} (hl : ps_J σ 12 0 0 = v) : ps_J σ' 12 0 0 = v := by rw [(h 12 (by decide)).2.1]; exact hl
theorem l12_in {σ : ps_S} (hl : ps_L σ 12 0 = 1) : vp_in 0 (ps_L σ 12 0) := by rw [hl]; exact vp_in_nI (n := 0) (N := 1) (by decide) (by decide)
/-- both have done the same -/
theorem LI.fin {σ1 σ2 : ps_S} {t : tT} {g : gT} (hP : RP σ1 t g) (hl : ps_L σ1 12 0 = 1) (hM : RM σ2 t g 0) (hf : FrM σ1 σ2) (hV : zV t g) : LI σ2 t g := ⟨hP.fm hf, hM, hV, hf.l12 hl⟩
/-- the reference says that it throws -/
theorem LI.thr {σ : ps_S} {t : tT} {g : gT} {v : Int32} (h : LI σ t g) : LI (ps_sI σ 13 0 0 v) t g := ⟨h.1.fm FrM.th, h.2.1.th, h.2.2.1, h.2.2.2⟩
theorem cmp0 (x : Int64) : lg_cmp x x = 0 := lg_cmpe.mpr rfl
