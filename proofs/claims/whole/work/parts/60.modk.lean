theorem eff_0 {t : tT} {c : Nat} (h : tS t c 1 = -1 ∨ 0 ≤ tS t c 1) : tS t c 1 = m_cmb t (-1) (some c) := by
  show _ = cm (-1) (tS t c 1)
  unfold cm
  by_cases h1 : tS t c 1 = -1
  · rw [if_pos h1]; exact h1
  · rw [if_neg h1, if_pos (Or.inl (by decide))]
set_option maxHeartbeats 8000000 in
set_option maxRecDepth 100000 in
theorem k_Mod_effective (l : Launch) (D : va_G) (ca : Nat → ClassId) (A : Nat → Prop) (σ : ps_S) (c : Nat) (t : tT) (h0 : RM0 σ) (hB : RMB σ t) (hW : tW t) (hD : tD t) (hc : c < tN t) : ∀ adr, ps_M l y_Mod_effective c_Mod_effective 4 (Option.some Jvm.ClassFile.FieldType.int) { frames := 0, cells := 0, slots := 0, locals := 0 } D ca A adr σ [ps_ref (some (13, 0)), ps_int (nI c)] (fun rv σ' => rv = some (ps_int (tS t c 1)) ∧ σ' = σ) := by
  intro adr
  refine ps_M.of (by decide +kernel) (Nat.le_of_ble_eq_true rfl) ?_
  intro p_ e_ s_ m_ args_ below_ meth_ c_ E hr hlk hnm
  have hw12 := hW.1.1
  have hc12 : c < 12 := Nat.lt_of_lt_of_le hc hW.1.1
  refine pv_iconst (v := -1) E d_Mod_effective_0 (by decide) ?_
  refine pv_istore_n E d_Mod_effective_1 rfl (by decide) ?_
  refine pv_iload_n E d_Mod_effective_2 rfl rfl ?_
  refine pv_istore_n E d_Mod_effective_3 rfl (by decide) ?_
  refine pv_sub (L' := [(0, ps_ref (some (13, 0))), (1, ps_int (nI c)), (2, ps_int (-1)), (3, ps_int (m_opt (some c)))]) ⟨rfl, rfl, rfl, rfl, trivial⟩ ?_
  refine pv_loop (ι := Option Nat × Int32) (fun x => rk x.1) (fun x => [(0, ps_ref (some (13, 0))), (1, ps_int (nI c)), (2, ps_int x.2), (3, ps_int (m_opt x.1))]) (fun _ => σ) (fun x => (∀ y, x.1 = some y → y < tN t) ∧ tS t c 1 = m_cmb t x.2 x.1 ∧ (x.2 = -1 ∨ 0 ≤ x.2)) (fun x hr_ ih => ?_) (some c, -1) ⟨fun y hy => by cases hy; exact hc, eff_0 (hD c hc).2.1, Or.inl rfl⟩
  obtain ⟨r, d⟩ := x
  obtain ⟨hrl, hm, hdd⟩ := hr_
  dsimp only at hrl hm hdd ih ⊢
  refine pv_iload_n E d_Mod_effective_4 rfl rfl ?_
  refine pv_if_lt (tgt := 52) E d_Mod_effective_5 rfl (fun h5 => ?_) (fun h5 => ?_)
  · skip
    have hrn : r = none := (m_opt_neg (fun j hj => by have := hrl j hj; omega)).mp h5
    refine pv_iload_n E d_Mod_effective_52 rfl rfl ?_
    exact pv_iret E hr hlk d_Mod_effective_53 (by decide) (by decide) ⟨by rw [hm, hrn]; rfl, rfl⟩
  · skip
    obtain ⟨y, hy⟩ := m_opt_some h5
    have hyN := hrl y hy
    have hy12 : y < 12 := by omega
    refine pv_aload_n E d_Mod_effective_8 rfl rfl ?_
    refine gf_Mod_deadline E wd_787 d_Mod_effective_9 ?_
    refine pv_top (congrArg ps_ref (m_f h0 25 rfl)) ?_
    refine pv_iload_n E d_Mod_effective_12 rfl rfl ?_
    refine pv_top (congrArg ps_int (show m_opt r = nI y from congrArg m_opt hy)) ?_
    refine pv_iaload (t0 := 6) E 14 _ (fun _ _ _ _ _ => rfl) rfl (m_ix h0 14 13 (by decide) (by decide) hy12) d_Mod_effective_13 ?_
    refine pv_top (congrArg ps_int ((congrArg (ps_I _ 14 13) (nI_clamp (Nat.lt_trans hy12 (by decide)))).trans (hB.1.2.1 y hyN).1.2.2.1)) ?_
    refine pv_if_lt (tgt := 40) E d_Mod_effective_14 rfl (fun h14 => ?_) (fun h14 => ?_)
    · skip
      refine pv_iload_n E d_Mod_effective_40 rfl rfl ?_
      refine pv_istore_n E d_Mod_effective_41 rfl (by decide) ?_
      refine pv_aload_n E d_Mod_effective_42 rfl rfl ?_
      refine gf_Mod_parent E wd_785 d_Mod_effective_43 ?_
      refine pv_top (congrArg ps_ref (m_f h0 23 rfl)) ?_
      refine pv_iload_n E d_Mod_effective_46 rfl rfl ?_
      refine pv_top (congrArg ps_int (show m_opt r = nI y from congrArg m_opt hy)) ?_
      refine pv_iaload (t0 := 6) E 14 _ (fun _ _ _ _ _ => rfl) rfl (m_ix h0 14 11 (by decide) (by decide) hy12) d_Mod_effective_47 ?_
      refine pv_top (congrArg ps_int ((congrArg (ps_I _ 14 11) (nI_clamp (Nat.lt_trans hy12 (by decide)))).trans (hB.1.2.1 y hyN).1.1)) ?_
      refine pv_istore_n E d_Mod_effective_48 rfl (by decide) ?_
      refine pv_goto (tgt := 4) E d_Mod_effective_49 rfl ?_
      exact pv_back (ih (tP t y, m_d d (tS t y 5)) ⟨fun z hz => by have := hW.2.1 y hyN z hz; omega, hm.trans (by rw [hy]; exact cmb_step hD hdd hW hyN), m_d_ok hdd⟩ (by rw [hy]; show rk (tP t y) < y + 1; cases hz : tP t y with | none => exact Nat.succ_pos _ | some z => have := hW.2.1 y hyN z hz; show z + 1 < y + 1; omega)) ⟨rfl, rfl, congrArg (fun z : Int32 => some (ps_int z)) (show _ = m_d d (tS t y 5) from (if_neg (fun z => absurd h14 (Int32.not_lt.mpr z.1))).symm), rfl, trivial⟩
    · skip
      refine pv_iload_n E d_Mod_effective_17 rfl rfl ?_
      refine pv_if_lt (tgt := 31) E d_Mod_effective_18 rfl (fun h18 => ?_) (fun h18 => ?_)
      · skip
        refine pv_aload_n E d_Mod_effective_31 rfl rfl ?_
        refine gf_Mod_deadline E wd_787 d_Mod_effective_32 ?_
        refine pv_top (congrArg ps_ref (m_f h0 25 rfl)) ?_
        refine pv_iload_n E d_Mod_effective_35 rfl rfl ?_
        refine pv_top (congrArg ps_int (show m_opt r = nI y from congrArg m_opt hy)) ?_
        refine pv_iaload (t0 := 6) E 14 _ (fun _ _ _ _ _ => rfl) rfl (m_ix h0 14 13 (by decide) (by decide) hy12) d_Mod_effective_36 ?_
        refine pv_top (congrArg ps_int ((congrArg (ps_I _ 14 13) (nI_clamp (Nat.lt_trans hy12 (by decide)))).trans (hB.1.2.1 y hyN).1.2.2.1)) ?_
        refine pv_goto (tgt := 41) E d_Mod_effective_37 rfl ?_
        refine pv_istore_n E d_Mod_effective_41 rfl (by decide) ?_
        refine pv_aload_n E d_Mod_effective_42 rfl rfl ?_
        refine gf_Mod_parent E wd_785 d_Mod_effective_43 ?_
        refine pv_top (congrArg ps_ref (m_f h0 23 rfl)) ?_
        refine pv_iload_n E d_Mod_effective_46 rfl rfl ?_
        refine pv_top (congrArg ps_int (show m_opt r = nI y from congrArg m_opt hy)) ?_
        refine pv_iaload (t0 := 6) E 14 _ (fun _ _ _ _ _ => rfl) rfl (m_ix h0 14 11 (by decide) (by decide) hy12) d_Mod_effective_47 ?_
        refine pv_top (congrArg ps_int ((congrArg (ps_I _ 14 11) (nI_clamp (Nat.lt_trans hy12 (by decide)))).trans (hB.1.2.1 y hyN).1.1)) ?_
        refine pv_istore_n E d_Mod_effective_48 rfl (by decide) ?_
        refine pv_goto (tgt := 4) E d_Mod_effective_49 rfl ?_
        exact pv_back (ih (tP t y, m_d d (tS t y 5)) ⟨fun z hz => by have := hW.2.1 y hyN z hz; omega, hm.trans (by rw [hy]; exact cmb_step hD hdd hW hyN), m_d_ok hdd⟩ (by rw [hy]; show rk (tP t y) < y + 1; cases hz : tP t y with | none => exact Nat.succ_pos _ | some z => have := hW.2.1 y hyN z hz; show z + 1 < y + 1; omega)) ⟨rfl, rfl, congrArg (fun z : Int32 => some (ps_int z)) (show _ = m_d d (tS t y 5) from (if_pos ⟨Int32.not_lt.mp h14, Or.inl h18⟩).symm), rfl, trivial⟩
      · skip
        refine pv_aload_n E d_Mod_effective_21 rfl rfl ?_
        refine gf_Mod_deadline E wd_787 d_Mod_effective_22 ?_
        refine pv_top (congrArg ps_ref (m_f h0 25 rfl)) ?_
        refine pv_iload_n E d_Mod_effective_25 rfl rfl ?_
        refine pv_top (congrArg ps_int (show m_opt r = nI y from congrArg m_opt hy)) ?_
        refine pv_iaload (t0 := 6) E 14 _ (fun _ _ _ _ _ => rfl) rfl (m_ix h0 14 13 (by decide) (by decide) hy12) d_Mod_effective_26 ?_
        refine pv_top (congrArg ps_int ((congrArg (ps_I _ 14 13) (nI_clamp (Nat.lt_trans hy12 (by decide)))).trans (hB.1.2.1 y hyN).1.2.2.1)) ?_
        refine pv_iload_n E d_Mod_effective_27 rfl rfl ?_
        refine pv_icmp_ge (tgt := 40) E d_Mod_effective_28 rfl (fun h28 => ?_) (fun h28 => ?_)
        · skip
          refine pv_iload_n E d_Mod_effective_40 rfl rfl ?_
          refine pv_istore_n E d_Mod_effective_41 rfl (by decide) ?_
          refine pv_aload_n E d_Mod_effective_42 rfl rfl ?_
          refine gf_Mod_parent E wd_785 d_Mod_effective_43 ?_
          refine pv_top (congrArg ps_ref (m_f h0 23 rfl)) ?_
          refine pv_iload_n E d_Mod_effective_46 rfl rfl ?_
          refine pv_top (congrArg ps_int (show m_opt r = nI y from congrArg m_opt hy)) ?_
          refine pv_iaload (t0 := 6) E 14 _ (fun _ _ _ _ _ => rfl) rfl (m_ix h0 14 11 (by decide) (by decide) hy12) d_Mod_effective_47 ?_
          refine pv_top (congrArg ps_int ((congrArg (ps_I _ 14 11) (nI_clamp (Nat.lt_trans hy12 (by decide)))).trans (hB.1.2.1 y hyN).1.1)) ?_
          refine pv_istore_n E d_Mod_effective_48 rfl (by decide) ?_
          refine pv_goto (tgt := 4) E d_Mod_effective_49 rfl ?_
          exact pv_back (ih (tP t y, m_d d (tS t y 5)) ⟨fun z hz => by have := hW.2.1 y hyN z hz; omega, hm.trans (by rw [hy]; exact cmb_step hD hdd hW hyN), m_d_ok hdd⟩ (by rw [hy]; show rk (tP t y) < y + 1; cases hz : tP t y with | none => exact Nat.succ_pos _ | some z => have := hW.2.1 y hyN z hz; show z + 1 < y + 1; omega)) ⟨rfl, rfl, congrArg (fun z : Int32 => some (ps_int z)) (show _ = m_d d (tS t y 5) from (if_neg (fun z => z.2.elim h18 (fun q => absurd q (Int32.not_lt.mpr h28)))).symm), rfl, trivial⟩
        · skip
          refine pv_aload_n E d_Mod_effective_31 rfl rfl ?_
          refine gf_Mod_deadline E wd_787 d_Mod_effective_32 ?_
          refine pv_top (congrArg ps_ref (m_f h0 25 rfl)) ?_
          refine pv_iload_n E d_Mod_effective_35 rfl rfl ?_
          refine pv_top (congrArg ps_int (show m_opt r = nI y from congrArg m_opt hy)) ?_
          refine pv_iaload (t0 := 6) E 14 _ (fun _ _ _ _ _ => rfl) rfl (m_ix h0 14 13 (by decide) (by decide) hy12) d_Mod_effective_36 ?_
          refine pv_top (congrArg ps_int ((congrArg (ps_I _ 14 13) (nI_clamp (Nat.lt_trans hy12 (by decide)))).trans (hB.1.2.1 y hyN).1.2.2.1)) ?_
          refine pv_goto (tgt := 41) E d_Mod_effective_37 rfl ?_
          refine pv_istore_n E d_Mod_effective_41 rfl (by decide) ?_
          refine pv_aload_n E d_Mod_effective_42 rfl rfl ?_
          refine gf_Mod_parent E wd_785 d_Mod_effective_43 ?_
          refine pv_top (congrArg ps_ref (m_f h0 23 rfl)) ?_
          refine pv_iload_n E d_Mod_effective_46 rfl rfl ?_
          refine pv_top (congrArg ps_int (show m_opt r = nI y from congrArg m_opt hy)) ?_
          refine pv_iaload (t0 := 6) E 14 _ (fun _ _ _ _ _ => rfl) rfl (m_ix h0 14 11 (by decide) (by decide) hy12) d_Mod_effective_47 ?_
          refine pv_top (congrArg ps_int ((congrArg (ps_I _ 14 11) (nI_clamp (Nat.lt_trans hy12 (by decide)))).trans (hB.1.2.1 y hyN).1.1)) ?_
          refine pv_istore_n E d_Mod_effective_48 rfl (by decide) ?_
          refine pv_goto (tgt := 4) E d_Mod_effective_49 rfl ?_
          exact pv_back (ih (tP t y, m_d d (tS t y 5)) ⟨fun z hz => by have := hW.2.1 y hyN z hz; omega, hm.trans (by rw [hy]; exact cmb_step hD hdd hW hyN), m_d_ok hdd⟩ (by rw [hy]; show rk (tP t y) < y + 1; cases hz : tP t y with | none => exact Nat.succ_pos _ | some z => have := hW.2.1 y hyN z hz; show z + 1 < y + 1; omega)) ⟨rfl, rfl, congrArg (fun z : Int32 => some (ps_int z)) (show _ = m_d d (tS t y 5) from (if_pos ⟨Int32.not_lt.mp h14, Or.inr (Int32.not_le.mp h28)⟩).symm), rfl, trivial⟩
