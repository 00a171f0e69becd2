theorem RMS.wr {σ : ps_S} {t : tT} {κ i j : Nat} {v : Int32} (h : RMS σ t) (hw : (κ = 13 ∧ j = 35) ∨ (κ = 14 ∧ 19 ≤ i)) : RMS (ps_sI σ κ i j v) t := by
  have e13 : ps_I (ps_sI σ κ i j v) 13 0 22 = ps_I σ 13 0 22 := sI_ne (by omega)
  have e14 : ∀ a b, a ≤ 18 → ps_I (ps_sI σ κ i j v) 14 a b = ps_I σ 14 a b := fun a b ha => sI_ne (by omega)
  have e15 : ∀ a b, ps_I (ps_sI σ κ i j v) 15 a b = ps_I σ 15 a b := fun a b => sI_ne (by omega)
  unfold RMS RMs at h ⊢
  simp only [e13, e15, e14 11 _ (by decide), e14 12 _ (by decide), e14 13 _ (by decide), e14 14 _ (by decide), e14 15 _ (by decide), e14 16 _ (by decide), e14 17 _ (by decide), e14 18 _ (by decide)]
  exact h
theorem ne30 {n : Nat} (h : n < 30) : ¬ nI n = 30 := fun z => by
  rw [show (30 : Int32) = nI 30 from rfl, nI_eq (by omega) (by decide)] at z
  omega
theorem eq30 {n : Nat} (h : ¬ n < 30) (h2 : n ≤ 30) : nI n = 30 := by rw [show n = 30 by omega]; rfl
set_option maxHeartbeats 8000000 in
set_option maxRecDepth 100000 in
theorem k_Mod_fork_1 (l : Launch) (D : va_G) (ca : Nat → ClassId) (A : Nat → Prop) (σ : ps_S) (s co f a : Int32) (t : tT) (g : gT) (hM : RM σ t g 0) (hW : tW t) (hb : ¬ a_frk t s co f) : ∀ adr, ps_M l y_Mod_fork c_Mod_fork 6 (Option.some Jvm.ClassFile.FieldType.int) { frames := 2, cells := 0, slots := 0, locals := 42 } D ca A adr σ [ps_ref (some (13, 0)), ps_int s, ps_int co, ps_int f, ps_int a] (fun rv σ' => rv = some (ps_int (0)) ∧ RM σ' t g 0 ∧ ps_I σ' 13 0 0 = 1 ∧ FrM σ σ') := by
  intro adr
  refine ps_M.of (by decide +kernel) (Nat.le_of_ble_eq_true rfl) ?_
  intro p_ e_ s_ m_ args_ below_ meth_ c_ E hr hlk hnm
  have h0 := hM.1
  have hB := hM.2.2
  have hB1 : ∀ v : Int32, RMB (ps_sI σ 13 0 0 v) t := fun v => hB.th
  refine pv_aload_n E d_Mod_fork_0 rfl rfl ?_
  refine pv_aload_n E d_Mod_fork_1 rfl rfl ?_
  refine pv_iload_n E d_Mod_fork_2 rfl rfl ?_
  refine pv_callV E (fun adr => k_Mod_isOpen l D ca A _ s t h0 hB hW adr) yv_Mod_isOpen wd_1012 rfl rfl (fun _ => ⟨_, rfl⟩) rfl ⟨by decide, by decide⟩ (Nat.le_of_ble_eq_true rfl) d_Mod_fork_3 ⟨by decide, by decide⟩ (fun r3 σ3 hq3 => ?_)
  obtain ⟨hr3, hs3⟩ := hq3
  subst r3
  subst σ3
  refine pv_if_eq (tgt := 29) E d_Mod_fork_6 rfl (fun h6 => ?_) (fun h6 => ?_)
  · skip
    refine pv_iconst (v := 1) E d_Mod_fork_29 (by decide) ?_
    refine pv_goto (tgt := 47) E d_Mod_fork_30 rfl ?_
    refine pf_Mod_thrown E wd_762 d_Mod_fork_47 ?_
    refine pv_aload_n E d_Mod_fork_50 rfl rfl ?_
    refine gf_Mod_thrown E wd_762 d_Mod_fork_51 ?_
    refine pv_top (congrArg ps_int (ps_I_eq _ _ _ _ _)) ?_
    refine pv_if_le (tgt := 59) E d_Mod_fork_54 rfl (fun h54 => ?_) (fun h54 => ?_)
    · skip
      exact absurd h54 (by decide)
    · skip
      refine pv_iconst (v := 0) E d_Mod_fork_57 (by decide) ?_
      exact pv_iret E hr hlk d_Mod_fork_58 (by decide) (by decide) ⟨rfl, hM.th, ps_I_eq _ _ _ _ _, FrM.th⟩
  · skip
    refine pv_iload_n E d_Mod_fork_9 rfl rfl ?_
    refine pv_iconst (v := 1) E d_Mod_fork_10 (by decide) ?_
    refine pv_icmp_lt (tgt := 29) E d_Mod_fork_11 rfl (fun h11 => ?_) (fun h11 => ?_)
    · skip
      refine pv_iconst (v := 1) E d_Mod_fork_29 (by decide) ?_
      refine pv_goto (tgt := 47) E d_Mod_fork_30 rfl ?_
      refine pf_Mod_thrown E wd_762 d_Mod_fork_47 ?_
      refine pv_aload_n E d_Mod_fork_50 rfl rfl ?_
      refine gf_Mod_thrown E wd_762 d_Mod_fork_51 ?_
      refine pv_top (congrArg ps_int (ps_I_eq _ _ _ _ _)) ?_
      refine pv_if_le (tgt := 59) E d_Mod_fork_54 rfl (fun h54 => ?_) (fun h54 => ?_)
      · skip
        exact absurd h54 (by decide)
      · skip
        refine pv_iconst (v := 0) E d_Mod_fork_57 (by decide) ?_
        exact pv_iret E hr hlk d_Mod_fork_58 (by decide) (by decide) ⟨rfl, hM.th, ps_I_eq _ _ _ _ _, FrM.th⟩
    · skip
      refine pv_iload_n E d_Mod_fork_14 rfl rfl ?_
      refine pv_bipush (v := 50) E d_Mod_fork_15 (by decide) ?_
      refine pv_icmp_gt (tgt := 29) E d_Mod_fork_17 rfl (fun h17 => ?_) (fun h17 => ?_)
      · skip
        refine pv_iconst (v := 1) E d_Mod_fork_29 (by decide) ?_
        refine pv_goto (tgt := 47) E d_Mod_fork_30 rfl ?_
        refine pf_Mod_thrown E wd_762 d_Mod_fork_47 ?_
        refine pv_aload_n E d_Mod_fork_50 rfl rfl ?_
        refine gf_Mod_thrown E wd_762 d_Mod_fork_51 ?_
        refine pv_top (congrArg ps_int (ps_I_eq _ _ _ _ _)) ?_
        refine pv_if_le (tgt := 59) E d_Mod_fork_54 rfl (fun h54 => ?_) (fun h54 => ?_)
        · skip
          exact absurd h54 (by decide)
        · skip
          refine pv_iconst (v := 0) E d_Mod_fork_57 (by decide) ?_
          exact pv_iret E hr hlk d_Mod_fork_58 (by decide) (by decide) ⟨rfl, hM.th, ps_I_eq _ _ _ _ _, FrM.th⟩
      · skip
        refine pv_iload_n E d_Mod_fork_20 rfl rfl ?_
        refine pv_if_lt (tgt := 29) E d_Mod_fork_21 rfl (fun h21 => ?_) (fun h21 => ?_)
        · skip
          refine pv_iconst (v := 1) E d_Mod_fork_29 (by decide) ?_
          refine pv_goto (tgt := 47) E d_Mod_fork_30 rfl ?_
          refine pf_Mod_thrown E wd_762 d_Mod_fork_47 ?_
          refine pv_aload_n E d_Mod_fork_50 rfl rfl ?_
          refine gf_Mod_thrown E wd_762 d_Mod_fork_51 ?_
          refine pv_top (congrArg ps_int (ps_I_eq _ _ _ _ _)) ?_
          refine pv_if_le (tgt := 59) E d_Mod_fork_54 rfl (fun h54 => ?_) (fun h54 => ?_)
          · skip
            exact absurd h54 (by decide)
          · skip
            refine pv_iconst (v := 0) E d_Mod_fork_57 (by decide) ?_
            exact pv_iret E hr hlk d_Mod_fork_58 (by decide) (by decide) ⟨rfl, hM.th, ps_I_eq _ _ _ _ _, FrM.th⟩
        · skip
          refine pv_iload_n E d_Mod_fork_24 rfl rfl ?_
          refine pv_iconst (v := 5) E d_Mod_fork_25 (by decide) ?_
          refine pv_icmp_le (tgt := 33) E d_Mod_fork_26 rfl (fun h26 => ?_) (fun h26 => ?_)
          · skip
            exact absurd ⟨if10n h6, by rw [tk_cost, if_neg h11, if_neg h17]; decide, by rw [fn_has, if_neg h21, if_neg (Int32.not_lt.mpr h26)]; decide⟩ hb
          · skip
            refine pv_iconst (v := 1) E d_Mod_fork_29 (by decide) ?_
            refine pv_goto (tgt := 47) E d_Mod_fork_30 rfl ?_
            refine pf_Mod_thrown E wd_762 d_Mod_fork_47 ?_
            refine pv_aload_n E d_Mod_fork_50 rfl rfl ?_
            refine gf_Mod_thrown E wd_762 d_Mod_fork_51 ?_
            refine pv_top (congrArg ps_int (ps_I_eq _ _ _ _ _)) ?_
            refine pv_if_le (tgt := 59) E d_Mod_fork_54 rfl (fun h54 => ?_) (fun h54 => ?_)
            · skip
              exact absurd h54 (by decide)
            · skip
              refine pv_iconst (v := 0) E d_Mod_fork_57 (by decide) ?_
              exact pv_iret E hr hlk d_Mod_fork_58 (by decide) (by decide) ⟨rfl, hM.th, ps_I_eq _ _ _ _ _, FrM.th⟩
set_option maxHeartbeats 8000000 in
set_option maxRecDepth 100000 in
theorem k_Mod_fork_2 (l : Launch) (D : va_G) (ca : Nat → ClassId) (A : Nat → Prop) (σ : ps_S) (s co f a : Int32) (t : tT) (g : gT) (hM : RM σ t g 0) (hW : tW t) (hb : a_frk t s co f) (hn : ¬ uN t < 30) : ∀ adr, ps_M l y_Mod_fork c_Mod_fork 6 (Option.some Jvm.ClassFile.FieldType.int) { frames := 2, cells := 0, slots := 0, locals := 42 } D ca A adr σ [ps_ref (some (13, 0)), ps_int s, ps_int co, ps_int f, ps_int a] (fun rv σ' => rv = some (ps_int (0)) ∧ RM σ' t g 0 ∧ ps_I σ' 13 0 0 = 2 ∧ FrM σ σ') := by
  intro adr
  refine ps_M.of (by decide +kernel) (Nat.le_of_ble_eq_true rfl) ?_
  intro p_ e_ s_ m_ args_ below_ meth_ c_ E hr hlk hnm
  have h0 := hM.1
  have hB := hM.2.2
  have hB1 : ∀ v : Int32, RMB (ps_sI σ 13 0 0 v) t := fun v => hB.th
  refine pv_aload_n E d_Mod_fork_0 rfl rfl ?_
  refine pv_aload_n E d_Mod_fork_1 rfl rfl ?_
  refine pv_iload_n E d_Mod_fork_2 rfl rfl ?_
  refine pv_callV E (fun adr => k_Mod_isOpen l D ca A _ s t h0 hB hW adr) yv_Mod_isOpen wd_1012 rfl rfl (fun _ => ⟨_, rfl⟩) rfl ⟨by decide, by decide⟩ (Nat.le_of_ble_eq_true rfl) d_Mod_fork_3 ⟨by decide, by decide⟩ (fun r3 σ3 hq3 => ?_)
  obtain ⟨hr3, hs3⟩ := hq3
  subst r3
  subst σ3
  refine pv_if_eq (tgt := 29) E d_Mod_fork_6 rfl (fun h6 => ?_) (fun h6 => ?_)
  · skip
    exact absurd hb.1 (if10 h6)
  · skip
    refine pv_iload_n E d_Mod_fork_9 rfl rfl ?_
    refine pv_iconst (v := 1) E d_Mod_fork_10 (by decide) ?_
    refine pv_icmp_lt (tgt := 29) E d_Mod_fork_11 rfl (fun h11 => ?_) (fun h11 => ?_)
    · skip
      exact absurd (by rw [tk_cost, if_pos h11]) hb.2.1
    · skip
      refine pv_iload_n E d_Mod_fork_14 rfl rfl ?_
      refine pv_bipush (v := 50) E d_Mod_fork_15 (by decide) ?_
      refine pv_icmp_gt (tgt := 29) E d_Mod_fork_17 rfl (fun h17 => ?_) (fun h17 => ?_)
      · skip
        exact absurd (by rw [tk_cost, if_neg h11, if_pos h17]) hb.2.1
      · skip
        refine pv_iload_n E d_Mod_fork_20 rfl rfl ?_
        refine pv_if_lt (tgt := 29) E d_Mod_fork_21 rfl (fun h21 => ?_) (fun h21 => ?_)
        · skip
          exact absurd (by rw [fn_has, if_pos h21]) hb.2.2
        · skip
          refine pv_iload_n E d_Mod_fork_24 rfl rfl ?_
          refine pv_iconst (v := 5) E d_Mod_fork_25 (by decide) ?_
          refine pv_icmp_le (tgt := 33) E d_Mod_fork_26 rfl (fun h26 => ?_) (fun h26 => ?_)
          · skip
            refine pv_aload_n E d_Mod_fork_33 rfl rfl ?_
            refine gf_Mod_tasks E wd_797 d_Mod_fork_34 ?_
            refine pv_top (congrArg ps_int hB.2.1) ?_
            refine pv_bipush (v := 30) E d_Mod_fork_37 (by decide) ?_
            refine pv_icmp_ne (tgt := 46) E d_Mod_fork_39 rfl (fun h39 => ?_) (fun h39 => ?_)
            · skip
              exact absurd (eq30 hn hW.1.2) h39
            · skip
              refine pv_iconst (v := 2) E d_Mod_fork_42 (by decide) ?_
              refine pv_goto (tgt := 47) E d_Mod_fork_43 rfl ?_
              refine pf_Mod_thrown E wd_762 d_Mod_fork_47 ?_
              refine pv_aload_n E d_Mod_fork_50 rfl rfl ?_
              refine gf_Mod_thrown E wd_762 d_Mod_fork_51 ?_
              refine pv_top (congrArg ps_int (ps_I_eq _ _ _ _ _)) ?_
              refine pv_if_le (tgt := 59) E d_Mod_fork_54 rfl (fun h54 => ?_) (fun h54 => ?_)
              · skip
                exact absurd h54 (by decide)
              · skip
                refine pv_iconst (v := 0) E d_Mod_fork_57 (by decide) ?_
                exact pv_iret E hr hlk d_Mod_fork_58 (by decide) (by decide) ⟨rfl, hM.th, ps_I_eq _ _ _ _ _, FrM.th⟩
          · skip
            exact absurd (by rw [fn_has, if_neg h21, if_pos (Int32.not_le.mp h26)]) hb.2.2
set_option maxHeartbeats 8000000 in
set_option maxRecDepth 100000 in
theorem k_Mod_fork_0 (l : Launch) (D : va_G) (ca : Nat → ClassId) (A : Nat → Prop) (σ : ps_S) (s co f a : Int32) (t : tT) (g : gT) (hM : RM σ t g 0) (hW : tW t) (hb : a_frk t s co f) (hn : uN t < 30) : ∀ adr, ps_M l y_Mod_fork c_Mod_fork 6 (Option.some Jvm.ClassFile.FieldType.int) { frames := 2, cells := 0, slots := 0, locals := 42 } D ca A adr σ [ps_ref (some (13, 0)), ps_int s, ps_int co, ps_int f, ps_int a] (fun rv σ' => rv = some (ps_int (nI (uN t))) ∧ RM σ' (u_mk t s.toNatClampNeg co f a) g 0 ∧ ps_I σ' 13 0 0 = 0 ∧ FrM σ σ') := by
  intro adr
  refine ps_M.of (by decide +kernel) (Nat.le_of_ble_eq_true rfl) ?_
  intro p_ e_ s_ m_ args_ below_ meth_ c_ E hr hlk hnm
  have h0 := hM.1
  have hB := hM.2.2
  have hB1 : ∀ v : Int32, RMB (ps_sI σ 13 0 0 v) t := fun v => hB.th
  have hS5 : RMS (ps_sI (ps_sI (ps_sI (ps_sI (ps_sI (ps_sI σ 13 0 0 0) 13 0 35 (nI (uN t + 1))) 14 19 (uN t) (nI s.toNatClampNeg)) 14 20 (uN t) co) 14 21 (uN t) f) 14 22 (uN t) a) t := (((((hB1 0).1.wr (Or.inl ⟨rfl, rfl⟩)).wr (Or.inr ⟨rfl, by decide⟩)).wr (Or.inr ⟨rfl, by decide⟩)).wr (Or.inr ⟨rfl, by decide⟩)).wr (Or.inr ⟨rfl, by decide⟩)
  have hc12 : s.toNatClampNeg < 12 := Nat.lt_of_lt_of_le hb.1.1.2 hW.1.1
  refine pv_aload_n E d_Mod_fork_0 rfl rfl ?_
  refine pv_aload_n E d_Mod_fork_1 rfl rfl ?_
  refine pv_iload_n E d_Mod_fork_2 rfl rfl ?_
  refine pv_callV E (fun adr => k_Mod_isOpen l D ca A _ s t h0 hB hW adr) yv_Mod_isOpen wd_1012 rfl rfl (fun _ => ⟨_, rfl⟩) rfl ⟨by decide, by decide⟩ (Nat.le_of_ble_eq_true rfl) d_Mod_fork_3 ⟨by decide, by decide⟩ (fun r3 σ3 hq3 => ?_)
  obtain ⟨hr3, hs3⟩ := hq3
  subst r3
  subst σ3
  refine pv_if_eq (tgt := 29) E d_Mod_fork_6 rfl (fun h6 => ?_) (fun h6 => ?_)
  · skip
    exact absurd hb.1 (if10 h6)
  · skip
    refine pv_iload_n E d_Mod_fork_9 rfl rfl ?_
    refine pv_iconst (v := 1) E d_Mod_fork_10 (by decide) ?_
    refine pv_icmp_lt (tgt := 29) E d_Mod_fork_11 rfl (fun h11 => ?_) (fun h11 => ?_)
    · skip
      exact absurd (by rw [tk_cost, if_pos h11]) hb.2.1
    · skip
      refine pv_iload_n E d_Mod_fork_14 rfl rfl ?_
      refine pv_bipush (v := 50) E d_Mod_fork_15 (by decide) ?_
      refine pv_icmp_gt (tgt := 29) E d_Mod_fork_17 rfl (fun h17 => ?_) (fun h17 => ?_)
      · skip
        exact absurd (by rw [tk_cost, if_neg h11, if_pos h17]) hb.2.1
      · skip
        refine pv_iload_n E d_Mod_fork_20 rfl rfl ?_
        refine pv_if_lt (tgt := 29) E d_Mod_fork_21 rfl (fun h21 => ?_) (fun h21 => ?_)
        · skip
          exact absurd (by rw [fn_has, if_pos h21]) hb.2.2
        · skip
          refine pv_iload_n E d_Mod_fork_24 rfl rfl ?_
          refine pv_iconst (v := 5) E d_Mod_fork_25 (by decide) ?_
          refine pv_icmp_le (tgt := 33) E d_Mod_fork_26 rfl (fun h26 => ?_) (fun h26 => ?_)
          · skip
            refine pv_aload_n E d_Mod_fork_33 rfl rfl ?_
            refine gf_Mod_tasks E wd_797 d_Mod_fork_34 ?_
            refine pv_top (congrArg ps_int hB.2.1) ?_
            refine pv_bipush (v := 30) E d_Mod_fork_37 (by decide) ?_
            refine pv_icmp_ne (tgt := 46) E d_Mod_fork_39 rfl (fun h39 => ?_) (fun h39 => ?_)
            · skip
              refine pv_iconst (v := 0) E d_Mod_fork_46 (by decide) ?_
              refine pf_Mod_thrown E wd_762 d_Mod_fork_47 ?_
              refine pv_aload_n E d_Mod_fork_50 rfl rfl ?_
              refine gf_Mod_thrown E wd_762 d_Mod_fork_51 ?_
              refine pv_top (congrArg ps_int (ps_I_eq _ _ _ _ _)) ?_
              refine pv_if_le (tgt := 59) E d_Mod_fork_54 rfl (fun h54 => ?_) (fun h54 => ?_)
              · skip
                refine pv_aload_n E d_Mod_fork_59 rfl rfl ?_
                refine gf_Mod_tasks E wd_797 d_Mod_fork_60 ?_
                refine pv_top (congrArg ps_int (hB1 0).2.1) ?_
                refine pv_istore E d_Mod_fork_63 (by decide) ?_
                refine pv_aload_n E d_Mod_fork_65 rfl rfl ?_
                refine pv_dup E d_Mod_fork_66 rfl ?_
                refine gf_Mod_tasks E wd_797 d_Mod_fork_67 ?_
                refine pv_top (congrArg ps_int (hB1 0).2.1) ?_
                refine pv_iconst (v := 1) E d_Mod_fork_70 (by decide) ?_
                refine pv_iadd E d_Mod_fork_71 ?_
                refine pv_top (congrArg ps_int (nI_1 _)) ?_
                refine pf_Mod_tasks E wd_797 d_Mod_fork_72 ?_
                refine pv_aload_n E d_Mod_fork_75 rfl rfl ?_
                refine gf_Mod_home E wd_798 d_Mod_fork_76 ?_
                refine pv_top (congrArg ps_ref (m_f h0 36 rfl)) ?_
                refine pv_iload E d_Mod_fork_79 rfl ?_
                refine pv_iload_n E d_Mod_fork_81 rfl rfl ?_
                refine pv_top (congrArg ps_int (st_nI hb.1.1.1)) ?_
                refine pv_iastore (t0 := 6) E 14 _ (fun _ _ _ _ _ => rfl) rfl (m_ix h0 14 19 (by decide) (by decide) hn) d_Mod_fork_82 ?_
                rw [nI_clamp (Nat.lt_trans hn (by decide))]
                refine pv_aload_n E d_Mod_fork_83 rfl rfl ?_
                refine gf_Mod_cost E wd_799 d_Mod_fork_84 ?_
                refine pv_top (congrArg ps_ref (m_f h0 37 rfl)) ?_
                refine pv_iload E d_Mod_fork_87 rfl ?_
                refine pv_iload_n E d_Mod_fork_89 rfl rfl ?_
                refine pv_iastore (t0 := 6) E 14 _ (fun _ _ _ _ _ => rfl) rfl (m_ix h0 14 20 (by decide) (by decide) hn) d_Mod_fork_90 ?_
                rw [nI_clamp (Nat.lt_trans hn (by decide))]
                refine pv_aload_n E d_Mod_fork_91 rfl rfl ?_
                refine gf_Mod_does E wd_800 d_Mod_fork_92 ?_
                refine pv_top (congrArg ps_ref (m_f h0 38 rfl)) ?_
                refine pv_iload E d_Mod_fork_95 rfl ?_
                refine pv_iload_n E d_Mod_fork_97 rfl rfl ?_
                refine pv_iastore (t0 := 6) E 14 _ (fun _ _ _ _ _ => rfl) rfl (m_ix h0 14 21 (by decide) (by decide) hn) d_Mod_fork_98 ?_
                rw [nI_clamp (Nat.lt_trans hn (by decide))]
                refine pv_aload_n E d_Mod_fork_99 rfl rfl ?_
                refine gf_Mod_with E wd_801 d_Mod_fork_100 ?_
                refine pv_top (congrArg ps_ref (m_f h0 39 rfl)) ?_
                refine pv_iload E d_Mod_fork_103 rfl ?_
                refine pv_iload E d_Mod_fork_105 rfl ?_
                refine pv_iastore (t0 := 6) E 14 _ (fun _ _ _ _ _ => rfl) rfl (m_ix h0 14 22 (by decide) (by decide) hn) d_Mod_fork_107 ?_
                rw [nI_clamp (Nat.lt_trans hn (by decide))]
                refine pv_aload_n E d_Mod_fork_108 rfl rfl ?_
                refine gf_Mod_given E wd_802 d_Mod_fork_109 ?_
                refine pv_top (congrArg ps_ref (m_f h0 40 rfl)) ?_
                refine pv_iload E d_Mod_fork_112 rfl ?_
                refine pv_aload_n E d_Mod_fork_114 rfl rfl ?_
                refine pv_iload_n E d_Mod_fork_115 rfl rfl ?_
                refine pv_top (congrArg ps_int (st_nI hb.1.1.1)) ?_
                refine pv_iconst (v := 0) E d_Mod_fork_116 (by decide) ?_
                refine pv_top (congrArg ps_int (show (0 : Int32) = nI 0 from rfl)) ?_
                refine pv_callV E (fun adr => k_Mod_look l D ca A (ps_sI (ps_sI (ps_sI (ps_sI (ps_sI (ps_sI σ 13 0 0 0) 13 0 35 (nI (uN t + 1))) 14 19 (uN t) (nI s.toNatClampNeg)) 14 20 (uN t) co) 14 21 (uN t) f) 14 22 (uN t) a) s.toNatClampNeg 0 t h0 hS5 hW hb.1.1.2 (by decide) adr) yv_Mod_look wd_1028 rfl rfl (fun _ => ⟨_, rfl⟩) rfl ⟨by decide, by decide⟩ (Nat.le_of_ble_eq_true rfl) d_Mod_fork_117 ⟨by decide, by decide⟩ (fun r117 σ117 hq117 => ?_)
                obtain ⟨hr117, hs117⟩ := hq117
                subst r117
                subst σ117
                have hS6 : RMS (ps_sI (ps_sI (ps_sI (ps_sI (ps_sI (ps_sI (ps_sI σ 13 0 0 0) 13 0 35 (nI (uN t + 1))) 14 19 (uN t) (nI s.toNatClampNeg)) 14 20 (uN t) co) 14 21 (uN t) f) 14 22 (uN t) a) 14 23 (uN t) (t_look t s.toNatClampNeg 0)) t := hS5.wr (Or.inr ⟨rfl, by decide⟩)
                refine pv_iastore (t0 := 6) E 14 _ (fun _ _ _ _ _ => rfl) rfl (m_ix h0 14 23 (by decide) (by decide) hn) d_Mod_fork_120 ?_
                rw [nI_clamp (Nat.lt_trans hn (by decide))]
                refine pv_aload_n E d_Mod_fork_121 rfl rfl ?_
                refine gf_Mod_how E wd_803 d_Mod_fork_122 ?_
                refine pv_top (congrArg ps_ref (m_f h0 41 rfl)) ?_
                refine pv_iload E d_Mod_fork_125 rfl ?_
                refine pv_aload_n E d_Mod_fork_127 rfl rfl ?_
                refine gf_Mod_stopped E wd_790 d_Mod_fork_128 ?_
                refine pv_top (congrArg ps_ref (m_f h0 28 rfl)) ?_
                refine pv_iload_n E d_Mod_fork_131 rfl rfl ?_
                refine pv_top (congrArg ps_int (st_nI hb.1.1.1)) ?_
                refine pv_baload (t0 := 7) E 15 _ (fun _ _ _ _ _ => rfl) rfl (m_ix h0 15 2 (by decide) (by decide) hc12) d_Mod_fork_132 ?_
                refine pv_top (congrArg ps_int ((congrArg (ps_I _ 15 2) (nI_clamp (Nat.lt_trans hc12 (by decide)))).trans (hS6.2.1 _ hb.1.1.2).1.2.2.2.2.2.1)) ?_
                refine pv_if_eq (tgt := 140) E d_Mod_fork_133 rfl (fun h133 => ?_) (fun h133 => ?_)
                · skip
                  refine pv_iconst (v := 0) E d_Mod_fork_140 (by decide) ?_
                  refine pv_iastore (t0 := 6) E 14 _ (fun _ _ _ _ _ => rfl) rfl (m_ix h0 14 24 (by decide) (by decide) hn) d_Mod_fork_141 ?_
                  rw [nI_clamp (Nat.lt_trans hn (by decide))]
                  refine pv_iload E d_Mod_fork_142 rfl ?_
                  exact pv_iret E hr hlk d_Mod_fork_144 (by decide) (by decide) ⟨rfl, hM.th.B (by have hq := (hB1 0).mkU (c := s.toNatClampNeg) (co := co) (fn := f) (a := a); rw [if_pos h133] at hq; exact hq) FrB.mkU, (FrB.mkU.th).trans (ps_I_eq _ _ _ _ _), FrM.th.tr (FrM.ofB FrB.mkU)⟩
                · skip
                  refine pv_iconst (v := 3) E d_Mod_fork_136 (by decide) ?_
                  refine pv_goto (tgt := 141) E d_Mod_fork_137 rfl ?_
                  refine pv_iastore (t0 := 6) E 14 _ (fun _ _ _ _ _ => rfl) rfl (m_ix h0 14 24 (by decide) (by decide) hn) d_Mod_fork_141 ?_
                  rw [nI_clamp (Nat.lt_trans hn (by decide))]
                  refine pv_iload E d_Mod_fork_142 rfl ?_
                  exact pv_iret E hr hlk d_Mod_fork_144 (by decide) (by decide) ⟨rfl, hM.th.B (by have hq := (hB1 0).mkU (c := s.toNatClampNeg) (co := co) (fn := f) (a := a); rw [if_neg h133] at hq; exact hq) FrB.mkU, (FrB.mkU.th).trans (ps_I_eq _ _ _ _ _), FrM.th.tr (FrM.ofB FrB.mkU)⟩
              · skip
                exact absurd (by decide) h54
            · skip
              exact absurd h39 (ne30 hn)
          · skip
            exact absurd (by rw [fn_has, if_neg h21, if_pos (Int32.not_le.mp h26)]) hb.2.2
