theorem FrA.lift {σ σ' : ps_S} {κ i j : Nat} {v : Int32} (h : FrA σ σ') : FrA (ps_sI σ κ i j v) (ps_sI σ' κ i j v) := by
  refine ⟨fun a b c hn => ?_, h.2.1, h.2.2.1, h.2.2.2.1, h.2.2.2.2⟩
  rw [ps_I_sI, ps_I_sI, h.1 a b c hn]
theorem m1_of {s : Int32} (h1 : ¬ s < -1) (h2 : s < 0) : s = -1 := by
  have e1 : (-1 : Int32).toInt = -1 := rfl
  have e0 : (0 : Int32).toInt = 0 := rfl
  rw [Int32.lt_iff_toInt_lt] at h1 h2
  refine Int32.toInt_inj.mp ?_
  omega
theorem opn_ge {t : tT} {s : Int32} (h : s = -1 ∨ t_isO t s) : ¬ s < -1 := by
  rcases h with h | h
  · rw [h]; decide
  · exact fun z => h.1.1 (Int32.lt_of_lt_of_le z (by decide))
theorem ne12 {n : Nat} (h : n < 12) : ¬ nI n = 12 := fun z => by
  rw [show (12 : Int32) = nI 12 from rfl, nI_eq (by omega) (by decide)] at z
  omega
theorem lt12 {n : Nat} (h : ¬ nI n = 12) (h2 : n ≤ 12) : n < 12 := Nat.lt_of_le_of_ne h2 (fun z => h (by rw [z]; rfl))
theorem lt48 {n : Nat} (h : ¬ nI n = 48) (h2 : n ≤ 48) : n < 48 := Nat.lt_of_le_of_ne h2 (fun z => h (by rw [z]; rfl))
theorem par_opt {t : tT} {s : Int32} (h : s = -1 ∨ t_isO t s) : s = m_opt (t_par t s) := by
  rcases h with h | h
  · rw [t_par, if_neg (fun z => z.1 (by rw [h]; decide))]; exact h
  · rw [t_par, if_pos h.1]; exact st_nI h.1.1
set_option maxHeartbeats 8000000 in
set_option maxRecDepth 100000 in
theorem k_Mod_open_1 (l : Launch) (D : va_G) (ca : Nat → ClassId) (A : Nat → Prop) (σ : ps_S) (s po d : Int32) (t : tT) (g : gT) (hM : RM σ t g 0) (hW : tW t) (hb : ¬ a_opn t s po) (hO : gOK g) (hY : gY g) : ∀ adr, ps_M l y_Mod_open c_Mod_open 5 (Option.some Jvm.ClassFile.FieldType.int) { frames := 5, cells := 0, slots := 0, locals := 119 } D ca A adr σ [ps_ref (some (13, 0)), ps_int s, ps_int po, ps_int d] (fun rv σ' => rv = some (ps_int (0)) ∧ RM σ' t g 0 ∧ ps_I σ' 13 0 0 = 1 ∧ FrM σ σ') := by
  intro adr
  refine ps_M.of (by decide +kernel) (Nat.le_of_ble_eq_true rfl) ?_
  intro p_ e_ s_ m_ args_ below_ meth_ c_ E hr hlk hnm
  have h0 := hM.1
  have hB := hM.2.2
  have hB1 : ∀ v : Int32, RMB (ps_sI σ 13 0 0 v) t := fun v => hB.th
  have hA := hM.2.1
  have hA1 : ∀ v : Int32, RMA (ps_sI σ 13 0 0 v) g 0 := fun v => hA.sc (Or.inl rfl)
  refine pv_aload_n E d_Mod_open_0 rfl rfl ?_
  refine pv_iload_n E d_Mod_open_1 rfl rfl ?_
  refine pv_iconst (v := -1) E d_Mod_open_2 (by decide) ?_
  refine pv_icmp_lt (tgt := 27) E d_Mod_open_3 rfl (fun h3 => ?_) (fun h3 => ?_)
  · skip
    refine pv_iconst (v := 1) E d_Mod_open_27 (by decide) ?_
    refine pv_goto (tgt := 54) E d_Mod_open_28 rfl ?_
    refine pf_Mod_thrown E wd_762 d_Mod_open_54 ?_
    refine pv_aload_n E d_Mod_open_57 rfl rfl ?_
    refine gf_Mod_thrown E wd_762 d_Mod_open_58 ?_
    refine pv_top (congrArg ps_int (ps_I_eq _ _ _ _ _)) ?_
    refine pv_if_le (tgt := 66) E d_Mod_open_61 rfl (fun h61 => ?_) (fun h61 => ?_)
    · skip
      exact absurd h61 (by decide)
    · skip
      refine pv_iconst (v := 0) E d_Mod_open_64 (by decide) ?_
      exact pv_iret E hr hlk d_Mod_open_65 (by decide) (by decide) ⟨rfl, hM.th, ps_I_eq _ _ _ _ _, FrM.th⟩
  · skip
    refine pv_iload_n E d_Mod_open_6 rfl rfl ?_
    refine pv_if_lt (tgt := 18) E d_Mod_open_7 rfl (fun h7 => ?_) (fun h7 => ?_)
    · skip
      refine pv_iload_n E d_Mod_open_18 rfl rfl ?_
      refine pv_if_lt (tgt := 27) E d_Mod_open_19 rfl (fun h19 => ?_) (fun h19 => ?_)
      · skip
        refine pv_iconst (v := 1) E d_Mod_open_27 (by decide) ?_
        refine pv_goto (tgt := 54) E d_Mod_open_28 rfl ?_
        refine pf_Mod_thrown E wd_762 d_Mod_open_54 ?_
        refine pv_aload_n E d_Mod_open_57 rfl rfl ?_
        refine gf_Mod_thrown E wd_762 d_Mod_open_58 ?_
        refine pv_top (congrArg ps_int (ps_I_eq _ _ _ _ _)) ?_
        refine pv_if_le (tgt := 66) E d_Mod_open_61 rfl (fun h61 => ?_) (fun h61 => ?_)
        · skip
          exact absurd h61 (by decide)
        · skip
          refine pv_iconst (v := 0) E d_Mod_open_64 (by decide) ?_
          exact pv_iret E hr hlk d_Mod_open_65 (by decide) (by decide) ⟨rfl, hM.th, ps_I_eq _ _ _ _ _, FrM.th⟩
      · skip
        refine pv_iload_n E d_Mod_open_22 rfl rfl ?_
        refine pv_iconst (v := 2) E d_Mod_open_23 (by decide) ?_
        refine pv_icmp_le (tgt := 31) E d_Mod_open_24 rfl (fun h24 => ?_) (fun h24 => ?_)
        · skip
          exact absurd ⟨Or.inl (m1_of h3 h7), h19, h24⟩ hb
        · skip
          refine pv_iconst (v := 1) E d_Mod_open_27 (by decide) ?_
          refine pv_goto (tgt := 54) E d_Mod_open_28 rfl ?_
          refine pf_Mod_thrown E wd_762 d_Mod_open_54 ?_
          refine pv_aload_n E d_Mod_open_57 rfl rfl ?_
          refine gf_Mod_thrown E wd_762 d_Mod_open_58 ?_
          refine pv_top (congrArg ps_int (ps_I_eq _ _ _ _ _)) ?_
          refine pv_if_le (tgt := 66) E d_Mod_open_61 rfl (fun h61 => ?_) (fun h61 => ?_)
          · skip
            exact absurd h61 (by decide)
          · skip
            refine pv_iconst (v := 0) E d_Mod_open_64 (by decide) ?_
            exact pv_iret E hr hlk d_Mod_open_65 (by decide) (by decide) ⟨rfl, hM.th, ps_I_eq _ _ _ _ _, FrM.th⟩
    · skip
      refine pv_aload_n E d_Mod_open_10 rfl rfl ?_
      refine pv_iload_n E d_Mod_open_11 rfl rfl ?_
      refine pv_callV E (fun adr => k_Mod_isOpen l D ca A _ s t h0 hB hW adr) yv_Mod_isOpen wd_1012 rfl rfl (fun _ => ⟨_, rfl⟩) rfl ⟨by decide, by decide⟩ (Nat.le_of_ble_eq_true rfl) d_Mod_open_12 ⟨by decide, by decide⟩ (fun r12 σ12 hq12 => ?_)
      obtain ⟨hr12, hs12⟩ := hq12
      subst r12
      subst σ12
      refine pv_if_eq (tgt := 27) E d_Mod_open_15 rfl (fun h15 => ?_) (fun h15 => ?_)
      · skip
        refine pv_iconst (v := 1) E d_Mod_open_27 (by decide) ?_
        refine pv_goto (tgt := 54) E d_Mod_open_28 rfl ?_
        refine pf_Mod_thrown E wd_762 d_Mod_open_54 ?_
        refine pv_aload_n E d_Mod_open_57 rfl rfl ?_
        refine gf_Mod_thrown E wd_762 d_Mod_open_58 ?_
        refine pv_top (congrArg ps_int (ps_I_eq _ _ _ _ _)) ?_
        refine pv_if_le (tgt := 66) E d_Mod_open_61 rfl (fun h61 => ?_) (fun h61 => ?_)
        · skip
          exact absurd h61 (by decide)
        · skip
          refine pv_iconst (v := 0) E d_Mod_open_64 (by decide) ?_
          exact pv_iret E hr hlk d_Mod_open_65 (by decide) (by decide) ⟨rfl, hM.th, ps_I_eq _ _ _ _ _, FrM.th⟩
      · skip
        refine pv_iload_n E d_Mod_open_18 rfl rfl ?_
        refine pv_if_lt (tgt := 27) E d_Mod_open_19 rfl (fun h19 => ?_) (fun h19 => ?_)
        · skip
          refine pv_iconst (v := 1) E d_Mod_open_27 (by decide) ?_
          refine pv_goto (tgt := 54) E d_Mod_open_28 rfl ?_
          refine pf_Mod_thrown E wd_762 d_Mod_open_54 ?_
          refine pv_aload_n E d_Mod_open_57 rfl rfl ?_
          refine gf_Mod_thrown E wd_762 d_Mod_open_58 ?_
          refine pv_top (congrArg ps_int (ps_I_eq _ _ _ _ _)) ?_
          refine pv_if_le (tgt := 66) E d_Mod_open_61 rfl (fun h61 => ?_) (fun h61 => ?_)
          · skip
            exact absurd h61 (by decide)
          · skip
            refine pv_iconst (v := 0) E d_Mod_open_64 (by decide) ?_
            exact pv_iret E hr hlk d_Mod_open_65 (by decide) (by decide) ⟨rfl, hM.th, ps_I_eq _ _ _ _ _, FrM.th⟩
        · skip
          refine pv_iload_n E d_Mod_open_22 rfl rfl ?_
          refine pv_iconst (v := 2) E d_Mod_open_23 (by decide) ?_
          refine pv_icmp_le (tgt := 31) E d_Mod_open_24 rfl (fun h24 => ?_) (fun h24 => ?_)
          · skip
            exact absurd ⟨Or.inr (if10n h15), h19, h24⟩ hb
          · skip
            refine pv_iconst (v := 1) E d_Mod_open_27 (by decide) ?_
            refine pv_goto (tgt := 54) E d_Mod_open_28 rfl ?_
            refine pf_Mod_thrown E wd_762 d_Mod_open_54 ?_
            refine pv_aload_n E d_Mod_open_57 rfl rfl ?_
            refine gf_Mod_thrown E wd_762 d_Mod_open_58 ?_
            refine pv_top (congrArg ps_int (ps_I_eq _ _ _ _ _)) ?_
            refine pv_if_le (tgt := 66) E d_Mod_open_61 rfl (fun h61 => ?_) (fun h61 => ?_)
            · skip
              exact absurd h61 (by decide)
            · skip
              refine pv_iconst (v := 0) E d_Mod_open_64 (by decide) ?_
              exact pv_iret E hr hlk d_Mod_open_65 (by decide) (by decide) ⟨rfl, hM.th, ps_I_eq _ _ _ _ _, FrM.th⟩
set_option maxHeartbeats 8000000 in
set_option maxRecDepth 100000 in
theorem k_Mod_open_2 (l : Launch) (D : va_G) (ca : Nat → ClassId) (A : Nat → Prop) (σ : ps_S) (s po d : Int32) (t : tT) (g : gT) (hM : RM σ t g 0) (hW : tW t) (hb : a_opn t s po) (hn : ¬ (tN t < 12 ∧ gN g < 48)) (hO : gOK g) (hY : gY g) : ∀ adr, ps_M l y_Mod_open c_Mod_open 5 (Option.some Jvm.ClassFile.FieldType.int) { frames := 5, cells := 0, slots := 0, locals := 119 } D ca A adr σ [ps_ref (some (13, 0)), ps_int s, ps_int po, ps_int d] (fun rv σ' => rv = some (ps_int (0)) ∧ RM σ' t g 0 ∧ ps_I σ' 13 0 0 = 2 ∧ FrM σ σ') := by
  intro adr
  refine ps_M.of (by decide +kernel) (Nat.le_of_ble_eq_true rfl) ?_
  intro p_ e_ s_ m_ args_ below_ meth_ c_ E hr hlk hnm
  have h0 := hM.1
  have hB := hM.2.2
  have hB1 : ∀ v : Int32, RMB (ps_sI σ 13 0 0 v) t := fun v => hB.th
  have hA := hM.2.1
  have hA1 : ∀ v : Int32, RMA (ps_sI σ 13 0 0 v) g 0 := fun v => hA.sc (Or.inl rfl)
  refine pv_aload_n E d_Mod_open_0 rfl rfl ?_
  refine pv_iload_n E d_Mod_open_1 rfl rfl ?_
  refine pv_iconst (v := -1) E d_Mod_open_2 (by decide) ?_
  refine pv_icmp_lt (tgt := 27) E d_Mod_open_3 rfl (fun h3 => ?_) (fun h3 => ?_)
  · skip
    exact absurd h3 (opn_ge hb.1)
  · skip
    refine pv_iload_n E d_Mod_open_6 rfl rfl ?_
    refine pv_if_lt (tgt := 18) E d_Mod_open_7 rfl (fun h7 => ?_) (fun h7 => ?_)
    · skip
      refine pv_iload_n E d_Mod_open_18 rfl rfl ?_
      refine pv_if_lt (tgt := 27) E d_Mod_open_19 rfl (fun h19 => ?_) (fun h19 => ?_)
      · skip
        exact absurd h19 hb.2.1
      · skip
        refine pv_iload_n E d_Mod_open_22 rfl rfl ?_
        refine pv_iconst (v := 2) E d_Mod_open_23 (by decide) ?_
        refine pv_icmp_le (tgt := 31) E d_Mod_open_24 rfl (fun h24 => ?_) (fun h24 => ?_)
        · skip
          refine pv_aload_n E d_Mod_open_31 rfl rfl ?_
          refine gf_Mod_scopes E wd_784 d_Mod_open_32 ?_
          refine pv_top (congrArg ps_int hB.1.1) ?_
          refine pv_bipush (v := 12) E d_Mod_open_35 (by decide) ?_
          refine pv_icmp_eq (tgt := 49) E d_Mod_open_37 rfl (fun h37 => ?_) (fun h37 => ?_)
          · skip
            refine pv_iconst (v := 2) E d_Mod_open_49 (by decide) ?_
            refine pv_goto (tgt := 54) E d_Mod_open_50 rfl ?_
            refine pf_Mod_thrown E wd_762 d_Mod_open_54 ?_
            refine pv_aload_n E d_Mod_open_57 rfl rfl ?_
            refine gf_Mod_thrown E wd_762 d_Mod_open_58 ?_
            refine pv_top (congrArg ps_int (ps_I_eq _ _ _ _ _)) ?_
            refine pv_if_le (tgt := 66) E d_Mod_open_61 rfl (fun h61 => ?_) (fun h61 => ?_)
            · skip
              exact absurd h61 (by decide)
            · skip
              refine pv_iconst (v := 0) E d_Mod_open_64 (by decide) ?_
              exact pv_iret E hr hlk d_Mod_open_65 (by decide) (by decide) ⟨rfl, hM.th, ps_I_eq _ _ _ _ _, FrM.th⟩
          · skip
            refine pv_aload_n E d_Mod_open_40 rfl rfl ?_
            refine gf_Mod_stages E wd_763 d_Mod_open_41 ?_
            refine pv_top (congrArg ps_int hA.1.1) ?_
            refine pv_bipush (v := 48) E d_Mod_open_44 (by decide) ?_
            refine pv_icmp_ne (tgt := 53) E d_Mod_open_46 rfl (fun h46 => ?_) (fun h46 => ?_)
            · skip
              exact absurd ⟨lt12 h37 hW.1.1, lt48 h46 hO.1.1⟩ hn
            · skip
              refine pv_iconst (v := 2) E d_Mod_open_49 (by decide) ?_
              refine pv_goto (tgt := 54) E d_Mod_open_50 rfl ?_
              refine pf_Mod_thrown E wd_762 d_Mod_open_54 ?_
              refine pv_aload_n E d_Mod_open_57 rfl rfl ?_
              refine gf_Mod_thrown E wd_762 d_Mod_open_58 ?_
              refine pv_top (congrArg ps_int (ps_I_eq _ _ _ _ _)) ?_
              refine pv_if_le (tgt := 66) E d_Mod_open_61 rfl (fun h61 => ?_) (fun h61 => ?_)
              · skip
                exact absurd h61 (by decide)
              · skip
                refine pv_iconst (v := 0) E d_Mod_open_64 (by decide) ?_
                exact pv_iret E hr hlk d_Mod_open_65 (by decide) (by decide) ⟨rfl, hM.th, ps_I_eq _ _ _ _ _, FrM.th⟩
        · skip
          exact absurd hb.2.2 h24
    · skip
      refine pv_aload_n E d_Mod_open_10 rfl rfl ?_
      refine pv_iload_n E d_Mod_open_11 rfl rfl ?_
      refine pv_callV E (fun adr => k_Mod_isOpen l D ca A _ s t h0 hB hW adr) yv_Mod_isOpen wd_1012 rfl rfl (fun _ => ⟨_, rfl⟩) rfl ⟨by decide, by decide⟩ (Nat.le_of_ble_eq_true rfl) d_Mod_open_12 ⟨by decide, by decide⟩ (fun r12 σ12 hq12 => ?_)
      obtain ⟨hr12, hs12⟩ := hq12
      subst r12
      subst σ12
      refine pv_if_eq (tgt := 27) E d_Mod_open_15 rfl (fun h15 => ?_) (fun h15 => ?_)
      · skip
        exact (hb.1.elim (fun z => h7 (by rw [z]; decide)) (fun z => if10 h15 z)).elim
      · skip
        refine pv_iload_n E d_Mod_open_18 rfl rfl ?_
        refine pv_if_lt (tgt := 27) E d_Mod_open_19 rfl (fun h19 => ?_) (fun h19 => ?_)
        · skip
          exact absurd h19 hb.2.1
        · skip
          refine pv_iload_n E d_Mod_open_22 rfl rfl ?_
          refine pv_iconst (v := 2) E d_Mod_open_23 (by decide) ?_
          refine pv_icmp_le (tgt := 31) E d_Mod_open_24 rfl (fun h24 => ?_) (fun h24 => ?_)
          · skip
            refine pv_aload_n E d_Mod_open_31 rfl rfl ?_
            refine gf_Mod_scopes E wd_784 d_Mod_open_32 ?_
            refine pv_top (congrArg ps_int hB.1.1) ?_
            refine pv_bipush (v := 12) E d_Mod_open_35 (by decide) ?_
            refine pv_icmp_eq (tgt := 49) E d_Mod_open_37 rfl (fun h37 => ?_) (fun h37 => ?_)
            · skip
              refine pv_iconst (v := 2) E d_Mod_open_49 (by decide) ?_
              refine pv_goto (tgt := 54) E d_Mod_open_50 rfl ?_
              refine pf_Mod_thrown E wd_762 d_Mod_open_54 ?_
              refine pv_aload_n E d_Mod_open_57 rfl rfl ?_
              refine gf_Mod_thrown E wd_762 d_Mod_open_58 ?_
              refine pv_top (congrArg ps_int (ps_I_eq _ _ _ _ _)) ?_
              refine pv_if_le (tgt := 66) E d_Mod_open_61 rfl (fun h61 => ?_) (fun h61 => ?_)
              · skip
                exact absurd h61 (by decide)
              · skip
                refine pv_iconst (v := 0) E d_Mod_open_64 (by decide) ?_
                exact pv_iret E hr hlk d_Mod_open_65 (by decide) (by decide) ⟨rfl, hM.th, ps_I_eq _ _ _ _ _, FrM.th⟩
            · skip
              refine pv_aload_n E d_Mod_open_40 rfl rfl ?_
              refine gf_Mod_stages E wd_763 d_Mod_open_41 ?_
              refine pv_top (congrArg ps_int hA.1.1) ?_
              refine pv_bipush (v := 48) E d_Mod_open_44 (by decide) ?_
              refine pv_icmp_ne (tgt := 53) E d_Mod_open_46 rfl (fun h46 => ?_) (fun h46 => ?_)
              · skip
                exact absurd ⟨lt12 h37 hW.1.1, lt48 h46 hO.1.1⟩ hn
              · skip
                refine pv_iconst (v := 2) E d_Mod_open_49 (by decide) ?_
                refine pv_goto (tgt := 54) E d_Mod_open_50 rfl ?_
                refine pf_Mod_thrown E wd_762 d_Mod_open_54 ?_
                refine pv_aload_n E d_Mod_open_57 rfl rfl ?_
                refine gf_Mod_thrown E wd_762 d_Mod_open_58 ?_
                refine pv_top (congrArg ps_int (ps_I_eq _ _ _ _ _)) ?_
                refine pv_if_le (tgt := 66) E d_Mod_open_61 rfl (fun h61 => ?_) (fun h61 => ?_)
                · skip
                  exact absurd h61 (by decide)
                · skip
                  refine pv_iconst (v := 0) E d_Mod_open_64 (by decide) ?_
                  exact pv_iret E hr hlk d_Mod_open_65 (by decide) (by decide) ⟨rfl, hM.th, ps_I_eq _ _ _ _ _, FrM.th⟩
          · skip
            exact absurd hb.2.2 h24
set_option maxHeartbeats 8000000 in
set_option maxRecDepth 100000 in
theorem k_Mod_open_0 (l : Launch) (D : va_G) (ca : Nat → ClassId) (A : Nat → Prop) (σ : ps_S) (s po d : Int32) (t : tT) (g : gT) (hM : RM σ t g 0) (hW : tW t) (hb : a_opn t s po) (hm : tN t < 12) (hn : gN g < 48) (hO : gOK g) (hY : gY g) : ∀ adr, ps_M l y_Mod_open c_Mod_open 5 (Option.some Jvm.ClassFile.FieldType.int) { frames := 5, cells := 0, slots := 0, locals := 119 } D ca A adr σ [ps_ref (some (13, 0)), ps_int s, ps_int po, ps_int d] (fun rv σ' => rv = some (ps_int (nI (tN t))) ∧ RM σ' (t_mk t (t_par t s) po d (gN g)) (g_new g 9 (-1) 0 0 []) 0 ∧ gX (g_new g 9 (-1) 0 0 []) ∧ ps_I σ' 13 0 0 = 0 ∧ FrM σ σ') := by
  intro adr
  refine ps_M.of (by decide +kernel) (Nat.le_of_ble_eq_true rfl) ?_
  intro p_ e_ s_ m_ args_ below_ meth_ c_ E hr hlk hnm
  have h0 := hM.1
  have hB := hM.2.2
  have hB1 : ∀ v : Int32, RMB (ps_sI σ 13 0 0 v) t := fun v => hB.th
  have hA := hM.2.1
  have hA1 : ∀ v : Int32, RMA (ps_sI σ 13 0 0 v) g 0 := fun v => hA.sc (Or.inl rfl)
  refine pv_aload_n E d_Mod_open_0 rfl rfl ?_
  refine pv_iload_n E d_Mod_open_1 rfl rfl ?_
  refine pv_iconst (v := -1) E d_Mod_open_2 (by decide) ?_
  refine pv_icmp_lt (tgt := 27) E d_Mod_open_3 rfl (fun h3 => ?_) (fun h3 => ?_)
  · skip
    exact absurd h3 (opn_ge hb.1)
  · skip
    refine pv_iload_n E d_Mod_open_6 rfl rfl ?_
    refine pv_if_lt (tgt := 18) E d_Mod_open_7 rfl (fun h7 => ?_) (fun h7 => ?_)
    · skip
      refine pv_iload_n E d_Mod_open_18 rfl rfl ?_
      refine pv_if_lt (tgt := 27) E d_Mod_open_19 rfl (fun h19 => ?_) (fun h19 => ?_)
      · skip
        exact absurd h19 hb.2.1
      · skip
        refine pv_iload_n E d_Mod_open_22 rfl rfl ?_
        refine pv_iconst (v := 2) E d_Mod_open_23 (by decide) ?_
        refine pv_icmp_le (tgt := 31) E d_Mod_open_24 rfl (fun h24 => ?_) (fun h24 => ?_)
        · skip
          refine pv_aload_n E d_Mod_open_31 rfl rfl ?_
          refine gf_Mod_scopes E wd_784 d_Mod_open_32 ?_
          refine pv_top (congrArg ps_int hB.1.1) ?_
          refine pv_bipush (v := 12) E d_Mod_open_35 (by decide) ?_
          refine pv_icmp_eq (tgt := 49) E d_Mod_open_37 rfl (fun h37 => ?_) (fun h37 => ?_)
          · skip
            exact absurd h37 (ne12 hm)
          · skip
            refine pv_aload_n E d_Mod_open_40 rfl rfl ?_
            refine gf_Mod_stages E wd_763 d_Mod_open_41 ?_
            refine pv_top (congrArg ps_int hA.1.1) ?_
            refine pv_bipush (v := 48) E d_Mod_open_44 (by decide) ?_
            refine pv_icmp_ne (tgt := 53) E d_Mod_open_46 rfl (fun h46 => ?_) (fun h46 => ?_)
            · skip
              refine pv_iconst (v := 0) E d_Mod_open_53 (by decide) ?_
              refine pf_Mod_thrown E wd_762 d_Mod_open_54 ?_
              refine pv_aload_n E d_Mod_open_57 rfl rfl ?_
              refine gf_Mod_thrown E wd_762 d_Mod_open_58 ?_
              refine pv_top (congrArg ps_int (ps_I_eq _ _ _ _ _)) ?_
              refine pv_if_le (tgt := 66) E d_Mod_open_61 rfl (fun h61 => ?_) (fun h61 => ?_)
              · skip
                refine pv_aload_n E d_Mod_open_66 rfl rfl ?_
                refine gf_Mod_scopes E wd_784 d_Mod_open_67 ?_
                refine pv_top (congrArg ps_int (hB1 0).1.1) ?_
                refine pv_istore E d_Mod_open_70 (by decide) ?_
                refine pv_aload_n E d_Mod_open_72 rfl rfl ?_
                refine pv_dup E d_Mod_open_73 rfl ?_
                refine gf_Mod_scopes E wd_784 d_Mod_open_74 ?_
                refine pv_top (congrArg ps_int (hB1 0).1.1) ?_
                refine pv_iconst (v := 1) E d_Mod_open_77 (by decide) ?_
                refine pv_iadd E d_Mod_open_78 ?_
                refine pv_top (congrArg ps_int (nI_1 _)) ?_
                refine pf_Mod_scopes E wd_784 d_Mod_open_79 ?_
                refine pv_aload_n E d_Mod_open_82 rfl rfl ?_
                refine gf_Mod_parent E wd_785 d_Mod_open_83 ?_
                refine pv_top (congrArg ps_ref (m_f h0 23 rfl)) ?_
                refine pv_iload E d_Mod_open_86 rfl ?_
                refine pv_iload_n E d_Mod_open_88 rfl rfl ?_
                refine pv_iastore (t0 := 6) E 14 _ (fun _ _ _ _ _ => rfl) rfl (m_ix h0 14 11 (by decide) (by decide) hm) d_Mod_open_89 ?_
                rw [nI_clamp (Nat.lt_trans hm (by decide))]
                refine pv_aload_n E d_Mod_open_90 rfl rfl ?_
                refine gf_Mod_policy E wd_786 d_Mod_open_91 ?_
                refine pv_top (congrArg ps_ref (m_f h0 24 rfl)) ?_
                refine pv_iload E d_Mod_open_94 rfl ?_
                refine pv_iload_n E d_Mod_open_96 rfl rfl ?_
                refine pv_iastore (t0 := 6) E 14 _ (fun _ _ _ _ _ => rfl) rfl (m_ix h0 14 12 (by decide) (by decide) hm) d_Mod_open_97 ?_
                rw [nI_clamp (Nat.lt_trans hm (by decide))]
                refine pv_aload_n E d_Mod_open_98 rfl rfl ?_
                refine gf_Mod_deadline E wd_787 d_Mod_open_99 ?_
                refine pv_top (congrArg ps_ref (m_f h0 25 rfl)) ?_
                refine pv_iload E d_Mod_open_102 rfl ?_
                refine pv_iload_n E d_Mod_open_104 rfl rfl ?_
                refine pv_if_ge (tgt := 112) E d_Mod_open_105 rfl (fun h105 => ?_) (fun h105 => ?_)
                · skip
                  refine pv_iload_n E d_Mod_open_112 rfl rfl ?_
                  refine pv_iastore (t0 := 6) E 14 _ (fun _ _ _ _ _ => rfl) rfl (m_ix h0 14 13 (by decide) (by decide) hm) d_Mod_open_113 ?_
                  rw [nI_clamp (Nat.lt_trans hm (by decide))]
                  refine pv_aload_n E d_Mod_open_114 rfl rfl ?_
                  refine gf_Mod_firstDone E wd_792 d_Mod_open_115 ?_
                  refine pv_top (congrArg ps_ref (m_f h0 30 rfl)) ?_
                  refine pv_iload E d_Mod_open_118 rfl ?_
                  refine pv_iconst (v := -1) E d_Mod_open_120 (by decide) ?_
                  refine pv_iastore (t0 := 6) E 14 _ (fun _ _ _ _ _ => rfl) rfl (m_ix h0 14 16 (by decide) (by decide) hm) d_Mod_open_121 ?_
                  rw [nI_clamp (Nat.lt_trans hm (by decide))]
                  refine pv_aload_n E d_Mod_open_122 rfl rfl ?_
                  refine gf_Mod_firstFailed E wd_793 d_Mod_open_123 ?_
                  refine pv_top (congrArg ps_ref (m_f h0 31 rfl)) ?_
                  refine pv_iload E d_Mod_open_126 rfl ?_
                  refine pv_iconst (v := -1) E d_Mod_open_128 (by decide) ?_
                  refine pv_iastore (t0 := 6) E 14 _ (fun _ _ _ _ _ => rfl) rfl (m_ix h0 14 17 (by decide) (by decide) hm) d_Mod_open_129 ?_
                  rw [nI_clamp (Nat.lt_trans hm (by decide))]
                  refine pv_aload_n E d_Mod_open_130 rfl rfl ?_
                  refine gf_Mod_result E wd_789 d_Mod_open_131 ?_
                  refine pv_top (congrArg ps_ref (m_f h0 27 rfl)) ?_
                  refine pv_iload E d_Mod_open_134 rfl ?_
                  refine pv_aload_n E d_Mod_open_136 rfl rfl ?_
                  refine pv_bipush (v := 9) E d_Mod_open_137 (by decide) ?_
                  refine pv_iconst (v := 0) E d_Mod_open_139 (by decide) ?_
                  refine pv_iconst (v := 0) E d_Mod_open_140 (by decide) ?_
                  refine pv_lconst (v := 0) E d_Mod_open_141 (by decide) ?_
                  refine pv_iconst (v := 0) E d_Mod_open_142 (by decide) ?_
                  refine pv_iconst (v := 0) E d_Mod_open_143 (by decide) ?_
                  refine pv_iconst (v := 0) E d_Mod_open_144 (by decide) ?_
                  refine pv_callV E (fun adr => k_Mod_make l D ca A (m_mkC (ps_sI σ 13 0 0 0) (tN t) s po d) 9 0 0 0 0 0 0 (-1) [] g 0 (h0.th.B FrB.mkC) ((hA1 0).B FrB.mkC) hO (by decide) hn (hO.mk hn (by decide) (fun i hi => by cases hi) ⟨Or.inl rfl, fun z => absurd z (by decide)⟩) sh_9 (Or.inl rfl) adr) yv_Mod_make wd_904 rfl rfl (fun _ => ⟨_, rfl⟩) rfl ⟨by decide, by decide⟩ (Nat.le_of_ble_eq_true rfl) d_Mod_open_145 ⟨by decide, by decide⟩ (fun r145 σ145 hq145 => ?_)
                  obtain ⟨hr145, hA145, hf145⟩ := hq145
                  subst r145
                  have h0m := (h0.th.B (FrB.mkC (σ := ps_sI σ 13 0 0 0) (n := tN t) (s := s) (po := po) (d := d))).A hf145
                  refine pv_iastore (t0 := 6) E 14 _ (fun _ _ _ _ _ => rfl) rfl (m_ix h0m 14 15 (by decide) (by decide) hm) d_Mod_open_148 ?_
                  rw [nI_clamp (Nat.lt_trans hm (by decide))]
                  refine pv_iload E d_Mod_open_149 rfl ?_
                  exact pv_iret E hr hlk d_Mod_open_151 (by decide) (by decide) ⟨rfl, ⟨h0m.B (FrB.b14 (by decide)), hA145.B (FrB.b14 (by decide)), RMB.A (by have hq := (hB1 0).mkC (po := po) (d := d) (r := gN g) hW (par_opt hb.1); rw [if_pos h105] at hq; exact hq) (FrA.lift hf145)⟩, (hY.1.mk hO).scan, ((FrB.th (FrB.b14 (by decide))).trans hf145.th).trans ((FrB.mkC.th).trans (ps_I_eq _ _ _ _ _)), ((FrM.th.tr (FrM.ofB FrB.mkC)).tr (FrM.ofA hf145)).tr (FrM.ofB (FrB.b14 (by decide)))⟩
                · skip
                  refine pv_iconst (v := -1) E d_Mod_open_108 (by decide) ?_
                  refine pv_goto (tgt := 113) E d_Mod_open_109 rfl ?_
                  refine pv_iastore (t0 := 6) E 14 _ (fun _ _ _ _ _ => rfl) rfl (m_ix h0 14 13 (by decide) (by decide) hm) d_Mod_open_113 ?_
                  rw [nI_clamp (Nat.lt_trans hm (by decide))]
                  refine pv_aload_n E d_Mod_open_114 rfl rfl ?_
                  refine gf_Mod_firstDone E wd_792 d_Mod_open_115 ?_
                  refine pv_top (congrArg ps_ref (m_f h0 30 rfl)) ?_
                  refine pv_iload E d_Mod_open_118 rfl ?_
                  refine pv_iconst (v := -1) E d_Mod_open_120 (by decide) ?_
                  refine pv_iastore (t0 := 6) E 14 _ (fun _ _ _ _ _ => rfl) rfl (m_ix h0 14 16 (by decide) (by decide) hm) d_Mod_open_121 ?_
                  rw [nI_clamp (Nat.lt_trans hm (by decide))]
                  refine pv_aload_n E d_Mod_open_122 rfl rfl ?_
                  refine gf_Mod_firstFailed E wd_793 d_Mod_open_123 ?_
                  refine pv_top (congrArg ps_ref (m_f h0 31 rfl)) ?_
                  refine pv_iload E d_Mod_open_126 rfl ?_
                  refine pv_iconst (v := -1) E d_Mod_open_128 (by decide) ?_
                  refine pv_iastore (t0 := 6) E 14 _ (fun _ _ _ _ _ => rfl) rfl (m_ix h0 14 17 (by decide) (by decide) hm) d_Mod_open_129 ?_
                  rw [nI_clamp (Nat.lt_trans hm (by decide))]
                  refine pv_aload_n E d_Mod_open_130 rfl rfl ?_
                  refine gf_Mod_result E wd_789 d_Mod_open_131 ?_
                  refine pv_top (congrArg ps_ref (m_f h0 27 rfl)) ?_
                  refine pv_iload E d_Mod_open_134 rfl ?_
                  refine pv_aload_n E d_Mod_open_136 rfl rfl ?_
                  refine pv_bipush (v := 9) E d_Mod_open_137 (by decide) ?_
                  refine pv_iconst (v := 0) E d_Mod_open_139 (by decide) ?_
                  refine pv_iconst (v := 0) E d_Mod_open_140 (by decide) ?_
                  refine pv_lconst (v := 0) E d_Mod_open_141 (by decide) ?_
                  refine pv_iconst (v := 0) E d_Mod_open_142 (by decide) ?_
                  refine pv_iconst (v := 0) E d_Mod_open_143 (by decide) ?_
                  refine pv_iconst (v := 0) E d_Mod_open_144 (by decide) ?_
                  refine pv_callV E (fun adr => k_Mod_make l D ca A (m_mkC (ps_sI σ 13 0 0 0) (tN t) s po (-1)) 9 0 0 0 0 0 0 (-1) [] g 0 (h0.th.B FrB.mkC) ((hA1 0).B FrB.mkC) hO (by decide) hn (hO.mk hn (by decide) (fun i hi => by cases hi) ⟨Or.inl rfl, fun z => absurd z (by decide)⟩) sh_9 (Or.inl rfl) adr) yv_Mod_make wd_904 rfl rfl (fun _ => ⟨_, rfl⟩) rfl ⟨by decide, by decide⟩ (Nat.le_of_ble_eq_true rfl) d_Mod_open_145 ⟨by decide, by decide⟩ (fun r145 σ145 hq145 => ?_)
                  obtain ⟨hr145, hA145, hf145⟩ := hq145
                  subst r145
                  have h0m := (h0.th.B (FrB.mkC (σ := ps_sI σ 13 0 0 0) (n := tN t) (s := s) (po := po) (d := (-1)))).A hf145
                  refine pv_iastore (t0 := 6) E 14 _ (fun _ _ _ _ _ => rfl) rfl (m_ix h0m 14 15 (by decide) (by decide) hm) d_Mod_open_148 ?_
                  rw [nI_clamp (Nat.lt_trans hm (by decide))]
                  refine pv_iload E d_Mod_open_149 rfl ?_
                  exact pv_iret E hr hlk d_Mod_open_151 (by decide) (by decide) ⟨rfl, ⟨h0m.B (FrB.b14 (by decide)), hA145.B (FrB.b14 (by decide)), RMB.A (by have hq := (hB1 0).mkC (po := po) (d := d) (r := gN g) hW (par_opt hb.1); rw [if_neg h105] at hq; exact hq) (FrA.lift hf145)⟩, (hY.1.mk hO).scan, ((FrB.th (FrB.b14 (by decide))).trans hf145.th).trans ((FrB.mkC.th).trans (ps_I_eq _ _ _ _ _)), ((FrM.th.tr (FrM.ofB FrB.mkC)).tr (FrM.ofA hf145)).tr (FrM.ofB (FrB.b14 (by decide)))⟩
              · skip
                exact absurd (by decide) h61
            · skip
              exact absurd h46 (ne48 hn)
        · skip
          exact absurd hb.2.2 h24
    · skip
      refine pv_aload_n E d_Mod_open_10 rfl rfl ?_
      refine pv_iload_n E d_Mod_open_11 rfl rfl ?_
      refine pv_callV E (fun adr => k_Mod_isOpen l D ca A _ s t h0 hB hW adr) yv_Mod_isOpen wd_1012 rfl rfl (fun _ => ⟨_, rfl⟩) rfl ⟨by decide, by decide⟩ (Nat.le_of_ble_eq_true rfl) d_Mod_open_12 ⟨by decide, by decide⟩ (fun r12 σ12 hq12 => ?_)
      obtain ⟨hr12, hs12⟩ := hq12
      subst r12
      subst σ12
      refine pv_if_eq (tgt := 27) E d_Mod_open_15 rfl (fun h15 => ?_) (fun h15 => ?_)
      · skip
        exact (hb.1.elim (fun z => h7 (by rw [z]; decide)) (fun z => if10 h15 z)).elim
      · skip
        refine pv_iload_n E d_Mod_open_18 rfl rfl ?_
        refine pv_if_lt (tgt := 27) E d_Mod_open_19 rfl (fun h19 => ?_) (fun h19 => ?_)
        · skip
          exact absurd h19 hb.2.1
        · skip
          refine pv_iload_n E d_Mod_open_22 rfl rfl ?_
          refine pv_iconst (v := 2) E d_Mod_open_23 (by decide) ?_
          refine pv_icmp_le (tgt := 31) E d_Mod_open_24 rfl (fun h24 => ?_) (fun h24 => ?_)
          · skip
            refine pv_aload_n E d_Mod_open_31 rfl rfl ?_
            refine gf_Mod_scopes E wd_784 d_Mod_open_32 ?_
            refine pv_top (congrArg ps_int hB.1.1) ?_
            refine pv_bipush (v := 12) E d_Mod_open_35 (by decide) ?_
            refine pv_icmp_eq (tgt := 49) E d_Mod_open_37 rfl (fun h37 => ?_) (fun h37 => ?_)
            · skip
              exact absurd h37 (ne12 hm)
            · skip
              refine pv_aload_n E d_Mod_open_40 rfl rfl ?_
              refine gf_Mod_stages E wd_763 d_Mod_open_41 ?_
              refine pv_top (congrArg ps_int hA.1.1) ?_
              refine pv_bipush (v := 48) E d_Mod_open_44 (by decide) ?_
              refine pv_icmp_ne (tgt := 53) E d_Mod_open_46 rfl (fun h46 => ?_) (fun h46 => ?_)
              · skip
                refine pv_iconst (v := 0) E d_Mod_open_53 (by decide) ?_
                refine pf_Mod_thrown E wd_762 d_Mod_open_54 ?_
                refine pv_aload_n E d_Mod_open_57 rfl rfl ?_
                refine gf_Mod_thrown E wd_762 d_Mod_open_58 ?_
                refine pv_top (congrArg ps_int (ps_I_eq _ _ _ _ _)) ?_
                refine pv_if_le (tgt := 66) E d_Mod_open_61 rfl (fun h61 => ?_) (fun h61 => ?_)
                · skip
                  refine pv_aload_n E d_Mod_open_66 rfl rfl ?_
                  refine gf_Mod_scopes E wd_784 d_Mod_open_67 ?_
                  refine pv_top (congrArg ps_int (hB1 0).1.1) ?_
                  refine pv_istore E d_Mod_open_70 (by decide) ?_
                  refine pv_aload_n E d_Mod_open_72 rfl rfl ?_
                  refine pv_dup E d_Mod_open_73 rfl ?_
                  refine gf_Mod_scopes E wd_784 d_Mod_open_74 ?_
                  refine pv_top (congrArg ps_int (hB1 0).1.1) ?_
                  refine pv_iconst (v := 1) E d_Mod_open_77 (by decide) ?_
                  refine pv_iadd E d_Mod_open_78 ?_
                  refine pv_top (congrArg ps_int (nI_1 _)) ?_
                  refine pf_Mod_scopes E wd_784 d_Mod_open_79 ?_
                  refine pv_aload_n E d_Mod_open_82 rfl rfl ?_
                  refine gf_Mod_parent E wd_785 d_Mod_open_83 ?_
                  refine pv_top (congrArg ps_ref (m_f h0 23 rfl)) ?_
                  refine pv_iload E d_Mod_open_86 rfl ?_
                  refine pv_iload_n E d_Mod_open_88 rfl rfl ?_
                  refine pv_iastore (t0 := 6) E 14 _ (fun _ _ _ _ _ => rfl) rfl (m_ix h0 14 11 (by decide) (by decide) hm) d_Mod_open_89 ?_
                  rw [nI_clamp (Nat.lt_trans hm (by decide))]
                  refine pv_aload_n E d_Mod_open_90 rfl rfl ?_
                  refine gf_Mod_policy E wd_786 d_Mod_open_91 ?_
                  refine pv_top (congrArg ps_ref (m_f h0 24 rfl)) ?_
                  refine pv_iload E d_Mod_open_94 rfl ?_
                  refine pv_iload_n E d_Mod_open_96 rfl rfl ?_
                  refine pv_iastore (t0 := 6) E 14 _ (fun _ _ _ _ _ => rfl) rfl (m_ix h0 14 12 (by decide) (by decide) hm) d_Mod_open_97 ?_
                  rw [nI_clamp (Nat.lt_trans hm (by decide))]
                  refine pv_aload_n E d_Mod_open_98 rfl rfl ?_
                  refine gf_Mod_deadline E wd_787 d_Mod_open_99 ?_
                  refine pv_top (congrArg ps_ref (m_f h0 25 rfl)) ?_
                  refine pv_iload E d_Mod_open_102 rfl ?_
                  refine pv_iload_n E d_Mod_open_104 rfl rfl ?_
                  refine pv_if_ge (tgt := 112) E d_Mod_open_105 rfl (fun h105 => ?_) (fun h105 => ?_)
                  · skip
                    refine pv_iload_n E d_Mod_open_112 rfl rfl ?_
                    refine pv_iastore (t0 := 6) E 14 _ (fun _ _ _ _ _ => rfl) rfl (m_ix h0 14 13 (by decide) (by decide) hm) d_Mod_open_113 ?_
                    rw [nI_clamp (Nat.lt_trans hm (by decide))]
                    refine pv_aload_n E d_Mod_open_114 rfl rfl ?_
                    refine gf_Mod_firstDone E wd_792 d_Mod_open_115 ?_
                    refine pv_top (congrArg ps_ref (m_f h0 30 rfl)) ?_
                    refine pv_iload E d_Mod_open_118 rfl ?_
                    refine pv_iconst (v := -1) E d_Mod_open_120 (by decide) ?_
                    refine pv_iastore (t0 := 6) E 14 _ (fun _ _ _ _ _ => rfl) rfl (m_ix h0 14 16 (by decide) (by decide) hm) d_Mod_open_121 ?_
                    rw [nI_clamp (Nat.lt_trans hm (by decide))]
                    refine pv_aload_n E d_Mod_open_122 rfl rfl ?_
                    refine gf_Mod_firstFailed E wd_793 d_Mod_open_123 ?_
                    refine pv_top (congrArg ps_ref (m_f h0 31 rfl)) ?_
                    refine pv_iload E d_Mod_open_126 rfl ?_
                    refine pv_iconst (v := -1) E d_Mod_open_128 (by decide) ?_
                    refine pv_iastore (t0 := 6) E 14 _ (fun _ _ _ _ _ => rfl) rfl (m_ix h0 14 17 (by decide) (by decide) hm) d_Mod_open_129 ?_
                    rw [nI_clamp (Nat.lt_trans hm (by decide))]
                    refine pv_aload_n E d_Mod_open_130 rfl rfl ?_
                    refine gf_Mod_result E wd_789 d_Mod_open_131 ?_
                    refine pv_top (congrArg ps_ref (m_f h0 27 rfl)) ?_
                    refine pv_iload E d_Mod_open_134 rfl ?_
                    refine pv_aload_n E d_Mod_open_136 rfl rfl ?_
                    refine pv_bipush (v := 9) E d_Mod_open_137 (by decide) ?_
                    refine pv_iconst (v := 0) E d_Mod_open_139 (by decide) ?_
                    refine pv_iconst (v := 0) E d_Mod_open_140 (by decide) ?_
                    refine pv_lconst (v := 0) E d_Mod_open_141 (by decide) ?_
                    refine pv_iconst (v := 0) E d_Mod_open_142 (by decide) ?_
                    refine pv_iconst (v := 0) E d_Mod_open_143 (by decide) ?_
                    refine pv_iconst (v := 0) E d_Mod_open_144 (by decide) ?_
                    refine pv_callV E (fun adr => k_Mod_make l D ca A (m_mkC (ps_sI σ 13 0 0 0) (tN t) s po d) 9 0 0 0 0 0 0 (-1) [] g 0 (h0.th.B FrB.mkC) ((hA1 0).B FrB.mkC) hO (by decide) hn (hO.mk hn (by decide) (fun i hi => by cases hi) ⟨Or.inl rfl, fun z => absurd z (by decide)⟩) sh_9 (Or.inl rfl) adr) yv_Mod_make wd_904 rfl rfl (fun _ => ⟨_, rfl⟩) rfl ⟨by decide, by decide⟩ (Nat.le_of_ble_eq_true rfl) d_Mod_open_145 ⟨by decide, by decide⟩ (fun r145 σ145 hq145 => ?_)
                    obtain ⟨hr145, hA145, hf145⟩ := hq145
                    subst r145
                    have h0m := (h0.th.B (FrB.mkC (σ := ps_sI σ 13 0 0 0) (n := tN t) (s := s) (po := po) (d := d))).A hf145
                    refine pv_iastore (t0 := 6) E 14 _ (fun _ _ _ _ _ => rfl) rfl (m_ix h0m 14 15 (by decide) (by decide) hm) d_Mod_open_148 ?_
                    rw [nI_clamp (Nat.lt_trans hm (by decide))]
                    refine pv_iload E d_Mod_open_149 rfl ?_
                    exact pv_iret E hr hlk d_Mod_open_151 (by decide) (by decide) ⟨rfl, ⟨h0m.B (FrB.b14 (by decide)), hA145.B (FrB.b14 (by decide)), RMB.A (by have hq := (hB1 0).mkC (po := po) (d := d) (r := gN g) hW (par_opt hb.1); rw [if_pos h105] at hq; exact hq) (FrA.lift hf145)⟩, (hY.1.mk hO).scan, ((FrB.th (FrB.b14 (by decide))).trans hf145.th).trans ((FrB.mkC.th).trans (ps_I_eq _ _ _ _ _)), ((FrM.th.tr (FrM.ofB FrB.mkC)).tr (FrM.ofA hf145)).tr (FrM.ofB (FrB.b14 (by decide)))⟩
                  · skip
                    refine pv_iconst (v := -1) E d_Mod_open_108 (by decide) ?_
                    refine pv_goto (tgt := 113) E d_Mod_open_109 rfl ?_
                    refine pv_iastore (t0 := 6) E 14 _ (fun _ _ _ _ _ => rfl) rfl (m_ix h0 14 13 (by decide) (by decide) hm) d_Mod_open_113 ?_
                    rw [nI_clamp (Nat.lt_trans hm (by decide))]
                    refine pv_aload_n E d_Mod_open_114 rfl rfl ?_
                    refine gf_Mod_firstDone E wd_792 d_Mod_open_115 ?_
                    refine pv_top (congrArg ps_ref (m_f h0 30 rfl)) ?_
                    refine pv_iload E d_Mod_open_118 rfl ?_
                    refine pv_iconst (v := -1) E d_Mod_open_120 (by decide) ?_
                    refine pv_iastore (t0 := 6) E 14 _ (fun _ _ _ _ _ => rfl) rfl (m_ix h0 14 16 (by decide) (by decide) hm) d_Mod_open_121 ?_
                    rw [nI_clamp (Nat.lt_trans hm (by decide))]
                    refine pv_aload_n E d_Mod_open_122 rfl rfl ?_
                    refine gf_Mod_firstFailed E wd_793 d_Mod_open_123 ?_
                    refine pv_top (congrArg ps_ref (m_f h0 31 rfl)) ?_
                    refine pv_iload E d_Mod_open_126 rfl ?_
                    refine pv_iconst (v := -1) E d_Mod_open_128 (by decide) ?_
                    refine pv_iastore (t0 := 6) E 14 _ (fun _ _ _ _ _ => rfl) rfl (m_ix h0 14 17 (by decide) (by decide) hm) d_Mod_open_129 ?_
                    rw [nI_clamp (Nat.lt_trans hm (by decide))]
                    refine pv_aload_n E d_Mod_open_130 rfl rfl ?_
                    refine gf_Mod_result E wd_789 d_Mod_open_131 ?_
                    refine pv_top (congrArg ps_ref (m_f h0 27 rfl)) ?_
                    refine pv_iload E d_Mod_open_134 rfl ?_
                    refine pv_aload_n E d_Mod_open_136 rfl rfl ?_
                    refine pv_bipush (v := 9) E d_Mod_open_137 (by decide) ?_
                    refine pv_iconst (v := 0) E d_Mod_open_139 (by decide) ?_
                    refine pv_iconst (v := 0) E d_Mod_open_140 (by decide) ?_
                    refine pv_lconst (v := 0) E d_Mod_open_141 (by decide) ?_
                    refine pv_iconst (v := 0) E d_Mod_open_142 (by decide) ?_
                    refine pv_iconst (v := 0) E d_Mod_open_143 (by decide) ?_
                    refine pv_iconst (v := 0) E d_Mod_open_144 (by decide) ?_
                    refine pv_callV E (fun adr => k_Mod_make l D ca A (m_mkC (ps_sI σ 13 0 0 0) (tN t) s po (-1)) 9 0 0 0 0 0 0 (-1) [] g 0 (h0.th.B FrB.mkC) ((hA1 0).B FrB.mkC) hO (by decide) hn (hO.mk hn (by decide) (fun i hi => by cases hi) ⟨Or.inl rfl, fun z => absurd z (by decide)⟩) sh_9 (Or.inl rfl) adr) yv_Mod_make wd_904 rfl rfl (fun _ => ⟨_, rfl⟩) rfl ⟨by decide, by decide⟩ (Nat.le_of_ble_eq_true rfl) d_Mod_open_145 ⟨by decide, by decide⟩ (fun r145 σ145 hq145 => ?_)
                    obtain ⟨hr145, hA145, hf145⟩ := hq145
                    subst r145
                    have h0m := (h0.th.B (FrB.mkC (σ := ps_sI σ 13 0 0 0) (n := tN t) (s := s) (po := po) (d := (-1)))).A hf145
                    refine pv_iastore (t0 := 6) E 14 _ (fun _ _ _ _ _ => rfl) rfl (m_ix h0m 14 15 (by decide) (by decide) hm) d_Mod_open_148 ?_
                    rw [nI_clamp (Nat.lt_trans hm (by decide))]
                    refine pv_iload E d_Mod_open_149 rfl ?_
                    exact pv_iret E hr hlk d_Mod_open_151 (by decide) (by decide) ⟨rfl, ⟨h0m.B (FrB.b14 (by decide)), hA145.B (FrB.b14 (by decide)), RMB.A (by have hq := (hB1 0).mkC (po := po) (d := d) (r := gN g) hW (par_opt hb.1); rw [if_neg h105] at hq; exact hq) (FrA.lift hf145)⟩, (hY.1.mk hO).scan, ((FrB.th (FrB.b14 (by decide))).trans hf145.th).trans ((FrB.mkC.th).trans (ps_I_eq _ _ _ _ _)), ((FrM.th.tr (FrM.ofB FrB.mkC)).tr (FrM.ofA hf145)).tr (FrM.ofB (FrB.b14 (by decide)))⟩
                · skip
                  exact absurd (by decide) h61
              · skip
                exact absurd h46 (ne48 hn)
          · skip
            exact absurd hb.2.2 h24
