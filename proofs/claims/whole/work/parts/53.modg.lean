set_option maxHeartbeats 8000000 in
set_option maxRecDepth 100000 in
theorem k_Mod_join_1 (l : Launch) (D : va_G) (ca : Nat → ClassId) (A : Nat → Prop) (σ : ps_S) (s : Int32) (t : tT) (g : gT) (hM : RM σ t g 0) (hO : gOK g) (hY : gY g) (hb : ¬ a_st g s) : ∀ adr, ps_M l y_Mod_join c_Mod_join 2 (Option.some Jvm.ClassFile.FieldType.int) { frames := 1, cells := 0, slots := 0, locals := 21 } D ca A adr σ [ps_ref (some (13, 0)), ps_int s] (fun rv σ' => rv = some (ps_int (0)) ∧ RM σ' t g 0 ∧ ps_I σ' 13 0 0 = 1 ∧ FrM σ σ') := by
  intro adr
  refine ps_M.of (by decide +kernel) (Nat.le_of_ble_eq_true rfl) ?_
  intro p_ e_ s_ m_ args_ below_ meth_ c_ E hr hlk hnm
  have h0 := hM.1
  have hA := hM.2.1
  have hA1 : ∀ v : Int32, RMA (ps_sI σ 13 0 0 v) g 0 := fun v => hA.sc (Or.inl rfl)
  refine pv_aload_n E d_Mod_join_0 rfl rfl ?_
  refine pv_aload_n E d_Mod_join_1 rfl rfl ?_
  refine pv_iload_n E d_Mod_join_2 rfl rfl ?_
  refine pv_callV E (fun adr => k_Mod_isStage l D ca A _ s g hA.1.1 hO.1.1 adr) yv_Mod_isStage wd_928 rfl rfl (fun _ => ⟨_, rfl⟩) rfl ⟨by decide, by decide⟩ (Nat.le_of_ble_eq_true rfl) d_Mod_join_3 ⟨by decide, by decide⟩ (fun r3 σ3 hq3 => ?_)
  obtain ⟨hr3, hs3⟩ := hq3
  subst r3
  subst σ3
  refine pv_if_ne (tgt := 13) E d_Mod_join_6 rfl (fun h6 => ?_) (fun h6 => ?_)
  · skip
    exact absurd (if10n h6) hb
  · skip
    refine pv_iconst (v := 1) E d_Mod_join_9 (by decide) ?_
    refine pv_goto (tgt := 14) E d_Mod_join_10 rfl ?_
    refine pf_Mod_thrown E wd_762 d_Mod_join_14 ?_
    refine pv_aload_n E d_Mod_join_17 rfl rfl ?_
    refine gf_Mod_thrown E wd_762 d_Mod_join_18 ?_
    refine pv_top (congrArg ps_int (ps_I_eq _ _ _ _ _)) ?_
    refine pv_if_le (tgt := 26) E d_Mod_join_21 rfl (fun h21 => ?_) (fun h21 => ?_)
    · skip
      exact absurd h21 (by decide)
    · skip
      refine pv_iconst (v := 0) E d_Mod_join_24 (by decide) ?_
      exact pv_iret E hr hlk d_Mod_join_25 (by decide) (by decide) ⟨rfl, hM.th, ps_I_eq _ _ _ _ _, FrM.th⟩
set_option maxHeartbeats 8000000 in
set_option maxRecDepth 100000 in
theorem k_Mod_join_2 (l : Launch) (D : va_G) (ca : Nat → ClassId) (A : Nat → Prop) (σ : ps_S) (s : Int32) (t : tT) (g : gT) (hM : RM σ t g 0) (hO : gOK g) (hY : gY g) (hb : a_st g s) (h00 : gF g s.toNatClampNeg 0 = 0) : ∀ adr, ps_M l y_Mod_join c_Mod_join 2 (Option.some Jvm.ClassFile.FieldType.int) { frames := 1, cells := 0, slots := 0, locals := 21 } D ca A adr σ [ps_ref (some (13, 0)), ps_int s] (fun rv σ' => rv = some (ps_int (0)) ∧ RM σ' t g 0 ∧ ps_I σ' 13 0 0 = 2 ∧ FrM σ σ') := by
  intro adr
  refine ps_M.of (by decide +kernel) (Nat.le_of_ble_eq_true rfl) ?_
  intro p_ e_ s_ m_ args_ below_ meth_ c_ E hr hlk hnm
  have h0 := hM.1
  have hA := hM.2.1
  have hA1 : ∀ v : Int32, RMA (ps_sI σ 13 0 0 v) g 0 := fun v => hA.sc (Or.inl rfl)
  have hk : s.toNatClampNeg < gN g := hb.2
  have hk48 : s.toNatClampNeg < 48 := Nat.lt_of_lt_of_le hk hO.1.1
  have hA2 : ∀ v w : Int32, RMA (ps_sI (ps_sI σ 13 0 0 v) 13 0 0 w) g 0 := fun v w => (hA1 v).sc (Or.inl rfl)
  refine pv_aload_n E d_Mod_join_0 rfl rfl ?_
  refine pv_aload_n E d_Mod_join_1 rfl rfl ?_
  refine pv_iload_n E d_Mod_join_2 rfl rfl ?_
  refine pv_callV E (fun adr => k_Mod_isStage l D ca A _ s g hA.1.1 hO.1.1 adr) yv_Mod_isStage wd_928 rfl rfl (fun _ => ⟨_, rfl⟩) rfl ⟨by decide, by decide⟩ (Nat.le_of_ble_eq_true rfl) d_Mod_join_3 ⟨by decide, by decide⟩ (fun r3 σ3 hq3 => ?_)
  obtain ⟨hr3, hs3⟩ := hq3
  subst r3
  subst σ3
  refine pv_if_ne (tgt := 13) E d_Mod_join_6 rfl (fun h6 => ?_) (fun h6 => ?_)
  · skip
    refine pv_iconst (v := 0) E d_Mod_join_13 (by decide) ?_
    refine pf_Mod_thrown E wd_762 d_Mod_join_14 ?_
    refine pv_aload_n E d_Mod_join_17 rfl rfl ?_
    refine gf_Mod_thrown E wd_762 d_Mod_join_18 ?_
    refine pv_top (congrArg ps_int (ps_I_eq _ _ _ _ _)) ?_
    refine pv_if_le (tgt := 26) E d_Mod_join_21 rfl (fun h21 => ?_) (fun h21 => ?_)
    · skip
      refine pv_aload_n E d_Mod_join_26 rfl rfl ?_
      refine pv_aload_n E d_Mod_join_27 rfl rfl ?_
      refine gf_Mod_state E wd_764 d_Mod_join_28 ?_
      refine pv_top (congrArg ps_ref (m_f h0 2 rfl)) ?_
      refine pv_iload_n E d_Mod_join_31 rfl rfl ?_
      refine pv_top (congrArg ps_int (st_nI hb.1)) ?_
      refine pv_iaload (t0 := 6) E 14 _ (fun _ _ _ _ _ => rfl) rfl (m_ix h0 14 0 (by decide) (by decide) hk48) d_Mod_join_32 ?_
      refine pv_top (congrArg ps_int ((congrArg (ps_I _ 14 0) (nI_clamp (Nat.lt_trans hk48 (by decide)))).trans ((hA1 0).1.2.2.1 s.toNatClampNeg hk).1.1)) ?_
      refine pv_if_ne (tgt := 40) E d_Mod_join_33 rfl (fun h33 => ?_) (fun h33 => ?_)
      · skip
        exact absurd h00 h33
      · skip
        refine pv_iconst (v := 2) E d_Mod_join_36 (by decide) ?_
        refine pv_goto (tgt := 55) E d_Mod_join_37 rfl ?_
        refine pf_Mod_thrown E wd_762 d_Mod_join_55 ?_
        refine pv_aload_n E d_Mod_join_58 rfl rfl ?_
        refine gf_Mod_thrown E wd_762 d_Mod_join_59 ?_
        refine pv_top (congrArg ps_int (ps_I_eq _ _ _ _ _)) ?_
        refine pv_if_le (tgt := 69) E d_Mod_join_62 rfl (fun h62 => ?_) (fun h62 => ?_)
        · skip
          exact absurd h62 (by decide)
        · skip
          refine pv_iconst (v := 0) E d_Mod_join_65 (by decide) ?_
          refine pv_goto (tgt := 75) E d_Mod_join_66 rfl ?_
          exact pv_iret E hr hlk d_Mod_join_75 (by decide) (by decide) ⟨rfl, hM.th.th, ps_I_eq _ _ _ _ _, FrM.th.tr FrM.th⟩
    · skip
      exact absurd (by decide) h21
  · skip
    exact absurd hb (if10 h6)
set_option maxHeartbeats 8000000 in
set_option maxRecDepth 100000 in
theorem k_Mod_join_3 (l : Launch) (D : va_G) (ca : Nat → ClassId) (A : Nat → Prop) (σ : ps_S) (s : Int32) (t : tT) (g : gT) (hM : RM σ t g 0) (hO : gOK g) (hY : gY g) (hb : a_st g s) (h11 : 1 < gF g s.toNatClampNeg 0) : ∀ adr, ps_M l y_Mod_join c_Mod_join 2 (Option.some Jvm.ClassFile.FieldType.int) { frames := 1, cells := 0, slots := 0, locals := 21 } D ca A adr σ [ps_ref (some (13, 0)), ps_int s] (fun rv σ' => rv = some (ps_int (0)) ∧ RM σ' t g 0 ∧ ps_I σ' 13 0 0 = 3 ∧ FrM σ σ') := by
  intro adr
  refine ps_M.of (by decide +kernel) (Nat.le_of_ble_eq_true rfl) ?_
  intro p_ e_ s_ m_ args_ below_ meth_ c_ E hr hlk hnm
  have h0 := hM.1
  have hA := hM.2.1
  have hA1 : ∀ v : Int32, RMA (ps_sI σ 13 0 0 v) g 0 := fun v => hA.sc (Or.inl rfl)
  have hk : s.toNatClampNeg < gN g := hb.2
  have hk48 : s.toNatClampNeg < 48 := Nat.lt_of_lt_of_le hk hO.1.1
  have hA2 : ∀ v w : Int32, RMA (ps_sI (ps_sI σ 13 0 0 v) 13 0 0 w) g 0 := fun v w => (hA1 v).sc (Or.inl rfl)
  refine pv_aload_n E d_Mod_join_0 rfl rfl ?_
  refine pv_aload_n E d_Mod_join_1 rfl rfl ?_
  refine pv_iload_n E d_Mod_join_2 rfl rfl ?_
  refine pv_callV E (fun adr => k_Mod_isStage l D ca A _ s g hA.1.1 hO.1.1 adr) yv_Mod_isStage wd_928 rfl rfl (fun _ => ⟨_, rfl⟩) rfl ⟨by decide, by decide⟩ (Nat.le_of_ble_eq_true rfl) d_Mod_join_3 ⟨by decide, by decide⟩ (fun r3 σ3 hq3 => ?_)
  obtain ⟨hr3, hs3⟩ := hq3
  subst r3
  subst σ3
  refine pv_if_ne (tgt := 13) E d_Mod_join_6 rfl (fun h6 => ?_) (fun h6 => ?_)
  · skip
    refine pv_iconst (v := 0) E d_Mod_join_13 (by decide) ?_
    refine pf_Mod_thrown E wd_762 d_Mod_join_14 ?_
    refine pv_aload_n E d_Mod_join_17 rfl rfl ?_
    refine gf_Mod_thrown E wd_762 d_Mod_join_18 ?_
    refine pv_top (congrArg ps_int (ps_I_eq _ _ _ _ _)) ?_
    refine pv_if_le (tgt := 26) E d_Mod_join_21 rfl (fun h21 => ?_) (fun h21 => ?_)
    · skip
      refine pv_aload_n E d_Mod_join_26 rfl rfl ?_
      refine pv_aload_n E d_Mod_join_27 rfl rfl ?_
      refine gf_Mod_state E wd_764 d_Mod_join_28 ?_
      refine pv_top (congrArg ps_ref (m_f h0 2 rfl)) ?_
      refine pv_iload_n E d_Mod_join_31 rfl rfl ?_
      refine pv_top (congrArg ps_int (st_nI hb.1)) ?_
      refine pv_iaload (t0 := 6) E 14 _ (fun _ _ _ _ _ => rfl) rfl (m_ix h0 14 0 (by decide) (by decide) hk48) d_Mod_join_32 ?_
      refine pv_top (congrArg ps_int ((congrArg (ps_I _ 14 0) (nI_clamp (Nat.lt_trans hk48 (by decide)))).trans ((hA1 0).1.2.2.1 s.toNatClampNeg hk).1.1)) ?_
      refine pv_if_ne (tgt := 40) E d_Mod_join_33 rfl (fun h33 => ?_) (fun h33 => ?_)
      · skip
        refine pv_aload_n E d_Mod_join_40 rfl rfl ?_
        refine gf_Mod_state E wd_764 d_Mod_join_41 ?_
        refine pv_top (congrArg ps_ref (m_f h0 2 rfl)) ?_
        refine pv_iload_n E d_Mod_join_44 rfl rfl ?_
        refine pv_top (congrArg ps_int (st_nI hb.1)) ?_
        refine pv_iaload (t0 := 6) E 14 _ (fun _ _ _ _ _ => rfl) rfl (m_ix h0 14 0 (by decide) (by decide) hk48) d_Mod_join_45 ?_
        refine pv_top (congrArg ps_int ((congrArg (ps_I _ 14 0) (nI_clamp (Nat.lt_trans hk48 (by decide)))).trans ((hA1 0).1.2.2.1 s.toNatClampNeg hk).1.1)) ?_
        refine pv_iconst (v := 1) E d_Mod_join_46 (by decide) ?_
        refine pv_icmp_le (tgt := 54) E d_Mod_join_47 rfl (fun h47 => ?_) (fun h47 => ?_)
        · skip
          exact absurd h11 (Int32.not_lt.mpr h47)
        · skip
          refine pv_iconst (v := 3) E d_Mod_join_50 (by decide) ?_
          refine pv_goto (tgt := 55) E d_Mod_join_51 rfl ?_
          refine pf_Mod_thrown E wd_762 d_Mod_join_55 ?_
          refine pv_aload_n E d_Mod_join_58 rfl rfl ?_
          refine gf_Mod_thrown E wd_762 d_Mod_join_59 ?_
          refine pv_top (congrArg ps_int (ps_I_eq _ _ _ _ _)) ?_
          refine pv_if_le (tgt := 69) E d_Mod_join_62 rfl (fun h62 => ?_) (fun h62 => ?_)
          · skip
            exact absurd h62 (by decide)
          · skip
            refine pv_iconst (v := 0) E d_Mod_join_65 (by decide) ?_
            refine pv_goto (tgt := 75) E d_Mod_join_66 rfl ?_
            exact pv_iret E hr hlk d_Mod_join_75 (by decide) (by decide) ⟨rfl, hM.th.th, ps_I_eq _ _ _ _ _, FrM.th.tr FrM.th⟩
      · skip
        exact absurd h11 (by rw [h33]; decide)
    · skip
      exact absurd (by decide) h21
  · skip
    exact absurd hb (if10 h6)
set_option maxHeartbeats 8000000 in
set_option maxRecDepth 100000 in
theorem k_Mod_join_0 (l : Launch) (D : va_G) (ca : Nat → ClassId) (A : Nat → Prop) (σ : ps_S) (s : Int32) (t : tT) (g : gT) (hM : RM σ t g 0) (hO : gOK g) (hY : gY g) (hb : a_st g s) (h11 : gF g s.toNatClampNeg 0 = 1) : ∀ adr, ps_M l y_Mod_join c_Mod_join 2 (Option.some Jvm.ClassFile.FieldType.int) { frames := 1, cells := 0, slots := 0, locals := 21 } D ca A adr σ [ps_ref (some (13, 0)), ps_int s] (fun rv σ' => rv = some (ps_int (gF g s.toNatClampNeg 1)) ∧ RM σ' t g 0 ∧ ps_I σ' 13 0 0 = 0 ∧ FrM σ σ') := by
  intro adr
  refine ps_M.of (by decide +kernel) (Nat.le_of_ble_eq_true rfl) ?_
  intro p_ e_ s_ m_ args_ below_ meth_ c_ E hr hlk hnm
  have h0 := hM.1
  have hA := hM.2.1
  have hA1 : ∀ v : Int32, RMA (ps_sI σ 13 0 0 v) g 0 := fun v => hA.sc (Or.inl rfl)
  have hk : s.toNatClampNeg < gN g := hb.2
  have hk48 : s.toNatClampNeg < 48 := Nat.lt_of_lt_of_le hk hO.1.1
  have hA2 : ∀ v w : Int32, RMA (ps_sI (ps_sI σ 13 0 0 v) 13 0 0 w) g 0 := fun v w => (hA1 v).sc (Or.inl rfl)
  refine pv_aload_n E d_Mod_join_0 rfl rfl ?_
  refine pv_aload_n E d_Mod_join_1 rfl rfl ?_
  refine pv_iload_n E d_Mod_join_2 rfl rfl ?_
  refine pv_callV E (fun adr => k_Mod_isStage l D ca A _ s g hA.1.1 hO.1.1 adr) yv_Mod_isStage wd_928 rfl rfl (fun _ => ⟨_, rfl⟩) rfl ⟨by decide, by decide⟩ (Nat.le_of_ble_eq_true rfl) d_Mod_join_3 ⟨by decide, by decide⟩ (fun r3 σ3 hq3 => ?_)
  obtain ⟨hr3, hs3⟩ := hq3
  subst r3
  subst σ3
  refine pv_if_ne (tgt := 13) E d_Mod_join_6 rfl (fun h6 => ?_) (fun h6 => ?_)
  · skip
    refine pv_iconst (v := 0) E d_Mod_join_13 (by decide) ?_
    refine pf_Mod_thrown E wd_762 d_Mod_join_14 ?_
    refine pv_aload_n E d_Mod_join_17 rfl rfl ?_
    refine gf_Mod_thrown E wd_762 d_Mod_join_18 ?_
    refine pv_top (congrArg ps_int (ps_I_eq _ _ _ _ _)) ?_
    refine pv_if_le (tgt := 26) E d_Mod_join_21 rfl (fun h21 => ?_) (fun h21 => ?_)
    · skip
      refine pv_aload_n E d_Mod_join_26 rfl rfl ?_
      refine pv_aload_n E d_Mod_join_27 rfl rfl ?_
      refine gf_Mod_state E wd_764 d_Mod_join_28 ?_
      refine pv_top (congrArg ps_ref (m_f h0 2 rfl)) ?_
      refine pv_iload_n E d_Mod_join_31 rfl rfl ?_
      refine pv_top (congrArg ps_int (st_nI hb.1)) ?_
      refine pv_iaload (t0 := 6) E 14 _ (fun _ _ _ _ _ => rfl) rfl (m_ix h0 14 0 (by decide) (by decide) hk48) d_Mod_join_32 ?_
      refine pv_top (congrArg ps_int ((congrArg (ps_I _ 14 0) (nI_clamp (Nat.lt_trans hk48 (by decide)))).trans ((hA1 0).1.2.2.1 s.toNatClampNeg hk).1.1)) ?_
      refine pv_if_ne (tgt := 40) E d_Mod_join_33 rfl (fun h33 => ?_) (fun h33 => ?_)
      · skip
        refine pv_aload_n E d_Mod_join_40 rfl rfl ?_
        refine gf_Mod_state E wd_764 d_Mod_join_41 ?_
        refine pv_top (congrArg ps_ref (m_f h0 2 rfl)) ?_
        refine pv_iload_n E d_Mod_join_44 rfl rfl ?_
        refine pv_top (congrArg ps_int (st_nI hb.1)) ?_
        refine pv_iaload (t0 := 6) E 14 _ (fun _ _ _ _ _ => rfl) rfl (m_ix h0 14 0 (by decide) (by decide) hk48) d_Mod_join_45 ?_
        refine pv_top (congrArg ps_int ((congrArg (ps_I _ 14 0) (nI_clamp (Nat.lt_trans hk48 (by decide)))).trans ((hA1 0).1.2.2.1 s.toNatClampNeg hk).1.1)) ?_
        refine pv_iconst (v := 1) E d_Mod_join_46 (by decide) ?_
        refine pv_icmp_le (tgt := 54) E d_Mod_join_47 rfl (fun h47 => ?_) (fun h47 => ?_)
        · skip
          refine pv_iconst (v := 0) E d_Mod_join_54 (by decide) ?_
          refine pf_Mod_thrown E wd_762 d_Mod_join_55 ?_
          refine pv_aload_n E d_Mod_join_58 rfl rfl ?_
          refine gf_Mod_thrown E wd_762 d_Mod_join_59 ?_
          refine pv_top (congrArg ps_int (ps_I_eq _ _ _ _ _)) ?_
          refine pv_if_le (tgt := 69) E d_Mod_join_62 rfl (fun h62 => ?_) (fun h62 => ?_)
          · skip
            refine pv_aload_n E d_Mod_join_69 rfl rfl ?_
            refine gf_Mod_value E wd_765 d_Mod_join_70 ?_
            refine pv_top (congrArg ps_ref (m_f h0 3 rfl)) ?_
            refine pv_iload_n E d_Mod_join_73 rfl rfl ?_
            refine pv_top (congrArg ps_int (st_nI hb.1)) ?_
            refine pv_iaload (t0 := 6) E 14 _ (fun _ _ _ _ _ => rfl) rfl (m_ix h0 14 1 (by decide) (by decide) hk48) d_Mod_join_74 ?_
            refine pv_top (congrArg ps_int ((congrArg (ps_I _ 14 1) (nI_clamp (Nat.lt_trans hk48 (by decide)))).trans ((hA2 0 0).1.2.2.1 s.toNatClampNeg hk).1.2.1)) ?_
            exact pv_iret E hr hlk d_Mod_join_75 (by decide) (by decide) ⟨rfl, hM.th.th, ps_I_eq _ _ _ _ _, FrM.th.tr FrM.th⟩
          · skip
            exact absurd (by decide) h62
        · skip
          exact absurd (by rw [h11]; decide) h47
      · skip
        exact absurd (h11.symm.trans h33) (by decide)
    · skip
      exact absurd (by decide) h21
  · skip
    exact absurd hb (if10 h6)
set_option maxHeartbeats 8000000 in
set_option maxRecDepth 100000 in
theorem k_Mod_count (l : Launch) (D : va_G) (ca : Nat → ClassId) (A : Nat → Prop) (σ : ps_S) (w : Int32) (t : tT) (g : gT) (hM : RM σ t g 0) (hO : gOK g) (hY : gY g) : ∀ adr, ps_M l y_Mod_count c_Mod_count 2 (Option.some Jvm.ClassFile.FieldType.int) { frames := 0, cells := 0, slots := 0, locals := 0 } D ca A adr σ [ps_ref (some (13, 0)), ps_int w] (fun rv σ' => rv = some (ps_int (x_count t g w)) ∧ RM σ' t g 0 ∧ ps_I σ' 13 0 0 = 0 ∧ FrM σ σ') := by
  intro adr
  refine ps_M.of (by decide +kernel) (Nat.le_of_ble_eq_true rfl) ?_
  intro p_ e_ s_ m_ args_ below_ meth_ c_ E hr hlk hnm
  have h0 := hM.1
  have hA := hM.2.1
  have hA1 : ∀ v : Int32, RMA (ps_sI σ 13 0 0 v) g 0 := fun v => hA.sc (Or.inl rfl)
  have hB := (hM.th (v := 0)).2.2
  refine pv_aload_n E d_Mod_count_0 rfl rfl ?_
  refine pv_iconst (v := 0) E d_Mod_count_1 (by decide) ?_
  refine pf_Mod_thrown E wd_762 d_Mod_count_2 ?_
  refine pv_iload_n E d_Mod_count_5 rfl rfl ?_
  refine pv_if_ne (tgt := 16) E d_Mod_count_6 rfl (fun h6 => ?_) (fun h6 => ?_)
  · skip
    refine pv_iload_n E d_Mod_count_16 rfl rfl ?_
    refine pv_iconst (v := 1) E d_Mod_count_17 (by decide) ?_
    refine pv_icmp_ne (tgt := 28) E d_Mod_count_18 rfl (fun h18 => ?_) (fun h18 => ?_)
    · skip
      refine pv_iload_n E d_Mod_count_28 rfl rfl ?_
      refine pv_iconst (v := 2) E d_Mod_count_29 (by decide) ?_
      refine pv_icmp_ne (tgt := 40) E d_Mod_count_30 rfl (fun h30 => ?_) (fun h30 => ?_)
      · skip
        refine pv_iload_n E d_Mod_count_40 rfl rfl ?_
        refine pv_iconst (v := 3) E d_Mod_count_41 (by decide) ?_
        refine pv_icmp_ne (tgt := 52) E d_Mod_count_42 rfl (fun h42 => ?_) (fun h42 => ?_)
        · skip
          refine pv_iload_n E d_Mod_count_52 rfl rfl ?_
          refine pv_iconst (v := 4) E d_Mod_count_53 (by decide) ?_
          refine pv_icmp_ne (tgt := 64) E d_Mod_count_54 rfl (fun h54 => ?_) (fun h54 => ?_)
          · skip
            refine pv_iconst (v := -1) E d_Mod_count_64 (by decide) ?_
            exact pv_iret E hr hlk d_Mod_count_65 (by decide) (by decide) ⟨by rw [x_count, if_neg h6, if_neg h18, if_neg h30, if_neg h42, if_neg h54], hM.th, ps_I_eq _ _ _ _ _, FrM.th⟩
          · skip
            refine pv_aload_n E d_Mod_count_57 rfl rfl ?_
            refine gf_Mod_time E wd_796 d_Mod_count_58 ?_
            refine pv_top (congrArg ps_int hB.2.2.1) ?_
            refine pv_goto (tgt := 65) E d_Mod_count_61 rfl ?_
            exact pv_iret E hr hlk d_Mod_count_65 (by decide) (by decide) ⟨by rw [x_count, if_neg h6, if_neg h18, if_neg h30, if_neg h42, if_pos h54], hM.th, ps_I_eq _ _ _ _ _, FrM.th⟩
        · skip
          refine pv_aload_n E d_Mod_count_45 rfl rfl ?_
          refine gf_Mod_tasks E wd_797 d_Mod_count_46 ?_
          refine pv_top (congrArg ps_int hB.2.1) ?_
          refine pv_goto (tgt := 65) E d_Mod_count_49 rfl ?_
          exact pv_iret E hr hlk d_Mod_count_65 (by decide) (by decide) ⟨by rw [x_count, if_neg h6, if_neg h18, if_neg h30, if_pos h42], hM.th, ps_I_eq _ _ _ _ _, FrM.th⟩
      · skip
        refine pv_aload_n E d_Mod_count_33 rfl rfl ?_
        refine gf_Mod_scopes E wd_784 d_Mod_count_34 ?_
        refine pv_top (congrArg ps_int hB.1.1) ?_
        refine pv_goto (tgt := 65) E d_Mod_count_37 rfl ?_
        exact pv_iret E hr hlk d_Mod_count_65 (by decide) (by decide) ⟨by rw [x_count, if_neg h6, if_neg h18, if_pos h30], hM.th, ps_I_eq _ _ _ _ _, FrM.th⟩
    · skip
      refine pv_aload_n E d_Mod_count_21 rfl rfl ?_
      refine gf_Mod_pooled E wd_780 d_Mod_count_22 ?_
      refine pv_top (congrArg ps_int (hA1 0).2.2.1) ?_
      refine pv_goto (tgt := 65) E d_Mod_count_25 rfl ?_
      exact pv_iret E hr hlk d_Mod_count_65 (by decide) (by decide) ⟨by rw [x_count, if_neg h6, if_pos h18], hM.th, ps_I_eq _ _ _ _ _, FrM.th⟩
  · skip
    refine pv_aload_n E d_Mod_count_9 rfl rfl ?_
    refine gf_Mod_stages E wd_763 d_Mod_count_10 ?_
    refine pv_top (congrArg ps_int (hA1 0).1.1) ?_
    refine pv_goto (tgt := 65) E d_Mod_count_13 rfl ?_
    exact pv_iret E hr hlk d_Mod_count_65 (by decide) (by decide) ⟨by rw [x_count, if_pos h6], hM.th, ps_I_eq _ _ _ _ _, FrM.th⟩
set_option maxHeartbeats 8000000 in
set_option maxRecDepth 100000 in
theorem k_Mod_isScope (l : Launch) (D : va_G) (ca : Nat → ClassId) (A : Nat → Prop) (σ : ps_S) (s : Int32) (t : tT) (hS : ps_I σ 13 0 22 = nI (tN t)) (hn : tN t ≤ 12) : ∀ adr, ps_M l y_Mod_isScope c_Mod_isScope 2 (Option.some Jvm.ClassFile.FieldType.boolean) { frames := 0, cells := 0, slots := 0, locals := 0 } D ca A adr σ [ps_ref (some (13, 0)), ps_int s] (fun rv σ' => rv = some (ps_int (if ¬ s < 0 ∧ s.toNatClampNeg < tN t then 1 else 0)) ∧ σ' = σ) := by
  intro adr
  refine ps_M.of (by decide +kernel) (Nat.le_of_ble_eq_true rfl) ?_
  intro p_ e_ s_ m_ args_ below_ meth_ c_ E hr hlk hnm
  refine pv_iload_n E d_Mod_isScope_0 rfl rfl ?_
  refine pv_if_lt (tgt := 16) E d_Mod_isScope_1 rfl (fun h1 => ?_) (fun h1 => ?_)
  · skip
    refine pv_iconst (v := 0) E d_Mod_isScope_16 (by decide) ?_
    exact pv_zret E hr hlk d_Mod_isScope_17 (by first | rfl | (apply ps_zb; assumption)) (by decide) (by decide) ⟨by rw [if_neg (fun z => z.1 h1)], rfl⟩
  · skip
    refine pv_iload_n E d_Mod_isScope_4 rfl rfl ?_
    refine pv_aload_n E d_Mod_isScope_5 rfl rfl ?_
    refine gf_Mod_scopes E wd_784 d_Mod_isScope_6 ?_
    refine pv_top (congrArg ps_int hS) ?_
    refine pv_icmp_ge (tgt := 16) E d_Mod_isScope_9 rfl (fun h9 => ?_) (fun h9 => ?_)
    · skip
      refine pv_iconst (v := 0) E d_Mod_isScope_16 (by decide) ?_
      exact pv_zret E hr hlk d_Mod_isScope_17 (by first | rfl | (apply ps_zb; assumption)) (by decide) (by decide) ⟨by rw [if_neg (fun z => absurd ((nI_le_s (by omega) h1).mp h9) (Nat.not_le.mpr z.2))], rfl⟩
    · skip
      refine pv_iconst (v := 1) E d_Mod_isScope_12 (by decide) ?_
      refine pv_goto (tgt := 17) E d_Mod_isScope_13 rfl ?_
      exact pv_zret E hr hlk d_Mod_isScope_17 (by first | rfl | (apply ps_zb; assumption)) (by decide) (by decide) ⟨by rw [if_pos ⟨h1, Nat.lt_of_not_le (fun z => h9 ((nI_le_s (by omega) h1).mpr z))⟩], rfl⟩
set_option maxHeartbeats 8000000 in
set_option maxRecDepth 100000 in
theorem k_Mod_isOpen (l : Launch) (D : va_G) (ca : Nat → ClassId) (A : Nat → Prop) (σ : ps_S) (s : Int32) (t : tT) (h0 : RM0 σ) (hB : RMB σ t) (hW : tW t) : ∀ adr, ps_M l y_Mod_isOpen c_Mod_isOpen 2 (Option.some Jvm.ClassFile.FieldType.boolean) { frames := 1, cells := 0, slots := 0, locals := 21 } D ca A adr σ [ps_ref (some (13, 0)), ps_int s] (fun rv σ' => rv = some (ps_int (if (¬ s < 0 ∧ s.toNatClampNeg < tN t) ∧ tS t s.toNatClampNeg 2 = 0 then 1 else 0)) ∧ σ' = σ) := by
  intro adr
  refine ps_M.of (by decide +kernel) (Nat.le_of_ble_eq_true rfl) ?_
  intro p_ e_ s_ m_ args_ below_ meth_ c_ E hr hlk hnm
  refine pv_aload_n E d_Mod_isOpen_0 rfl rfl ?_
  refine pv_iload_n E d_Mod_isOpen_1 rfl rfl ?_
  refine pv_callV E (fun adr => k_Mod_isScope l D ca A _ s t hB.1.1 hW.1.1 adr) yv_Mod_isScope wd_1016 rfl rfl (fun _ => ⟨_, rfl⟩) rfl ⟨by decide, by decide⟩ (Nat.le_of_ble_eq_true rfl) d_Mod_isOpen_2 ⟨by decide, by decide⟩ (fun r2 σ2 hq2 => ?_)
  obtain ⟨hr2, hs2⟩ := hq2
  subst r2
  subst σ2
  refine pv_if_eq (tgt := 33) E d_Mod_isOpen_5 rfl (fun h5 => ?_) (fun h5 => ?_)
  · skip
    refine pv_iconst (v := 0) E d_Mod_isOpen_33 (by decide) ?_
    exact pv_zret E hr hlk d_Mod_isOpen_34 (by first | rfl | (apply ps_zb; assumption)) (by decide) (by decide) ⟨by rw [if_neg (fun z => if10 h5 z.1)], rfl⟩
  · skip
    refine pv_aload_n E d_Mod_isOpen_8 rfl rfl ?_
    refine gf_Mod_mode E wd_788 d_Mod_isOpen_9 ?_
    refine pv_top (congrArg ps_ref (m_f h0 26 rfl)) ?_
    refine pv_aload_n E d_Mod_isOpen_12 rfl rfl ?_
    refine pv_iload_n E d_Mod_isOpen_13 rfl rfl ?_
    refine pv_callV E (fun adr => k_Mod_isScope l D ca A _ s t hB.1.1 hW.1.1 adr) yv_Mod_isScope wd_1016 rfl rfl (fun _ => ⟨_, rfl⟩) rfl ⟨by decide, by decide⟩ (Nat.le_of_ble_eq_true rfl) d_Mod_isOpen_14 ⟨by decide, by decide⟩ (fun r14 σ14 hq14 => ?_)
    obtain ⟨hr14, hs14⟩ := hq14
    subst r14
    subst σ14
    refine pv_if_eq (tgt := 24) E d_Mod_isOpen_17 rfl (fun h17 => ?_) (fun h17 => ?_)
    · skip
      exact absurd h17 h5
    · skip
      refine pv_iload_n E d_Mod_isOpen_20 rfl rfl ?_
      refine pv_top (congrArg ps_int (st_nI (if10n h5).1)) ?_
      refine pv_goto (tgt := 25) E d_Mod_isOpen_21 rfl ?_
      refine pv_iaload (t0 := 6) E 14 _ (fun _ _ _ _ _ => rfl) rfl (m_ix h0 14 14 (by decide) (by decide) (show s.toNatClampNeg < 12 from Nat.lt_of_lt_of_le (if10n h5).2 hW.1.1)) d_Mod_isOpen_25 ?_
      refine pv_top (congrArg ps_int ((congrArg (ps_I _ 14 14) (nI_clamp (Nat.lt_trans (show s.toNatClampNeg < 12 from Nat.lt_of_lt_of_le (if10n h5).2 hW.1.1) (by decide)))).trans (hB.1.2.1 _ (if10n h5).2).1.2.2.2.1)) ?_
      refine pv_if_ne (tgt := 33) E d_Mod_isOpen_26 rfl (fun h26 => ?_) (fun h26 => ?_)
      · skip
        refine pv_iconst (v := 0) E d_Mod_isOpen_33 (by decide) ?_
        exact pv_zret E hr hlk d_Mod_isOpen_34 (by first | rfl | (apply ps_zb; assumption)) (by decide) (by decide) ⟨by rw [if_neg (fun z => h26 z.2)], rfl⟩
      · skip
        refine pv_iconst (v := 1) E d_Mod_isOpen_29 (by decide) ?_
        refine pv_goto (tgt := 34) E d_Mod_isOpen_30 rfl ?_
        exact pv_zret E hr hlk d_Mod_isOpen_34 (by first | rfl | (apply ps_zb; assumption)) (by decide) (by decide) ⟨by rw [if_pos ⟨if10n h5, h26⟩], rfl⟩
