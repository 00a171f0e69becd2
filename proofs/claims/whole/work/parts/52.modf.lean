set_option maxHeartbeats 8000000 in
set_option maxRecDepth 100000 in
theorem k_Mod_source_0 (l : Launch) (D : va_G) (ca : Nat → ClassId) (A : Nat → Prop) (σ : ps_S)  (t : tT) (g : gT) (hM : RM σ t g 0) (hO : gOK g) (hY : gY g) (hn : gN g < 48) : ∀ adr, ps_M l y_Mod_source c_Mod_source 1 (Option.some Jvm.ClassFile.FieldType.int) { frames := 5, cells := 0, slots := 0, locals := 119 } D ca A adr σ [ps_ref (some (13, 0))] (fun rv σ' => rv = some (ps_int (nI (gN g))) ∧ RM σ' t (g_new g 9 (-1) 0 0 []) 0 ∧ gX (g_new g 9 (-1) 0 0 []) ∧ ps_I σ' 13 0 0 = 0 ∧ FrM σ σ') := by
  intro adr
  refine ps_M.of (by decide +kernel) (Nat.le_of_ble_eq_true rfl) ?_
  intro p_ e_ s_ m_ args_ below_ meth_ c_ E hr hlk hnm
  have h0 := hM.1
  have hA := hM.2.1
  have hA1 : ∀ v : Int32, RMA (ps_sI σ 13 0 0 v) g 0 := fun v => hA.sc (Or.inl rfl)
  refine pv_aload_n E d_Mod_source_0 rfl rfl ?_
  refine pv_aload_n E d_Mod_source_1 rfl rfl ?_
  refine gf_Mod_stages E wd_763 d_Mod_source_2 ?_
  refine pv_top (congrArg ps_int hA.1.1) ?_
  refine pv_bipush (v := 48) E d_Mod_source_5 (by decide) ?_
  refine pv_icmp_ne (tgt := 14) E d_Mod_source_7 rfl (fun h7 => ?_) (fun h7 => ?_)
  · skip
    refine pv_iconst (v := 0) E d_Mod_source_14 (by decide) ?_
    refine pf_Mod_thrown E wd_762 d_Mod_source_15 ?_
    refine pv_aload_n E d_Mod_source_18 rfl rfl ?_
    refine gf_Mod_thrown E wd_762 d_Mod_source_19 ?_
    refine pv_top (congrArg ps_int (ps_I_eq _ _ _ _ _)) ?_
    refine pv_if_le (tgt := 29) E d_Mod_source_22 rfl (fun h22 => ?_) (fun h22 => ?_)
    · skip
      refine pv_aload_n E d_Mod_source_29 rfl rfl ?_
      refine pv_bipush (v := 9) E d_Mod_source_30 (by decide) ?_
      refine pv_iconst (v := 0) E d_Mod_source_32 (by decide) ?_
      refine pv_iconst (v := 0) E d_Mod_source_33 (by decide) ?_
      refine pv_lconst (v := 0) E d_Mod_source_34 (by decide) ?_
      refine pv_iconst (v := 0) E d_Mod_source_35 (by decide) ?_
      refine pv_iconst (v := 0) E d_Mod_source_36 (by decide) ?_
      refine pv_iconst (v := 0) E d_Mod_source_37 (by decide) ?_
      refine pv_callV E (fun adr => k_Mod_make l D ca A _ 9 0 0 0 0 0 0 (-1) [] g 0 h0.th (hA1 0) hO (by decide) hn (hO.mk hn (by decide) (fun i hi => by cases hi) ⟨Or.inl rfl, fun z => absurd z (by decide)⟩) sh_9 (Or.inl rfl) adr) yv_Mod_make wd_904 rfl rfl (fun _ => ⟨_, rfl⟩) rfl ⟨by decide, by decide⟩ (Nat.le_of_ble_eq_true rfl) d_Mod_source_38 ⟨by decide, by decide⟩ (fun r38 σ38 hq38 => ?_)
      obtain ⟨hr38, hA38, hf38⟩ := hq38
      subst r38
      exact pv_iret E hr hlk d_Mod_source_41 (by decide) (by decide) ⟨rfl, hM.th.A hA38 hf38, (hY.1.mk hO).scan, hf38.th.trans (ps_I_eq _ _ _ _ _), FrM.th.tr (FrM.ofA hf38)⟩
    · skip
      exact absurd (by decide) h22
  · skip
    exact absurd h7 (ne48 hn)
set_option maxHeartbeats 8000000 in
set_option maxRecDepth 100000 in
theorem k_Mod_source_1 (l : Launch) (D : va_G) (ca : Nat → ClassId) (A : Nat → Prop) (σ : ps_S)  (t : tT) (g : gT) (hM : RM σ t g 0) (hO : gOK g) (hY : gY g) (hn : ¬ gN g < 48) : ∀ adr, ps_M l y_Mod_source c_Mod_source 1 (Option.some Jvm.ClassFile.FieldType.int) { frames := 5, cells := 0, slots := 0, locals := 119 } D ca A adr σ [ps_ref (some (13, 0))] (fun rv σ' => rv = some (ps_int 0) ∧ σ' = ps_sI σ 13 0 0 1) := by
  intro adr
  refine ps_M.of (by decide +kernel) (Nat.le_of_ble_eq_true rfl) ?_
  intro p_ e_ s_ m_ args_ below_ meth_ c_ E hr hlk hnm
  have h0 := hM.1
  have hA := hM.2.1
  have hA1 : ∀ v : Int32, RMA (ps_sI σ 13 0 0 v) g 0 := fun v => hA.sc (Or.inl rfl)
  refine pv_aload_n E d_Mod_source_0 rfl rfl ?_
  refine pv_aload_n E d_Mod_source_1 rfl rfl ?_
  refine gf_Mod_stages E wd_763 d_Mod_source_2 ?_
  refine pv_top (congrArg ps_int hA.1.1) ?_
  refine pv_bipush (v := 48) E d_Mod_source_5 (by decide) ?_
  refine pv_icmp_ne (tgt := 14) E d_Mod_source_7 rfl (fun h7 => ?_) (fun h7 => ?_)
  · skip
    exact absurd (eq48 hn hO.1.1) h7
  · skip
    refine pv_iconst (v := 1) E d_Mod_source_10 (by decide) ?_
    refine pv_goto (tgt := 15) E d_Mod_source_11 rfl ?_
    refine pf_Mod_thrown E wd_762 d_Mod_source_15 ?_
    refine pv_aload_n E d_Mod_source_18 rfl rfl ?_
    refine gf_Mod_thrown E wd_762 d_Mod_source_19 ?_
    refine pv_top (congrArg ps_int (ps_I_eq _ _ _ _ _)) ?_
    refine pv_if_le (tgt := 29) E d_Mod_source_22 rfl (fun h22 => ?_) (fun h22 => ?_)
    · skip
      exact absurd h22 (by decide)
    · skip
      refine pv_iconst (v := 0) E d_Mod_source_25 (by decide) ?_
      refine pv_goto (tgt := 41) E d_Mod_source_26 rfl ?_
      exact pv_iret E hr hlk d_Mod_source_41 (by decide) (by decide) ⟨rfl, rfl⟩
set_option maxHeartbeats 8000000 in
set_option maxRecDepth 100000 in
theorem k_Mod_then_0 (l : Launch) (D : va_G) (ca : Nat → ClassId) (A : Nat → Prop) (σ : ps_S) (s k f a as : Int32) (t : tT) (g : gT) (hM : RM σ t g 0) (hO : gOK g) (hY : gY g) (hb : a_then g s k f) (hn : gN g < 48) (has : as = 0 ∨ as = 1) : ∀ adr, ps_M l y_Mod_then c_Mod_then 7 (Option.some Jvm.ClassFile.FieldType.int) { frames := 9, cells := 0, slots := 0, locals := 206 } D ca A adr σ [ps_ref (some (13, 0)), ps_int s, ps_int k, ps_int f, ps_int a, ps_int as] (fun rv σ' => rv = some (ps_int (nI (gN g))) ∧ RM σ' t (g_work 96 (g_new g k f a as [s.toNatClampNeg])) 0 ∧ gY (g_work 96 (g_new g k f a as [s.toNatClampNeg])) ∧ ps_I σ' 13 0 0 = 0 ∧ FrM σ σ') := by
  intro adr
  refine ps_M.of (by decide +kernel) (Nat.le_of_ble_eq_true rfl) ?_
  intro p_ e_ s_ m_ args_ below_ meth_ c_ E hr hlk hnm
  have h0 := hM.1
  have hA := hM.2.1
  have hA1 : ∀ v : Int32, RMA (ps_sI σ 13 0 0 v) g 0 := fun v => hA.sc (Or.inl rfl)
  refine pv_aload_n E d_Mod_then_0 rfl rfl ?_
  refine pv_iload_n E d_Mod_then_1 rfl rfl ?_
  refine pv_if_lt (tgt := 27) E d_Mod_then_2 rfl (fun h2 => ?_) (fun h2 => ?_)
  · skip
    exact absurd h2 hb.2.1
  · skip
    refine pv_iload_n E d_Mod_then_5 rfl rfl ?_
    refine pv_iconst (v := 4) E d_Mod_then_6 (by decide) ?_
    refine pv_icmp_gt (tgt := 27) E d_Mod_then_7 rfl (fun h7 => ?_) (fun h7 => ?_)
    · skip
      exact absurd h7 hb.2.2.1
    · skip
      refine pv_iload_n E d_Mod_then_10 rfl rfl ?_
      refine pv_if_lt (tgt := 27) E d_Mod_then_11 rfl (fun h11 => ?_) (fun h11 => ?_)
      · skip
        exact absurd (by rw [fn_has, if_pos h11]) hb.2.2.2
      · skip
        refine pv_iload_n E d_Mod_then_14 rfl rfl ?_
        refine pv_iconst (v := 5) E d_Mod_then_15 (by decide) ?_
        refine pv_icmp_gt (tgt := 27) E d_Mod_then_16 rfl (fun h16 => ?_) (fun h16 => ?_)
        · skip
          exact absurd (by rw [fn_has, if_neg h11, if_pos h16]) hb.2.2.2
        · skip
          refine pv_aload_n E d_Mod_then_19 rfl rfl ?_
          refine pv_iload_n E d_Mod_then_20 rfl rfl ?_
          refine pv_callV E (fun adr => k_Mod_isStage l D ca A _ s g hA.1.1 hO.1.1 adr) yv_Mod_isStage wd_928 rfl rfl (fun _ => ⟨_, rfl⟩) rfl ⟨by decide, by decide⟩ (Nat.le_of_ble_eq_true rfl) d_Mod_then_21 ⟨by decide, by decide⟩ (fun r21 σ21 hq21 => ?_)
          obtain ⟨hr21, hs21⟩ := hq21
          subst r21
          subst σ21
          refine pv_if_ne (tgt := 31) E d_Mod_then_24 rfl (fun h24 => ?_) (fun h24 => ?_)
          · skip
            refine pv_aload_n E d_Mod_then_31 rfl rfl ?_
            refine gf_Mod_stages E wd_763 d_Mod_then_32 ?_
            refine pv_top (congrArg ps_int hA.1.1) ?_
            refine pv_bipush (v := 48) E d_Mod_then_35 (by decide) ?_
            refine pv_icmp_ne (tgt := 44) E d_Mod_then_37 rfl (fun h37 => ?_) (fun h37 => ?_)
            · skip
              refine pv_iconst (v := 0) E d_Mod_then_44 (by decide) ?_
              refine pf_Mod_thrown E wd_762 d_Mod_then_45 ?_
              refine pv_aload_n E d_Mod_then_48 rfl rfl ?_
              refine gf_Mod_thrown E wd_762 d_Mod_then_49 ?_
              refine pv_top (congrArg ps_int (ps_I_eq _ _ _ _ _)) ?_
              refine pv_if_le (tgt := 57) E d_Mod_then_52 rfl (fun h52 => ?_) (fun h52 => ?_)
              · skip
                refine pv_aload_n E d_Mod_then_57 rfl rfl ?_
                refine pv_iload_n E d_Mod_then_58 rfl rfl ?_
                refine pv_iload_n E d_Mod_then_59 rfl rfl ?_
                refine pv_iload_n E d_Mod_then_60 rfl rfl ?_
                refine pv_lconst (v := 0) E d_Mod_then_61 (by decide) ?_
                refine pv_iload_n E d_Mod_then_62 rfl rfl ?_
                refine pv_iload E d_Mod_then_63 rfl ?_
                refine pv_iload E d_Mod_then_65 rfl ?_
                refine pv_callV E (fun adr => k_Mod_make l D ca A _ k s s 0 f a as f [s.toNatClampNeg] g 0 h0.th (hA1 0) hO (by decide) hn (hO.mk hn (Nat.le_of_ble_eq_true rfl) (fun i hi => by rw [List.mem_singleton] at hi; rw [hi]; exact hb.1.2) ⟨Or.inr (Nat.le_of_ble_eq_true rfl), le_imp5 hb.2.2.1⟩) (sh_then hb) (has) adr) yv_Mod_make wd_904 rfl rfl (fun _ => ⟨_, rfl⟩) rfl ⟨by decide, by decide⟩ (Nat.le_of_ble_eq_true rfl) d_Mod_then_67 ⟨by decide, by decide⟩ (fun r67 σ67 hq67 => ?_)
                obtain ⟨hr67, hA67, hf67⟩ := hq67
                subst r67
                have hX1 : gX (g_new g k f a as [s.toNatClampNeg]) := (hY.1.mk hO).scan
                have hO1 : gOK (g_new g k f a as [s.toNatClampNeg]) := (hO.mk hn (Nat.le_of_ble_eq_true rfl) (fun i hi => by rw [List.mem_singleton] at hi; rw [hi]; exact hb.1.2) ⟨Or.inr (Nat.le_of_ble_eq_true rfl), le_imp5 hb.2.2.1⟩).scan
                refine pv_istore E d_Mod_then_70 (by decide) ?_
                refine pv_aload_n E d_Mod_then_72 rfl rfl ?_
                refine pv_callV E (fun adr => k_Mod_workOff l D ca A _ (g_new g k f a as [s.toNatClampNeg]) (h0.th.A hf67) hA67 hO1 hX1 adr) yv_Mod_workOff wd_932 rfl rfl (fun _ => ⟨_, rfl⟩) rfl ⟨by decide, by decide⟩ (Nat.le_of_ble_eq_true rfl) d_Mod_then_73 ⟨by decide, by decide⟩ (fun r73 σ73 hq73 => ?_)
                obtain ⟨hr73, hA73, hl73, hx73, hf73⟩ := hq73
                subst r73
                refine pv_iload E d_Mod_then_76 rfl ?_
                exact pv_iret E hr hlk d_Mod_then_78 (by decide) (by decide) ⟨rfl, (hM.th.A hA67 hf67).A hA73 hf73, ⟨hx73, hl73⟩, (hf73.th.trans hf67.th).trans (ps_I_eq _ _ _ _ _), (FrM.th.tr (FrM.ofA hf67)).tr (FrM.ofA hf73)⟩
              · skip
                exact absurd (by decide) h52
            · skip
              exact absurd h37 (ne48 hn)
          · skip
            exact absurd hb.1 (if10 h24)
set_option maxHeartbeats 8000000 in
set_option maxRecDepth 100000 in
theorem k_Mod_then_2 (l : Launch) (D : va_G) (ca : Nat → ClassId) (A : Nat → Prop) (σ : ps_S) (s k f a as : Int32) (t : tT) (g : gT) (hM : RM σ t g 0) (hO : gOK g) (hY : gY g) (hb : a_then g s k f) (hn : ¬ gN g < 48) : ∀ adr, ps_M l y_Mod_then c_Mod_then 7 (Option.some Jvm.ClassFile.FieldType.int) { frames := 9, cells := 0, slots := 0, locals := 206 } D ca A adr σ [ps_ref (some (13, 0)), ps_int s, ps_int k, ps_int f, ps_int a, ps_int as] (fun rv σ' => rv = some (ps_int 0) ∧ σ' = ps_sI σ 13 0 0 2) := by
  intro adr
  refine ps_M.of (by decide +kernel) (Nat.le_of_ble_eq_true rfl) ?_
  intro p_ e_ s_ m_ args_ below_ meth_ c_ E hr hlk hnm
  have h0 := hM.1
  have hA := hM.2.1
  have hA1 : ∀ v : Int32, RMA (ps_sI σ 13 0 0 v) g 0 := fun v => hA.sc (Or.inl rfl)
  refine pv_aload_n E d_Mod_then_0 rfl rfl ?_
  refine pv_iload_n E d_Mod_then_1 rfl rfl ?_
  refine pv_if_lt (tgt := 27) E d_Mod_then_2 rfl (fun h2 => ?_) (fun h2 => ?_)
  · skip
    exact absurd h2 hb.2.1
  · skip
    refine pv_iload_n E d_Mod_then_5 rfl rfl ?_
    refine pv_iconst (v := 4) E d_Mod_then_6 (by decide) ?_
    refine pv_icmp_gt (tgt := 27) E d_Mod_then_7 rfl (fun h7 => ?_) (fun h7 => ?_)
    · skip
      exact absurd h7 hb.2.2.1
    · skip
      refine pv_iload_n E d_Mod_then_10 rfl rfl ?_
      refine pv_if_lt (tgt := 27) E d_Mod_then_11 rfl (fun h11 => ?_) (fun h11 => ?_)
      · skip
        exact absurd (by rw [fn_has, if_pos h11]) hb.2.2.2
      · skip
        refine pv_iload_n E d_Mod_then_14 rfl rfl ?_
        refine pv_iconst (v := 5) E d_Mod_then_15 (by decide) ?_
        refine pv_icmp_gt (tgt := 27) E d_Mod_then_16 rfl (fun h16 => ?_) (fun h16 => ?_)
        · skip
          exact absurd (by rw [fn_has, if_neg h11, if_pos h16]) hb.2.2.2
        · skip
          refine pv_aload_n E d_Mod_then_19 rfl rfl ?_
          refine pv_iload_n E d_Mod_then_20 rfl rfl ?_
          refine pv_callV E (fun adr => k_Mod_isStage l D ca A _ s g hA.1.1 hO.1.1 adr) yv_Mod_isStage wd_928 rfl rfl (fun _ => ⟨_, rfl⟩) rfl ⟨by decide, by decide⟩ (Nat.le_of_ble_eq_true rfl) d_Mod_then_21 ⟨by decide, by decide⟩ (fun r21 σ21 hq21 => ?_)
          obtain ⟨hr21, hs21⟩ := hq21
          subst r21
          subst σ21
          refine pv_if_ne (tgt := 31) E d_Mod_then_24 rfl (fun h24 => ?_) (fun h24 => ?_)
          · skip
            refine pv_aload_n E d_Mod_then_31 rfl rfl ?_
            refine gf_Mod_stages E wd_763 d_Mod_then_32 ?_
            refine pv_top (congrArg ps_int hA.1.1) ?_
            refine pv_bipush (v := 48) E d_Mod_then_35 (by decide) ?_
            refine pv_icmp_ne (tgt := 44) E d_Mod_then_37 rfl (fun h37 => ?_) (fun h37 => ?_)
            · skip
              exact absurd (eq48 hn hO.1.1) h37
            · skip
              refine pv_iconst (v := 2) E d_Mod_then_40 (by decide) ?_
              refine pv_goto (tgt := 45) E d_Mod_then_41 rfl ?_
              refine pf_Mod_thrown E wd_762 d_Mod_then_45 ?_
              refine pv_aload_n E d_Mod_then_48 rfl rfl ?_
              refine gf_Mod_thrown E wd_762 d_Mod_then_49 ?_
              refine pv_top (congrArg ps_int (ps_I_eq _ _ _ _ _)) ?_
              refine pv_if_le (tgt := 57) E d_Mod_then_52 rfl (fun h52 => ?_) (fun h52 => ?_)
              · skip
                exact absurd h52 (by decide)
              · skip
                refine pv_iconst (v := 0) E d_Mod_then_55 (by decide) ?_
                exact pv_iret E hr hlk d_Mod_then_56 (by decide) (by decide) ⟨rfl, rfl⟩
          · skip
            exact absurd hb.1 (if10 h24)
set_option maxHeartbeats 8000000 in
set_option maxRecDepth 100000 in
theorem k_Mod_then_1 (l : Launch) (D : va_G) (ca : Nat → ClassId) (A : Nat → Prop) (σ : ps_S) (s k f a as : Int32) (t : tT) (g : gT) (hM : RM σ t g 0) (hO : gOK g) (hY : gY g) (hb : ¬ a_then g s k f) : ∀ adr, ps_M l y_Mod_then c_Mod_then 7 (Option.some Jvm.ClassFile.FieldType.int) { frames := 9, cells := 0, slots := 0, locals := 206 } D ca A adr σ [ps_ref (some (13, 0)), ps_int s, ps_int k, ps_int f, ps_int a, ps_int as] (fun rv σ' => rv = some (ps_int 0) ∧ σ' = ps_sI σ 13 0 0 1) := by
  intro adr
  refine ps_M.of (by decide +kernel) (Nat.le_of_ble_eq_true rfl) ?_
  intro p_ e_ s_ m_ args_ below_ meth_ c_ E hr hlk hnm
  have h0 := hM.1
  have hA := hM.2.1
  have hA1 : ∀ v : Int32, RMA (ps_sI σ 13 0 0 v) g 0 := fun v => hA.sc (Or.inl rfl)
  refine pv_aload_n E d_Mod_then_0 rfl rfl ?_
  refine pv_iload_n E d_Mod_then_1 rfl rfl ?_
  refine pv_if_lt (tgt := 27) E d_Mod_then_2 rfl (fun h2 => ?_) (fun h2 => ?_)
  · skip
    refine pv_iconst (v := 1) E d_Mod_then_27 (by decide) ?_
    refine pv_goto (tgt := 45) E d_Mod_then_28 rfl ?_
    refine pf_Mod_thrown E wd_762 d_Mod_then_45 ?_
    refine pv_aload_n E d_Mod_then_48 rfl rfl ?_
    refine gf_Mod_thrown E wd_762 d_Mod_then_49 ?_
    refine pv_top (congrArg ps_int (ps_I_eq _ _ _ _ _)) ?_
    refine pv_if_le (tgt := 57) E d_Mod_then_52 rfl (fun h52 => ?_) (fun h52 => ?_)
    · skip
      exact absurd h52 (by decide)
    · skip
      refine pv_iconst (v := 0) E d_Mod_then_55 (by decide) ?_
      exact pv_iret E hr hlk d_Mod_then_56 (by decide) (by decide) ⟨rfl, rfl⟩
  · skip
    refine pv_iload_n E d_Mod_then_5 rfl rfl ?_
    refine pv_iconst (v := 4) E d_Mod_then_6 (by decide) ?_
    refine pv_icmp_gt (tgt := 27) E d_Mod_then_7 rfl (fun h7 => ?_) (fun h7 => ?_)
    · skip
      refine pv_iconst (v := 1) E d_Mod_then_27 (by decide) ?_
      refine pv_goto (tgt := 45) E d_Mod_then_28 rfl ?_
      refine pf_Mod_thrown E wd_762 d_Mod_then_45 ?_
      refine pv_aload_n E d_Mod_then_48 rfl rfl ?_
      refine gf_Mod_thrown E wd_762 d_Mod_then_49 ?_
      refine pv_top (congrArg ps_int (ps_I_eq _ _ _ _ _)) ?_
      refine pv_if_le (tgt := 57) E d_Mod_then_52 rfl (fun h52 => ?_) (fun h52 => ?_)
      · skip
        exact absurd h52 (by decide)
      · skip
        refine pv_iconst (v := 0) E d_Mod_then_55 (by decide) ?_
        exact pv_iret E hr hlk d_Mod_then_56 (by decide) (by decide) ⟨rfl, rfl⟩
    · skip
      refine pv_iload_n E d_Mod_then_10 rfl rfl ?_
      refine pv_if_lt (tgt := 27) E d_Mod_then_11 rfl (fun h11 => ?_) (fun h11 => ?_)
      · skip
        refine pv_iconst (v := 1) E d_Mod_then_27 (by decide) ?_
        refine pv_goto (tgt := 45) E d_Mod_then_28 rfl ?_
        refine pf_Mod_thrown E wd_762 d_Mod_then_45 ?_
        refine pv_aload_n E d_Mod_then_48 rfl rfl ?_
        refine gf_Mod_thrown E wd_762 d_Mod_then_49 ?_
        refine pv_top (congrArg ps_int (ps_I_eq _ _ _ _ _)) ?_
        refine pv_if_le (tgt := 57) E d_Mod_then_52 rfl (fun h52 => ?_) (fun h52 => ?_)
        · skip
          exact absurd h52 (by decide)
        · skip
          refine pv_iconst (v := 0) E d_Mod_then_55 (by decide) ?_
          exact pv_iret E hr hlk d_Mod_then_56 (by decide) (by decide) ⟨rfl, rfl⟩
      · skip
        refine pv_iload_n E d_Mod_then_14 rfl rfl ?_
        refine pv_iconst (v := 5) E d_Mod_then_15 (by decide) ?_
        refine pv_icmp_gt (tgt := 27) E d_Mod_then_16 rfl (fun h16 => ?_) (fun h16 => ?_)
        · skip
          refine pv_iconst (v := 1) E d_Mod_then_27 (by decide) ?_
          refine pv_goto (tgt := 45) E d_Mod_then_28 rfl ?_
          refine pf_Mod_thrown E wd_762 d_Mod_then_45 ?_
          refine pv_aload_n E d_Mod_then_48 rfl rfl ?_
          refine gf_Mod_thrown E wd_762 d_Mod_then_49 ?_
          refine pv_top (congrArg ps_int (ps_I_eq _ _ _ _ _)) ?_
          refine pv_if_le (tgt := 57) E d_Mod_then_52 rfl (fun h52 => ?_) (fun h52 => ?_)
          · skip
            exact absurd h52 (by decide)
          · skip
            refine pv_iconst (v := 0) E d_Mod_then_55 (by decide) ?_
            exact pv_iret E hr hlk d_Mod_then_56 (by decide) (by decide) ⟨rfl, rfl⟩
        · skip
          refine pv_aload_n E d_Mod_then_19 rfl rfl ?_
          refine pv_iload_n E d_Mod_then_20 rfl rfl ?_
          refine pv_callV E (fun adr => k_Mod_isStage l D ca A _ s g hA.1.1 hO.1.1 adr) yv_Mod_isStage wd_928 rfl rfl (fun _ => ⟨_, rfl⟩) rfl ⟨by decide, by decide⟩ (Nat.le_of_ble_eq_true rfl) d_Mod_then_21 ⟨by decide, by decide⟩ (fun r21 σ21 hq21 => ?_)
          obtain ⟨hr21, hs21⟩ := hq21
          subst r21
          subst σ21
          refine pv_if_ne (tgt := 31) E d_Mod_then_24 rfl (fun h24 => ?_) (fun h24 => ?_)
          · skip
            exact absurd ⟨if10n h24, h2, h7, by rw [fn_has, if_neg h11, if_neg h16]; decide⟩ hb
          · skip
            refine pv_iconst (v := 1) E d_Mod_then_27 (by decide) ?_
            refine pv_goto (tgt := 45) E d_Mod_then_28 rfl ?_
            refine pf_Mod_thrown E wd_762 d_Mod_then_45 ?_
            refine pv_aload_n E d_Mod_then_48 rfl rfl ?_
            refine gf_Mod_thrown E wd_762 d_Mod_then_49 ?_
            refine pv_top (congrArg ps_int (ps_I_eq _ _ _ _ _)) ?_
            refine pv_if_le (tgt := 57) E d_Mod_then_52 rfl (fun h52 => ?_) (fun h52 => ?_)
            · skip
              exact absurd h52 (by decide)
            · skip
              refine pv_iconst (v := 0) E d_Mod_then_55 (by decide) ?_
              exact pv_iret E hr hlk d_Mod_then_56 (by decide) (by decide) ⟨rfl, rfl⟩
set_option maxHeartbeats 8000000 in
set_option maxRecDepth 100000 in
theorem k_Mod_both_0 (l : Launch) (D : va_G) (ca : Nat → ClassId) (A : Nat → Prop) (σ : ps_S) (s u k f a as : Int32) (t : tT) (g : gT) (hM : RM σ t g 0) (hO : gOK g) (hY : gY g) (hb : a_both g s u k f) (hn : gN g < 48) (has : as = 0 ∨ as = 1) : ∀ adr, ps_M l y_Mod_both c_Mod_both 8 (Option.some Jvm.ClassFile.FieldType.int) { frames := 9, cells := 0, slots := 0, locals := 206 } D ca A adr σ [ps_ref (some (13, 0)), ps_int s, ps_int u, ps_int k, ps_int f, ps_int a, ps_int as] (fun rv σ' => rv = some (ps_int (nI (gN g))) ∧ RM σ' t (g_work 96 (g_new g k f a as [s.toNatClampNeg, u.toNatClampNeg])) 0 ∧ gY (g_work 96 (g_new g k f a as [s.toNatClampNeg, u.toNatClampNeg])) ∧ ps_I σ' 13 0 0 = 0 ∧ FrM σ σ') := by
  intro adr
  refine ps_M.of (by decide +kernel) (Nat.le_of_ble_eq_true rfl) ?_
  intro p_ e_ s_ m_ args_ below_ meth_ c_ E hr hlk hnm
  have h0 := hM.1
  have hA := hM.2.1
  have hA1 : ∀ v : Int32, RMA (ps_sI σ 13 0 0 v) g 0 := fun v => hA.sc (Or.inl rfl)
  have hi2 : ∀ i, i ∈ [s.toNatClampNeg, u.toNatClampNeg] → i < gN g := fun i hi => by
    rcases List.mem_cons.mp hi with rfl | hi
    · exact hb.1.2
    · rw [List.mem_singleton] at hi; rw [hi]; exact hb.2.1.2
  refine pv_aload_n E d_Mod_both_0 rfl rfl ?_
  refine pv_iload_n E d_Mod_both_1 rfl rfl ?_
  refine pv_iconst (v := 5) E d_Mod_both_2 (by decide) ?_
  refine pv_icmp_lt (tgt := 39) E d_Mod_both_3 rfl (fun h3 => ?_) (fun h3 => ?_)
  · skip
    exact absurd h3 hb.2.2.1
  · skip
    refine pv_iload_n E d_Mod_both_6 rfl rfl ?_
    refine pv_bipush (v := 6) E d_Mod_both_7 (by decide) ?_
    refine pv_icmp_gt (tgt := 39) E d_Mod_both_9 rfl (fun h9 => ?_) (fun h9 => ?_)
    · skip
      exact absurd h9 hb.2.2.2.1
    · skip
      refine pv_iload E d_Mod_both_12 rfl ?_
      refine pv_if_lt (tgt := 39) E d_Mod_both_14 rfl (fun h14 => ?_) (fun h14 => ?_)
      · skip
        exact absurd (by rw [fn_has, if_pos h14]) hb.2.2.2.2
      · skip
        refine pv_iload E d_Mod_both_17 rfl ?_
        refine pv_iconst (v := 5) E d_Mod_both_19 (by decide) ?_
        refine pv_icmp_gt (tgt := 39) E d_Mod_both_20 rfl (fun h20 => ?_) (fun h20 => ?_)
        · skip
          exact absurd (by rw [fn_has, if_neg h14, if_pos h20]) hb.2.2.2.2
        · skip
          refine pv_aload_n E d_Mod_both_23 rfl rfl ?_
          refine pv_iload_n E d_Mod_both_24 rfl rfl ?_
          refine pv_callV E (fun adr => k_Mod_isStage l D ca A _ s g hA.1.1 hO.1.1 adr) yv_Mod_isStage wd_928 rfl rfl (fun _ => ⟨_, rfl⟩) rfl ⟨by decide, by decide⟩ (Nat.le_of_ble_eq_true rfl) d_Mod_both_25 ⟨by decide, by decide⟩ (fun r25 σ25 hq25 => ?_)
          obtain ⟨hr25, hs25⟩ := hq25
          subst r25
          subst σ25
          refine pv_if_eq (tgt := 39) E d_Mod_both_28 rfl (fun h28 => ?_) (fun h28 => ?_)
          · skip
            exact absurd hb.1 (if10 h28)
          · skip
            refine pv_aload_n E d_Mod_both_31 rfl rfl ?_
            refine pv_iload_n E d_Mod_both_32 rfl rfl ?_
            refine pv_callV E (fun adr => k_Mod_isStage l D ca A _ u g hA.1.1 hO.1.1 adr) yv_Mod_isStage wd_928 rfl rfl (fun _ => ⟨_, rfl⟩) rfl ⟨by decide, by decide⟩ (Nat.le_of_ble_eq_true rfl) d_Mod_both_33 ⟨by decide, by decide⟩ (fun r33 σ33 hq33 => ?_)
            obtain ⟨hr33, hs33⟩ := hq33
            subst r33
            subst σ33
            refine pv_if_ne (tgt := 43) E d_Mod_both_36 rfl (fun h36 => ?_) (fun h36 => ?_)
            · skip
              refine pv_aload_n E d_Mod_both_43 rfl rfl ?_
              refine gf_Mod_stages E wd_763 d_Mod_both_44 ?_
              refine pv_top (congrArg ps_int hA.1.1) ?_
              refine pv_bipush (v := 48) E d_Mod_both_47 (by decide) ?_
              refine pv_icmp_ne (tgt := 56) E d_Mod_both_49 rfl (fun h49 => ?_) (fun h49 => ?_)
              · skip
                refine pv_iconst (v := 0) E d_Mod_both_56 (by decide) ?_
                refine pf_Mod_thrown E wd_762 d_Mod_both_57 ?_
                refine pv_aload_n E d_Mod_both_60 rfl rfl ?_
                refine gf_Mod_thrown E wd_762 d_Mod_both_61 ?_
                refine pv_top (congrArg ps_int (ps_I_eq _ _ _ _ _)) ?_
                refine pv_if_le (tgt := 69) E d_Mod_both_64 rfl (fun h64 => ?_) (fun h64 => ?_)
                · skip
                  refine pv_aload_n E d_Mod_both_69 rfl rfl ?_
                  refine pv_iload_n E d_Mod_both_70 rfl rfl ?_
                  refine pv_iload_n E d_Mod_both_71 rfl rfl ?_
                  refine pv_iload_n E d_Mod_both_72 rfl rfl ?_
                  refine pv_lconst (v := 0) E d_Mod_both_73 (by decide) ?_
                  refine pv_iload E d_Mod_both_74 rfl ?_
                  refine pv_iload E d_Mod_both_76 rfl ?_
                  refine pv_iload E d_Mod_both_78 rfl ?_
                  refine pv_callV E (fun adr => k_Mod_make l D ca A _ k s u 0 f a as f [s.toNatClampNeg, u.toNatClampNeg] g 0 h0.th (hA1 0) hO (by decide) hn (hO.mk hn (Nat.le_of_ble_eq_true rfl) hi2 ⟨Or.inr (Nat.le_of_ble_eq_true rfl), fun _ => Nat.le_of_ble_eq_true rfl⟩) (sh_both hb) (has) adr) yv_Mod_make wd_904 rfl rfl (fun _ => ⟨_, rfl⟩) rfl ⟨by decide, by decide⟩ (Nat.le_of_ble_eq_true rfl) d_Mod_both_80 ⟨by decide, by decide⟩ (fun r80 σ80 hq80 => ?_)
                  obtain ⟨hr80, hA80, hf80⟩ := hq80
                  subst r80
                  have hX1 : gX (g_new g k f a as [s.toNatClampNeg, u.toNatClampNeg]) := (hY.1.mk hO).scan
                  have hO1 : gOK (g_new g k f a as [s.toNatClampNeg, u.toNatClampNeg]) := (hO.mk hn (Nat.le_of_ble_eq_true rfl) hi2 ⟨Or.inr (Nat.le_of_ble_eq_true rfl), fun _ => Nat.le_of_ble_eq_true rfl⟩).scan
                  refine pv_istore E d_Mod_both_83 (by decide) ?_
                  refine pv_aload_n E d_Mod_both_85 rfl rfl ?_
                  refine pv_callV E (fun adr => k_Mod_workOff l D ca A _ (g_new g k f a as [s.toNatClampNeg, u.toNatClampNeg]) (h0.th.A hf80) hA80 hO1 hX1 adr) yv_Mod_workOff wd_932 rfl rfl (fun _ => ⟨_, rfl⟩) rfl ⟨by decide, by decide⟩ (Nat.le_of_ble_eq_true rfl) d_Mod_both_86 ⟨by decide, by decide⟩ (fun r86 σ86 hq86 => ?_)
                  obtain ⟨hr86, hA86, hl86, hx86, hf86⟩ := hq86
                  subst r86
                  refine pv_iload E d_Mod_both_89 rfl ?_
                  exact pv_iret E hr hlk d_Mod_both_91 (by decide) (by decide) ⟨rfl, (hM.th.A hA80 hf80).A hA86 hf86, ⟨hx86, hl86⟩, (hf86.th.trans hf80.th).trans (ps_I_eq _ _ _ _ _), (FrM.th.tr (FrM.ofA hf80)).tr (FrM.ofA hf86)⟩
                · skip
                  exact absurd (by decide) h64
              · skip
                exact absurd h49 (ne48 hn)
            · skip
              exact absurd hb.2.1 (if10 h36)
set_option maxHeartbeats 8000000 in
set_option maxRecDepth 100000 in
theorem k_Mod_both_2 (l : Launch) (D : va_G) (ca : Nat → ClassId) (A : Nat → Prop) (σ : ps_S) (s u k f a as : Int32) (t : tT) (g : gT) (hM : RM σ t g 0) (hO : gOK g) (hY : gY g) (hb : a_both g s u k f) (hn : ¬ gN g < 48) : ∀ adr, ps_M l y_Mod_both c_Mod_both 8 (Option.some Jvm.ClassFile.FieldType.int) { frames := 9, cells := 0, slots := 0, locals := 206 } D ca A adr σ [ps_ref (some (13, 0)), ps_int s, ps_int u, ps_int k, ps_int f, ps_int a, ps_int as] (fun rv σ' => rv = some (ps_int 0) ∧ σ' = ps_sI σ 13 0 0 2) := by
  intro adr
  refine ps_M.of (by decide +kernel) (Nat.le_of_ble_eq_true rfl) ?_
  intro p_ e_ s_ m_ args_ below_ meth_ c_ E hr hlk hnm
  have h0 := hM.1
  have hA := hM.2.1
  have hA1 : ∀ v : Int32, RMA (ps_sI σ 13 0 0 v) g 0 := fun v => hA.sc (Or.inl rfl)
  refine pv_aload_n E d_Mod_both_0 rfl rfl ?_
  refine pv_iload_n E d_Mod_both_1 rfl rfl ?_
  refine pv_iconst (v := 5) E d_Mod_both_2 (by decide) ?_
  refine pv_icmp_lt (tgt := 39) E d_Mod_both_3 rfl (fun h3 => ?_) (fun h3 => ?_)
  · skip
    exact absurd h3 hb.2.2.1
  · skip
    refine pv_iload_n E d_Mod_both_6 rfl rfl ?_
    refine pv_bipush (v := 6) E d_Mod_both_7 (by decide) ?_
    refine pv_icmp_gt (tgt := 39) E d_Mod_both_9 rfl (fun h9 => ?_) (fun h9 => ?_)
    · skip
      exact absurd h9 hb.2.2.2.1
    · skip
      refine pv_iload E d_Mod_both_12 rfl ?_
      refine pv_if_lt (tgt := 39) E d_Mod_both_14 rfl (fun h14 => ?_) (fun h14 => ?_)
      · skip
        exact absurd (by rw [fn_has, if_pos h14]) hb.2.2.2.2
      · skip
        refine pv_iload E d_Mod_both_17 rfl ?_
        refine pv_iconst (v := 5) E d_Mod_both_19 (by decide) ?_
        refine pv_icmp_gt (tgt := 39) E d_Mod_both_20 rfl (fun h20 => ?_) (fun h20 => ?_)
        · skip
          exact absurd (by rw [fn_has, if_neg h14, if_pos h20]) hb.2.2.2.2
        · skip
          refine pv_aload_n E d_Mod_both_23 rfl rfl ?_
          refine pv_iload_n E d_Mod_both_24 rfl rfl ?_
          refine pv_callV E (fun adr => k_Mod_isStage l D ca A _ s g hA.1.1 hO.1.1 adr) yv_Mod_isStage wd_928 rfl rfl (fun _ => ⟨_, rfl⟩) rfl ⟨by decide, by decide⟩ (Nat.le_of_ble_eq_true rfl) d_Mod_both_25 ⟨by decide, by decide⟩ (fun r25 σ25 hq25 => ?_)
          obtain ⟨hr25, hs25⟩ := hq25
          subst r25
          subst σ25
          refine pv_if_eq (tgt := 39) E d_Mod_both_28 rfl (fun h28 => ?_) (fun h28 => ?_)
          · skip
            exact absurd hb.1 (if10 h28)
          · skip
            refine pv_aload_n E d_Mod_both_31 rfl rfl ?_
            refine pv_iload_n E d_Mod_both_32 rfl rfl ?_
            refine pv_callV E (fun adr => k_Mod_isStage l D ca A _ u g hA.1.1 hO.1.1 adr) yv_Mod_isStage wd_928 rfl rfl (fun _ => ⟨_, rfl⟩) rfl ⟨by decide, by decide⟩ (Nat.le_of_ble_eq_true rfl) d_Mod_both_33 ⟨by decide, by decide⟩ (fun r33 σ33 hq33 => ?_)
            obtain ⟨hr33, hs33⟩ := hq33
            subst r33
            subst σ33
            refine pv_if_ne (tgt := 43) E d_Mod_both_36 rfl (fun h36 => ?_) (fun h36 => ?_)
            · skip
              refine pv_aload_n E d_Mod_both_43 rfl rfl ?_
              refine gf_Mod_stages E wd_763 d_Mod_both_44 ?_
              refine pv_top (congrArg ps_int hA.1.1) ?_
              refine pv_bipush (v := 48) E d_Mod_both_47 (by decide) ?_
              refine pv_icmp_ne (tgt := 56) E d_Mod_both_49 rfl (fun h49 => ?_) (fun h49 => ?_)
              · skip
                exact absurd (eq48 hn hO.1.1) h49
              · skip
                refine pv_iconst (v := 2) E d_Mod_both_52 (by decide) ?_
                refine pv_goto (tgt := 57) E d_Mod_both_53 rfl ?_
                refine pf_Mod_thrown E wd_762 d_Mod_both_57 ?_
                refine pv_aload_n E d_Mod_both_60 rfl rfl ?_
                refine gf_Mod_thrown E wd_762 d_Mod_both_61 ?_
                refine pv_top (congrArg ps_int (ps_I_eq _ _ _ _ _)) ?_
                refine pv_if_le (tgt := 69) E d_Mod_both_64 rfl (fun h64 => ?_) (fun h64 => ?_)
                · skip
                  exact absurd h64 (by decide)
                · skip
                  refine pv_iconst (v := 0) E d_Mod_both_67 (by decide) ?_
                  exact pv_iret E hr hlk d_Mod_both_68 (by decide) (by decide) ⟨rfl, rfl⟩
            · skip
              exact absurd hb.2.1 (if10 h36)
set_option maxHeartbeats 8000000 in
set_option maxRecDepth 100000 in
theorem k_Mod_both_1 (l : Launch) (D : va_G) (ca : Nat → ClassId) (A : Nat → Prop) (σ : ps_S) (s u k f a as : Int32) (t : tT) (g : gT) (hM : RM σ t g 0) (hO : gOK g) (hY : gY g) (hb : ¬ a_both g s u k f) : ∀ adr, ps_M l y_Mod_both c_Mod_both 8 (Option.some Jvm.ClassFile.FieldType.int) { frames := 9, cells := 0, slots := 0, locals := 206 } D ca A adr σ [ps_ref (some (13, 0)), ps_int s, ps_int u, ps_int k, ps_int f, ps_int a, ps_int as] (fun rv σ' => rv = some (ps_int 0) ∧ σ' = ps_sI σ 13 0 0 1) := by
  intro adr
  refine ps_M.of (by decide +kernel) (Nat.le_of_ble_eq_true rfl) ?_
  intro p_ e_ s_ m_ args_ below_ meth_ c_ E hr hlk hnm
  have h0 := hM.1
  have hA := hM.2.1
  have hA1 : ∀ v : Int32, RMA (ps_sI σ 13 0 0 v) g 0 := fun v => hA.sc (Or.inl rfl)
  refine pv_aload_n E d_Mod_both_0 rfl rfl ?_
  refine pv_iload_n E d_Mod_both_1 rfl rfl ?_
  refine pv_iconst (v := 5) E d_Mod_both_2 (by decide) ?_
  refine pv_icmp_lt (tgt := 39) E d_Mod_both_3 rfl (fun h3 => ?_) (fun h3 => ?_)
  · skip
    refine pv_iconst (v := 1) E d_Mod_both_39 (by decide) ?_
    refine pv_goto (tgt := 57) E d_Mod_both_40 rfl ?_
    refine pf_Mod_thrown E wd_762 d_Mod_both_57 ?_
    refine pv_aload_n E d_Mod_both_60 rfl rfl ?_
    refine gf_Mod_thrown E wd_762 d_Mod_both_61 ?_
    refine pv_top (congrArg ps_int (ps_I_eq _ _ _ _ _)) ?_
    refine pv_if_le (tgt := 69) E d_Mod_both_64 rfl (fun h64 => ?_) (fun h64 => ?_)
    · skip
      exact absurd h64 (by decide)
    · skip
      refine pv_iconst (v := 0) E d_Mod_both_67 (by decide) ?_
      exact pv_iret E hr hlk d_Mod_both_68 (by decide) (by decide) ⟨rfl, rfl⟩
  · skip
    refine pv_iload_n E d_Mod_both_6 rfl rfl ?_
    refine pv_bipush (v := 6) E d_Mod_both_7 (by decide) ?_
    refine pv_icmp_gt (tgt := 39) E d_Mod_both_9 rfl (fun h9 => ?_) (fun h9 => ?_)
    · skip
      refine pv_iconst (v := 1) E d_Mod_both_39 (by decide) ?_
      refine pv_goto (tgt := 57) E d_Mod_both_40 rfl ?_
      refine pf_Mod_thrown E wd_762 d_Mod_both_57 ?_
      refine pv_aload_n E d_Mod_both_60 rfl rfl ?_
      refine gf_Mod_thrown E wd_762 d_Mod_both_61 ?_
      refine pv_top (congrArg ps_int (ps_I_eq _ _ _ _ _)) ?_
      refine pv_if_le (tgt := 69) E d_Mod_both_64 rfl (fun h64 => ?_) (fun h64 => ?_)
      · skip
        exact absurd h64 (by decide)
      · skip
        refine pv_iconst (v := 0) E d_Mod_both_67 (by decide) ?_
        exact pv_iret E hr hlk d_Mod_both_68 (by decide) (by decide) ⟨rfl, rfl⟩
    · skip
      refine pv_iload E d_Mod_both_12 rfl ?_
      refine pv_if_lt (tgt := 39) E d_Mod_both_14 rfl (fun h14 => ?_) (fun h14 => ?_)
      · skip
        refine pv_iconst (v := 1) E d_Mod_both_39 (by decide) ?_
        refine pv_goto (tgt := 57) E d_Mod_both_40 rfl ?_
        refine pf_Mod_thrown E wd_762 d_Mod_both_57 ?_
        refine pv_aload_n E d_Mod_both_60 rfl rfl ?_
        refine gf_Mod_thrown E wd_762 d_Mod_both_61 ?_
        refine pv_top (congrArg ps_int (ps_I_eq _ _ _ _ _)) ?_
        refine pv_if_le (tgt := 69) E d_Mod_both_64 rfl (fun h64 => ?_) (fun h64 => ?_)
        · skip
          exact absurd h64 (by decide)
        · skip
          refine pv_iconst (v := 0) E d_Mod_both_67 (by decide) ?_
          exact pv_iret E hr hlk d_Mod_both_68 (by decide) (by decide) ⟨rfl, rfl⟩
      · skip
        refine pv_iload E d_Mod_both_17 rfl ?_
        refine pv_iconst (v := 5) E d_Mod_both_19 (by decide) ?_
        refine pv_icmp_gt (tgt := 39) E d_Mod_both_20 rfl (fun h20 => ?_) (fun h20 => ?_)
        · skip
          refine pv_iconst (v := 1) E d_Mod_both_39 (by decide) ?_
          refine pv_goto (tgt := 57) E d_Mod_both_40 rfl ?_
          refine pf_Mod_thrown E wd_762 d_Mod_both_57 ?_
          refine pv_aload_n E d_Mod_both_60 rfl rfl ?_
          refine gf_Mod_thrown E wd_762 d_Mod_both_61 ?_
          refine pv_top (congrArg ps_int (ps_I_eq _ _ _ _ _)) ?_
          refine pv_if_le (tgt := 69) E d_Mod_both_64 rfl (fun h64 => ?_) (fun h64 => ?_)
          · skip
            exact absurd h64 (by decide)
          · skip
            refine pv_iconst (v := 0) E d_Mod_both_67 (by decide) ?_
            exact pv_iret E hr hlk d_Mod_both_68 (by decide) (by decide) ⟨rfl, rfl⟩
        · skip
          refine pv_aload_n E d_Mod_both_23 rfl rfl ?_
          refine pv_iload_n E d_Mod_both_24 rfl rfl ?_
          refine pv_callV E (fun adr => k_Mod_isStage l D ca A _ s g hA.1.1 hO.1.1 adr) yv_Mod_isStage wd_928 rfl rfl (fun _ => ⟨_, rfl⟩) rfl ⟨by decide, by decide⟩ (Nat.le_of_ble_eq_true rfl) d_Mod_both_25 ⟨by decide, by decide⟩ (fun r25 σ25 hq25 => ?_)
          obtain ⟨hr25, hs25⟩ := hq25
          subst r25
          subst σ25
          refine pv_if_eq (tgt := 39) E d_Mod_both_28 rfl (fun h28 => ?_) (fun h28 => ?_)
          · skip
            refine pv_iconst (v := 1) E d_Mod_both_39 (by decide) ?_
            refine pv_goto (tgt := 57) E d_Mod_both_40 rfl ?_
            refine pf_Mod_thrown E wd_762 d_Mod_both_57 ?_
            refine pv_aload_n E d_Mod_both_60 rfl rfl ?_
            refine gf_Mod_thrown E wd_762 d_Mod_both_61 ?_
            refine pv_top (congrArg ps_int (ps_I_eq _ _ _ _ _)) ?_
            refine pv_if_le (tgt := 69) E d_Mod_both_64 rfl (fun h64 => ?_) (fun h64 => ?_)
            · skip
              exact absurd h64 (by decide)
            · skip
              refine pv_iconst (v := 0) E d_Mod_both_67 (by decide) ?_
              exact pv_iret E hr hlk d_Mod_both_68 (by decide) (by decide) ⟨rfl, rfl⟩
          · skip
            refine pv_aload_n E d_Mod_both_31 rfl rfl ?_
            refine pv_iload_n E d_Mod_both_32 rfl rfl ?_
            refine pv_callV E (fun adr => k_Mod_isStage l D ca A _ u g hA.1.1 hO.1.1 adr) yv_Mod_isStage wd_928 rfl rfl (fun _ => ⟨_, rfl⟩) rfl ⟨by decide, by decide⟩ (Nat.le_of_ble_eq_true rfl) d_Mod_both_33 ⟨by decide, by decide⟩ (fun r33 σ33 hq33 => ?_)
            obtain ⟨hr33, hs33⟩ := hq33
            subst r33
            subst σ33
            refine pv_if_ne (tgt := 43) E d_Mod_both_36 rfl (fun h36 => ?_) (fun h36 => ?_)
            · skip
              exact absurd ⟨if10n h28, if10n h36, h3, h9, by rw [fn_has, if_neg h14, if_neg h20]; decide⟩ hb
            · skip
              refine pv_iconst (v := 1) E d_Mod_both_39 (by decide) ?_
              refine pv_goto (tgt := 57) E d_Mod_both_40 rfl ?_
              refine pf_Mod_thrown E wd_762 d_Mod_both_57 ?_
              refine pv_aload_n E d_Mod_both_60 rfl rfl ?_
              refine gf_Mod_thrown E wd_762 d_Mod_both_61 ?_
              refine pv_top (congrArg ps_int (ps_I_eq _ _ _ _ _)) ?_
              refine pv_if_le (tgt := 69) E d_Mod_both_64 rfl (fun h64 => ?_) (fun h64 => ?_)
              · skip
                exact absurd h64 (by decide)
              · skip
                refine pv_iconst (v := 0) E d_Mod_both_67 (by decide) ?_
                exact pv_iret E hr hlk d_Mod_both_68 (by decide) (by decide) ⟨rfl, rfl⟩
set_option maxHeartbeats 8000000 in
set_option maxRecDepth 100000 in
theorem k_Mod_several_0 (l : Launch) (D : va_G) (ca : Nat → ClassId) (A : Nat → Prop) (σ : ps_S) (set : Int64) (k : Int32) (t : tT) (g : gT) (hM : RM σ t g 0) (hO : gOK g) (hY : gY g) (hb : a_sev g set k) (hn : gN g < 48) : ∀ adr, ps_M l y_Mod_several c_Mod_several 5 (Option.some Jvm.ClassFile.FieldType.int) { frames := 9, cells := 0, slots := 0, locals := 206 } D ca A adr σ [ps_ref (some (13, 0)), ps_lng set, ps_int k] (fun rv σ' => rv = some (ps_int (nI (gN g))) ∧ RM σ' t (g_work 96 (g_new g k (-1) 0 0 (l_set (l_N set) (gN g)))) 0 ∧ gY (g_work 96 (g_new g k (-1) 0 0 (l_set (l_N set) (gN g)))) ∧ ps_I σ' 13 0 0 = 0 ∧ FrM σ σ') := by
  intro adr
  refine ps_M.of (by decide +kernel) (Nat.le_of_ble_eq_true rfl) ?_
  intro p_ e_ s_ m_ args_ below_ meth_ c_ E hr hlk hnm
  have h0 := hM.1
  have hA := hM.2.1
  have hA1 : ∀ v : Int32, RMA (ps_sI σ 13 0 0 v) g 0 := fun v => hA.sc (Or.inl rfl)
  obtain ⟨hx0, hx1⟩ := hasAll_N hb.1 hO.1.1
  have hl48 : (l_set (l_N set) (gN g)).length ≤ 48 := by rw [l_set_len]; exact Nat.le_trans (cnt_le _ _) hO.1.1
  have hkd : (k = 9 ∨ 0 < (l_set (l_N set) (gN g)).length) ∧ (k = 5 → 1 < (l_set (l_N set) (gN g)).length) := ⟨Or.inr (by rw [l_set_len]; exact l_cnt_pos hx1 hx0), fun z => absurd (by rw [z]; decide) hb.2.1⟩
  refine pv_aload_n E d_Mod_several_0 rfl rfl ?_
  refine pv_iload_n E d_Mod_several_1 rfl rfl ?_
  refine pv_bipush (v := 7) E d_Mod_several_2 (by decide) ?_
  refine pv_icmp_lt (tgt := 30) E d_Mod_several_4 rfl (fun h4 => ?_) (fun h4 => ?_)
  · skip
    exact absurd h4 hb.2.1
  · skip
    refine pv_iload_n E d_Mod_several_7 rfl rfl ?_
    refine pv_bipush (v := 8) E d_Mod_several_8 (by decide) ?_
    refine pv_icmp_gt (tgt := 30) E d_Mod_several_10 rfl (fun h10 => ?_) (fun h10 => ?_)
    · skip
      exact absurd hb.2.2 (Int32.not_le.mpr h10)
    · skip
      refine pv_lload_n E d_Mod_several_13 rfl rfl ?_
      refine pv_lconst (v := 0) E d_Mod_several_14 (by decide) ?_
      refine pv_lcmp E d_Mod_several_15 ?_
      refine pv_if_eq (tgt := 30) E d_Mod_several_16 rfl (fun h16 => ?_) (fun h16 => ?_)
      · skip
        exact absurd (by rw [g_hasAll, if_pos h16]) hb.1
      · skip
        refine pv_lload_n E d_Mod_several_19 rfl rfl ?_
        refine pv_aload_n E d_Mod_several_20 rfl rfl ?_
        refine gf_Mod_stages E wd_763 d_Mod_several_21 ?_
        refine pv_top (congrArg ps_int hA.1.1) ?_
        refine pv_lshr E d_Mod_several_24 ?_
        refine pv_lconst (v := 0) E d_Mod_several_25 (by decide) ?_
        refine pv_lcmp E d_Mod_several_26 ?_
        refine pv_if_eq (tgt := 34) E d_Mod_several_27 rfl (fun h27 => ?_) (fun h27 => ?_)
        · skip
          refine pv_aload_n E d_Mod_several_34 rfl rfl ?_
          refine gf_Mod_stages E wd_763 d_Mod_several_35 ?_
          refine pv_top (congrArg ps_int hA.1.1) ?_
          refine pv_bipush (v := 48) E d_Mod_several_38 (by decide) ?_
          refine pv_icmp_ne (tgt := 47) E d_Mod_several_40 rfl (fun h40 => ?_) (fun h40 => ?_)
          · skip
            refine pv_iconst (v := 0) E d_Mod_several_47 (by decide) ?_
            refine pf_Mod_thrown E wd_762 d_Mod_several_48 ?_
            refine pv_aload_n E d_Mod_several_51 rfl rfl ?_
            refine gf_Mod_thrown E wd_762 d_Mod_several_52 ?_
            refine pv_top (congrArg ps_int (ps_I_eq _ _ _ _ _)) ?_
            refine pv_if_le (tgt := 60) E d_Mod_several_55 rfl (fun h55 => ?_) (fun h55 => ?_)
            · skip
              refine pv_aload_n E d_Mod_several_60 rfl rfl ?_
              refine pv_iload_n E d_Mod_several_61 rfl rfl ?_
              refine pv_iconst (v := 0) E d_Mod_several_62 (by decide) ?_
              refine pv_iconst (v := 0) E d_Mod_several_63 (by decide) ?_
              refine pv_lload_n E d_Mod_several_64 rfl rfl ?_
              refine pv_iconst (v := 0) E d_Mod_several_65 (by decide) ?_
              refine pv_iconst (v := 0) E d_Mod_several_66 (by decide) ?_
              refine pv_iconst (v := 0) E d_Mod_several_67 (by decide) ?_
              refine pv_callV E (fun adr => k_Mod_make l D ca A _ k 0 0 set 0 0 0 (-1) (l_set (l_N set) (gN g)) g 0 h0.th (hA1 0) hO (by decide) hn (hO.mk hn hl48 (l_set_lt _ _) hkd) (sh_sev hb hO.1.1) (Or.inl rfl) adr) yv_Mod_make wd_904 rfl rfl (fun _ => ⟨_, rfl⟩) rfl ⟨by decide, by decide⟩ (Nat.le_of_ble_eq_true rfl) d_Mod_several_68 ⟨by decide, by decide⟩ (fun r68 σ68 hq68 => ?_)
              obtain ⟨hr68, hA68, hf68⟩ := hq68
              subst r68
              have hX1 : gX (g_new g k (-1) 0 0 (l_set (l_N set) (gN g))) := (hY.1.mk hO).scan
              have hO1 : gOK (g_new g k (-1) 0 0 (l_set (l_N set) (gN g))) := (hO.mk hn hl48 (l_set_lt _ _) hkd).scan
              refine pv_istore E d_Mod_several_71 (by decide) ?_
              refine pv_aload_n E d_Mod_several_73 rfl rfl ?_
              refine pv_callV E (fun adr => k_Mod_workOff l D ca A _ (g_new g k (-1) 0 0 (l_set (l_N set) (gN g))) (h0.th.A hf68) hA68 hO1 hX1 adr) yv_Mod_workOff wd_932 rfl rfl (fun _ => ⟨_, rfl⟩) rfl ⟨by decide, by decide⟩ (Nat.le_of_ble_eq_true rfl) d_Mod_several_74 ⟨by decide, by decide⟩ (fun r74 σ74 hq74 => ?_)
              obtain ⟨hr74, hA74, hl74, hx74, hf74⟩ := hq74
              subst r74
              refine pv_iload E d_Mod_several_77 rfl ?_
              exact pv_iret E hr hlk d_Mod_several_79 (by decide) (by decide) ⟨rfl, (hM.th.A hA68 hf68).A hA74 hf74, ⟨hx74, hl74⟩, (hf74.th.trans hf68.th).trans (ps_I_eq _ _ _ _ _), (FrM.th.tr (FrM.ofA hf68)).tr (FrM.ofA hf74)⟩
            · skip
              exact absurd (by decide) h55
          · skip
            exact absurd h40 (ne48 hn)
        · skip
          exact absurd (by rw [g_hasAll, if_neg h16, if_neg (fun z => h27 (lg_cmp0.mpr ((sa_sh hO.1.1).mpr (lg_cmp0.mp z))))]) hb.1
set_option maxHeartbeats 8000000 in
set_option maxRecDepth 100000 in
theorem k_Mod_several_2 (l : Launch) (D : va_G) (ca : Nat → ClassId) (A : Nat → Prop) (σ : ps_S) (set : Int64) (k : Int32) (t : tT) (g : gT) (hM : RM σ t g 0) (hO : gOK g) (hY : gY g) (hb : a_sev g set k) (hn : ¬ gN g < 48) : ∀ adr, ps_M l y_Mod_several c_Mod_several 5 (Option.some Jvm.ClassFile.FieldType.int) { frames := 9, cells := 0, slots := 0, locals := 206 } D ca A adr σ [ps_ref (some (13, 0)), ps_lng set, ps_int k] (fun rv σ' => rv = some (ps_int 0) ∧ σ' = ps_sI σ 13 0 0 2) := by
  intro adr
  refine ps_M.of (by decide +kernel) (Nat.le_of_ble_eq_true rfl) ?_
  intro p_ e_ s_ m_ args_ below_ meth_ c_ E hr hlk hnm
  have h0 := hM.1
  have hA := hM.2.1
  have hA1 : ∀ v : Int32, RMA (ps_sI σ 13 0 0 v) g 0 := fun v => hA.sc (Or.inl rfl)
  refine pv_aload_n E d_Mod_several_0 rfl rfl ?_
  refine pv_iload_n E d_Mod_several_1 rfl rfl ?_
  refine pv_bipush (v := 7) E d_Mod_several_2 (by decide) ?_
  refine pv_icmp_lt (tgt := 30) E d_Mod_several_4 rfl (fun h4 => ?_) (fun h4 => ?_)
  · skip
    exact absurd h4 hb.2.1
  · skip
    refine pv_iload_n E d_Mod_several_7 rfl rfl ?_
    refine pv_bipush (v := 8) E d_Mod_several_8 (by decide) ?_
    refine pv_icmp_gt (tgt := 30) E d_Mod_several_10 rfl (fun h10 => ?_) (fun h10 => ?_)
    · skip
      exact absurd hb.2.2 (Int32.not_le.mpr h10)
    · skip
      refine pv_lload_n E d_Mod_several_13 rfl rfl ?_
      refine pv_lconst (v := 0) E d_Mod_several_14 (by decide) ?_
      refine pv_lcmp E d_Mod_several_15 ?_
      refine pv_if_eq (tgt := 30) E d_Mod_several_16 rfl (fun h16 => ?_) (fun h16 => ?_)
      · skip
        exact absurd (by rw [g_hasAll, if_pos h16]) hb.1
      · skip
        refine pv_lload_n E d_Mod_several_19 rfl rfl ?_
        refine pv_aload_n E d_Mod_several_20 rfl rfl ?_
        refine gf_Mod_stages E wd_763 d_Mod_several_21 ?_
        refine pv_top (congrArg ps_int hA.1.1) ?_
        refine pv_lshr E d_Mod_several_24 ?_
        refine pv_lconst (v := 0) E d_Mod_several_25 (by decide) ?_
        refine pv_lcmp E d_Mod_several_26 ?_
        refine pv_if_eq (tgt := 34) E d_Mod_several_27 rfl (fun h27 => ?_) (fun h27 => ?_)
        · skip
          refine pv_aload_n E d_Mod_several_34 rfl rfl ?_
          refine gf_Mod_stages E wd_763 d_Mod_several_35 ?_
          refine pv_top (congrArg ps_int hA.1.1) ?_
          refine pv_bipush (v := 48) E d_Mod_several_38 (by decide) ?_
          refine pv_icmp_ne (tgt := 47) E d_Mod_several_40 rfl (fun h40 => ?_) (fun h40 => ?_)
          · skip
            exact absurd (eq48 hn hO.1.1) h40
          · skip
            refine pv_iconst (v := 2) E d_Mod_several_43 (by decide) ?_
            refine pv_goto (tgt := 48) E d_Mod_several_44 rfl ?_
            refine pf_Mod_thrown E wd_762 d_Mod_several_48 ?_
            refine pv_aload_n E d_Mod_several_51 rfl rfl ?_
            refine gf_Mod_thrown E wd_762 d_Mod_several_52 ?_
            refine pv_top (congrArg ps_int (ps_I_eq _ _ _ _ _)) ?_
            refine pv_if_le (tgt := 60) E d_Mod_several_55 rfl (fun h55 => ?_) (fun h55 => ?_)
            · skip
              exact absurd h55 (by decide)
            · skip
              refine pv_iconst (v := 0) E d_Mod_several_58 (by decide) ?_
              exact pv_iret E hr hlk d_Mod_several_59 (by decide) (by decide) ⟨rfl, rfl⟩
        · skip
          exact absurd (by rw [g_hasAll, if_neg h16, if_neg (fun z => h27 (lg_cmp0.mpr ((sa_sh hO.1.1).mpr (lg_cmp0.mp z))))]) hb.1
set_option maxHeartbeats 8000000 in
set_option maxRecDepth 100000 in
theorem k_Mod_several_1 (l : Launch) (D : va_G) (ca : Nat → ClassId) (A : Nat → Prop) (σ : ps_S) (set : Int64) (k : Int32) (t : tT) (g : gT) (hM : RM σ t g 0) (hO : gOK g) (hY : gY g) (hb : ¬ a_sev g set k) : ∀ adr, ps_M l y_Mod_several c_Mod_several 5 (Option.some Jvm.ClassFile.FieldType.int) { frames := 9, cells := 0, slots := 0, locals := 206 } D ca A adr σ [ps_ref (some (13, 0)), ps_lng set, ps_int k] (fun rv σ' => rv = some (ps_int 0) ∧ σ' = ps_sI σ 13 0 0 1) := by
  intro adr
  refine ps_M.of (by decide +kernel) (Nat.le_of_ble_eq_true rfl) ?_
  intro p_ e_ s_ m_ args_ below_ meth_ c_ E hr hlk hnm
  have h0 := hM.1
  have hA := hM.2.1
  have hA1 : ∀ v : Int32, RMA (ps_sI σ 13 0 0 v) g 0 := fun v => hA.sc (Or.inl rfl)
  refine pv_aload_n E d_Mod_several_0 rfl rfl ?_
  refine pv_iload_n E d_Mod_several_1 rfl rfl ?_
  refine pv_bipush (v := 7) E d_Mod_several_2 (by decide) ?_
  refine pv_icmp_lt (tgt := 30) E d_Mod_several_4 rfl (fun h4 => ?_) (fun h4 => ?_)
  · skip
    refine pv_iconst (v := 1) E d_Mod_several_30 (by decide) ?_
    refine pv_goto (tgt := 48) E d_Mod_several_31 rfl ?_
    refine pf_Mod_thrown E wd_762 d_Mod_several_48 ?_
    refine pv_aload_n E d_Mod_several_51 rfl rfl ?_
    refine gf_Mod_thrown E wd_762 d_Mod_several_52 ?_
    refine pv_top (congrArg ps_int (ps_I_eq _ _ _ _ _)) ?_
    refine pv_if_le (tgt := 60) E d_Mod_several_55 rfl (fun h55 => ?_) (fun h55 => ?_)
    · skip
      exact absurd h55 (by decide)
    · skip
      refine pv_iconst (v := 0) E d_Mod_several_58 (by decide) ?_
      exact pv_iret E hr hlk d_Mod_several_59 (by decide) (by decide) ⟨rfl, rfl⟩
  · skip
    refine pv_iload_n E d_Mod_several_7 rfl rfl ?_
    refine pv_bipush (v := 8) E d_Mod_several_8 (by decide) ?_
    refine pv_icmp_gt (tgt := 30) E d_Mod_several_10 rfl (fun h10 => ?_) (fun h10 => ?_)
    · skip
      refine pv_iconst (v := 1) E d_Mod_several_30 (by decide) ?_
      refine pv_goto (tgt := 48) E d_Mod_several_31 rfl ?_
      refine pf_Mod_thrown E wd_762 d_Mod_several_48 ?_
      refine pv_aload_n E d_Mod_several_51 rfl rfl ?_
      refine gf_Mod_thrown E wd_762 d_Mod_several_52 ?_
      refine pv_top (congrArg ps_int (ps_I_eq _ _ _ _ _)) ?_
      refine pv_if_le (tgt := 60) E d_Mod_several_55 rfl (fun h55 => ?_) (fun h55 => ?_)
      · skip
        exact absurd h55 (by decide)
      · skip
        refine pv_iconst (v := 0) E d_Mod_several_58 (by decide) ?_
        exact pv_iret E hr hlk d_Mod_several_59 (by decide) (by decide) ⟨rfl, rfl⟩
    · skip
      refine pv_lload_n E d_Mod_several_13 rfl rfl ?_
      refine pv_lconst (v := 0) E d_Mod_several_14 (by decide) ?_
      refine pv_lcmp E d_Mod_several_15 ?_
      refine pv_if_eq (tgt := 30) E d_Mod_several_16 rfl (fun h16 => ?_) (fun h16 => ?_)
      · skip
        refine pv_iconst (v := 1) E d_Mod_several_30 (by decide) ?_
        refine pv_goto (tgt := 48) E d_Mod_several_31 rfl ?_
        refine pf_Mod_thrown E wd_762 d_Mod_several_48 ?_
        refine pv_aload_n E d_Mod_several_51 rfl rfl ?_
        refine gf_Mod_thrown E wd_762 d_Mod_several_52 ?_
        refine pv_top (congrArg ps_int (ps_I_eq _ _ _ _ _)) ?_
        refine pv_if_le (tgt := 60) E d_Mod_several_55 rfl (fun h55 => ?_) (fun h55 => ?_)
        · skip
          exact absurd h55 (by decide)
        · skip
          refine pv_iconst (v := 0) E d_Mod_several_58 (by decide) ?_
          exact pv_iret E hr hlk d_Mod_several_59 (by decide) (by decide) ⟨rfl, rfl⟩
      · skip
        refine pv_lload_n E d_Mod_several_19 rfl rfl ?_
        refine pv_aload_n E d_Mod_several_20 rfl rfl ?_
        refine gf_Mod_stages E wd_763 d_Mod_several_21 ?_
        refine pv_top (congrArg ps_int hA.1.1) ?_
        refine pv_lshr E d_Mod_several_24 ?_
        refine pv_lconst (v := 0) E d_Mod_several_25 (by decide) ?_
        refine pv_lcmp E d_Mod_several_26 ?_
        refine pv_if_eq (tgt := 34) E d_Mod_several_27 rfl (fun h27 => ?_) (fun h27 => ?_)
        · skip
          exact absurd ⟨by rw [g_hasAll, if_neg h16, if_pos (lg_cmp0.mpr ((sa_sh hO.1.1).mp (lg_cmp0.mp h27)))]; decide, h4, Int32.not_lt.mp h10⟩ hb
        · skip
          refine pv_iconst (v := 1) E d_Mod_several_30 (by decide) ?_
          refine pv_goto (tgt := 48) E d_Mod_several_31 rfl ?_
          refine pf_Mod_thrown E wd_762 d_Mod_several_48 ?_
          refine pv_aload_n E d_Mod_several_51 rfl rfl ?_
          refine gf_Mod_thrown E wd_762 d_Mod_several_52 ?_
          refine pv_top (congrArg ps_int (ps_I_eq _ _ _ _ _)) ?_
          refine pv_if_le (tgt := 60) E d_Mod_several_55 rfl (fun h55 => ?_) (fun h55 => ?_)
          · skip
            exact absurd h55 (by decide)
          · skip
            refine pv_iconst (v := 0) E d_Mod_several_58 (by decide) ?_
            exact pv_iret E hr hlk d_Mod_several_59 (by decide) (by decide) ⟨rfl, rfl⟩
set_option maxHeartbeats 8000000 in
set_option maxRecDepth 100000 in
theorem k_Mod_settle (l : Launch) (D : va_G) (ca : Nat → ClassId) (A : Nat → Prop) (σ : ps_S) (s u v : Int32) (t : tT) (g : gT) (hM : RM σ t g 0) (hO : gOK g) (hY : gY g) (hu : ¬ u = 0) : ∀ adr, ps_M l y_Mod_settle c_Mod_settle 4 (Option.some Jvm.ClassFile.FieldType.boolean) { frames := 9, cells := 0, slots := 0, locals := 206 } D ca A adr σ [ps_ref (some (13, 0)), ps_int s, ps_int u, ps_int v] (fun rv σ' => rv = some (ps_int (g_cpa g s)) ∧ RM σ' t (g_work 96 (g_cpl g s u v)) 0 ∧ gY (g_work 96 (g_cpl g s u v)) ∧ ps_I σ' 13 0 0 = 0 ∧ FrM σ σ') := by
  intro adr
  refine ps_M.of (by decide +kernel) (Nat.le_of_ble_eq_true rfl) ?_
  intro p_ e_ s_ m_ args_ below_ meth_ c_ E hr hlk hnm
  have h0 := hM.1
  have hA := hM.2.1
  have hA1 : ∀ v : Int32, RMA (ps_sI σ 13 0 0 v) g 0 := fun v => hA.sc (Or.inl rfl)
  refine pv_aload_n E d_Mod_settle_0 rfl rfl ?_
  refine pv_iconst (v := 0) E d_Mod_settle_1 (by decide) ?_
  refine pf_Mod_thrown E wd_762 d_Mod_settle_2 ?_
  refine pv_aload_n E d_Mod_settle_5 rfl rfl ?_
  refine pv_iload_n E d_Mod_settle_6 rfl rfl ?_
  refine pv_callV E (fun adr => k_Mod_isStage l D ca A _ s g (hA1 0).1.1 hO.1.1 adr) yv_Mod_isStage wd_928 rfl rfl (fun _ => ⟨_, rfl⟩) rfl ⟨by decide, by decide⟩ (Nat.le_of_ble_eq_true rfl) d_Mod_settle_7 ⟨by decide, by decide⟩ (fun r7 σ7 hq7 => ?_)
  obtain ⟨hr7, hs7⟩ := hq7
  subst r7
  subst σ7
  refine pv_if_ne (tgt := 15) E d_Mod_settle_10 rfl (fun h10 => ?_) (fun h10 => ?_)
  · skip
    have hc := if10n h10
    refine pv_aload_n E d_Mod_settle_15 rfl rfl ?_
    refine pv_iload_n E d_Mod_settle_16 rfl rfl ?_
    refine pv_top (congrArg ps_int (st_nI hc.1)) ?_
    refine pv_callV E (fun adr => k_Mod_settled l D ca A _ s.toNatClampNeg g h0.th (hA1 0).1 hO.1 hc.2 adr) yv_Mod_settled wd_912 rfl rfl (fun _ => ⟨_, rfl⟩) rfl ⟨by decide, by decide⟩ (Nat.le_of_ble_eq_true rfl) d_Mod_settle_17 ⟨by decide, by decide⟩ (fun r17 σ17 hq17 => ?_)
    obtain ⟨hr17, hs17⟩ := hq17
    subst r17
    subst σ17
    refine pv_if_eq (tgt := 25) E d_Mod_settle_20 rfl (fun h20 => ?_) (fun h20 => ?_)
    · skip
      have hz : gF g s.toNatClampNeg 0 = 0 := off_0 (if10b h20)
      refine pv_aload_n E d_Mod_settle_25 rfl rfl ?_
      refine pv_iload_n E d_Mod_settle_26 rfl rfl ?_
      refine pv_top (congrArg ps_int (st_nI hc.1)) ?_
      refine pv_iload_n E d_Mod_settle_27 rfl rfl ?_
      refine pv_iload_n E d_Mod_settle_28 rfl rfl ?_
      refine pv_callV E (fun adr => k_Mod_give l D ca A _ s.toNatClampNeg u v g 0 h0.th (hA1 0) hO (by decide) hc.2 hz hu adr) yv_Mod_give wd_944 rfl rfl (fun _ => ⟨_, rfl⟩) rfl ⟨by decide, by decide⟩ (Nat.le_of_ble_eq_true rfl) d_Mod_settle_29 ⟨by decide, by decide⟩ (fun r29 σ29 hq29 => ?_)
      obtain ⟨hr29, hA29, hf29⟩ := hq29
      subst r29
      refine pv_aload_n E d_Mod_settle_32 rfl rfl ?_
      refine pv_callV E (fun adr => k_Mod_workOff l D ca A _ (g_give g s.toNatClampNeg u v) (h0.th.A hf29) hA29 (hO.give hc.2 hz hu) (hY.1.give hu (by rw [hY.2]; exact List.not_mem_nil)) adr) yv_Mod_workOff wd_932 rfl rfl (fun _ => ⟨_, rfl⟩) rfl ⟨by decide, by decide⟩ (Nat.le_of_ble_eq_true rfl) d_Mod_settle_33 ⟨by decide, by decide⟩ (fun r33 σ33 hq33 => ?_)
      obtain ⟨hr33, hA33, hl33, hx33, hf33⟩ := hq33
      subst r33
      refine pv_iconst (v := 1) E d_Mod_settle_36 (by decide) ?_
      exact pv_zret E hr hlk d_Mod_settle_37 (by first | rfl | (apply ps_zb; assumption)) (by decide) (by decide) ⟨by rw [g_cpa, if_pos ⟨hc, hz⟩], by rw [g_cpl, if_pos ⟨hc, hz⟩]; exact (hM.th.A hA29 hf29).A hA33 hf33, by rw [g_cpl, if_pos ⟨hc, hz⟩]; exact ⟨hx33, hl33⟩, (hf33.th.trans hf29.th).trans (ps_I_eq _ _ _ _ _), (FrM.th.tr (FrM.ofA hf29)).tr (FrM.ofA hf33)⟩
    · skip
      have hz : ¬ gF g s.toNatClampNeg 0 = 0 := (g_on_eq _ _).mp (if10t h20)
      refine pv_iconst (v := 0) E d_Mod_settle_23 (by decide) ?_
      exact pv_zret E hr hlk d_Mod_settle_24 (by first | rfl | (apply ps_zb; assumption)) (by decide) (by decide) ⟨by rw [g_cpa, if_neg (fun z => hz z.2)], by rw [g_cpl, if_neg (fun z => hz z.2), work_nil hY.2]; exact hM.th, by rw [g_cpl, if_neg (fun z => hz z.2), work_nil hY.2]; exact hY, ps_I_eq _ _ _ _ _, FrM.th⟩
  · skip
    have hc := if10 h10
    refine pv_iconst (v := 0) E d_Mod_settle_13 (by decide) ?_
    exact pv_zret E hr hlk d_Mod_settle_14 (by first | rfl | (apply ps_zb; assumption)) (by decide) (by decide) ⟨by rw [g_cpa, if_neg (fun z => hc z.1)], by rw [g_cpl, if_neg (fun z => hc z.1), work_nil hY.2]; exact hM.th, by rw [g_cpl, if_neg (fun z => hc z.1), work_nil hY.2]; exact hY, ps_I_eq _ _ _ _ _, FrM.th⟩
set_option maxHeartbeats 8000000 in
set_option maxRecDepth 100000 in
theorem k_Mod_complete (l : Launch) (D : va_G) (ca : Nat → ClassId) (A : Nat → Prop) (σ : ps_S) (s v : Int32) (t : tT) (g : gT) (hM : RM σ t g 0) (hO : gOK g) (hY : gY g) : ∀ adr, ps_M l y_Mod_complete c_Mod_complete 3 (Option.some Jvm.ClassFile.FieldType.boolean) { frames := 10, cells := 0, slots := 0, locals := 229 } D ca A adr σ [ps_ref (some (13, 0)), ps_int s, ps_int v] (fun rv σ' => rv = some (ps_int (g_cpa g s)) ∧ RM σ' t (g_work 96 (g_cpl g s 1 v)) 0 ∧ gY (g_work 96 (g_cpl g s 1 v)) ∧ ps_I σ' 13 0 0 = 0 ∧ FrM σ σ') := by
  intro adr
  refine ps_M.of (by decide +kernel) (Nat.le_of_ble_eq_true rfl) ?_
  intro p_ e_ s_ m_ args_ below_ meth_ c_ E hr hlk hnm
  refine pv_aload_n E d_Mod_complete_0 rfl rfl ?_
  refine pv_iload_n E d_Mod_complete_1 rfl rfl ?_
  refine pv_iconst (v := 1) E d_Mod_complete_2 (by decide) ?_
  refine pv_iload_n E d_Mod_complete_3 rfl rfl ?_
  refine pv_callV E (fun adr => k_Mod_settle l D ca A _ s 1 v t g hM hO hY (by decide) adr) yv_Mod_settle wd_980 rfl rfl (fun _ => ⟨_, rfl⟩) rfl ⟨by decide, by decide⟩ (Nat.le_of_ble_eq_true rfl) d_Mod_complete_4 ⟨by decide, by decide⟩ (fun r4 σ4 hq4 => ?_)
  obtain ⟨hr4, hM4, hy4, ht4, hf4⟩ := hq4
  subst r4
  exact pv_zret E hr hlk d_Mod_complete_7 (ps_zb (cpa_b g s)) (by decide) (by decide) ⟨rfl, hM4, hy4, ht4, hf4⟩
set_option maxHeartbeats 8000000 in
set_option maxRecDepth 100000 in
theorem k_Mod_cancel (l : Launch) (D : va_G) (ca : Nat → ClassId) (A : Nat → Prop) (σ : ps_S) (s : Int32) (t : tT) (g : gT) (hM : RM σ t g 0) (hO : gOK g) (hY : gY g) : ∀ adr, ps_M l y_Mod_cancel c_Mod_cancel 2 (Option.some Jvm.ClassFile.FieldType.boolean) { frames := 10, cells := 0, slots := 0, locals := 229 } D ca A adr σ [ps_ref (some (13, 0)), ps_int s] (fun rv σ' => rv = some (ps_int (g_cpa g s)) ∧ RM σ' t (g_work 96 (g_cpl g s 2 0)) 0 ∧ gY (g_work 96 (g_cpl g s 2 0)) ∧ ps_I σ' 13 0 0 = 0 ∧ FrM σ σ') := by
  intro adr
  refine ps_M.of (by decide +kernel) (Nat.le_of_ble_eq_true rfl) ?_
  intro p_ e_ s_ m_ args_ below_ meth_ c_ E hr hlk hnm
  refine pv_aload_n E d_Mod_cancel_0 rfl rfl ?_
  refine pv_iload_n E d_Mod_cancel_1 rfl rfl ?_
  refine pv_iconst (v := 2) E d_Mod_cancel_2 (by decide) ?_
  refine pv_iconst (v := 0) E d_Mod_cancel_3 (by decide) ?_
  refine pv_callV E (fun adr => k_Mod_settle l D ca A _ s 2 0 t g hM hO hY (by decide) adr) yv_Mod_settle wd_980 rfl rfl (fun _ => ⟨_, rfl⟩) rfl ⟨by decide, by decide⟩ (Nat.le_of_ble_eq_true rfl) d_Mod_cancel_4 ⟨by decide, by decide⟩ (fun r4 σ4 hq4 => ?_)
  obtain ⟨hr4, hM4, hy4, ht4, hf4⟩ := hq4
  subst r4
  exact pv_zret E hr hlk d_Mod_cancel_7 (ps_zb (cpa_b g s)) (by decide) (by decide) ⟨rfl, hM4, hy4, ht4, hf4⟩
set_option maxHeartbeats 8000000 in
set_option maxRecDepth 100000 in
theorem k_Mod_fail (l : Launch) (D : va_G) (ca : Nat → ClassId) (A : Nat → Prop) (σ : ps_S) (s e : Int32) (t : tT) (g : gT) (hM : RM σ t g 0) (hO : gOK g) (hY : gY g) : ∀ adr, ps_M l y_Mod_fail c_Mod_fail 3 (Option.some Jvm.ClassFile.FieldType.boolean) { frames := 10, cells := 0, slots := 0, locals := 229 } D ca A adr σ [ps_ref (some (13, 0)), ps_int s, ps_int e] (fun rv σ' => rv = some (ps_int (if 1 ≤ e ∧ e ≤ 9 then g_cpa g s else 0)) ∧ RM σ' t (g_work 96 (if 1 ≤ e ∧ e ≤ 9 then g_cpl g s 2 e else g)) 0 ∧ gY (g_work 96 (if 1 ≤ e ∧ e ≤ 9 then g_cpl g s 2 e else g)) ∧ ps_I σ' 13 0 0 = 0 ∧ FrM σ σ') := by
  intro adr
  refine ps_M.of (by decide +kernel) (Nat.le_of_ble_eq_true rfl) ?_
  intro p_ e_ s_ m_ args_ below_ meth_ c_ E hr hlk hnm
  refine pv_aload_n E d_Mod_fail_0 rfl rfl ?_
  refine pv_iconst (v := 0) E d_Mod_fail_1 (by decide) ?_
  refine pf_Mod_thrown E wd_762 d_Mod_fail_2 ?_
  refine pv_iload_n E d_Mod_fail_5 rfl rfl ?_
  refine pv_iconst (v := 1) E d_Mod_fail_6 (by decide) ?_
  refine pv_icmp_lt (tgt := 30) E d_Mod_fail_7 rfl (fun h7 => ?_) (fun h7 => ?_)
  · skip
    refine pv_iconst (v := 0) E d_Mod_fail_30 (by decide) ?_
    exact pv_zret E hr hlk d_Mod_fail_31 (by first | rfl | (apply ps_zb; assumption)) (by decide) (by decide) ⟨by rw [if_neg (fun z => absurd h7 (Int32.not_lt.mpr z.1))], by rw [if_neg (fun z => absurd h7 (Int32.not_lt.mpr z.1)), work_nil hY.2]; exact hM.th, by rw [if_neg (fun z => absurd h7 (Int32.not_lt.mpr z.1)), work_nil hY.2]; exact hY, ps_I_eq _ _ _ _ _, FrM.th⟩
  · skip
    refine pv_iload_n E d_Mod_fail_10 rfl rfl ?_
    refine pv_bipush (v := 9) E d_Mod_fail_11 (by decide) ?_
    refine pv_icmp_gt (tgt := 30) E d_Mod_fail_13 rfl (fun h13 => ?_) (fun h13 => ?_)
    · skip
      refine pv_iconst (v := 0) E d_Mod_fail_30 (by decide) ?_
      exact pv_zret E hr hlk d_Mod_fail_31 (by first | rfl | (apply ps_zb; assumption)) (by decide) (by decide) ⟨by rw [if_neg (fun z => absurd h13 (Int32.not_lt.mpr z.2))], by rw [if_neg (fun z => absurd h13 (Int32.not_lt.mpr z.2)), work_nil hY.2]; exact hM.th, by rw [if_neg (fun z => absurd h13 (Int32.not_lt.mpr z.2)), work_nil hY.2]; exact hY, ps_I_eq _ _ _ _ _, FrM.th⟩
    · skip
      refine pv_aload_n E d_Mod_fail_16 rfl rfl ?_
      refine pv_iload_n E d_Mod_fail_17 rfl rfl ?_
      refine pv_iconst (v := 2) E d_Mod_fail_18 (by decide) ?_
      refine pv_iload_n E d_Mod_fail_19 rfl rfl ?_
      refine pv_callV E (fun adr => k_Mod_settle l D ca A _ s 2 e t g hM.th hO hY (by decide) adr) yv_Mod_settle wd_980 rfl rfl (fun _ => ⟨_, rfl⟩) rfl ⟨by decide, by decide⟩ (Nat.le_of_ble_eq_true rfl) d_Mod_fail_20 ⟨by decide, by decide⟩ (fun r20 σ20 hq20 => ?_)
      obtain ⟨hr20, hM20, hy20, ht20, hf20⟩ := hq20
      subst r20
      refine pv_if_eq (tgt := 30) E d_Mod_fail_23 rfl (fun h23 => ?_) (fun h23 => ?_)
      · skip
        refine pv_iconst (v := 0) E d_Mod_fail_30 (by decide) ?_
        exact pv_zret E hr hlk d_Mod_fail_31 (by first | rfl | (apply ps_zb; assumption)) (by decide) (by decide) ⟨by rw [if_pos ⟨Int32.not_lt.mp h7, Int32.not_lt.mp h13⟩, h23], by rw [if_pos ⟨Int32.not_lt.mp h7, Int32.not_lt.mp h13⟩]; exact hM20, by rw [if_pos ⟨Int32.not_lt.mp h7, Int32.not_lt.mp h13⟩]; exact hy20, ht20, FrM.th.tr hf20⟩
      · skip
        refine pv_iconst (v := 1) E d_Mod_fail_26 (by decide) ?_
        refine pv_goto (tgt := 31) E d_Mod_fail_27 rfl ?_
        exact pv_zret E hr hlk d_Mod_fail_31 (by first | rfl | (apply ps_zb; assumption)) (by decide) (by decide) ⟨by rw [if_pos ⟨Int32.not_lt.mp h7, Int32.not_lt.mp h13⟩, (cpa_b g s).resolve_left h23], by rw [if_pos ⟨Int32.not_lt.mp h7, Int32.not_lt.mp h13⟩]; exact hM20, by rw [if_pos ⟨Int32.not_lt.mp h7, Int32.not_lt.mp h13⟩]; exact hy20, ht20, FrM.th.tr hf20⟩
