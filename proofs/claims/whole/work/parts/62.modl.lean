set_option maxHeartbeats 8000000 in
set_option maxRecDepth 100000 in
theorem k_Mod_bound_0 (l : Launch) (D : va_G) (ca : Nat → ClassId) (A : Nat → Prop) (σ : ps_S) (s k : Int32) (t : tT) (g : gT) (hM : RM σ t g 0) (hW : tW t) (hb : a_bnd t s k) : ∀ adr, ps_M l y_Mod_bound c_Mod_bound 3 (Option.some Jvm.ClassFile.FieldType.int) { frames := 1, cells := 0, slots := 0, locals := 23 } D ca A adr σ [ps_ref (some (13, 0)), ps_int s, ps_int k] (fun rv σ' => rv = some (ps_int (t_look t s.toNatClampNeg k.toNatClampNeg)) ∧ RM σ' t g 0 ∧ ps_I σ' 13 0 0 = 0 ∧ FrM σ σ') := by
  intro adr
  refine ps_M.of (by decide +kernel) (Nat.le_of_ble_eq_true rfl) ?_
  intro p_ e_ s_ m_ args_ below_ meth_ c_ E hr hlk hnm
  have h0 := hM.1
  have hB := hM.2.2
  have hB1 : ∀ v : Int32, RMB (ps_sI σ 13 0 0 v) t := fun v => hB.th
  refine pv_aload_n E d_Mod_bound_0 rfl rfl ?_
  refine pv_aload_n E d_Mod_bound_1 rfl rfl ?_
  refine pv_iload_n E d_Mod_bound_2 rfl rfl ?_
  refine pv_callV E (fun adr => k_Mod_isScope l D ca A _ s t hB.1.1 hW.1.1 adr) yv_Mod_isScope wd_1016 rfl rfl (fun _ => ⟨_, rfl⟩) rfl ⟨by decide, by decide⟩ (Nat.le_of_ble_eq_true rfl) d_Mod_bound_3 ⟨by decide, by decide⟩ (fun r3 σ3 hq3 => ?_)
  obtain ⟨hr3, hs3⟩ := hq3
  subst r3
  subst σ3
  refine pv_if_eq (tgt := 18) E d_Mod_bound_6 rfl (fun h6 => ?_) (fun h6 => ?_)
  · skip
    exact absurd hb.1 (if10 h6)
  · skip
    refine pv_iload_n E d_Mod_bound_9 rfl rfl ?_
    refine pv_if_lt (tgt := 18) E d_Mod_bound_10 rfl (fun h10 => ?_) (fun h10 => ?_)
    · skip
      exact absurd h10 hb.2.1
    · skip
      refine pv_iload_n E d_Mod_bound_13 rfl rfl ?_
      refine pv_iconst (v := 3) E d_Mod_bound_14 (by decide) ?_
      refine pv_icmp_le (tgt := 22) E d_Mod_bound_15 rfl (fun h15 => ?_) (fun h15 => ?_)
      · skip
        refine pv_iconst (v := 0) E d_Mod_bound_22 (by decide) ?_
        refine pf_Mod_thrown E wd_762 d_Mod_bound_23 ?_
        refine pv_aload_n E d_Mod_bound_26 rfl rfl ?_
        refine gf_Mod_thrown E wd_762 d_Mod_bound_27 ?_
        refine pv_top (congrArg ps_int (ps_I_eq _ _ _ _ _)) ?_
        refine pv_if_le (tgt := 37) E d_Mod_bound_30 rfl (fun h30 => ?_) (fun h30 => ?_)
        · skip
          refine pv_aload_n E d_Mod_bound_37 rfl rfl ?_
          refine pv_iload_n E d_Mod_bound_38 rfl rfl ?_
          refine pv_top (congrArg ps_int (st_nI hb.1.1)) ?_
          refine pv_iload_n E d_Mod_bound_39 rfl rfl ?_
          refine pv_top (congrArg ps_int (st_nI hb.2.1)) ?_
          refine pv_callV E (fun adr => k_Mod_look l D ca A _ s.toNatClampNeg k.toNatClampNeg t h0.th (hB1 0).1 hW hb.1.2 hb.2.2 adr) yv_Mod_look wd_1028 rfl rfl (fun _ => ⟨_, rfl⟩) rfl ⟨by decide, by decide⟩ (Nat.le_of_ble_eq_true rfl) d_Mod_bound_40 ⟨by decide, by decide⟩ (fun r40 σ40 hq40 => ?_)
          obtain ⟨hr40, hs40⟩ := hq40
          subst r40
          subst σ40
          exact pv_iret E hr hlk d_Mod_bound_43 (by decide) (by decide) ⟨rfl, hM.th, ps_I_eq _ _ _ _ _, FrM.th⟩
        · skip
          exact absurd (by decide) h30
      · skip
        exact absurd ((key3 h10).mpr hb.2.2) h15
set_option maxHeartbeats 8000000 in
set_option maxRecDepth 100000 in
theorem k_Mod_bound_1 (l : Launch) (D : va_G) (ca : Nat → ClassId) (A : Nat → Prop) (σ : ps_S) (s k : Int32) (t : tT) (g : gT) (hM : RM σ t g 0) (hW : tW t) (hb : ¬ a_bnd t s k) : ∀ adr, ps_M l y_Mod_bound c_Mod_bound 3 (Option.some Jvm.ClassFile.FieldType.int) { frames := 1, cells := 0, slots := 0, locals := 23 } D ca A adr σ [ps_ref (some (13, 0)), ps_int s, ps_int k] (fun rv σ' => rv = some (ps_int (0)) ∧ RM σ' t g 0 ∧ ps_I σ' 13 0 0 = 1 ∧ FrM σ σ') := by
  intro adr
  refine ps_M.of (by decide +kernel) (Nat.le_of_ble_eq_true rfl) ?_
  intro p_ e_ s_ m_ args_ below_ meth_ c_ E hr hlk hnm
  have h0 := hM.1
  have hB := hM.2.2
  have hB1 : ∀ v : Int32, RMB (ps_sI σ 13 0 0 v) t := fun v => hB.th
  refine pv_aload_n E d_Mod_bound_0 rfl rfl ?_
  refine pv_aload_n E d_Mod_bound_1 rfl rfl ?_
  refine pv_iload_n E d_Mod_bound_2 rfl rfl ?_
  refine pv_callV E (fun adr => k_Mod_isScope l D ca A _ s t hB.1.1 hW.1.1 adr) yv_Mod_isScope wd_1016 rfl rfl (fun _ => ⟨_, rfl⟩) rfl ⟨by decide, by decide⟩ (Nat.le_of_ble_eq_true rfl) d_Mod_bound_3 ⟨by decide, by decide⟩ (fun r3 σ3 hq3 => ?_)
  obtain ⟨hr3, hs3⟩ := hq3
  subst r3
  subst σ3
  refine pv_if_eq (tgt := 18) E d_Mod_bound_6 rfl (fun h6 => ?_) (fun h6 => ?_)
  · skip
    refine pv_iconst (v := 1) E d_Mod_bound_18 (by decide) ?_
    refine pv_goto (tgt := 23) E d_Mod_bound_19 rfl ?_
    refine pf_Mod_thrown E wd_762 d_Mod_bound_23 ?_
    refine pv_aload_n E d_Mod_bound_26 rfl rfl ?_
    refine gf_Mod_thrown E wd_762 d_Mod_bound_27 ?_
    refine pv_top (congrArg ps_int (ps_I_eq _ _ _ _ _)) ?_
    refine pv_if_le (tgt := 37) E d_Mod_bound_30 rfl (fun h30 => ?_) (fun h30 => ?_)
    · skip
      exact absurd h30 (by decide)
    · skip
      refine pv_iconst (v := 0) E d_Mod_bound_33 (by decide) ?_
      refine pv_goto (tgt := 43) E d_Mod_bound_34 rfl ?_
      exact pv_iret E hr hlk d_Mod_bound_43 (by decide) (by decide) ⟨rfl, hM.th, ps_I_eq _ _ _ _ _, FrM.th⟩
  · skip
    refine pv_iload_n E d_Mod_bound_9 rfl rfl ?_
    refine pv_if_lt (tgt := 18) E d_Mod_bound_10 rfl (fun h10 => ?_) (fun h10 => ?_)
    · skip
      refine pv_iconst (v := 1) E d_Mod_bound_18 (by decide) ?_
      refine pv_goto (tgt := 23) E d_Mod_bound_19 rfl ?_
      refine pf_Mod_thrown E wd_762 d_Mod_bound_23 ?_
      refine pv_aload_n E d_Mod_bound_26 rfl rfl ?_
      refine gf_Mod_thrown E wd_762 d_Mod_bound_27 ?_
      refine pv_top (congrArg ps_int (ps_I_eq _ _ _ _ _)) ?_
      refine pv_if_le (tgt := 37) E d_Mod_bound_30 rfl (fun h30 => ?_) (fun h30 => ?_)
      · skip
        exact absurd h30 (by decide)
      · skip
        refine pv_iconst (v := 0) E d_Mod_bound_33 (by decide) ?_
        refine pv_goto (tgt := 43) E d_Mod_bound_34 rfl ?_
        exact pv_iret E hr hlk d_Mod_bound_43 (by decide) (by decide) ⟨rfl, hM.th, ps_I_eq _ _ _ _ _, FrM.th⟩
    · skip
      refine pv_iload_n E d_Mod_bound_13 rfl rfl ?_
      refine pv_iconst (v := 3) E d_Mod_bound_14 (by decide) ?_
      refine pv_icmp_le (tgt := 22) E d_Mod_bound_15 rfl (fun h15 => ?_) (fun h15 => ?_)
      · skip
        exact absurd ⟨if10n h6, h10, (key3 h10).mp h15⟩ hb
      · skip
        refine pv_iconst (v := 1) E d_Mod_bound_18 (by decide) ?_
        refine pv_goto (tgt := 23) E d_Mod_bound_19 rfl ?_
        refine pf_Mod_thrown E wd_762 d_Mod_bound_23 ?_
        refine pv_aload_n E d_Mod_bound_26 rfl rfl ?_
        refine gf_Mod_thrown E wd_762 d_Mod_bound_27 ?_
        refine pv_top (congrArg ps_int (ps_I_eq _ _ _ _ _)) ?_
        refine pv_if_le (tgt := 37) E d_Mod_bound_30 rfl (fun h30 => ?_) (fun h30 => ?_)
        · skip
          exact absurd h30 (by decide)
        · skip
          refine pv_iconst (v := 0) E d_Mod_bound_33 (by decide) ?_
          refine pv_goto (tgt := 43) E d_Mod_bound_34 rfl ?_
          exact pv_iret E hr hlk d_Mod_bound_43 (by decide) (by decide) ⟨rfl, hM.th, ps_I_eq _ _ _ _ _, FrM.th⟩
set_option maxHeartbeats 8000000 in
set_option maxRecDepth 100000 in
theorem k_Mod_bind_0 (l : Launch) (D : va_G) (ca : Nat → ClassId) (A : Nat → Prop) (σ : ps_S) (s k v : Int32) (t : tT) (g : gT) (hM : RM σ t g 0) (hW : tW t) (hb : ¬ x_bok t s k) : ∀ adr, ps_M l y_Mod_bind c_Mod_bind 4 (Option.some Jvm.ClassFile.FieldType.boolean) { frames := 2, cells := 0, slots := 0, locals := 42 } D ca A adr σ [ps_ref (some (13, 0)), ps_int s, ps_int k, ps_int v] (fun rv σ' => rv = some (ps_int (0)) ∧ RM σ' t g 0 ∧ ps_I σ' 13 0 0 = 0 ∧ FrM σ σ') := by
  intro adr
  refine ps_M.of (by decide +kernel) (Nat.le_of_ble_eq_true rfl) ?_
  intro p_ e_ s_ m_ args_ below_ meth_ c_ E hr hlk hnm
  have h0 := hM.1
  have hB := hM.2.2
  have hB1 : ∀ v : Int32, RMB (ps_sI σ 13 0 0 v) t := fun v => hB.th
  refine pv_aload_n E d_Mod_bind_0 rfl rfl ?_
  refine pv_iconst (v := 0) E d_Mod_bind_1 (by decide) ?_
  refine pf_Mod_thrown E wd_762 d_Mod_bind_2 ?_
  refine pv_aload_n E d_Mod_bind_5 rfl rfl ?_
  refine pv_iload_n E d_Mod_bind_6 rfl rfl ?_
  refine pv_callV E (fun adr => k_Mod_isOpen l D ca A _ s t h0.th (hB1 0) hW adr) yv_Mod_isOpen wd_1012 rfl rfl (fun _ => ⟨_, rfl⟩) rfl ⟨by decide, by decide⟩ (Nat.le_of_ble_eq_true rfl) d_Mod_bind_7 ⟨by decide, by decide⟩ (fun r7 σ7 hq7 => ?_)
  obtain ⟨hr7, hs7⟩ := hq7
  subst r7
  subst σ7
  refine pv_if_eq (tgt := 22) E d_Mod_bind_10 rfl (fun h10 => ?_) (fun h10 => ?_)
  · skip
    refine pv_iconst (v := 0) E d_Mod_bind_22 (by decide) ?_
    exact pv_zret E hr hlk d_Mod_bind_23 (by first | rfl | (apply ps_zb; assumption)) (by decide) (by decide) ⟨rfl, hM.th, ps_I_eq _ _ _ _ _, FrM.th⟩
  · skip
    refine pv_iload_n E d_Mod_bind_13 rfl rfl ?_
    refine pv_if_lt (tgt := 22) E d_Mod_bind_14 rfl (fun h14 => ?_) (fun h14 => ?_)
    · skip
      refine pv_iconst (v := 0) E d_Mod_bind_22 (by decide) ?_
      exact pv_zret E hr hlk d_Mod_bind_23 (by first | rfl | (apply ps_zb; assumption)) (by decide) (by decide) ⟨rfl, hM.th, ps_I_eq _ _ _ _ _, FrM.th⟩
    · skip
      refine pv_iload_n E d_Mod_bind_17 rfl rfl ?_
      refine pv_iconst (v := 3) E d_Mod_bind_18 (by decide) ?_
      refine pv_icmp_le (tgt := 24) E d_Mod_bind_19 rfl (fun h19 => ?_) (fun h19 => ?_)
      · skip
        exact absurd ⟨if10n h10, h14, (key3 h14).mp h19⟩ hb
      · skip
        refine pv_iconst (v := 0) E d_Mod_bind_22 (by decide) ?_
        exact pv_zret E hr hlk d_Mod_bind_23 (by first | rfl | (apply ps_zb; assumption)) (by decide) (by decide) ⟨rfl, hM.th, ps_I_eq _ _ _ _ _, FrM.th⟩
set_option maxHeartbeats 8000000 in
set_option maxRecDepth 100000 in
theorem k_Mod_bind_1 (l : Launch) (D : va_G) (ca : Nat → ClassId) (A : Nat → Prop) (σ : ps_S) (s k v : Int32) (t : tT) (g : gT) (hM : RM σ t g 0) (hW : tW t) (hb : x_bok t s k) : ∀ adr, ps_M l y_Mod_bind c_Mod_bind 4 (Option.some Jvm.ClassFile.FieldType.boolean) { frames := 2, cells := 0, slots := 0, locals := 42 } D ca A adr σ [ps_ref (some (13, 0)), ps_int s, ps_int k, ps_int v] (fun rv σ' => rv = some (ps_int 1) ∧ RM σ' (tsV t s.toNatClampNeg k.toNatClampNeg v) g 0 ∧ ps_I σ' 13 0 0 = 0 ∧ FrM σ σ') := by
  intro adr
  refine ps_M.of (by decide +kernel) (Nat.le_of_ble_eq_true rfl) ?_
  intro p_ e_ s_ m_ args_ below_ meth_ c_ E hr hlk hnm
  have h0 := hM.1
  have hB := hM.2.2
  have hB1 : ∀ v : Int32, RMB (ps_sI σ 13 0 0 v) t := fun v => hB.th
  refine pv_aload_n E d_Mod_bind_0 rfl rfl ?_
  refine pv_iconst (v := 0) E d_Mod_bind_1 (by decide) ?_
  refine pf_Mod_thrown E wd_762 d_Mod_bind_2 ?_
  refine pv_aload_n E d_Mod_bind_5 rfl rfl ?_
  refine pv_iload_n E d_Mod_bind_6 rfl rfl ?_
  refine pv_callV E (fun adr => k_Mod_isOpen l D ca A _ s t h0.th (hB1 0) hW adr) yv_Mod_isOpen wd_1012 rfl rfl (fun _ => ⟨_, rfl⟩) rfl ⟨by decide, by decide⟩ (Nat.le_of_ble_eq_true rfl) d_Mod_bind_7 ⟨by decide, by decide⟩ (fun r7 σ7 hq7 => ?_)
  obtain ⟨hr7, hs7⟩ := hq7
  subst r7
  subst σ7
  refine pv_if_eq (tgt := 22) E d_Mod_bind_10 rfl (fun h10 => ?_) (fun h10 => ?_)
  · skip
    exact absurd hb.1 (if10 h10)
  · skip
    refine pv_iload_n E d_Mod_bind_13 rfl rfl ?_
    refine pv_if_lt (tgt := 22) E d_Mod_bind_14 rfl (fun h14 => ?_) (fun h14 => ?_)
    · skip
      exact absurd h14 hb.2.1
    · skip
      refine pv_iload_n E d_Mod_bind_17 rfl rfl ?_
      refine pv_iconst (v := 3) E d_Mod_bind_18 (by decide) ?_
      refine pv_icmp_le (tgt := 24) E d_Mod_bind_19 rfl (fun h19 => ?_) (fun h19 => ?_)
      · skip
        refine pv_aload_n E d_Mod_bind_24 rfl rfl ?_
        refine gf_Mod_binds E wd_794 d_Mod_bind_25 ?_
        refine pv_top (congrArg ps_ref (m_f h0 32 rfl)) ?_
        refine pv_iconst (v := 4) E d_Mod_bind_28 (by decide) ?_
        refine pv_iload_n E d_Mod_bind_29 rfl rfl ?_
        refine pv_top (congrArg ps_int (st_nI hb.1.1.1)) ?_
        refine pv_imul E d_Mod_bind_30 ?_
        refine pv_top (congrArg ps_int (nI_mul4 _)) ?_
        refine pv_iload_n E d_Mod_bind_31 rfl rfl ?_
        refine pv_top (congrArg ps_int (st_nI hb.2.1)) ?_
        refine pv_iadd E d_Mod_bind_32 ?_
        refine pv_top (congrArg ps_int (nI_add _ _)) ?_
        refine pv_iconst (v := 1) E d_Mod_bind_33 (by decide) ?_
        refine pv_bastore (t0 := 7) E 15 _ (fun _ _ _ _ _ => rfl) rfl (m_ix h0 15 4 (by decide) (by decide) (show 4 * s.toNatClampNeg + k.toNatClampNeg < 48 by have := hb.1.1.2; have := hb.2.2; have := hW.1.1; omega)) (rfl) d_Mod_bind_34 ?_
        rw [nI_clamp (Nat.lt_trans (show 4 * s.toNatClampNeg + k.toNatClampNeg < 48 by have := hb.1.1.2; have := hb.2.2; have := hW.1.1; omega) (by decide))]
        refine pv_aload_n E d_Mod_bind_35 rfl rfl ?_
        refine gf_Mod_bound E wd_795 d_Mod_bind_36 ?_
        refine pv_top (congrArg ps_ref (m_f h0 33 rfl)) ?_
        refine pv_iconst (v := 4) E d_Mod_bind_39 (by decide) ?_
        refine pv_iload_n E d_Mod_bind_40 rfl rfl ?_
        refine pv_top (congrArg ps_int (st_nI hb.1.1.1)) ?_
        refine pv_imul E d_Mod_bind_41 ?_
        refine pv_top (congrArg ps_int (nI_mul4 _)) ?_
        refine pv_iload_n E d_Mod_bind_42 rfl rfl ?_
        refine pv_top (congrArg ps_int (st_nI hb.2.1)) ?_
        refine pv_iadd E d_Mod_bind_43 ?_
        refine pv_top (congrArg ps_int (nI_add _ _)) ?_
        refine pv_iload_n E d_Mod_bind_44 rfl rfl ?_
        refine pv_iastore (t0 := 6) E 14 _ (fun _ _ _ _ _ => rfl) rfl (m_ix h0 14 18 (by decide) (by decide) (show 4 * s.toNatClampNeg + k.toNatClampNeg < 48 by have := hb.1.1.2; have := hb.2.2; have := hW.1.1; omega)) d_Mod_bind_45 ?_
        rw [nI_clamp (Nat.lt_trans (show 4 * s.toNatClampNeg + k.toNatClampNeg < 48 by have := hb.1.1.2; have := hb.2.2; have := hW.1.1; omega) (by decide))]
        refine pv_iconst (v := 1) E d_Mod_bind_46 (by decide) ?_
        exact pv_zret E hr hlk d_Mod_bind_47 (by first | rfl | (apply ps_zb; assumption)) (by decide) (by decide) ⟨rfl, hM.th.B ((hB1 0).bnd hb.1.1.2 hb.2.2) ((FrB.b15 (by decide)).tr (FrB.b14 (by decide))), (((FrB.b15 (by decide)).tr (FrB.b14 (by decide))).th).trans (ps_I_eq _ _ _ _ _), FrM.th.tr (FrM.ofB ((FrB.b15 (by decide)).tr (FrB.b14 (by decide))))⟩
      · skip
        exact absurd ((key3 h14).mpr hb.2.2) h19
set_option maxHeartbeats 8000000 in
set_option maxRecDepth 100000 in
theorem k_Mod_task (l : Launch) (D : va_G) (ca : Nat → ClassId) (A : Nat → Prop) (σ : ps_S) (s w : Int32) (t : tT) (g : gT) (hM : RM σ t g 0) (hW : tW t) : ∀ adr, ps_M l y_Mod_task c_Mod_task 3 (Option.some Jvm.ClassFile.FieldType.int) { frames := 0, cells := 0, slots := 0, locals := 0 } D ca A adr σ [ps_ref (some (13, 0)), ps_int s, ps_int w] (fun rv σ' => rv = some (ps_int (x_task t s w)) ∧ RM σ' t g 0 ∧ ps_I σ' 13 0 0 = 0 ∧ FrM σ σ') := by
  intro adr
  refine ps_M.of (by decide +kernel) (Nat.le_of_ble_eq_true rfl) ?_
  intro p_ e_ s_ m_ args_ below_ meth_ c_ E hr hlk hnm
  have h0 := hM.1
  have hB := hM.2.2
  have hB1 : ∀ v : Int32, RMB (ps_sI σ 13 0 0 v) t := fun v => hB.th
  have hu30 := hW.1.2
  refine pv_aload_n E d_Mod_task_0 rfl rfl ?_
  refine pv_iconst (v := 0) E d_Mod_task_1 (by decide) ?_
  refine pf_Mod_thrown E wd_762 d_Mod_task_2 ?_
  refine pv_iload_n E d_Mod_task_5 rfl rfl ?_
  refine pv_if_lt (tgt := 26) E d_Mod_task_6 rfl (fun h6 => ?_) (fun h6 => ?_)
  · skip
    refine pv_iconst (v := -1) E d_Mod_task_26 (by decide) ?_
    exact pv_iret E hr hlk d_Mod_task_27 (by decide) (by decide) ⟨by rw [x_task, if_neg (fun z => z.1 h6)], hM.th, ps_I_eq _ _ _ _ _, FrM.th⟩
  · skip
    refine pv_iload_n E d_Mod_task_9 rfl rfl ?_
    refine pv_aload_n E d_Mod_task_10 rfl rfl ?_
    refine gf_Mod_tasks E wd_797 d_Mod_task_11 ?_
    refine pv_top (congrArg ps_int (hB1 0).2.1) ?_
    refine pv_icmp_ge (tgt := 26) E d_Mod_task_14 rfl (fun h14 => ?_) (fun h14 => ?_)
    · skip
      have hc : ¬ (¬ s < 0 ∧ s.toNatClampNeg < uN t) := fun z => absurd ((nI_le_s (by omega) h6).mp h14) (Nat.not_le.mpr z.2)
      refine pv_iconst (v := -1) E d_Mod_task_26 (by decide) ?_
      exact pv_iret E hr hlk d_Mod_task_27 (by decide) (by decide) ⟨by rw [x_task, if_neg hc], hM.th, ps_I_eq _ _ _ _ _, FrM.th⟩
    · skip
      have hc : ¬ s < 0 ∧ s.toNatClampNeg < uN t := ⟨h6, Nat.lt_of_not_le (fun z => h14 ((nI_le_s (by omega) h6).mpr z))⟩
      have hc30 : s.toNatClampNeg < 30 := by omega
      refine pv_iload_n E d_Mod_task_17 rfl rfl ?_
      refine pv_if_lt (tgt := 26) E d_Mod_task_18 rfl (fun h18 => ?_) (fun h18 => ?_)
      · skip
        refine pv_iconst (v := -1) E d_Mod_task_26 (by decide) ?_
        exact pv_iret E hr hlk d_Mod_task_27 (by decide) (by decide) ⟨(xt_out (Or.inl h18)).symm ▸ rfl, hM.th, ps_I_eq _ _ _ _ _, FrM.th⟩
      · skip
        refine pv_iload_n E d_Mod_task_21 rfl rfl ?_
        refine pv_iconst (v := 3) E d_Mod_task_22 (by decide) ?_
        refine pv_icmp_le (tgt := 28) E d_Mod_task_23 rfl (fun h23 => ?_) (fun h23 => ?_)
        · skip
          refine pv_iload_n E d_Mod_task_28 rfl rfl ?_
          refine pv_if_ne (tgt := 41) E d_Mod_task_29 rfl (fun h29 => ?_) (fun h29 => ?_)
          · skip
            refine pv_iload_n E d_Mod_task_41 rfl rfl ?_
            refine pv_iconst (v := 1) E d_Mod_task_42 (by decide) ?_
            refine pv_icmp_ne (tgt := 55) E d_Mod_task_43 rfl (fun h43 => ?_) (fun h43 => ?_)
            · skip
              refine pv_iload_n E d_Mod_task_55 rfl rfl ?_
              refine pv_iconst (v := 2) E d_Mod_task_56 (by decide) ?_
              refine pv_icmp_ne (tgt := 69) E d_Mod_task_57 rfl (fun h57 => ?_) (fun h57 => ?_)
              · skip
                refine pv_aload_n E d_Mod_task_69 rfl rfl ?_
                refine gf_Mod_came2 E wd_805 d_Mod_task_70 ?_
                refine pv_top (congrArg ps_ref (m_f h0 43 rfl)) ?_
                refine pv_iload_n E d_Mod_task_73 rfl rfl ?_
                refine pv_top (congrArg ps_int (st_nI hc.1)) ?_
                refine pv_iaload (t0 := 6) E 14 _ (fun _ _ _ _ _ => rfl) rfl (m_ix h0 14 26 (by decide) (by decide) hc30) d_Mod_task_74 ?_
                refine pv_top (congrArg ps_int ((congrArg (ps_I _ 14 26) (nI_clamp (Nat.lt_trans hc30 (by decide)))).trans ((hB1 0).2.2.2.1 s.toNatClampNeg hc.2).2.2.2.2.2.2.2)) ?_
                exact pv_iret E hr hlk d_Mod_task_75 (by decide) (by decide) ⟨by rw [x_task, if_pos hc, if_neg h29, if_neg h43, if_neg h57, if_pos (w_three h18 h23 h29 h43 h57)], hM.th, ps_I_eq _ _ _ _ _, FrM.th⟩
              · skip
                refine pv_aload_n E d_Mod_task_60 rfl rfl ?_
                refine gf_Mod_worked E wd_804 d_Mod_task_61 ?_
                refine pv_top (congrArg ps_ref (m_f h0 42 rfl)) ?_
                refine pv_iload_n E d_Mod_task_64 rfl rfl ?_
                refine pv_top (congrArg ps_int (st_nI hc.1)) ?_
                refine pv_iaload (t0 := 6) E 14 _ (fun _ _ _ _ _ => rfl) rfl (m_ix h0 14 25 (by decide) (by decide) hc30) d_Mod_task_65 ?_
                refine pv_top (congrArg ps_int ((congrArg (ps_I _ 14 25) (nI_clamp (Nat.lt_trans hc30 (by decide)))).trans ((hB1 0).2.2.2.1 s.toNatClampNeg hc.2).2.2.2.2.2.2.1)) ?_
                refine pv_goto (tgt := 75) E d_Mod_task_66 rfl ?_
                exact pv_iret E hr hlk d_Mod_task_75 (by decide) (by decide) ⟨by rw [x_task, if_pos hc, if_neg h29, if_neg h43, if_pos h57], hM.th, ps_I_eq _ _ _ _ _, FrM.th⟩
            · skip
              refine pv_aload_n E d_Mod_task_46 rfl rfl ?_
              refine gf_Mod_home E wd_798 d_Mod_task_47 ?_
              refine pv_top (congrArg ps_ref (m_f h0 36 rfl)) ?_
              refine pv_iload_n E d_Mod_task_50 rfl rfl ?_
              refine pv_top (congrArg ps_int (st_nI hc.1)) ?_
              refine pv_iaload (t0 := 6) E 14 _ (fun _ _ _ _ _ => rfl) rfl (m_ix h0 14 19 (by decide) (by decide) hc30) d_Mod_task_51 ?_
              refine pv_top (congrArg ps_int ((congrArg (ps_I _ 14 19) (nI_clamp (Nat.lt_trans hc30 (by decide)))).trans ((hB1 0).2.2.2.1 s.toNatClampNeg hc.2).1)) ?_
              refine pv_goto (tgt := 75) E d_Mod_task_52 rfl ?_
              exact pv_iret E hr hlk d_Mod_task_75 (by decide) (by decide) ⟨by rw [x_task, if_pos hc, if_neg h29, if_pos h43], hM.th, ps_I_eq _ _ _ _ _, FrM.th⟩
          · skip
            refine pv_aload_n E d_Mod_task_32 rfl rfl ?_
            refine gf_Mod_how E wd_803 d_Mod_task_33 ?_
            refine pv_top (congrArg ps_ref (m_f h0 41 rfl)) ?_
            refine pv_iload_n E d_Mod_task_36 rfl rfl ?_
            refine pv_top (congrArg ps_int (st_nI hc.1)) ?_
            refine pv_iaload (t0 := 6) E 14 _ (fun _ _ _ _ _ => rfl) rfl (m_ix h0 14 24 (by decide) (by decide) hc30) d_Mod_task_37 ?_
            refine pv_top (congrArg ps_int ((congrArg (ps_I _ 14 24) (nI_clamp (Nat.lt_trans hc30 (by decide)))).trans ((hB1 0).2.2.2.1 s.toNatClampNeg hc.2).2.2.2.2.2.1)) ?_
            refine pv_goto (tgt := 75) E d_Mod_task_38 rfl ?_
            exact pv_iret E hr hlk d_Mod_task_75 (by decide) (by decide) ⟨by rw [x_task, if_pos hc, if_pos h29], hM.th, ps_I_eq _ _ _ _ _, FrM.th⟩
        · skip
          refine pv_iconst (v := -1) E d_Mod_task_26 (by decide) ?_
          exact pv_iret E hr hlk d_Mod_task_27 (by decide) (by decide) ⟨(xt_out (Or.inr h23)).symm ▸ rfl, hM.th, ps_I_eq _ _ _ _ _, FrM.th⟩
