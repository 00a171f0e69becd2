set_option maxHeartbeats 8000000 in
set_option maxRecDepth 100000 in
theorem k_Ps_complete (l : Launch) (D : va_G) (ca : Nat → ClassId) (A : Nat → Prop) (σ : ps_S) (s v : Int32) (t : tT) (g : gT) (hP : RP σ t g) (hC : cOK t g) : ∀ adr, ps_M l y_Ps_complete c_Ps_complete 4 (Option.some Jvm.ClassFile.FieldType.boolean) { frames := 6, cells := 0, slots := 0, locals := 131 } D ca A adr σ [ps_ref (some (0, 0)), ps_int s, ps_int v] (fun rv σ' => rv = some (ps_int (g_cpa g s)) ∧ RP σ' t (g_work 96 (g_cpl g s 1 v)) ∧ FrC σ σ') := by
  intro adr
  refine ps_M.of (by decide +kernel) (Nat.le_of_ble_eq_true rfl) ?_
  intro p_ e_ s_ m_ args_ below_ meth_ c_ E hr hlk hnm
  refine pv_aload_n E d_Ps_complete_0 rfl rfl ?_
  refine gf_Ps_graph E wd_100 d_Ps_complete_1 ?_
  refine pv_top (congrArg ps_ref hP.1.1) ?_
  refine pv_iload_n E d_Ps_complete_4 rfl rfl ?_
  refine pv_iconst (v := 1) E d_Ps_complete_5 (by decide) ?_
  refine pv_iload_n E d_Ps_complete_6 rfl rfl ?_
  refine pv_callV E (fun adr => k_Graph_settleIfPending l D ca A _ s 1 v g hP.2.1 hC.1 (by decide) adr) yv_Graph_settleIfPending wd_111 rfl rfl (fun _ => ⟨_, rfl⟩) rfl ⟨by decide, by decide⟩ (Nat.le_of_ble_eq_true rfl) d_Ps_complete_7 ⟨by decide, by decide⟩ (fun r7 σ7 hq7 => ?_)
  obtain ⟨hr7, hR7, hf7, hn7⟩ := sip_post hP.2.1 hq7
  subst r7
  have hP1 := hP.gf hR7 hf7 hn7 (gN_cpl _ _ _ _)
  refine pv_istore_n E d_Ps_complete_10 rfl (by decide) ?_
  refine pv_aload_n E d_Ps_complete_11 rfl rfl ?_
  refine gf_Ps_graph E wd_100 d_Ps_complete_12 ?_
  refine pv_top (congrArg ps_ref hP1.1.1) ?_
  refine pv_callV E (fun adr => k_Graph_workOffLine l D ca A _ (g_cpl g s 1 v) hR7 (hC.1.cpl (by decide)) adr) yv_Graph_workOffLine wd_151 rfl rfl (fun _ => ⟨_, rfl⟩) rfl ⟨by decide, by decide⟩ (Nat.le_of_ble_eq_true rfl) d_Ps_complete_15 ⟨by decide, by decide⟩ (fun r15 σ15 hq15 => ?_)
  obtain ⟨hr15, hR15, hf15, hn15⟩ := hq15
  subst r15
  refine pv_iload_n E d_Ps_complete_18 rfl rfl ?_
  exact pv_zret E hr hlk d_Ps_complete_19 (ps_zb (cpa_b g s)) (by decide) (by decide) ⟨rfl, hP1.gf hR15 hf15 hn15 (gN_work _ _), (FrC.ofG hf7).tr (FrC.ofG hf15)⟩
set_option maxHeartbeats 8000000 in
set_option maxRecDepth 100000 in
theorem k_Ps_cancel (l : Launch) (D : va_G) (ca : Nat → ClassId) (A : Nat → Prop) (σ : ps_S) (s : Int32) (t : tT) (g : gT) (hP : RP σ t g) (hC : cOK t g) : ∀ adr, ps_M l y_Ps_cancel c_Ps_cancel 3 (Option.some Jvm.ClassFile.FieldType.boolean) { frames := 6, cells := 0, slots := 0, locals := 131 } D ca A adr σ [ps_ref (some (0, 0)), ps_int s] (fun rv σ' => rv = some (ps_int (g_cpa g s)) ∧ RP σ' t (g_work 96 (g_cpl g s 2 0)) ∧ FrC σ σ') := by
  intro adr
  refine ps_M.of (by decide +kernel) (Nat.le_of_ble_eq_true rfl) ?_
  intro p_ e_ s_ m_ args_ below_ meth_ c_ E hr hlk hnm
  refine pv_aload_n E d_Ps_cancel_0 rfl rfl ?_
  refine gf_Ps_graph E wd_100 d_Ps_cancel_1 ?_
  refine pv_top (congrArg ps_ref hP.1.1) ?_
  refine pv_iload_n E d_Ps_cancel_4 rfl rfl ?_
  refine pv_iconst (v := 2) E d_Ps_cancel_5 (by decide) ?_
  refine pv_iconst (v := 0) E d_Ps_cancel_6 (by decide) ?_
  refine pv_callV E (fun adr => k_Graph_settleIfPending l D ca A _ s 2 0 g hP.2.1 hC.1 (by decide) adr) yv_Graph_settleIfPending wd_111 rfl rfl (fun _ => ⟨_, rfl⟩) rfl ⟨by decide, by decide⟩ (Nat.le_of_ble_eq_true rfl) d_Ps_cancel_7 ⟨by decide, by decide⟩ (fun r7 σ7 hq7 => ?_)
  obtain ⟨hr7, hR7, hf7, hn7⟩ := sip_post hP.2.1 hq7
  subst r7
  have hP1 := hP.gf hR7 hf7 hn7 (gN_cpl _ _ _ _)
  refine pv_istore_n E d_Ps_cancel_10 rfl (by decide) ?_
  refine pv_aload_n E d_Ps_cancel_11 rfl rfl ?_
  refine gf_Ps_graph E wd_100 d_Ps_cancel_12 ?_
  refine pv_top (congrArg ps_ref hP1.1.1) ?_
  refine pv_callV E (fun adr => k_Graph_workOffLine l D ca A _ (g_cpl g s 2 0) hR7 (hC.1.cpl (by decide)) adr) yv_Graph_workOffLine wd_151 rfl rfl (fun _ => ⟨_, rfl⟩) rfl ⟨by decide, by decide⟩ (Nat.le_of_ble_eq_true rfl) d_Ps_cancel_15 ⟨by decide, by decide⟩ (fun r15 σ15 hq15 => ?_)
  obtain ⟨hr15, hR15, hf15, hn15⟩ := hq15
  subst r15
  refine pv_iload_n E d_Ps_cancel_18 rfl rfl ?_
  exact pv_zret E hr hlk d_Ps_cancel_19 (ps_zb (cpa_b g s)) (by decide) (by decide) ⟨rfl, hP1.gf hR15 hf15 hn15 (gN_work _ _), (FrC.ofG hf7).tr (FrC.ofG hf15)⟩
set_option maxHeartbeats 8000000 in
set_option maxRecDepth 100000 in
theorem k_Ps_fail (l : Launch) (D : va_G) (ca : Nat → ClassId) (A : Nat → Prop) (σ : ps_S) (s e : Int32) (t : tT) (g : gT) (hP : RP σ t g) (hC : cOK t g) : ∀ adr, ps_M l y_Ps_fail c_Ps_fail 4 (Option.some Jvm.ClassFile.FieldType.boolean) { frames := 6, cells := 0, slots := 0, locals := 131 } D ca A adr σ [ps_ref (some (0, 0)), ps_int s, ps_int e] (fun rv σ' => rv = some (ps_int (if 1 ≤ e ∧ e ≤ 9 then g_cpa g s else 0)) ∧ RP σ' t (g_work 96 (if 1 ≤ e ∧ e ≤ 9 then g_cpl g s 2 e else g)) ∧ FrC σ σ') := by
  intro adr
  refine ps_M.of (by decide +kernel) (Nat.le_of_ble_eq_true rfl) ?_
  intro p_ e_ s_ m_ args_ below_ meth_ c_ E hr hlk hnm
  refine pv_iload_n E d_Ps_fail_0 rfl rfl ?_
  refine pv_iconst (v := 1) E d_Ps_fail_1 (by decide) ?_
  refine pv_icmp_lt (tgt := 28) E d_Ps_fail_2 rfl (fun h2 => ?_) (fun h2 => ?_)
  · skip
    refine pv_iconst (v := 0) E d_Ps_fail_28 (by decide) ?_
    refine pv_istore_n E d_Ps_fail_29 rfl (by decide) ?_
    refine pv_aload_n E d_Ps_fail_30 rfl rfl ?_
    refine gf_Ps_graph E wd_100 d_Ps_fail_31 ?_
    refine pv_top (congrArg ps_ref hP.1.1) ?_
    refine pv_callV E (fun adr => k_Graph_workOffLine l D ca A _ (g) hP.2.1 hC.1 adr) yv_Graph_workOffLine wd_151 rfl rfl (fun _ => ⟨_, rfl⟩) rfl ⟨by decide, by decide⟩ (Nat.le_of_ble_eq_true rfl) d_Ps_fail_34 ⟨by decide, by decide⟩ (fun r34 σ34 hq34 => ?_)
    obtain ⟨hr34, hR34, hf34, hn34⟩ := hq34
    subst r34
    refine pv_iload_n E d_Ps_fail_37 rfl rfl ?_
    exact pv_zret E hr hlk d_Ps_fail_38 (by first | rfl | (apply ps_zb; assumption)) (by decide) (by decide) ⟨by rw [if_neg (fun z => absurd h2 (Int32.not_lt.mpr z.1))], by rw [if_neg (fun z => absurd h2 (Int32.not_lt.mpr z.1))]; exact hP.gf hR34 hf34 hn34 (gN_work _ _), FrC.ofG hf34⟩
  · skip
    refine pv_iload_n E d_Ps_fail_5 rfl rfl ?_
    refine pv_bipush (v := 9) E d_Ps_fail_6 (by decide) ?_
    refine pv_icmp_gt (tgt := 28) E d_Ps_fail_8 rfl (fun h8 => ?_) (fun h8 => ?_)
    · skip
      refine pv_iconst (v := 0) E d_Ps_fail_28 (by decide) ?_
      refine pv_istore_n E d_Ps_fail_29 rfl (by decide) ?_
      refine pv_aload_n E d_Ps_fail_30 rfl rfl ?_
      refine gf_Ps_graph E wd_100 d_Ps_fail_31 ?_
      refine pv_top (congrArg ps_ref hP.1.1) ?_
      refine pv_callV E (fun adr => k_Graph_workOffLine l D ca A _ (g) hP.2.1 hC.1 adr) yv_Graph_workOffLine wd_151 rfl rfl (fun _ => ⟨_, rfl⟩) rfl ⟨by decide, by decide⟩ (Nat.le_of_ble_eq_true rfl) d_Ps_fail_34 ⟨by decide, by decide⟩ (fun r34 σ34 hq34 => ?_)
      obtain ⟨hr34, hR34, hf34, hn34⟩ := hq34
      subst r34
      refine pv_iload_n E d_Ps_fail_37 rfl rfl ?_
      exact pv_zret E hr hlk d_Ps_fail_38 (by first | rfl | (apply ps_zb; assumption)) (by decide) (by decide) ⟨by rw [if_neg (fun z => absurd h8 (Int32.not_lt.mpr z.2))], by rw [if_neg (fun z => absurd h8 (Int32.not_lt.mpr z.2))]; exact hP.gf hR34 hf34 hn34 (gN_work _ _), FrC.ofG hf34⟩
    · skip
      refine pv_aload_n E d_Ps_fail_11 rfl rfl ?_
      refine gf_Ps_graph E wd_100 d_Ps_fail_12 ?_
      refine pv_top (congrArg ps_ref hP.1.1) ?_
      refine pv_iload_n E d_Ps_fail_15 rfl rfl ?_
      refine pv_iconst (v := 2) E d_Ps_fail_16 (by decide) ?_
      refine pv_iload_n E d_Ps_fail_17 rfl rfl ?_
      refine pv_callV E (fun adr => k_Graph_settleIfPending l D ca A _ s 2 e g hP.2.1 hC.1 (by decide) adr) yv_Graph_settleIfPending wd_111 rfl rfl (fun _ => ⟨_, rfl⟩) rfl ⟨by decide, by decide⟩ (Nat.le_of_ble_eq_true rfl) d_Ps_fail_18 ⟨by decide, by decide⟩ (fun r18 σ18 hq18 => ?_)
      obtain ⟨hr18, hR18, hf18, hn18⟩ := sip_post hP.2.1 hq18
      subst r18
      have hP1 := hP.gf hR18 hf18 hn18 (gN_cpl _ _ _ _)
      refine pv_if_eq (tgt := 28) E d_Ps_fail_21 rfl (fun h21 => ?_) (fun h21 => ?_)
      · skip
        refine pv_iconst (v := 0) E d_Ps_fail_28 (by decide) ?_
        refine pv_istore_n E d_Ps_fail_29 rfl (by decide) ?_
        refine pv_aload_n E d_Ps_fail_30 rfl rfl ?_
        refine gf_Ps_graph E wd_100 d_Ps_fail_31 ?_
        refine pv_top (congrArg ps_ref hP1.1.1) ?_
        refine pv_callV E (fun adr => k_Graph_workOffLine l D ca A _ (g_cpl g s 2 e) hR18 (hC.1.cpl (by decide)) adr) yv_Graph_workOffLine wd_151 rfl rfl (fun _ => ⟨_, rfl⟩) rfl ⟨by decide, by decide⟩ (Nat.le_of_ble_eq_true rfl) d_Ps_fail_34 ⟨by decide, by decide⟩ (fun r34 σ34 hq34 => ?_)
        obtain ⟨hr34, hR34, hf34, hn34⟩ := hq34
        subst r34
        refine pv_iload_n E d_Ps_fail_37 rfl rfl ?_
        exact pv_zret E hr hlk d_Ps_fail_38 (by first | rfl | (apply ps_zb; assumption)) (by decide) (by decide) ⟨by rw [if_pos ⟨Int32.not_lt.mp h2, Int32.not_lt.mp h8⟩, h21], by rw [if_pos ⟨Int32.not_lt.mp h2, Int32.not_lt.mp h8⟩]; exact hP1.gf hR34 hf34 hn34 (gN_work _ _), (FrC.ofG hf18).tr (FrC.ofG hf34)⟩
      · skip
        refine pv_iconst (v := 1) E d_Ps_fail_24 (by decide) ?_
        refine pv_goto (tgt := 29) E d_Ps_fail_25 rfl ?_
        refine pv_istore_n E d_Ps_fail_29 rfl (by decide) ?_
        refine pv_aload_n E d_Ps_fail_30 rfl rfl ?_
        refine gf_Ps_graph E wd_100 d_Ps_fail_31 ?_
        refine pv_top (congrArg ps_ref hP1.1.1) ?_
        refine pv_callV E (fun adr => k_Graph_workOffLine l D ca A _ (g_cpl g s 2 e) hR18 (hC.1.cpl (by decide)) adr) yv_Graph_workOffLine wd_151 rfl rfl (fun _ => ⟨_, rfl⟩) rfl ⟨by decide, by decide⟩ (Nat.le_of_ble_eq_true rfl) d_Ps_fail_34 ⟨by decide, by decide⟩ (fun r34 σ34 hq34 => ?_)
        obtain ⟨hr34, hR34, hf34, hn34⟩ := hq34
        subst r34
        refine pv_iload_n E d_Ps_fail_37 rfl rfl ?_
        exact pv_zret E hr hlk d_Ps_fail_38 (by first | rfl | (apply ps_zb; assumption)) (by decide) (by decide) ⟨by rw [if_pos ⟨Int32.not_lt.mp h2, Int32.not_lt.mp h8⟩, (cpa_b g s).resolve_left h21], by rw [if_pos ⟨Int32.not_lt.mp h2, Int32.not_lt.mp h8⟩]; exact hP1.gf hR34 hf34 hn34 (gN_work _ _), (FrC.ofG hf18).tr (FrC.ofG hf34)⟩
set_option maxHeartbeats 8000000 in
set_option maxRecDepth 100000 in
theorem k_Ps_isStepCount (l : Launch) (D : va_G) (ca : Nat → ClassId) (A : Nat → Prop) (σ : ps_S) (n : Int32)  : ∀ adr, ps_M l y_Ps_isStepCount c_Ps_isStepCount 1 (Option.some Jvm.ClassFile.FieldType.boolean) { frames := 0, cells := 0, slots := 0, locals := 0 } D ca A adr σ [ps_int n] (fun rv σ' => rv = some (ps_int (st_is n)) ∧ σ' = σ) := by
  intro adr
  refine ps_M.of (by decide +kernel) (Nat.le_of_ble_eq_true rfl) ?_
  intro p_ e_ s_ m_ args_ below_ meth_ c_ E hr hlk hnm
  refine pv_iload_n E d_Ps_isStepCount_0 rfl rfl ?_
  refine pv_if_lt (tgt := 14) E d_Ps_isStepCount_1 rfl (fun h1 => ?_) (fun h1 => ?_)
  · skip
    refine pv_iconst (v := 0) E d_Ps_isStepCount_14 (by decide) ?_
    exact pv_zret E hr hlk d_Ps_isStepCount_15 (by first | rfl | (apply ps_zb; assumption)) (by decide) (by decide) ⟨by simp [st_is, h1], rfl⟩
  · skip
    refine pv_iload_n E d_Ps_isStepCount_4 rfl rfl ?_
    refine pv_bipush (v := 60) E d_Ps_isStepCount_5 (by decide) ?_
    refine pv_icmp_gt (tgt := 14) E d_Ps_isStepCount_7 rfl (fun h7 => ?_) (fun h7 => ?_)
    · skip
      refine pv_iconst (v := 0) E d_Ps_isStepCount_14 (by decide) ?_
      exact pv_zret E hr hlk d_Ps_isStepCount_15 (by first | rfl | (apply ps_zb; assumption)) (by decide) (by decide) ⟨by simp [st_is, h1, h7], rfl⟩
    · skip
      refine pv_iconst (v := 1) E d_Ps_isStepCount_10 (by decide) ?_
      refine pv_goto (tgt := 15) E d_Ps_isStepCount_11 rfl ?_
      exact pv_zret E hr hlk d_Ps_isStepCount_15 (by first | rfl | (apply ps_zb; assumption)) (by decide) (by decide) ⟨by simp [st_is, h1, h7], rfl⟩
set_option maxHeartbeats 8000000 in
set_option maxRecDepth 100000 in
theorem k_Ps_stage (l : Launch) (D : va_G) (ca : Nat → ClassId) (A : Nat → Prop) (σ : ps_S) (s w : Int32) (t : tT) (g : gT) (hP : RP σ t g) (hC : cOK t g) : ∀ adr, ps_M l y_Ps_stage c_Ps_stage 4 (Option.some Jvm.ClassFile.FieldType.int) { frames := 2, cells := 0, slots := 0, locals := 43 } D ca A adr σ [ps_ref (some (0, 0)), ps_int s, ps_int w] (fun rv σ' => rv = some (ps_int (x_stage g s w)) ∧ σ' = σ) := by
  intro adr
  refine ps_M.of (by decide +kernel) (Nat.le_of_ble_eq_true rfl) ?_
  intro p_ e_ s_ m_ args_ below_ meth_ c_ E hr hlk hnm
  refine pv_aload_n E d_Ps_stage_0 rfl rfl ?_
  refine gf_Ps_graph E wd_100 d_Ps_stage_1 ?_
  refine pv_top (congrArg ps_ref hP.1.1) ?_
  refine pv_iload_n E d_Ps_stage_4 rfl rfl ?_
  refine pv_callV E (fun adr => k_Graph_find l D ca A _ s g hP.2.1 hC.1.1.1 adr) yv_Graph_find wd_240 rfl rfl (fun _ => ⟨_, rfl⟩) rfl ⟨by decide, by decide⟩ (Nat.le_of_ble_eq_true rfl) d_Ps_stage_5 ⟨by decide, by decide⟩ (fun r5 σ5 hq5 => ?_)
  obtain ⟨hr5, hs5⟩ := hq5
  subst r5
  subst σ5
  refine pv_astore_n E d_Ps_stage_8 rfl (by decide) ?_
  refine pv_aload_n E d_Ps_stage_9 rfl rfl ?_
  refine pv_ifnonnull (tgt := 15) E d_Ps_stage_10 rfl (fun q10 h10 => ?_) (fun h10 => ?_)
  · skip
    have hc : ¬ s < 0 ∧ s.toNatClampNeg < gN g := by
      by_cases z : ¬ s < 0 ∧ s.toNatClampNeg < gN g
      · exact z
      · rw [g_find, if_neg z] at h10; cases h10
    have hv : g_find g s = some (3, s.toNatClampNeg) := if_pos hc
    refine pv_iload_n E d_Ps_stage_15 rfl rfl ?_
    by_cases h16_0 : w = 0
    · refine pv_tableAt (tgt := 48) E 0 h16_0 d_Ps_stage_16 (by decide) (by decide) rfl rfl ?_
      refine pv_aload_n E d_Ps_stage_48 rfl rfl ?_
      refine pv_top (congrArg ps_ref hv) ?_
      refine gf_Stage_state E wd_485 d_Ps_stage_49 ?_
      refine pv_top (congrArg ps_int (hP.2.1.2.1 _ hc.2).2.1) ?_
      exact pv_iret E hr hlk d_Ps_stage_52 (by decide) (by decide) ⟨by rw [x_stage, if_pos hc]; simp only [h10, h16_0, if_true, if_false] <;> rfl, rfl⟩
    by_cases h16_1 : w = 1
    · refine pv_tableAt (tgt := 53) E 1 h16_1 d_Ps_stage_16 (by decide) (by decide) rfl rfl ?_
      refine pv_aload_n E d_Ps_stage_53 rfl rfl ?_
      refine pv_top (congrArg ps_ref hv) ?_
      refine gf_Stage_content E wd_489 d_Ps_stage_54 ?_
      refine pv_top (congrArg ps_int (hP.2.1.2.1 _ hc.2).2.2.1) ?_
      exact pv_iret E hr hlk d_Ps_stage_57 (by decide) (by decide) ⟨by rw [x_stage, if_pos hc]; simp only [h10, h16_0, h16_1, if_true, if_false] <;> rfl, rfl⟩
    by_cases h16_2 : w = 2
    · refine pv_tableAt (tgt := 58) E 2 h16_2 d_Ps_stage_16 (by decide) (by decide) rfl rfl ?_
      refine pv_aload_n E d_Ps_stage_58 rfl rfl ?_
      refine pv_top (congrArg ps_ref hv) ?_
      refine gf_Stage_kind E wd_475 d_Ps_stage_59 ?_
      refine pv_top (congrArg ps_int (hP.2.1.2.1 _ hc.2).1.2.2.1) ?_
      exact pv_iret E hr hlk d_Ps_stage_62 (by decide) (by decide) ⟨by rw [x_stage, if_pos hc]; simp only [h10, h16_0, h16_1, h16_2, if_true, if_false] <;> rfl, rfl⟩
    by_cases h16_3 : w = 3
    · refine pv_tableAt (tgt := 63) E 3 h16_3 d_Ps_stage_16 (by decide) (by decide) rfl rfl ?_
      refine pv_aload_n E d_Ps_stage_63 rfl rfl ?_
      refine gf_Ps_graph E wd_100 d_Ps_stage_64 ?_
      refine pv_top (congrArg ps_ref hP.1.1) ?_
      refine pv_aload_n E d_Ps_stage_67 rfl rfl ?_
      refine pv_top (congrArg ps_ref hv) ?_
      refine pv_callV E (fun adr => k_Graph_placeInPool l D ca A _ _ g hP.2.1 adr) yv_Graph_placeInPool wd_241 rfl rfl (fun _ => ⟨_, rfl⟩) rfl ⟨by decide, by decide⟩ (Nat.le_of_ble_eq_true rfl) d_Ps_stage_68 ⟨by decide, by decide⟩ (fun r68 σ68 hq68 => ?_)
      obtain ⟨hr68, hs68⟩ := hq68
      subst r68
      subst σ68
      exact pv_iret E hr hlk d_Ps_stage_71 (by decide) (by decide) ⟨by rw [x_stage, if_pos hc]; simp only [h10, h16_0, h16_1, h16_2, h16_3, if_true, if_false] <;> rfl, rfl⟩
    refine pv_tableOut (tgt := 72) E d_Ps_stage_16 (by have e0 := lv_neT h16_0 (show Int32.toInt 0 = 0 by decide); have e1 := lv_neT h16_1 (show Int32.toInt 1 = 1 by decide); have e2 := lv_neT h16_2 (show Int32.toInt 2 = 2 by decide); have e3 := lv_neT h16_3 (show Int32.toInt 3 = 3 by decide); omega) rfl ?_
    refine pv_iconst (v := -1) E d_Ps_stage_72 (by decide) ?_
    exact pv_iret E hr hlk d_Ps_stage_73 (by decide) (by decide) ⟨by rw [x_stage, if_pos hc]; simp only [h10, h16_0, h16_1, h16_2, h16_3, if_true, if_false] <;> rfl, rfl⟩
  · skip
    have hc : ¬ (¬ s < 0 ∧ s.toNatClampNeg < gN g) := fun z => by rw [g_find, if_pos z] at h10; cases h10
    refine pv_iconst (v := -1) E d_Ps_stage_13 (by decide) ?_
    exact pv_iret E hr hlk d_Ps_stage_14 (by decide) (by decide) ⟨by rw [x_stage, if_neg hc], rfl⟩
set_option maxHeartbeats 8000000 in
set_option maxRecDepth 100000 in
theorem k_Ps_count (l : Launch) (D : va_G) (ca : Nat → ClassId) (A : Nat → Prop) (σ : ps_S) (w : Int32) (t : tT) (g : gT) (hP : RP σ t g) (hC : cOK t g) : ∀ adr, ps_M l y_Ps_count c_Ps_count 2 (Option.some Jvm.ClassFile.FieldType.int) { frames := 2, cells := 0, slots := 0, locals := 40 } D ca A adr σ [ps_ref (some (0, 0)), ps_int w] (fun rv σ' => rv = some (ps_int (x_count t g w)) ∧ σ' = σ) := by
  intro adr
  refine ps_M.of (by decide +kernel) (Nat.le_of_ble_eq_true rfl) ?_
  intro p_ e_ s_ m_ args_ below_ meth_ c_ E hr hlk hnm
  refine pv_iload_n E d_Ps_count_0 rfl rfl ?_
  by_cases h1_0 : w = 0
  · refine pv_tableAt (tgt := 36) E 0 h1_0 d_Ps_count_1 (by decide) (by decide) rfl rfl ?_
    refine pv_aload_n E d_Ps_count_36 rfl rfl ?_
    refine gf_Ps_graph E wd_100 d_Ps_count_37 ?_
    refine pv_top (congrArg ps_ref hP.1.1) ?_
    refine gf_Graph_made E wd_55 d_Ps_count_40 ?_
    refine pv_top (congrArg ps_int hP.2.1.1.2.2.2.1) ?_
    exact pv_iret E hr hlk d_Ps_count_43 (by decide) (by decide) ⟨by unfold x_count; simp only [h1_0, if_true, if_false] <;> rfl, rfl⟩
  by_cases h1_1 : w = 1
  · refine pv_tableAt (tgt := 44) E 1 h1_1 d_Ps_count_1 (by decide) (by decide) rfl rfl ?_
    refine pv_aload_n E d_Ps_count_44 rfl rfl ?_
    refine gf_Ps_graph E wd_100 d_Ps_count_45 ?_
    refine pv_top (congrArg ps_ref hP.1.1) ?_
    refine pv_callV E (fun adr => k_Graph_poolSize l D ca A _ g hP.2.1 adr) yv_Graph_poolSize wd_253 rfl rfl (fun _ => ⟨_, rfl⟩) rfl ⟨by decide, by decide⟩ (Nat.le_of_ble_eq_true rfl) d_Ps_count_48 ⟨by decide, by decide⟩ (fun r48 σ48 hq48 => ?_)
    obtain ⟨hr48, hs48⟩ := hq48
    subst r48
    subst σ48
    exact pv_iret E hr hlk d_Ps_count_51 (by decide) (by decide) ⟨by unfold x_count; simp only [h1_0, h1_1, if_true, if_false] <;> rfl, rfl⟩
  by_cases h1_2 : w = 2
  · refine pv_tableAt (tgt := 52) E 2 h1_2 d_Ps_count_1 (by decide) (by decide) rfl rfl ?_
    refine pv_aload_n E d_Ps_count_52 rfl rfl ?_
    refine gf_Ps_tree E wd_101 d_Ps_count_53 ?_
    refine pv_top (congrArg ps_ref hP.1.2) ?_
    refine gf_Tree_scopesMade E wd_81 d_Ps_count_56 ?_
    refine pv_top (congrArg ps_int hP.2.2.1.1.2.1) ?_
    exact pv_iret E hr hlk d_Ps_count_59 (by decide) (by decide) ⟨by unfold x_count; simp only [h1_0, h1_1, h1_2, if_true, if_false] <;> rfl, rfl⟩
  by_cases h1_3 : w = 3
  · refine pv_tableAt (tgt := 60) E 3 h1_3 d_Ps_count_1 (by decide) (by decide) rfl rfl ?_
    refine pv_aload_n E d_Ps_count_60 rfl rfl ?_
    refine gf_Ps_tree E wd_101 d_Ps_count_61 ?_
    refine pv_top (congrArg ps_ref hP.1.2) ?_
    refine gf_Tree_tasksMade E wd_83 d_Ps_count_64 ?_
    refine pv_top (congrArg ps_int hP.2.2.1.1.2.2.1) ?_
    exact pv_iret E hr hlk d_Ps_count_67 (by decide) (by decide) ⟨by unfold x_count; simp only [h1_0, h1_1, h1_2, h1_3, if_true, if_false] <;> rfl, rfl⟩
  by_cases h1_4 : w = 4
  · refine pv_tableAt (tgt := 68) E 4 h1_4 d_Ps_count_1 (by decide) (by decide) rfl rfl ?_
    refine pv_aload_n E d_Ps_count_68 rfl rfl ?_
    refine gf_Ps_tree E wd_101 d_Ps_count_69 ?_
    refine pv_top (congrArg ps_ref hP.1.2) ?_
    refine gf_Tree_time E wd_84 d_Ps_count_72 ?_
    refine pv_top (congrArg ps_int hP.2.2.1.1.2.2.2.1) ?_
    exact pv_iret E hr hlk d_Ps_count_75 (by decide) (by decide) ⟨by unfold x_count; simp only [h1_0, h1_1, h1_2, h1_3, h1_4, if_true, if_false] <;> rfl, rfl⟩
  refine pv_tableOut (tgt := 76) E d_Ps_count_1 (by have e0 := lv_neT h1_0 (show Int32.toInt 0 = 0 by decide); have e1 := lv_neT h1_1 (show Int32.toInt 1 = 1 by decide); have e2 := lv_neT h1_2 (show Int32.toInt 2 = 2 by decide); have e3 := lv_neT h1_3 (show Int32.toInt 3 = 3 by decide); have e4 := lv_neT h1_4 (show Int32.toInt 4 = 4 by decide); omega) rfl ?_
  refine pv_iconst (v := -1) E d_Ps_count_76 (by decide) ?_
  exact pv_iret E hr hlk d_Ps_count_77 (by decide) (by decide) ⟨by unfold x_count; simp only [h1_0, h1_1, h1_2, h1_3, h1_4, if_true, if_false] <;> rfl, rfl⟩
set_option maxHeartbeats 8000000 in
set_option maxRecDepth 100000 in
theorem k_Ps_scope (l : Launch) (D : va_G) (ca : Nat → ClassId) (A : Nat → Prop) (σ : ps_S) (s w : Int32) (t : tT) (g : gT) (hP : RP σ t g) (hC : cOK t g) : ∀ adr, ps_M l y_Ps_scope c_Ps_scope 4 (Option.some Jvm.ClassFile.FieldType.int) { frames := 1, cells := 0, slots := 0, locals := 24 } D ca A adr σ [ps_ref (some (0, 0)), ps_int s, ps_int w] (fun rv σ' => rv = some (ps_int (x_scope t s w)) ∧ σ' = σ) := by
  intro adr
  refine ps_M.of (by decide +kernel) (Nat.le_of_ble_eq_true rfl) ?_
  intro p_ e_ s_ m_ args_ below_ meth_ c_ E hr hlk hnm
  refine pv_aload_n E d_Ps_scope_0 rfl rfl ?_
  refine gf_Ps_tree E wd_101 d_Ps_scope_1 ?_
  refine pv_top (congrArg ps_ref hP.1.2) ?_
  refine pv_iload_n E d_Ps_scope_4 rfl rfl ?_
  refine pv_callV E (fun adr => k_Tree_find l D ca A _ s t hP.2.2.1 hC.2.1 adr) yv_Tree_find wd_325 rfl rfl (fun _ => ⟨_, rfl⟩) rfl ⟨by decide, by decide⟩ (Nat.le_of_ble_eq_true rfl) d_Ps_scope_5 ⟨by decide, by decide⟩ (fun r5 σ5 hq5 => ?_)
  obtain ⟨hr5, hs5⟩ := hq5
  subst r5
  subst σ5
  refine pv_astore_n E d_Ps_scope_8 rfl (by decide) ?_
  refine pv_aload_n E d_Ps_scope_9 rfl rfl ?_
  refine pv_ifnonnull (tgt := 15) E d_Ps_scope_10 rfl (fun q10 h10 => ?_) (fun h10 => ?_)
  · skip
    have hc : ¬ s < 0 ∧ s.toNatClampNeg < tN t := by
      by_cases z : ¬ s < 0 ∧ s.toNatClampNeg < tN t
      · exact z
      · rw [t_find, if_neg z] at h10; cases h10
    have hv : t_find t s = some (5, s.toNatClampNeg) := if_pos hc
    obtain ⟨⟨b0, b1, b2, b3, b4, b5⟩, ⟨d1, d2, d3, d4, d5⟩, b6, b7, b8⟩ := hP.2.2.1.2.1 _ hc.2
    refine pv_iload_n E d_Ps_scope_15 rfl rfl ?_
    by_cases h16_0 : w = 0
    · refine pv_tableAt (tgt := 56) E 0 h16_0 d_Ps_scope_16 (by decide) (by decide) rfl rfl ?_
      refine pv_aload_n E d_Ps_scope_56 rfl rfl ?_
      refine pv_top (congrArg ps_ref hv) ?_
      refine gf_Scope_state E wd_653 d_Ps_scope_57 ?_
      refine pv_top (congrArg ps_int b6) ?_
      exact pv_iret E hr hlk d_Ps_scope_60 (by decide) (by decide) ⟨by rw [x_scope, if_pos hc]; simp only [h10, h16_0, if_true, if_false] <;> rfl, rfl⟩
    by_cases h16_1 : w = 1
    · refine pv_tableAt (tgt := 61) E 1 h16_1 d_Ps_scope_16 (by decide) (by decide) rfl rfl ?_
      refine pv_aload_n E d_Ps_scope_61 rfl rfl ?_
      refine pv_top (congrArg ps_ref hv) ?_
      refine gf_Scope_result E wd_648 d_Ps_scope_62 ?_
      refine pv_top (congrArg ps_ref b5) ?_
      refine gf_Stage_number E wd_473 d_Ps_scope_65 ?_
      refine pv_top (congrArg ps_int (hP.2.1.2.1 _ (hC.2.2 _ hc.2)).1.2.1) ?_
      exact pv_iret E hr hlk d_Ps_scope_68 (by decide) (by decide) ⟨by rw [x_scope, if_pos hc]; simp only [h10, h16_0, h16_1, if_true, if_false] <;> rfl, rfl⟩
    by_cases h16_2 : w = 2
    · refine pv_tableAt (tgt := 69) E 2 h16_2 d_Ps_scope_16 (by decide) (by decide) rfl rfl ?_
      refine pv_aload_n E d_Ps_scope_69 rfl rfl ?_
      refine pv_top (congrArg ps_ref hv) ?_
      refine gf_Scope_deadline E wd_645 d_Ps_scope_70 ?_
      refine pv_top (congrArg ps_int b4) ?_
      exact pv_iret E hr hlk d_Ps_scope_73 (by decide) (by decide) ⟨by rw [x_scope, if_pos hc]; simp only [h10, h16_0, h16_1, h16_2, if_true, if_false] <;> rfl, rfl⟩
    by_cases h16_3 : w = 3
    · refine pv_tableAt (tgt := 74) E 3 h16_3 d_Ps_scope_16 (by decide) (by decide) rfl rfl ?_
      refine pv_aload_n E d_Ps_scope_74 rfl rfl ?_
      refine gf_Ps_tree E wd_101 d_Ps_scope_75 ?_
      refine pv_top (congrArg ps_ref hP.1.2) ?_
      refine pv_aload_n E d_Ps_scope_78 rfl rfl ?_
      refine pv_top (congrArg ps_ref hv) ?_
      refine pv_iconst (v := 0) E d_Ps_scope_79 (by decide) ?_
      refine pv_callV E (fun adr => k_Tree_countTasks l D ca A _ _ 0 t hP.2.2.1 hC.2.1 adr) yv_Tree_countTasks wd_369 rfl rfl (fun _ => ⟨_, rfl⟩) rfl ⟨by decide, by decide⟩ (Nat.le_of_ble_eq_true rfl) d_Ps_scope_80 ⟨by decide, by decide⟩ (fun r80 σ80 hq80 => ?_)
      obtain ⟨hr80, hs80⟩ := hq80
      subst r80
      subst σ80
      exact pv_iret E hr hlk d_Ps_scope_83 (by decide) (by decide) ⟨by rw [x_scope, if_pos hc]; simp only [h10, h16_0, h16_1, h16_2, h16_3, if_true, if_false] <;> rfl, rfl⟩
    by_cases h16_4 : w = 4
    · refine pv_tableAt (tgt := 84) E 4 h16_4 d_Ps_scope_16 (by decide) (by decide) rfl rfl ?_
      refine pv_aload_n E d_Ps_scope_84 rfl rfl ?_
      refine pv_top (congrArg ps_ref hv) ?_
      refine gf_Scope_stopped E wd_656 d_Ps_scope_85 ?_
      refine pv_top (congrArg ps_int b7) ?_
      refine pv_if_eq (tgt := 95) E d_Ps_scope_88 rfl (fun h88 => ?_) (fun h88 => ?_)
      · skip
        refine pv_iconst (v := 0) E d_Ps_scope_95 (by decide) ?_
        refine pv_aload_n E d_Ps_scope_96 rfl rfl ?_
        refine pv_top (congrArg ps_ref hv) ?_
        refine gf_Scope_late E wd_658 d_Ps_scope_97 ?_
        refine pv_top (congrArg ps_int b8) ?_
        refine pv_if_eq (tgt := 107) E d_Ps_scope_100 rfl (fun h100 => ?_) (fun h100 => ?_)
        · skip
          refine pv_iconst (v := 0) E d_Ps_scope_107 (by decide) ?_
          refine pv_iadd E d_Ps_scope_108 ?_
          exact pv_iret E hr hlk d_Ps_scope_109 (by decide) (by decide) ⟨by rw [x_scope, if_pos hc]; simp only [h10, h16_0, h16_1, h16_2, h16_3, h16_4, h88, h100, if_true, if_false] <;> rfl, rfl⟩
        · skip
          refine pv_iconst (v := 2) E d_Ps_scope_103 (by decide) ?_
          refine pv_goto (tgt := 108) E d_Ps_scope_104 rfl ?_
          refine pv_iadd E d_Ps_scope_108 ?_
          exact pv_iret E hr hlk d_Ps_scope_109 (by decide) (by decide) ⟨by rw [x_scope, if_pos hc]; simp only [h10, h16_0, h16_1, h16_2, h16_3, h16_4, h88, h100, if_true, if_false] <;> rfl, rfl⟩
      · skip
        refine pv_iconst (v := 1) E d_Ps_scope_91 (by decide) ?_
        refine pv_goto (tgt := 96) E d_Ps_scope_92 rfl ?_
        refine pv_aload_n E d_Ps_scope_96 rfl rfl ?_
        refine pv_top (congrArg ps_ref hv) ?_
        refine gf_Scope_late E wd_658 d_Ps_scope_97 ?_
        refine pv_top (congrArg ps_int b8) ?_
        refine pv_if_eq (tgt := 107) E d_Ps_scope_100 rfl (fun h100 => ?_) (fun h100 => ?_)
        · skip
          refine pv_iconst (v := 0) E d_Ps_scope_107 (by decide) ?_
          refine pv_iadd E d_Ps_scope_108 ?_
          exact pv_iret E hr hlk d_Ps_scope_109 (by decide) (by decide) ⟨by rw [x_scope, if_pos hc]; simp only [h10, h16_0, h16_1, h16_2, h16_3, h16_4, h88, h100, if_true, if_false] <;> rfl, rfl⟩
        · skip
          refine pv_iconst (v := 2) E d_Ps_scope_103 (by decide) ?_
          refine pv_goto (tgt := 108) E d_Ps_scope_104 rfl ?_
          refine pv_iadd E d_Ps_scope_108 ?_
          exact pv_iret E hr hlk d_Ps_scope_109 (by decide) (by decide) ⟨by rw [x_scope, if_pos hc]; simp only [h10, h16_0, h16_1, h16_2, h16_3, h16_4, h88, h100, if_true, if_false] <;> rfl, rfl⟩
    by_cases h16_5 : w = 5
    · refine pv_tableAt (tgt := 110) E 5 h16_5 d_Ps_scope_16 (by decide) (by decide) rfl rfl ?_
      refine pv_aload_n E d_Ps_scope_110 rfl rfl ?_
      refine gf_Ps_tree E wd_101 d_Ps_scope_111 ?_
      refine pv_top (congrArg ps_ref hP.1.2) ?_
      refine pv_aload_n E d_Ps_scope_114 rfl rfl ?_
      refine pv_top (congrArg ps_ref hv) ?_
      refine pv_iconst (v := 2) E d_Ps_scope_115 (by decide) ?_
      refine pv_callV E (fun adr => k_Tree_countTasks l D ca A _ _ 2 t hP.2.2.1 hC.2.1 adr) yv_Tree_countTasks wd_369 rfl rfl (fun _ => ⟨_, rfl⟩) rfl ⟨by decide, by decide⟩ (Nat.le_of_ble_eq_true rfl) d_Ps_scope_116 ⟨by decide, by decide⟩ (fun r116 σ116 hq116 => ?_)
      obtain ⟨hr116, hs116⟩ := hq116
      subst r116
      subst σ116
      exact pv_iret E hr hlk d_Ps_scope_119 (by decide) (by decide) ⟨by rw [x_scope, if_pos hc]; simp only [h10, h16_0, h16_1, h16_2, h16_3, h16_4, h16_5, if_true, if_false] <;> rfl, rfl⟩
    refine pv_tableOut (tgt := 120) E d_Ps_scope_16 (by have e0 := lv_neT h16_0 (show Int32.toInt 0 = 0 by decide); have e1 := lv_neT h16_1 (show Int32.toInt 1 = 1 by decide); have e2 := lv_neT h16_2 (show Int32.toInt 2 = 2 by decide); have e3 := lv_neT h16_3 (show Int32.toInt 3 = 3 by decide); have e4 := lv_neT h16_4 (show Int32.toInt 4 = 4 by decide); have e5 := lv_neT h16_5 (show Int32.toInt 5 = 5 by decide); omega) rfl ?_
    refine pv_iconst (v := -1) E d_Ps_scope_120 (by decide) ?_
    exact pv_iret E hr hlk d_Ps_scope_121 (by decide) (by decide) ⟨by rw [x_scope, if_pos hc]; simp only [h10, h16_0, h16_1, h16_2, h16_3, h16_4, h16_5, if_true, if_false] <;> rfl, rfl⟩
  · skip
    have hc : ¬ (¬ s < 0 ∧ s.toNatClampNeg < tN t) := fun z => by rw [t_find, if_pos z] at h10; cases h10
    refine pv_iconst (v := -1) E d_Ps_scope_13 (by decide) ?_
    exact pv_iret E hr hlk d_Ps_scope_14 (by decide) (by decide) ⟨by rw [x_scope, if_neg hc], rfl⟩
set_option maxHeartbeats 8000000 in
set_option maxRecDepth 100000 in
theorem k_Ps_task (l : Launch) (D : va_G) (ca : Nat → ClassId) (A : Nat → Prop) (σ : ps_S) (s w : Int32) (t : tT) (g : gT) (hP : RP σ t g) (hC : cOK t g) : ∀ adr, ps_M l y_Ps_task c_Ps_task 4 (Option.some Jvm.ClassFile.FieldType.int) { frames := 1, cells := 0, slots := 0, locals := 21 } D ca A adr σ [ps_ref (some (0, 0)), ps_int s, ps_int w] (fun rv σ' => rv = some (ps_int (x_task t s w)) ∧ σ' = σ) := by
  intro adr
  refine ps_M.of (by decide +kernel) (Nat.le_of_ble_eq_true rfl) ?_
  intro p_ e_ s_ m_ args_ below_ meth_ c_ E hr hlk hnm
  refine pv_aload_n E d_Ps_task_0 rfl rfl ?_
  refine gf_Ps_tree E wd_101 d_Ps_task_1 ?_
  refine pv_top (congrArg ps_ref hP.1.2) ?_
  refine pv_iload_n E d_Ps_task_4 rfl rfl ?_
  refine pv_callV E (fun adr => k_Tree_findTask l D ca A _ s t hP.2.2.1 hC.2.1 adr) yv_Tree_findTask wd_374 rfl rfl (fun _ => ⟨_, rfl⟩) rfl ⟨by decide, by decide⟩ (Nat.le_of_ble_eq_true rfl) d_Ps_task_5 ⟨by decide, by decide⟩ (fun r5 σ5 hq5 => ?_)
  obtain ⟨hr5, hs5⟩ := hq5
  subst r5
  subst σ5
  refine pv_astore_n E d_Ps_task_8 rfl (by decide) ?_
  refine pv_aload_n E d_Ps_task_9 rfl rfl ?_
  refine pv_ifnonnull (tgt := 15) E d_Ps_task_10 rfl (fun q10 h10 => ?_) (fun h10 => ?_)
  · skip
    have hc : ¬ s < 0 ∧ s.toNatClampNeg < uN t := by
      by_cases z : ¬ s < 0 ∧ s.toNatClampNeg < uN t
      · exact z
      · rw [u_find, if_neg z] at h10; cases h10
    have hv : u_find t s = some (6, s.toNatClampNeg) := if_pos hc
    obtain ⟨⟨j0, j1, j2, j3, j4, j5⟩, j6, j7, j8, j9⟩ := hP.2.2.1.2.2 _ hc.2
    refine pv_iload_n E d_Ps_task_15 rfl rfl ?_
    by_cases h16_0 : w = 0
    · refine pv_tableAt (tgt := 48) E 0 h16_0 d_Ps_task_16 (by decide) (by decide) rfl rfl ?_
      refine pv_aload_n E d_Ps_task_48 rfl rfl ?_
      refine pv_top (congrArg ps_ref hv) ?_
      refine gf_Task_state E wd_721 d_Ps_task_49 ?_
      refine pv_top (congrArg ps_int j6) ?_
      exact pv_iret E hr hlk d_Ps_task_52 (by decide) (by decide) ⟨by rw [x_task, if_pos hc]; simp only [h10, h16_0, if_true, if_false] <;> rfl, rfl⟩
    by_cases h16_1 : w = 1
    · refine pv_tableAt (tgt := 53) E 1 h16_1 d_Ps_task_16 (by decide) (by decide) rfl rfl ?_
      refine pv_aload_n E d_Ps_task_53 rfl rfl ?_
      refine pv_top (congrArg ps_ref hv) ?_
      refine gf_Task_owner E wd_713 d_Ps_task_54 ?_
      refine pv_top (congrArg ps_ref j1) ?_
      refine gf_Scope_number E wd_640 d_Ps_task_57 ?_
      refine pv_top (congrArg ps_int (hP.2.2.1.2.1 _ (hC.2.1.2.2.1 _ hc.2)).1.2.1) ?_
      exact pv_iret E hr hlk d_Ps_task_60 (by decide) (by decide) ⟨by rw [x_task, if_pos hc]; simp only [h10, h16_0, h16_1, if_true, if_false] <;> rfl, rfl⟩
    by_cases h16_2 : w = 2
    · refine pv_tableAt (tgt := 61) E 2 h16_2 d_Ps_task_16 (by decide) (by decide) rfl rfl ?_
      refine pv_aload_n E d_Ps_task_61 rfl rfl ?_
      refine pv_top (congrArg ps_ref hv) ?_
      refine gf_Task_worked E wd_723 d_Ps_task_62 ?_
      refine pv_top (congrArg ps_int j7) ?_
      exact pv_iret E hr hlk d_Ps_task_65 (by decide) (by decide) ⟨by rw [x_task, if_pos hc]; simp only [h10, h16_0, h16_1, h16_2, if_true, if_false] <;> rfl, rfl⟩
    by_cases h16_3 : w = 3
    · refine pv_tableAt (tgt := 66) E 3 h16_3 d_Ps_task_16 (by decide) (by decide) rfl rfl ?_
      refine pv_aload_n E d_Ps_task_66 rfl rfl ?_
      refine pv_top (congrArg ps_ref hv) ?_
      refine gf_Task_content E wd_726 d_Ps_task_67 ?_
      refine pv_top (congrArg ps_int j8) ?_
      exact pv_iret E hr hlk d_Ps_task_70 (by decide) (by decide) ⟨by rw [x_task, if_pos hc]; simp only [h10, h16_0, h16_1, h16_2, h16_3, if_true, if_false] <;> rfl, rfl⟩
    refine pv_tableOut (tgt := 71) E d_Ps_task_16 (by have e0 := lv_neT h16_0 (show Int32.toInt 0 = 0 by decide); have e1 := lv_neT h16_1 (show Int32.toInt 1 = 1 by decide); have e2 := lv_neT h16_2 (show Int32.toInt 2 = 2 by decide); have e3 := lv_neT h16_3 (show Int32.toInt 3 = 3 by decide); omega) rfl ?_
    refine pv_iconst (v := -1) E d_Ps_task_71 (by decide) ?_
    exact pv_iret E hr hlk d_Ps_task_72 (by decide) (by decide) ⟨by rw [x_task, if_pos hc]; simp only [h10, h16_0, h16_1, h16_2, h16_3, if_true, if_false] <;> rfl, rfl⟩
  · skip
    have hc : ¬ (¬ s < 0 ∧ s.toNatClampNeg < uN t) := fun z => by rw [u_find, if_pos z] at h10; cases h10
    refine pv_iconst (v := -1) E d_Ps_task_13 (by decide) ?_
    exact pv_iret E hr hlk d_Ps_task_14 (by decide) (by decide) ⟨by rw [x_task, if_neg hc], rfl⟩
