set_option maxHeartbeats 8000000 in
set_option maxRecDepth 100000 in
theorem k_Tree_isFullOfScopes (l : Launch) (D : va_G) (ca : Nat → ClassId) (A : Nat → Prop) (σ : ps_S)  (t : tT) (hT : RT σ t) (hW : tW t) : ∀ adr, ps_M l y_Tree_isFullOfScopes c_Tree_isFullOfScopes 1 (Option.some Jvm.ClassFile.FieldType.boolean) { frames := 0, cells := 0, slots := 0, locals := 0 } D ca A adr σ [ps_ref (some (7, 0))] (fun rv σ' => rv = some (ps_int (if tN t < 12 then 0 else 1)) ∧ σ' = σ) := by
  intro adr
  refine ps_M.of (by decide +kernel) (Nat.le_of_ble_eq_true rfl) ?_
  intro p_ e_ s_ m_ args_ below_ meth_ c_ E hr hlk hnm
  have h12 := hW.1
  refine pv_aload_n E d_Tree_isFullOfScopes_0 rfl rfl ?_
  refine gf_Tree_scopesMade E wd_80 d_Tree_isFullOfScopes_1 ?_
  refine pv_top (congrArg ps_int hT.1.2.1) ?_
  refine pv_bipush (v := 12) E d_Tree_isFullOfScopes_4 (by decide) ?_
  refine pv_icmp_lt (tgt := 13) E d_Tree_isFullOfScopes_6 rfl (fun h6 => ?_) (fun h6 => ?_)
  · skip
    rw [show (12 : Int32) = nI 12 from rfl, nI_ltI (by omega) (by decide)] at h6
    refine pv_iconst (v := 0) E d_Tree_isFullOfScopes_13 (by decide) ?_
    exact pv_zret E hr hlk d_Tree_isFullOfScopes_14 (by first | rfl | (apply ps_zb; assumption)) (by decide) (by decide) ⟨by rw [if_pos h6], rfl⟩
  · skip
    rw [show (12 : Int32) = nI 12 from rfl, nI_ltI (by omega) (by decide)] at h6
    refine pv_iconst (v := 1) E d_Tree_isFullOfScopes_9 (by decide) ?_
    refine pv_goto (tgt := 14) E d_Tree_isFullOfScopes_10 rfl ?_
    exact pv_zret E hr hlk d_Tree_isFullOfScopes_14 (by first | rfl | (apply ps_zb; assumption)) (by decide) (by decide) ⟨by rw [if_neg h6], rfl⟩
set_option maxHeartbeats 8000000 in
set_option maxRecDepth 100000 in
theorem k_Tree_isFullOfTasks (l : Launch) (D : va_G) (ca : Nat → ClassId) (A : Nat → Prop) (σ : ps_S)  (t : tT) (hT : RT σ t) (hW : tW t) : ∀ adr, ps_M l y_Tree_isFullOfTasks c_Tree_isFullOfTasks 1 (Option.some Jvm.ClassFile.FieldType.boolean) { frames := 0, cells := 0, slots := 0, locals := 0 } D ca A adr σ [ps_ref (some (7, 0))] (fun rv σ' => rv = some (ps_int (if uN t < 30 then 0 else 1)) ∧ σ' = σ) := by
  intro adr
  refine ps_M.of (by decide +kernel) (Nat.le_of_ble_eq_true rfl) ?_
  intro p_ e_ s_ m_ args_ below_ meth_ c_ E hr hlk hnm
  have h12 := hW.1
  refine pv_aload_n E d_Tree_isFullOfTasks_0 rfl rfl ?_
  refine gf_Tree_tasksMade E wd_82 d_Tree_isFullOfTasks_1 ?_
  refine pv_top (congrArg ps_int hT.1.2.2.1) ?_
  refine pv_bipush (v := 30) E d_Tree_isFullOfTasks_4 (by decide) ?_
  refine pv_icmp_lt (tgt := 13) E d_Tree_isFullOfTasks_6 rfl (fun h6 => ?_) (fun h6 => ?_)
  · skip
    rw [show (30 : Int32) = nI 30 from rfl, nI_ltI (by omega) (by decide)] at h6
    refine pv_iconst (v := 0) E d_Tree_isFullOfTasks_13 (by decide) ?_
    exact pv_zret E hr hlk d_Tree_isFullOfTasks_14 (by first | rfl | (apply ps_zb; assumption)) (by decide) (by decide) ⟨by rw [if_pos h6], rfl⟩
  · skip
    rw [show (30 : Int32) = nI 30 from rfl, nI_ltI (by omega) (by decide)] at h6
    refine pv_iconst (v := 1) E d_Tree_isFullOfTasks_9 (by decide) ?_
    refine pv_goto (tgt := 14) E d_Tree_isFullOfTasks_10 rfl ?_
    exact pv_zret E hr hlk d_Tree_isFullOfTasks_14 (by first | rfl | (apply ps_zb; assumption)) (by decide) (by decide) ⟨by rw [if_neg h6], rfl⟩
set_option maxHeartbeats 8000000 in
set_option maxRecDepth 100000 in
theorem k_Tree_find (l : Launch) (D : va_G) (ca : Nat → ClassId) (A : Nat → Prop) (σ : ps_S) (s : Int32) (t : tT) (hT : RT σ t) (hW : tW t) : ∀ adr, ps_M l y_Tree_find c_Tree_find 2 (Option.some (Jvm.ClassFile.FieldType.object "PromiseScopes$Scope")) { frames := 0, cells := 0, slots := 0, locals := 0 } D ca A adr σ [ps_ref (some (7, 0)), ps_int s] (fun rv σ' => rv = some (ps_ref (t_find t s)) ∧ σ' = σ) := by
  intro adr
  refine ps_M.of (by decide +kernel) (Nat.le_of_ble_eq_true rfl) ?_
  intro p_ e_ s_ m_ args_ below_ meth_ c_ E hr hlk hnm
  have h12 := hW.1
  refine pv_iload_n E d_Tree_find_0 rfl rfl ?_
  refine pv_if_lt (tgt := 21) E d_Tree_find_1 rfl (fun h1 => ?_) (fun h1 => ?_)
  · skip
    refine pv_null E d_Tree_find_21 ?_
    exact pv_aret E hr (Or.inl ⟨_, rfl⟩) hlk d_Tree_find_22 (by decide) (by decide) ⟨by rw [t_find, if_neg (fun z => z.1 h1)], rfl⟩
  · skip
    refine pv_iload_n E d_Tree_find_4 rfl rfl ?_
    refine pv_aload_n E d_Tree_find_5 rfl rfl ?_
    refine gf_Tree_scopesMade E wd_80 d_Tree_find_6 ?_
    refine pv_top (congrArg ps_int hT.1.2.1) ?_
    refine pv_icmp_ge (tgt := 21) E d_Tree_find_9 rfl (fun h9 => ?_) (fun h9 => ?_)
    · skip
      rw [nI_le_s (by omega) h1] at h9
      refine pv_null E d_Tree_find_21 ?_
      exact pv_aret E hr (Or.inl ⟨_, rfl⟩) hlk d_Tree_find_22 (by decide) (by decide) ⟨by rw [t_find, if_neg (fun z => absurd z.2 (Nat.not_lt.mpr h9))], rfl⟩
    · skip
      rw [nI_le_s (by omega) h1] at h9
      have hc : ¬ s < 0 ∧ s.toNatClampNeg < tN t := ⟨h1, Nat.lt_of_not_le h9⟩
      refine pv_aload_n E d_Tree_find_12 rfl rfl ?_
      refine gf_Tree_scopes E wd_78 d_Tree_find_13 ?_
      refine pv_top (congrArg ps_ref hT.1.1.1) ?_
      refine pv_iload_n E d_Tree_find_16 rfl rfl ?_
      refine pv_aaload (t0 := 1) E 8 _ (fun _ _ _ _ _ => rfl) rfl (by rw [hT.1.1.2.2.1]; exact fun z => z.elim h1 (fun z => by omega)) d_Tree_find_17 ?_
      refine pv_top (congrArg ps_ref (hT.2.1 _ hc.2).1.1) ?_
      refine pv_goto (tgt := 22) E d_Tree_find_18 rfl ?_
      exact pv_aret E hr (Or.inl ⟨_, rfl⟩) hlk d_Tree_find_22 (by decide) (by decide) ⟨by rw [t_find, if_pos hc], rfl⟩
set_option maxHeartbeats 8000000 in
set_option maxRecDepth 100000 in
theorem k_Tree_findOpen (l : Launch) (D : va_G) (ca : Nat → ClassId) (A : Nat → Prop) (σ : ps_S) (s : Int32) (t : tT) (hT : RT σ t) (hW : tW t) : ∀ adr, ps_M l y_Tree_findOpen c_Tree_findOpen 3 (Option.some (Jvm.ClassFile.FieldType.object "PromiseScopes$Scope")) { frames := 1, cells := 0, slots := 0, locals := 21 } D ca A adr σ [ps_ref (some (7, 0)), ps_int s] (fun rv σ' => rv = some (ps_ref (t_fopn t s)) ∧ σ' = σ) := by
  intro adr
  refine ps_M.of (by decide +kernel) (Nat.le_of_ble_eq_true rfl) ?_
  intro p_ e_ s_ m_ args_ below_ meth_ c_ E hr hlk hnm
  refine pv_aload_n E d_Tree_findOpen_0 rfl rfl ?_
  refine pv_iload_n E d_Tree_findOpen_1 rfl rfl ?_
  refine pv_callV E (fun adr => k_Tree_find l D ca A _ s t hT hW adr) yv_Tree_find wd_269 rfl rfl (fun _ => ⟨_, rfl⟩) rfl ⟨by decide, by decide⟩ (Nat.le_of_ble_eq_true rfl) d_Tree_findOpen_2 ⟨by decide, by decide⟩ (fun r2 σ2 hq2 => ?_)
  obtain ⟨hr2, hs2⟩ := hq2
  subst r2
  subst σ2
  refine pv_astore_n E d_Tree_findOpen_5 rfl (by decide) ?_
  refine pv_aload_n E d_Tree_findOpen_6 rfl rfl ?_
  refine pv_ifnull (tgt := 21) E d_Tree_findOpen_7 rfl (fun h7 => ?_) (fun q7 h7 => ?_)
  · skip
    have hc : ¬ (¬ s < 0 ∧ s.toNatClampNeg < tN t) := fun z => by rw [t_find, if_pos z] at h7; cases h7
    refine pv_null E d_Tree_findOpen_21 ?_
    exact pv_aret E hr (Or.inl ⟨_, rfl⟩) hlk d_Tree_findOpen_22 (by decide) (by decide) ⟨by rw [t_fopn, if_neg (fun z => hc z.1)], rfl⟩
  · skip
    have hc : ¬ s < 0 ∧ s.toNatClampNeg < tN t := by
      by_cases z : ¬ s < 0 ∧ s.toNatClampNeg < tN t
      · exact z
      · rw [t_find, if_neg z] at h7; cases h7
    have hv : t_find t s = some (5, s.toNatClampNeg) := if_pos hc
    refine pv_aload_n E d_Tree_findOpen_10 rfl rfl ?_
    refine pv_top (congrArg ps_ref hv) ?_
    refine gf_Scope_state E wd_652 d_Tree_findOpen_11 ?_
    refine pv_top (congrArg ps_int (hT.2.1 _ hc.2).2.2.1) ?_
    refine pv_if_ne (tgt := 21) E d_Tree_findOpen_14 rfl (fun h14 => ?_) (fun h14 => ?_)
    · skip
      refine pv_null E d_Tree_findOpen_21 ?_
      exact pv_aret E hr (Or.inl ⟨_, rfl⟩) hlk d_Tree_findOpen_22 (by decide) (by decide) ⟨by rw [t_fopn, if_neg (fun z => h14 z.2)], rfl⟩
    · skip
      refine pv_aload_n E d_Tree_findOpen_17 rfl rfl ?_
      refine pv_top (congrArg ps_ref hv) ?_
      refine pv_goto (tgt := 22) E d_Tree_findOpen_18 rfl ?_
      exact pv_aret E hr (Or.inl ⟨_, rfl⟩) hlk d_Tree_findOpen_22 (by decide) (by decide) ⟨by rw [t_fopn, if_pos ⟨hc, h14⟩], rfl⟩
set_option maxHeartbeats 8000000 in
set_option maxRecDepth 100000 in
theorem k_Tree_findTask (l : Launch) (D : va_G) (ca : Nat → ClassId) (A : Nat → Prop) (σ : ps_S) (s : Int32) (t : tT) (hT : RT σ t) (hW : tW t) : ∀ adr, ps_M l y_Tree_findTask c_Tree_findTask 2 (Option.some (Jvm.ClassFile.FieldType.object "PromiseScopes$Task")) { frames := 0, cells := 0, slots := 0, locals := 0 } D ca A adr σ [ps_ref (some (7, 0)), ps_int s] (fun rv σ' => rv = some (ps_ref (u_find t s)) ∧ σ' = σ) := by
  intro adr
  refine ps_M.of (by decide +kernel) (Nat.le_of_ble_eq_true rfl) ?_
  intro p_ e_ s_ m_ args_ below_ meth_ c_ E hr hlk hnm
  have h12 := hW.1
  refine pv_iload_n E d_Tree_findTask_0 rfl rfl ?_
  refine pv_if_lt (tgt := 21) E d_Tree_findTask_1 rfl (fun h1 => ?_) (fun h1 => ?_)
  · skip
    refine pv_null E d_Tree_findTask_21 ?_
    exact pv_aret E hr (Or.inl ⟨_, rfl⟩) hlk d_Tree_findTask_22 (by decide) (by decide) ⟨by rw [u_find, if_neg (fun z => z.1 h1)], rfl⟩
  · skip
    refine pv_iload_n E d_Tree_findTask_4 rfl rfl ?_
    refine pv_aload_n E d_Tree_findTask_5 rfl rfl ?_
    refine gf_Tree_tasksMade E wd_82 d_Tree_findTask_6 ?_
    refine pv_top (congrArg ps_int hT.1.2.2.1) ?_
    refine pv_icmp_ge (tgt := 21) E d_Tree_findTask_9 rfl (fun h9 => ?_) (fun h9 => ?_)
    · skip
      rw [nI_le_s (by omega) h1] at h9
      refine pv_null E d_Tree_findTask_21 ?_
      exact pv_aret E hr (Or.inl ⟨_, rfl⟩) hlk d_Tree_findTask_22 (by decide) (by decide) ⟨by rw [u_find, if_neg (fun z => absurd z.2 (Nat.not_lt.mpr h9))], rfl⟩
    · skip
      rw [nI_le_s (by omega) h1] at h9
      have hc : ¬ s < 0 ∧ s.toNatClampNeg < uN t := ⟨h1, Nat.lt_of_not_le h9⟩
      refine pv_aload_n E d_Tree_findTask_12 rfl rfl ?_
      refine gf_Tree_tasks E wd_79 d_Tree_findTask_13 ?_
      refine pv_top (congrArg ps_ref hT.1.1.2.1) ?_
      refine pv_iload_n E d_Tree_findTask_16 rfl rfl ?_
      refine pv_aaload (t0 := 2) E 9 _ (fun _ _ _ _ _ => rfl) rfl (by rw [hT.1.1.2.2.2.1]; exact fun z => z.elim h1 (fun z => by omega)) d_Tree_findTask_17 ?_
      refine pv_top (congrArg ps_ref (hT.2.2 _ hc.2).1.1) ?_
      refine pv_goto (tgt := 22) E d_Tree_findTask_18 rfl ?_
      exact pv_aret E hr (Or.inl ⟨_, rfl⟩) hlk d_Tree_findTask_22 (by decide) (by decide) ⟨by rw [u_find, if_pos hc], rfl⟩
set_option maxHeartbeats 8000000 in
set_option maxRecDepth 100000 in
theorem k_Tree_countTasks (l : Launch) (D : va_G) (ca : Nat → ClassId) (A : Nat → Prop) (σ : ps_S) (c : Nat) (s : Int32) (t : tT) (hT : RT σ t) (hW : tW t) : ∀ adr, ps_M l y_Tree_countTasks c_Tree_countTasks 5 (Option.some Jvm.ClassFile.FieldType.int) { frames := 0, cells := 0, slots := 0, locals := 0 } D ca A adr σ [ps_ref (some (7, 0)), ps_ref (some (5, c)), ps_int s] (fun rv σ' => rv = some (ps_int (nI (u_cnt t c s (uN t)))) ∧ σ' = σ) := by
  intro adr
  refine ps_M.of (by decide +kernel) (Nat.le_of_ble_eq_true rfl) ?_
  intro p_ e_ s_ m_ args_ below_ meth_ c_ E hr hlk hnm
  have h12 := hW.1
  refine pv_iconst (v := 0) E d_Tree_countTasks_0 (by decide) ?_
  refine pv_istore_n E d_Tree_countTasks_1 rfl (by decide) ?_
  refine pv_iconst (v := 0) E d_Tree_countTasks_2 (by decide) ?_
  refine pv_istore E d_Tree_countTasks_3 (by decide) ?_
  refine pv_sub (L' := [(0, ps_ref (some (7, 0))), (1, ps_ref (some (5, c))), (2, ps_int s), (3, ps_int (nI 0)), (4, ps_int (nI 0))]) ⟨rfl, rfl, rfl, rfl, rfl, trivial⟩ ?_
  refine pv_loop (ι := Nat) (fun i => uN t - i) (fun i => [(0, ps_ref (some (7, 0))), (1, ps_ref (some (5, c))), (2, ps_int s), (3, ps_int (nI (u_cnt t c s i))), (4, ps_int (nI i))]) (fun _ => σ) (fun i => i ≤ uN t) (fun i hi ih => ?_) 0 (Nat.zero_le _)
  dsimp only at hi ih ⊢
  refine pv_iload E d_Tree_countTasks_5 rfl ?_
  refine pv_aload_n E d_Tree_countTasks_7 rfl rfl ?_
  refine gf_Tree_tasksMade E wd_82 d_Tree_countTasks_8 ?_
  refine pv_top (congrArg ps_int hT.1.2.2.1) ?_
  refine pv_icmp_ge (tgt := 51) E d_Tree_countTasks_11 rfl (fun h11 => ?_) (fun h11 => ?_)
  · skip
    have hi2 : uN t ≤ i := (nI_leI (by omega) (by omega)).mp h11
    refine pv_iload_n E d_Tree_countTasks_51 rfl rfl ?_
    exact pv_iret E hr hlk d_Tree_countTasks_52 (by decide) (by decide) ⟨by rw [show uN t = i by omega], rfl⟩
  · skip
    have hlt : i < uN t := Nat.lt_of_not_le (fun z => h11 ((nI_leI (by omega) (by omega)).mpr z))
    obtain ⟨⟨j0, j1, j2, j3, j4, j5⟩, j6, j7, j8, j9⟩ := hT.2.2 i hlt
    refine pv_aload_n E d_Tree_countTasks_14 rfl rfl ?_
    refine gf_Tree_tasks E wd_79 d_Tree_countTasks_15 ?_
    refine pv_top (congrArg ps_ref hT.1.1.2.1) ?_
    refine pv_iload E d_Tree_countTasks_18 rfl ?_
    refine pv_aaload (t0 := 2) E 9 _ (fun _ _ _ _ _ => rfl) rfl (by rw [hT.1.1.2.2.2.1]; exact vp_in_nI (by omega) (by decide)) d_Tree_countTasks_20 ?_
    rw [nI_clamp (show i < 2 ^ 31 by omega)]
    refine pv_top (congrArg ps_ref j0) ?_
    refine gf_Task_owner E wd_712 d_Tree_countTasks_21 ?_
    refine pv_top (congrArg ps_ref j1) ?_
    refine pv_aload_n E d_Tree_countTasks_24 rfl rfl ?_
    refine pv_acmp_ne (tgt := 45) E d_Tree_countTasks_25 rfl (fun h25 => ?_) (fun h25 => ?_)
    · skip
      refine pv_inc1 E d_Tree_countTasks_45 rfl (by decide) ?_
      refine pv_goto (tgt := 5) E d_Tree_countTasks_48 rfl ?_
      exact pv_back (ih (i + 1) (by show i + 1 ≤ uN t; omega) (by show _ - (i + 1) < _ - i; omega)) ⟨rfl, rfl, rfl, by show some (ps_int _) = some (ps_int _); rw [u_cnt, if_neg (fun z => h25 (by rw [z.1]))]; rfl, congrArg (fun z : Int32 => some (ps_int z)) (nI_1 i), trivial⟩
    · skip
      refine pv_aload_n E d_Tree_countTasks_28 rfl rfl ?_
      refine gf_Tree_tasks E wd_79 d_Tree_countTasks_29 ?_
      refine pv_top (congrArg ps_ref hT.1.1.2.1) ?_
      refine pv_iload E d_Tree_countTasks_32 rfl ?_
      refine pv_aaload (t0 := 2) E 9 _ (fun _ _ _ _ _ => rfl) rfl (by rw [hT.1.1.2.2.2.1]; exact vp_in_nI (by omega) (by decide)) d_Tree_countTasks_34 ?_
      rw [nI_clamp (show i < 2 ^ 31 by omega)]
      refine pv_top (congrArg ps_ref j0) ?_
      refine gf_Task_state E wd_720 d_Tree_countTasks_35 ?_
      refine pv_top (congrArg ps_int j6) ?_
      refine pv_iload_n E d_Tree_countTasks_38 rfl rfl ?_
      refine pv_icmp_ne (tgt := 45) E d_Tree_countTasks_39 rfl (fun h39 => ?_) (fun h39 => ?_)
      · skip
        refine pv_inc1 E d_Tree_countTasks_45 rfl (by decide) ?_
        refine pv_goto (tgt := 5) E d_Tree_countTasks_48 rfl ?_
        exact pv_back (ih (i + 1) (by show i + 1 ≤ uN t; omega) (by show _ - (i + 1) < _ - i; omega)) ⟨rfl, rfl, rfl, by show some (ps_int _) = some (ps_int _); rw [u_cnt, if_neg (fun z => h39 z.2)]; rfl, congrArg (fun z : Int32 => some (ps_int z)) (nI_1 i), trivial⟩
      · skip
        refine pv_inc1 E d_Tree_countTasks_42 rfl (by decide) ?_
        refine pv_inc1 E d_Tree_countTasks_45 rfl (by decide) ?_
        refine pv_goto (tgt := 5) E d_Tree_countTasks_48 rfl ?_
        exact pv_back (ih (i + 1) (by show i + 1 ≤ uN t; omega) (by show _ - (i + 1) < _ - i; omega)) ⟨rfl, rfl, rfl, by show some (ps_int _) = some (ps_int _); rw [u_cnt, if_pos ⟨by injection h25 with z; injection z, h39⟩, nI_1], congrArg (fun z : Int32 => some (ps_int z)) (nI_1 i), trivial⟩
set_option maxHeartbeats 8000000 in
set_option maxRecDepth 100000 in
theorem k_Tree_hasOpenBelow (l : Launch) (D : va_G) (ca : Nat → ClassId) (A : Nat → Prop) (σ : ps_S) (c : Nat) (t : tT) (hT : RT σ t) (hW : tW t) : ∀ adr, ps_M l y_Tree_hasOpenBelow c_Tree_hasOpenBelow 3 (Option.some Jvm.ClassFile.FieldType.boolean) { frames := 1, cells := 0, slots := 0, locals := 22 } D ca A adr σ [ps_ref (some (7, 0)), ps_ref (some (5, c))] (fun rv σ' => rv = some (ps_int (if t_opn t c = true then 1 else 0)) ∧ σ' = σ) := by
  intro adr
  refine ps_M.of (by decide +kernel) (Nat.le_of_ble_eq_true rfl) ?_
  intro p_ e_ s_ m_ args_ below_ meth_ c_ E hr hlk hnm
  have h12 := hW.1
  refine pv_iconst (v := 0) E d_Tree_hasOpenBelow_0 (by decide) ?_
  refine pv_istore_n E d_Tree_hasOpenBelow_1 rfl (by decide) ?_
  refine pv_sub (L' := [(0, ps_ref (some (7, 0))), (1, ps_ref (some (5, c))), (2, ps_int (nI 0))]) ⟨rfl, rfl, rfl, trivial⟩ ?_
  refine pv_loop (ι := Nat) (fun i => tN t - i) (fun i => [(0, ps_ref (some (7, 0))), (1, ps_ref (some (5, c))), (2, ps_int (nI i))]) (fun _ => σ) (fun i => i ≤ tN t ∧ anyN (fun i => decide (tS t i 2 = 0) && t_low t i c) i = false) (fun i hx ih => ?_) 0 ⟨Nat.zero_le _, rfl⟩
  obtain ⟨hi, hno⟩ := hx
  dsimp only at hi hno ih ⊢
  refine pv_iload_n E d_Tree_hasOpenBelow_2 rfl rfl ?_
  refine pv_aload_n E d_Tree_hasOpenBelow_3 rfl rfl ?_
  refine gf_Tree_scopesMade E wd_80 d_Tree_hasOpenBelow_4 ?_
  refine pv_top (congrArg ps_int hT.1.2.1) ?_
  refine pv_icmp_ge (tgt := 43) E d_Tree_hasOpenBelow_7 rfl (fun h7 => ?_) (fun h7 => ?_)
  · skip
    have hi2 : tN t ≤ i := (nI_leI (by omega) (by omega)).mp h7
    refine pv_iconst (v := 0) E d_Tree_hasOpenBelow_43 (by decide) ?_
    exact pv_zret E hr hlk d_Tree_hasOpenBelow_44 (by first | rfl | (apply ps_zb; assumption)) (by decide) (by decide) ⟨by rw [t_opn, show tN t = i by omega, hno]; rfl, rfl⟩
  · skip
    have hlt : i < tN t := Nat.lt_of_not_le (fun z => h7 ((nI_leI (by omega) (by omega)).mpr z))
    obtain ⟨⟨b0, b1, b2, b3, b4, b5⟩, ⟨d1, d2, d3, d4, d5⟩, b6, b7, b8⟩ := hT.2.1 i hlt
    refine pv_aload_n E d_Tree_hasOpenBelow_10 rfl rfl ?_
    refine gf_Tree_scopes E wd_78 d_Tree_hasOpenBelow_11 ?_
    refine pv_top (congrArg ps_ref hT.1.1.1) ?_
    refine pv_iload_n E d_Tree_hasOpenBelow_14 rfl rfl ?_
    refine pv_aaload (t0 := 1) E 8 _ (fun _ _ _ _ _ => rfl) rfl (by rw [hT.1.1.2.2.1]; exact vp_in_nI (by omega) (by decide)) d_Tree_hasOpenBelow_15 ?_
    rw [nI_clamp (show i < 2 ^ 31 by omega)]
    refine pv_top (congrArg ps_ref b0) ?_
    refine gf_Scope_state E wd_652 d_Tree_hasOpenBelow_16 ?_
    refine pv_top (congrArg ps_int b6) ?_
    refine pv_if_ne (tgt := 37) E d_Tree_hasOpenBelow_19 rfl (fun h19 => ?_) (fun h19 => ?_)
    · skip
      refine pv_inc1 E d_Tree_hasOpenBelow_37 rfl (by decide) ?_
      refine pv_goto (tgt := 2) E d_Tree_hasOpenBelow_40 rfl ?_
      exact pv_back (ih (i + 1) ⟨by omega, by rw [anyN, hno, Bool.false_or]; simp [h19]⟩ (by show _ - (i + 1) < _ - i; omega)) ⟨rfl, rfl, congrArg (fun z : Int32 => some (ps_int z)) (nI_1 i), trivial⟩
    · skip
      refine pv_aload_n E d_Tree_hasOpenBelow_22 rfl rfl ?_
      refine gf_Tree_scopes E wd_78 d_Tree_hasOpenBelow_23 ?_
      refine pv_top (congrArg ps_ref hT.1.1.1) ?_
      refine pv_iload_n E d_Tree_hasOpenBelow_26 rfl rfl ?_
      refine pv_aaload (t0 := 1) E 8 _ (fun _ _ _ _ _ => rfl) rfl (by rw [hT.1.1.2.2.1]; exact vp_in_nI (by omega) (by decide)) d_Tree_hasOpenBelow_27 ?_
      rw [nI_clamp (show i < 2 ^ 31 by omega)]
      refine pv_top (congrArg ps_ref b0) ?_
      refine pv_aload_n E d_Tree_hasOpenBelow_28 rfl rfl ?_
      refine pv_callV E (fun adr => k_Scope_isBelow l D ca A _ i c t hT hW hlt adr) yv_Scope_isBelow wd_288 rfl rfl (fun _ => ⟨_, rfl⟩) rfl ⟨by decide, by decide⟩ (Nat.le_of_ble_eq_true rfl) d_Tree_hasOpenBelow_29 ⟨by decide, by decide⟩ (fun r29 σ29 hq29 => ?_)
      obtain ⟨hr29, hs29⟩ := hq29
      subst r29
      subst σ29
      refine pv_if_eq (tgt := 37) E d_Tree_hasOpenBelow_32 rfl (fun h32 => ?_) (fun h32 => ?_)
      · skip
        have hlow : t_low t i c = false := by
          cases z : t_low t i c with
          | false => rfl
          | true => rw [if_pos z] at h32; exact absurd h32 (by decide)
        refine pv_inc1 E d_Tree_hasOpenBelow_37 rfl (by decide) ?_
        refine pv_goto (tgt := 2) E d_Tree_hasOpenBelow_40 rfl ?_
        exact pv_back (ih (i + 1) ⟨by omega, by rw [anyN, hno, Bool.false_or]; simp [hlow]⟩ (by show _ - (i + 1) < _ - i; omega)) ⟨rfl, rfl, congrArg (fun z : Int32 => some (ps_int z)) (nI_1 i), trivial⟩
      · skip
        have hlow : t_low t i c = true := by
          cases z : t_low t i c with
          | false => rw [if_neg (by rw [z]; decide)] at h32; exact absurd rfl h32
          | true => rfl
        refine pv_iconst (v := 1) E d_Tree_hasOpenBelow_35 (by decide) ?_
        exact pv_zret E hr hlk d_Tree_hasOpenBelow_36 (by first | rfl | (apply ps_zb; assumption)) (by decide) (by decide) ⟨by rw [t_opn, anyN_t (i := i) (by simp [h19, hlow]) _ hlt]; rfl, rfl⟩
set_option maxHeartbeats 8000000 in
set_option maxRecDepth 100000 in
theorem k_Tree_hasUnclosedBelow (l : Launch) (D : va_G) (ca : Nat → ClassId) (A : Nat → Prop) (σ : ps_S) (c : Nat) (t : tT) (hT : RT σ t) (hW : tW t) : ∀ adr, ps_M l y_Tree_hasUnclosedBelow c_Tree_hasUnclosedBelow 3 (Option.some Jvm.ClassFile.FieldType.boolean) { frames := 1, cells := 0, slots := 0, locals := 22 } D ca A adr σ [ps_ref (some (7, 0)), ps_ref (some (5, c))] (fun rv σ' => rv = some (ps_int (if t_unc t c = true then 1 else 0)) ∧ σ' = σ) := by
  intro adr
  refine ps_M.of (by decide +kernel) (Nat.le_of_ble_eq_true rfl) ?_
  intro p_ e_ s_ m_ args_ below_ meth_ c_ E hr hlk hnm
  have h12 := hW.1
  refine pv_iconst (v := 0) E d_Tree_hasUnclosedBelow_0 (by decide) ?_
  refine pv_istore_n E d_Tree_hasUnclosedBelow_1 rfl (by decide) ?_
  refine pv_sub (L' := [(0, ps_ref (some (7, 0))), (1, ps_ref (some (5, c))), (2, ps_int (nI 0))]) ⟨rfl, rfl, rfl, trivial⟩ ?_
  refine pv_loop (ι := Nat) (fun i => tN t - i) (fun i => [(0, ps_ref (some (7, 0))), (1, ps_ref (some (5, c))), (2, ps_int (nI i))]) (fun _ => σ) (fun i => i ≤ tN t ∧ anyN (fun i => !decide (tS t i 2 = 2) && t_low t i c) i = false) (fun i hx ih => ?_) 0 ⟨Nat.zero_le _, rfl⟩
  obtain ⟨hi, hno⟩ := hx
  dsimp only at hi hno ih ⊢
  refine pv_iload_n E d_Tree_hasUnclosedBelow_2 rfl rfl ?_
  refine pv_aload_n E d_Tree_hasUnclosedBelow_3 rfl rfl ?_
  refine gf_Tree_scopesMade E wd_80 d_Tree_hasUnclosedBelow_4 ?_
  refine pv_top (congrArg ps_int hT.1.2.1) ?_
  refine pv_icmp_ge (tgt := 44) E d_Tree_hasUnclosedBelow_7 rfl (fun h7 => ?_) (fun h7 => ?_)
  · skip
    have hi2 : tN t ≤ i := (nI_leI (by omega) (by omega)).mp h7
    refine pv_iconst (v := 0) E d_Tree_hasUnclosedBelow_44 (by decide) ?_
    exact pv_zret E hr hlk d_Tree_hasUnclosedBelow_45 (by first | rfl | (apply ps_zb; assumption)) (by decide) (by decide) ⟨by rw [t_unc, show tN t = i by omega, hno]; rfl, rfl⟩
  · skip
    have hlt : i < tN t := Nat.lt_of_not_le (fun z => h7 ((nI_leI (by omega) (by omega)).mpr z))
    obtain ⟨⟨b0, b1, b2, b3, b4, b5⟩, ⟨d1, d2, d3, d4, d5⟩, b6, b7, b8⟩ := hT.2.1 i hlt
    refine pv_aload_n E d_Tree_hasUnclosedBelow_10 rfl rfl ?_
    refine gf_Tree_scopes E wd_78 d_Tree_hasUnclosedBelow_11 ?_
    refine pv_top (congrArg ps_ref hT.1.1.1) ?_
    refine pv_iload_n E d_Tree_hasUnclosedBelow_14 rfl rfl ?_
    refine pv_aaload (t0 := 1) E 8 _ (fun _ _ _ _ _ => rfl) rfl (by rw [hT.1.1.2.2.1]; exact vp_in_nI (by omega) (by decide)) d_Tree_hasUnclosedBelow_15 ?_
    rw [nI_clamp (show i < 2 ^ 31 by omega)]
    refine pv_top (congrArg ps_ref b0) ?_
    refine gf_Scope_state E wd_652 d_Tree_hasUnclosedBelow_16 ?_
    refine pv_top (congrArg ps_int b6) ?_
    refine pv_iconst (v := 2) E d_Tree_hasUnclosedBelow_19 (by decide) ?_
    refine pv_icmp_eq (tgt := 38) E d_Tree_hasUnclosedBelow_20 rfl (fun h20 => ?_) (fun h20 => ?_)
    · skip
      refine pv_inc1 E d_Tree_hasUnclosedBelow_38 rfl (by decide) ?_
      refine pv_goto (tgt := 2) E d_Tree_hasUnclosedBelow_41 rfl ?_
      exact pv_back (ih (i + 1) ⟨by omega, by rw [anyN, hno, Bool.false_or]; simp [h20]⟩ (by show _ - (i + 1) < _ - i; omega)) ⟨rfl, rfl, congrArg (fun z : Int32 => some (ps_int z)) (nI_1 i), trivial⟩
    · skip
      refine pv_aload_n E d_Tree_hasUnclosedBelow_23 rfl rfl ?_
      refine gf_Tree_scopes E wd_78 d_Tree_hasUnclosedBelow_24 ?_
      refine pv_top (congrArg ps_ref hT.1.1.1) ?_
      refine pv_iload_n E d_Tree_hasUnclosedBelow_27 rfl rfl ?_
      refine pv_aaload (t0 := 1) E 8 _ (fun _ _ _ _ _ => rfl) rfl (by rw [hT.1.1.2.2.1]; exact vp_in_nI (by omega) (by decide)) d_Tree_hasUnclosedBelow_28 ?_
      rw [nI_clamp (show i < 2 ^ 31 by omega)]
      refine pv_top (congrArg ps_ref b0) ?_
      refine pv_aload_n E d_Tree_hasUnclosedBelow_29 rfl rfl ?_
      refine pv_callV E (fun adr => k_Scope_isBelow l D ca A _ i c t hT hW hlt adr) yv_Scope_isBelow wd_288 rfl rfl (fun _ => ⟨_, rfl⟩) rfl ⟨by decide, by decide⟩ (Nat.le_of_ble_eq_true rfl) d_Tree_hasUnclosedBelow_30 ⟨by decide, by decide⟩ (fun r30 σ30 hq30 => ?_)
      obtain ⟨hr30, hs30⟩ := hq30
      subst r30
      subst σ30
      refine pv_if_eq (tgt := 38) E d_Tree_hasUnclosedBelow_33 rfl (fun h33 => ?_) (fun h33 => ?_)
      · skip
        have hlow : t_low t i c = false := by
          cases z : t_low t i c with
          | false => rfl
          | true => rw [if_pos z] at h33; exact absurd h33 (by decide)
        refine pv_inc1 E d_Tree_hasUnclosedBelow_38 rfl (by decide) ?_
        refine pv_goto (tgt := 2) E d_Tree_hasUnclosedBelow_41 rfl ?_
        exact pv_back (ih (i + 1) ⟨by omega, by rw [anyN, hno, Bool.false_or]; simp [hlow]⟩ (by show _ - (i + 1) < _ - i; omega)) ⟨rfl, rfl, congrArg (fun z : Int32 => some (ps_int z)) (nI_1 i), trivial⟩
      · skip
        have hlow : t_low t i c = true := by
          cases z : t_low t i c with
          | false => rw [if_neg (by rw [z]; decide)] at h33; exact absurd rfl h33
          | true => rfl
        refine pv_iconst (v := 1) E d_Tree_hasUnclosedBelow_36 (by decide) ?_
        exact pv_zret E hr hlk d_Tree_hasUnclosedBelow_37 (by first | rfl | (apply ps_zb; assumption)) (by decide) (by decide) ⟨by rw [t_unc, anyN_t (i := i) (by simp [h20, hlow]) _ hlt]; rfl, rfl⟩
set_option maxHeartbeats 8000000 in
set_option maxRecDepth 100000 in
theorem k_Tree_cancelTasks (l : Launch) (D : va_G) (ca : Nat → ClassId) (A : Nat → Prop) (σ : ps_S) (c : Nat) (t : tT) (hT0 : RT σ t) (hW : tW t) : ∀ adr, ps_M l y_Tree_cancelTasks c_Tree_cancelTasks 3 (Option.none : Option Jvm.ClassFile.FieldType) { frames := 0, cells := 0, slots := 0, locals := 0 } D ca A adr σ [ps_ref (some (7, 0)), ps_ref (some (5, c))] (fun rv σ' => rv = none ∧ RT σ' (u_can t c (uN t)) ∧ FrT σ σ' ∧ ps_N σ' = ps_N σ) := by
  intro adr
  refine ps_M.of (by decide +kernel) (Nat.le_of_ble_eq_true rfl) ?_
  intro p_ e_ s_ m_ args_ below_ meth_ c_ E hr hlk hnm
  have h12 := hW.1
  refine pv_iconst (v := 0) E d_Tree_cancelTasks_0 (by decide) ?_
  refine pv_istore_n E d_Tree_cancelTasks_1 rfl (by decide) ?_
  refine pv_sub (L' := [(0, ps_ref (some (7, 0))), (1, ps_ref (some (5, c))), (2, ps_int (nI 0))]) ⟨rfl, rfl, rfl, trivial⟩ ?_
  refine pv_loop (ι := Nat × ps_S) (fun x => uN t - x.1) (fun x => [(0, ps_ref (some (7, 0))), (1, ps_ref (some (5, c))), (2, ps_int (nI x.1))]) (fun x => x.2) (fun x => x.1 ≤ uN t ∧ RT x.2 (u_can t c x.1) ∧ FrT σ x.2 ∧ ps_N x.2 = ps_N σ) (fun x hx ih => ?_) (0, σ) ⟨Nat.zero_le _, hT0, FrT.rf σ, rfl⟩
  obtain ⟨i, τ⟩ := x
  obtain ⟨hi, hT, hFr, hN⟩ := hx
  dsimp only at hi hT hFr hN ih ⊢
  have hk := tKeep.can t c i
  refine pv_iload_n E d_Tree_cancelTasks_2 rfl rfl ?_
  refine pv_aload_n E d_Tree_cancelTasks_3 rfl rfl ?_
  refine gf_Tree_tasksMade E wd_82 d_Tree_cancelTasks_4 ?_
  refine pv_top (congrArg ps_int (hT.1.2.2.1.trans (by rw [hk.2.1]))) ?_
  refine pv_icmp_ge (tgt := 51) E d_Tree_cancelTasks_7 rfl (fun h7 => ?_) (fun h7 => ?_)
  · skip
    have hi2 : uN t ≤ i := (nI_leI (by omega) (by omega)).mp h7
    exact pv_vret E hr hlk d_Tree_cancelTasks_51 (by decide) (by decide) ⟨rfl, by rw [show uN t = i by omega]; exact hT, hFr, hN⟩
  · skip
    have hlt : i < uN t := Nat.lt_of_not_le (fun z => h7 ((nI_leI (by omega) (by omega)).mpr z))
    obtain ⟨⟨j0, j1, j2, j3, j4, j5⟩, j6, j7, j8, j9⟩ := hT.2.2 i (by rw [hk.2.1]; exact hlt)
    refine pv_aload_n E d_Tree_cancelTasks_10 rfl rfl ?_
    refine gf_Tree_tasks E wd_79 d_Tree_cancelTasks_11 ?_
    refine pv_top (congrArg ps_ref hT.1.1.2.1) ?_
    refine pv_iload_n E d_Tree_cancelTasks_14 rfl rfl ?_
    refine pv_aaload (t0 := 2) E 9 _ (fun _ _ _ _ _ => rfl) rfl (by rw [hT.1.1.2.2.2.1]; exact vp_in_nI (by omega) (by decide)) d_Tree_cancelTasks_15 ?_
    rw [nI_clamp (show i < 2 ^ 31 by omega)]
    refine pv_top (congrArg ps_ref j0) ?_
    refine gf_Task_owner E wd_712 d_Tree_cancelTasks_16 ?_
    refine pv_top (congrArg ps_ref j1) ?_
    refine pv_aload_n E d_Tree_cancelTasks_19 rfl rfl ?_
    refine pv_acmp_ne (tgt := 45) E d_Tree_cancelTasks_20 rfl (fun h20 => ?_) (fun h20 => ?_)
    · skip
      refine pv_inc1 E d_Tree_cancelTasks_45 rfl (by decide) ?_
      refine pv_goto (tgt := 2) E d_Tree_cancelTasks_48 rfl ?_
      exact pv_back (ih (i + 1, τ) ⟨by omega, by rw [u_can, if_neg (fun z => h20 (by rw [z.1]))]; exact hT, hFr, hN⟩ (by show _ - (i + 1) < _ - i; omega)) ⟨rfl, rfl, congrArg (fun z : Int32 => some (ps_int z)) (nI_1 i), trivial⟩
    · skip
      refine pv_aload_n E d_Tree_cancelTasks_23 rfl rfl ?_
      refine gf_Tree_tasks E wd_79 d_Tree_cancelTasks_24 ?_
      refine pv_top (congrArg ps_ref hT.1.1.2.1) ?_
      refine pv_iload_n E d_Tree_cancelTasks_27 rfl rfl ?_
      refine pv_aaload (t0 := 2) E 9 _ (fun _ _ _ _ _ => rfl) rfl (by rw [hT.1.1.2.2.2.1]; exact vp_in_nI (by omega) (by decide)) d_Tree_cancelTasks_28 ?_
      rw [nI_clamp (show i < 2 ^ 31 by omega)]
      refine pv_top (congrArg ps_ref j0) ?_
      refine gf_Task_state E wd_720 d_Tree_cancelTasks_29 ?_
      refine pv_top (congrArg ps_int j6) ?_
      refine pv_if_ne (tgt := 45) E d_Tree_cancelTasks_32 rfl (fun h32 => ?_) (fun h32 => ?_)
      · skip
        refine pv_inc1 E d_Tree_cancelTasks_45 rfl (by decide) ?_
        refine pv_goto (tgt := 2) E d_Tree_cancelTasks_48 rfl ?_
        exact pv_back (ih (i + 1, τ) ⟨by omega, by rw [u_can, if_neg (fun z => h32 z.2)]; exact hT, hFr, hN⟩ (by show _ - (i + 1) < _ - i; omega)) ⟨rfl, rfl, congrArg (fun z : Int32 => some (ps_int z)) (nI_1 i), trivial⟩
      · skip
        refine pv_aload_n E d_Tree_cancelTasks_35 rfl rfl ?_
        refine gf_Tree_tasks E wd_79 d_Tree_cancelTasks_36 ?_
        refine pv_top (congrArg ps_ref hT.1.1.2.1) ?_
        refine pv_iload_n E d_Tree_cancelTasks_39 rfl rfl ?_
        refine pv_aaload (t0 := 2) E 9 _ (fun _ _ _ _ _ => rfl) rfl (by rw [hT.1.1.2.2.2.1]; exact vp_in_nI (by omega) (by decide)) d_Tree_cancelTasks_40 ?_
        rw [nI_clamp (show i < 2 ^ 31 by omega)]
        refine pv_top (congrArg ps_ref j0) ?_
        refine pv_iconst (v := 3) E d_Tree_cancelTasks_41 (by decide) ?_
        refine pf_Task_state E wd_720 d_Tree_cancelTasks_42 ?_
        refine pv_inc1 E d_Tree_cancelTasks_45 rfl (by decide) ?_
        refine pv_goto (tgt := 2) E d_Tree_cancelTasks_48 rfl ?_
        exact pv_back (ih (i + 1, ps_sI τ 6 i 5 3) ⟨by omega, by rw [u_can, if_pos ⟨by injection h20 with z; injection z, h32⟩]; exact hT.sK i (Or.inl ⟨rfl, rfl⟩) 3, hFr.tr (FrT.sI (by decide)), hN⟩ (by show _ - (i + 1) < _ - i; omega)) ⟨rfl, rfl, congrArg (fun z : Int32 => some (ps_int z)) (nI_1 i), trivial⟩
set_option maxHeartbeats 8000000 in
set_option maxRecDepth 100000 in
theorem k_Tree_stop (l : Launch) (D : va_G) (ca : Nat → ClassId) (A : Nat → Prop) (σ : ps_S) (c : Nat) (t : tT) (hT0 : RT σ t) (hW : tW t) : ∀ adr, ps_M l y_Tree_stop c_Tree_stop 4 (Option.none : Option Jvm.ClassFile.FieldType) { frames := 1, cells := 0, slots := 0, locals := 22 } D ca A adr σ [ps_ref (some (7, 0)), ps_ref (some (5, c))] (fun rv σ' => rv = none ∧ RT σ' (t_stop t c) ∧ FrT σ σ' ∧ ps_N σ' = ps_N σ) := by
  intro adr
  refine ps_M.of (by decide +kernel) (Nat.le_of_ble_eq_true rfl) ?_
  intro p_ e_ s_ m_ args_ below_ meth_ c_ E hr hlk hnm
  have h12 := hW.1
  refine pv_iconst (v := 0) E d_Tree_stop_0 (by decide) ?_
  refine pv_istore_n E d_Tree_stop_1 rfl (by decide) ?_
  refine pv_sub (L' := [(0, ps_ref (some (7, 0))), (1, ps_ref (some (5, c))), (2, ps_int (nI 0))]) ⟨rfl, rfl, rfl, trivial⟩ ?_
  refine pv_loop (ι := Nat × ps_S) (fun x => tN t - x.1) (fun x => [(0, ps_ref (some (7, 0))), (1, ps_ref (some (5, c))), (2, ps_int (nI x.1))]) (fun x => x.2) (fun x => x.1 ≤ tN t ∧ RT x.2 (t_stN t c x.1) ∧ FrT σ x.2 ∧ ps_N x.2 = ps_N σ) (fun x hx ih => ?_) (0, σ) ⟨Nat.zero_le _, hT0, FrT.rf σ, rfl⟩
  obtain ⟨i, τ⟩ := x
  obtain ⟨hi, hT, hFr, hN⟩ := hx
  dsimp only at hi hT hFr hN ih ⊢
  have hk := tKeep.stN t c i
  refine pv_iload_n E d_Tree_stop_2 rfl rfl ?_
  refine pv_aload_n E d_Tree_stop_3 rfl rfl ?_
  refine gf_Tree_scopesMade E wd_80 d_Tree_stop_4 ?_
  refine pv_top (congrArg ps_int (hT.1.2.1.trans (by rw [hk.1.1]))) ?_
  refine pv_icmp_ge (tgt := 54) E d_Tree_stop_7 rfl (fun h7 => ?_) (fun h7 => ?_)
  · skip
    have hi2 : tN t ≤ i := (nI_leI (by omega) (by omega)).mp h7
    exact pv_vret E hr hlk d_Tree_stop_54 (by decide) (by decide) ⟨rfl, by rw [t_stop, show tN t = i by omega]; exact hT, hFr, hN⟩
  · skip
    have hlt : i < tN t := Nat.lt_of_not_le (fun z => h7 ((nI_leI (by omega) (by omega)).mpr z))
    have hin : i < tN (t_stN t c i) := by rw [hk.1.1]; exact hlt
    obtain ⟨⟨b0, b1, b2, b3, b4, b5⟩, ⟨d1, d2, d3, d4, d5⟩, b6, b7, b8⟩ := hT.2.1 i hin
    refine pv_aload_n E d_Tree_stop_10 rfl rfl ?_
    refine gf_Tree_scopes E wd_78 d_Tree_stop_11 ?_
    refine pv_top (congrArg ps_ref hT.1.1.1) ?_
    refine pv_iload_n E d_Tree_stop_14 rfl rfl ?_
    refine pv_aaload (t0 := 1) E 8 _ (fun _ _ _ _ _ => rfl) rfl (by rw [hT.1.1.2.2.1]; exact vp_in_nI (by omega) (by decide)) d_Tree_stop_15 ?_
    rw [nI_clamp (show i < 2 ^ 31 by omega)]
    refine pv_top (congrArg ps_ref b0) ?_
    refine pv_astore_n E d_Tree_stop_16 rfl (by decide) ?_
    refine pv_aload_n E d_Tree_stop_17 rfl rfl ?_
    refine pv_aload_n E d_Tree_stop_18 rfl rfl ?_
    refine pv_acmp_eq (tgt := 38) E d_Tree_stop_19 rfl (fun h19 => ?_) (fun h19 => ?_)
    · skip
      refine pv_aload_n E d_Tree_stop_38 rfl rfl ?_
      refine pv_iconst (v := 1) E d_Tree_stop_39 (by decide) ?_
      refine pf_Scope_stopped E wd_655 d_Tree_stop_40 (by first | exact Or.inl rfl | exact Or.inr rfl | assumption) ?_
      refine pv_aload_n E d_Tree_stop_43 rfl rfl ?_
      refine pv_aload_n E d_Tree_stop_44 rfl rfl ?_
      refine pv_callV E (fun adr => k_Tree_cancelTasks l D ca A _ i (tsS (t_stN t c i) i 3 1) (hT.sS i (Or.inr (Or.inl ⟨rfl, rfl⟩)) 1) ((tKeep.sS _ i 3 1 (by omega)).W (hk.W hW)) adr) yv_Tree_cancelTasks wd_330 rfl rfl (fun _ => ⟨_, rfl⟩) rfl ⟨by decide, by decide⟩ (Nat.le_of_ble_eq_true rfl) d_Tree_stop_45 ⟨by decide, by decide⟩ (fun r45 σ45 hq45 => ?_)
      obtain ⟨hr45, hq45, hf45, hn45⟩ := hq45
      subst r45
      refine pv_inc1 E d_Tree_stop_48 rfl (by decide) ?_
      refine pv_goto (tgt := 2) E d_Tree_stop_51 rfl ?_
      exact pv_back (ih (i + 1, σ45) ⟨by omega, by show RT σ45 (t_st1 (t_stN t c i) c i); rw [t_st1, if_pos (Or.inl (by injection h19 with z; injection z))]; exact hq45, hFr.tr ((FrT.sI (by decide)).tr hf45), by rw [hn45]; exact hN⟩ (by show _ - (i + 1) < _ - i; omega)) ⟨rfl, rfl, congrArg (fun z : Int32 => some (ps_int z)) (nI_1 i), trivial⟩
    · skip
      refine pv_aload_n E d_Tree_stop_22 rfl rfl ?_
      refine gf_Scope_state E wd_652 d_Tree_stop_23 ?_
      refine pv_top (congrArg ps_int b6) ?_
      refine pv_iconst (v := 2) E d_Tree_stop_26 (by decide) ?_
      refine pv_icmp_eq (tgt := 48) E d_Tree_stop_27 rfl (fun h27 => ?_) (fun h27 => ?_)
      · skip
        refine pv_inc1 E d_Tree_stop_48 rfl (by decide) ?_
        refine pv_goto (tgt := 2) E d_Tree_stop_51 rfl ?_
        exact pv_back (ih (i + 1, τ) ⟨by omega, by show RT τ (t_st1 (t_stN t c i) c i); rw [t_st1, if_neg (fun z => z.elim (fun z => h19 (by rw [z])) (fun z => z.1 h27))]; exact hT, hFr, hN⟩ (by show _ - (i + 1) < _ - i; omega)) ⟨rfl, rfl, congrArg (fun z : Int32 => some (ps_int z)) (nI_1 i), trivial⟩
      · skip
        refine pv_aload_n E d_Tree_stop_30 rfl rfl ?_
        refine pv_aload_n E d_Tree_stop_31 rfl rfl ?_
        refine pv_callV E (fun adr => k_Scope_isBelow l D ca A _ i c (t_stN t c i) hT (hk.W hW) hin adr) yv_Scope_isBelow wd_288 rfl rfl (fun _ => ⟨_, rfl⟩) rfl ⟨by decide, by decide⟩ (Nat.le_of_ble_eq_true rfl) d_Tree_stop_32 ⟨by decide, by decide⟩ (fun r32 σ32 hq32 => ?_)
        obtain ⟨hr32, hs32⟩ := hq32
        subst r32
        subst σ32
        refine pv_if_eq (tgt := 48) E d_Tree_stop_35 rfl (fun h35 => ?_) (fun h35 => ?_)
        · skip
          have hlow : t_low (t_stN t c i) i c = false := by
            cases z : t_low (t_stN t c i) i c with
            | false => rfl
            | true => rw [if_pos z] at h35; exact absurd h35 (by decide)
          refine pv_inc1 E d_Tree_stop_48 rfl (by decide) ?_
          refine pv_goto (tgt := 2) E d_Tree_stop_51 rfl ?_
          exact pv_back (ih (i + 1, τ) ⟨by omega, by show RT τ (t_st1 (t_stN t c i) c i); rw [t_st1, if_neg (fun z => z.elim (fun z => h19 (by rw [z])) (fun z => by rw [hlow] at z; exact absurd z.2 (by decide)))]; exact hT, hFr, hN⟩ (by show _ - (i + 1) < _ - i; omega)) ⟨rfl, rfl, congrArg (fun z : Int32 => some (ps_int z)) (nI_1 i), trivial⟩
        · skip
          have hlow : t_low (t_stN t c i) i c = true := by
            cases z : t_low (t_stN t c i) i c with
            | false => rw [if_neg (by rw [z]; decide)] at h35; exact absurd rfl h35
            | true => rfl
          refine pv_aload_n E d_Tree_stop_38 rfl rfl ?_
          refine pv_iconst (v := 1) E d_Tree_stop_39 (by decide) ?_
          refine pf_Scope_stopped E wd_655 d_Tree_stop_40 (by first | exact Or.inl rfl | exact Or.inr rfl | assumption) ?_
          refine pv_aload_n E d_Tree_stop_43 rfl rfl ?_
          refine pv_aload_n E d_Tree_stop_44 rfl rfl ?_
          refine pv_callV E (fun adr => k_Tree_cancelTasks l D ca A _ i (tsS (t_stN t c i) i 3 1) (hT.sS i (Or.inr (Or.inl ⟨rfl, rfl⟩)) 1) ((tKeep.sS _ i 3 1 (by omega)).W (hk.W hW)) adr) yv_Tree_cancelTasks wd_330 rfl rfl (fun _ => ⟨_, rfl⟩) rfl ⟨by decide, by decide⟩ (Nat.le_of_ble_eq_true rfl) d_Tree_stop_45 ⟨by decide, by decide⟩ (fun r45 σ45 hq45 => ?_)
          obtain ⟨hr45, hq45, hf45, hn45⟩ := hq45
          subst r45
          refine pv_inc1 E d_Tree_stop_48 rfl (by decide) ?_
          refine pv_goto (tgt := 2) E d_Tree_stop_51 rfl ?_
          exact pv_back (ih (i + 1, σ45) ⟨by omega, by show RT σ45 (t_st1 (t_stN t c i) c i); rw [t_st1, if_pos (Or.inr ⟨h27, hlow⟩)]; exact hq45, hFr.tr ((FrT.sI (by decide)).tr hf45), by rw [hn45]; exact hN⟩ (by show _ - (i + 1) < _ - i; omega)) ⟨rfl, rfl, congrArg (fun z : Int32 => some (ps_int z)) (nI_1 i), trivial⟩
set_option maxHeartbeats 8000000 in
set_option maxRecDepth 100000 in
theorem k_Tree_stopLateScopes (l : Launch) (D : va_G) (ca : Nat → ClassId) (A : Nat → Prop) (σ : ps_S)  (t : tT) (hT0 : RT σ t) (hW : tW t) : ∀ adr, ps_M l y_Tree_stopLateScopes c_Tree_stopLateScopes 3 (Option.none : Option Jvm.ClassFile.FieldType) { frames := 2, cells := 0, slots := 0, locals := 45 } D ca A adr σ [ps_ref (some (7, 0))] (fun rv σ' => rv = none ∧ RT σ' (t_late t) ∧ FrT σ σ' ∧ ps_N σ' = ps_N σ) := by
  intro adr
  refine ps_M.of (by decide +kernel) (Nat.le_of_ble_eq_true rfl) ?_
  intro p_ e_ s_ m_ args_ below_ meth_ c_ E hr hlk hnm
  have h12 := hW.1
  refine pv_iconst (v := 0) E d_Tree_stopLateScopes_0 (by decide) ?_
  refine pv_istore_n E d_Tree_stopLateScopes_1 rfl (by decide) ?_
  refine pv_sub (L' := [(0, ps_ref (some (7, 0))), (1, ps_int (nI 0))]) ⟨rfl, rfl, trivial⟩ ?_
  refine pv_loop (ι := Nat × ps_S) (fun x => tN t - x.1) (fun x => [(0, ps_ref (some (7, 0))), (1, ps_int (nI x.1))]) (fun x => x.2) (fun x => x.1 ≤ tN t ∧ RT x.2 (t_laN t x.1) ∧ FrT σ x.2 ∧ ps_N x.2 = ps_N σ) (fun x hx ih => ?_) (0, σ) ⟨Nat.zero_le _, hT0, FrT.rf σ, rfl⟩
  obtain ⟨i, τ⟩ := x
  obtain ⟨hi, hT, hFr, hN⟩ := hx
  dsimp only at hi hT hFr hN ih ⊢
  have hk := tKeep.laN t i
  refine pv_iload_n E d_Tree_stopLateScopes_2 rfl rfl ?_
  refine pv_aload_n E d_Tree_stopLateScopes_3 rfl rfl ?_
  refine gf_Tree_scopesMade E wd_80 d_Tree_stopLateScopes_4 ?_
  refine pv_top (congrArg ps_int (hT.1.2.1.trans (by rw [hk.1.1]))) ?_
  refine pv_icmp_ge (tgt := 52) E d_Tree_stopLateScopes_7 rfl (fun h7 => ?_) (fun h7 => ?_)
  · skip
    have hi2 : tN t ≤ i := (nI_leI (by omega) (by omega)).mp h7
    exact pv_vret E hr hlk d_Tree_stopLateScopes_52 (by decide) (by decide) ⟨rfl, by rw [t_late, show tN t = i by omega]; exact hT, hFr, hN⟩
  · skip
    have hlt : i < tN t := Nat.lt_of_not_le (fun z => h7 ((nI_leI (by omega) (by omega)).mpr z))
    have hin : i < tN (t_laN t i) := by rw [hk.1.1]; exact hlt
    obtain ⟨⟨b0, b1, b2, b3, b4, b5⟩, ⟨d1, d2, d3, d4, d5⟩, b6, b7, b8⟩ := hT.2.1 i hin
    refine pv_aload_n E d_Tree_stopLateScopes_10 rfl rfl ?_
    refine gf_Tree_scopes E wd_78 d_Tree_stopLateScopes_11 ?_
    refine pv_top (congrArg ps_ref hT.1.1.1) ?_
    refine pv_iload_n E d_Tree_stopLateScopes_14 rfl rfl ?_
    refine pv_aaload (t0 := 1) E 8 _ (fun _ _ _ _ _ => rfl) rfl (by rw [hT.1.1.2.2.1]; exact vp_in_nI (by omega) (by decide)) d_Tree_stopLateScopes_15 ?_
    rw [nI_clamp (show i < 2 ^ 31 by omega)]
    refine pv_top (congrArg ps_ref b0) ?_
    refine pv_astore_n E d_Tree_stopLateScopes_16 rfl (by decide) ?_
    refine pv_aload_n E d_Tree_stopLateScopes_17 rfl rfl ?_
    refine gf_Scope_state E wd_652 d_Tree_stopLateScopes_18 ?_
    refine pv_top (congrArg ps_int b6) ?_
    refine pv_iconst (v := 2) E d_Tree_stopLateScopes_21 (by decide) ?_
    refine pv_icmp_eq (tgt := 46) E d_Tree_stopLateScopes_22 rfl (fun h22 => ?_) (fun h22 => ?_)
    · skip
      refine pv_inc1 E d_Tree_stopLateScopes_46 rfl (by decide) ?_
      refine pv_goto (tgt := 2) E d_Tree_stopLateScopes_49 rfl ?_
      exact pv_back (ih (i + 1, τ) ⟨by omega, by show RT τ (t_la1 (t_laN t i) i); rw [t_la1, if_neg (fun z => z.1 h22)]; exact hT, hFr, hN⟩ (by show _ - (i + 1) < _ - i; omega)) ⟨rfl, congrArg (fun z : Int32 => some (ps_int z)) (nI_1 i), trivial⟩
    · skip
      refine pv_aload_n E d_Tree_stopLateScopes_25 rfl rfl ?_
      refine pv_aload_n E d_Tree_stopLateScopes_26 rfl rfl ?_
      refine gf_Tree_time E wd_85 d_Tree_stopLateScopes_27 ?_
      refine pv_top (congrArg ps_int hT.1.2.2.2.1) ?_
      refine pv_callV E (fun adr => k_Scope_isPastDeadline l D ca A _ i _ (t_laN t i) hT hin adr) yv_Scope_isPastDeadline wd_346 rfl rfl (fun _ => ⟨_, rfl⟩) rfl ⟨by decide, by decide⟩ (Nat.le_of_ble_eq_true rfl) d_Tree_stopLateScopes_30 ⟨by decide, by decide⟩ (fun r30 σ30 hq30 => ?_)
      obtain ⟨hr30, hs30⟩ := hq30
      subst r30
      subst σ30
      refine pv_if_eq (tgt := 46) E d_Tree_stopLateScopes_33 rfl (fun h33 => ?_) (fun h33 => ?_)
      · skip
        have hpa : ¬ (¬ tS (t_laN t i) i 1 = -1 ∧ tS (t_laN t i) i 1 ≤ uC (t_laN t i)) := fun z => by rw [if_pos z] at h33; exact absurd h33 (by decide)
        refine pv_inc1 E d_Tree_stopLateScopes_46 rfl (by decide) ?_
        refine pv_goto (tgt := 2) E d_Tree_stopLateScopes_49 rfl ?_
        exact pv_back (ih (i + 1, τ) ⟨by omega, by show RT τ (t_la1 (t_laN t i) i); rw [t_la1, if_neg (fun z => hpa (past_of z.2))]; exact hT, hFr, hN⟩ (by show _ - (i + 1) < _ - i; omega)) ⟨rfl, congrArg (fun z : Int32 => some (ps_int z)) (nI_1 i), trivial⟩
      · skip
        have hpa : ¬ tS (t_laN t i) i 1 = -1 ∧ tS (t_laN t i) i 1 ≤ uC (t_laN t i) := by
          by_cases z : ¬ tS (t_laN t i) i 1 = -1 ∧ tS (t_laN t i) i 1 ≤ uC (t_laN t i)
          · exact z
          · exact absurd (if_neg z) h33
        refine pv_aload_n E d_Tree_stopLateScopes_36 rfl rfl ?_
        refine pv_iconst (v := 1) E d_Tree_stopLateScopes_37 (by decide) ?_
        refine pf_Scope_late E wd_657 d_Tree_stopLateScopes_38 (by first | exact Or.inl rfl | exact Or.inr rfl | assumption) ?_
        refine pv_aload_n E d_Tree_stopLateScopes_41 rfl rfl ?_
        refine pv_aload_n E d_Tree_stopLateScopes_42 rfl rfl ?_
        refine pv_callV E (fun adr => k_Tree_stop l D ca A _ i (tsS (t_laN t i) i 4 1) (hT.sS i (Or.inr (Or.inr ⟨rfl, rfl⟩)) 1) ((tKeep.sS _ i 4 1 (by omega)).W (hk.W hW)) adr) yv_Tree_stop wd_350 rfl rfl (fun _ => ⟨_, rfl⟩) rfl ⟨by decide, by decide⟩ (Nat.le_of_ble_eq_true rfl) d_Tree_stopLateScopes_43 ⟨by decide, by decide⟩ (fun r43 σ43 hq43 => ?_)
        obtain ⟨hr43, hq43, hf43, hn43⟩ := hq43
        subst r43
        refine pv_inc1 E d_Tree_stopLateScopes_46 rfl (by decide) ?_
        refine pv_goto (tgt := 2) E d_Tree_stopLateScopes_49 rfl ?_
        exact pv_back (ih (i + 1, σ43) ⟨by omega, by show RT σ43 (t_la1 (t_laN t i) i); rw [t_la1, if_pos ⟨h22, of_past hpa⟩]; exact hq43, hFr.tr ((FrT.sI (by decide)).tr hf43), by rw [hn43]; exact hN⟩ (by show _ - (i + 1) < _ - i; omega)) ⟨rfl, congrArg (fun z : Int32 => some (ps_int z)) (nI_1 i), trivial⟩
set_option maxHeartbeats 8000000 in
set_option maxRecDepth 100000 in
theorem k_Tree_noteEnd (l : Launch) (D : va_G) (ca : Nat → ClassId) (A : Nat → Prop) (σ : ps_S) (j : Nat) (t : tT) (hT : RT σ t) (hW : tW (usE t j)) (hj : j < uN t) : ∀ adr, ps_M l y_Tree_noteEnd c_Tree_noteEnd 2 (Option.none : Option Jvm.ClassFile.FieldType) { frames := 2, cells := 0, slots := 0, locals := 45 } D ca A adr σ [ps_ref (some (7, 0)), ps_ref (some (6, j))] (fun rv σ' => rv = none ∧ RT σ' (u_end t j) ∧ FrT σ σ' ∧ ps_N σ' = ps_N σ) := by
  intro adr
  refine ps_M.of (by decide +kernel) (Nat.le_of_ble_eq_true rfl) ?_
  intro p_ e_ s_ m_ args_ below_ meth_ c_ E hr hlk hnm
  have hT1 : RT (tk_note σ j) (usE t j) := hT.end j
  have ho : uO t j < tN t := hW.2.2.1 j hj
  obtain ⟨⟨j0, j1, j2, j3, j4, j5⟩, j6, j7, j8, j9⟩ := hT.2.2 j hj
  refine pv_aload_n E d_Tree_noteEnd_0 rfl rfl ?_
  refine pv_aload_n E d_Tree_noteEnd_1 rfl rfl ?_
  refine gf_Tree_tasksEnded E wd_86 d_Tree_noteEnd_2 ?_
  refine pf_Task_turn E wd_727 d_Tree_noteEnd_5 ?_
  refine pv_aload_n E d_Tree_noteEnd_8 rfl rfl ?_
  refine pv_dup E d_Tree_noteEnd_9 rfl ?_
  refine gf_Tree_tasksEnded E wd_86 d_Tree_noteEnd_10 ?_
  refine pv_iconst (v := 1) E d_Tree_noteEnd_13 (by decide) ?_
  refine pv_iadd E d_Tree_noteEnd_14 ?_
  refine pf_Tree_tasksEnded E wd_86 d_Tree_noteEnd_15 ?_
  refine pv_aload_n E d_Tree_noteEnd_18 rfl rfl ?_
  refine gf_Task_owner E wd_712 d_Tree_noteEnd_19 ?_
  refine pv_top (congrArg ps_ref (show ps_R (tk_note σ j) 6 j 0 = some (5, uO t j) from j1)) ?_
  refine pv_aload_n E d_Tree_noteEnd_22 rfl rfl ?_
  refine pv_callV E (fun adr => k_Scope_isStoppedBy l D ca A _ (uO t j) j (usE t j) hT1 ho hj adr) yv_Scope_isStoppedBy wd_361 rfl rfl (fun _ => ⟨_, rfl⟩) rfl ⟨by decide, by decide⟩ (Nat.le_of_ble_eq_true rfl) d_Tree_noteEnd_23 ⟨by decide, by decide⟩ (fun r23 σ23 hq23 => ?_)
  obtain ⟨hr23, hs23⟩ := hq23
  subst r23
  subst σ23
  refine pv_if_eq (tgt := 37) E d_Tree_noteEnd_26 rfl (fun h26 => ?_) (fun h26 => ?_)
  · skip
    have hby : ¬ t_by (usE t j) j = true := fun z => absurd ((if_pos (show (tS (usE t j) (uO t j) 0 = 1 ∧ uK (usE t j) j 4 = 2) ∨ (tS (usE t j) (uO t j) 0 = 2 ∧ uK (usE t j) j 4 = 1) from by_of.mp z)).symm.trans h26) (show ¬ (1 : Int32) = 0 by decide)
    exact pv_vret E hr hlk d_Tree_noteEnd_37 (by decide) (by decide) ⟨rfl, by rw [u_end, if_neg hby]; exact hT1, (FrT.sI (by decide)).tr (FrT.sI (by decide)), rfl⟩
  · skip
    have hby : t_by (usE t j) j = true := by_of.mpr (by
      by_cases z : (tS (usE t j) (uO t j) 0 = 1 ∧ uK (usE t j) j 4 = 2) ∨ (tS (usE t j) (uO t j) 0 = 2 ∧ uK (usE t j) j 4 = 1)
      · exact z
      · exact absurd (if_neg z) h26)
    refine pv_aload_n E d_Tree_noteEnd_29 rfl rfl ?_
    refine pv_aload_n E d_Tree_noteEnd_30 rfl rfl ?_
    refine gf_Task_owner E wd_712 d_Tree_noteEnd_31 ?_
    refine pv_top (congrArg ps_ref (show ps_R (tk_note σ j) 6 j 0 = some (5, uO t j) from j1)) ?_
    refine pv_callV E (fun adr => k_Tree_stop l D ca A _ (uO t j) (usE t j) hT1 hW adr) yv_Tree_stop wd_350 rfl rfl (fun _ => ⟨_, rfl⟩) rfl ⟨by decide, by decide⟩ (Nat.le_of_ble_eq_true rfl) d_Tree_noteEnd_34 ⟨by decide, by decide⟩ (fun r34 σ34 hq34 => ?_)
    obtain ⟨hr34, hq34, hf34, hn34⟩ := hq34
    subst r34
    exact pv_vret E hr hlk d_Tree_noteEnd_37 (by decide) (by decide) ⟨rfl, by rw [u_end, if_pos hby]; exact hq34, ((FrT.sI (by decide)).tr (FrT.sI (by decide))).tr hf34, hn34⟩
set_option maxHeartbeats 8000000 in
set_option maxRecDepth 100000 in
theorem k_Tree_passOneTick (l : Launch) (D : va_G) (ca : Nat → ClassId) (A : Nat → Prop) (σ : ps_S)  (t : tT) (hT0 : RT σ t) (hW : tW t) : ∀ adr, ps_M l y_Tree_passOneTick c_Tree_passOneTick 3 (Option.some Jvm.ClassFile.FieldType.int) { frames := 3, cells := 0, slots := 0, locals := 67 } D ca A adr σ [ps_ref (some (7, 0))] (fun rv σ' => rv = some (ps_int (nI (u_pcN (t_tick t) (uN t)))) ∧ RT σ' (t_pass t) ∧ FrT σ σ' ∧ ps_N σ' = ps_N σ) := by
  intro adr
  refine ps_M.of (by decide +kernel) (Nat.le_of_ble_eq_true rfl) ?_
  intro p_ e_ s_ m_ args_ below_ meth_ c_ E hr hlk hnm
  have h12 := hW.1
  have hkt := tKeep.tick t
  refine pv_aload_n E d_Tree_passOneTick_0 rfl rfl ?_
  refine pv_dup E d_Tree_passOneTick_1 rfl ?_
  refine gf_Tree_time E wd_85 d_Tree_passOneTick_2 ?_
  refine pv_top (congrArg ps_int hT0.1.2.2.2.1) ?_
  refine pv_iconst (v := 1) E d_Tree_passOneTick_5 (by decide) ?_
  refine pv_iadd E d_Tree_passOneTick_6 ?_
  refine pf_Tree_time E wd_85 d_Tree_passOneTick_7 ?_
  refine pv_aload_n E d_Tree_passOneTick_10 rfl rfl ?_
  refine pv_callV E (fun adr => k_Tree_stopLateScopes l D ca A _ (usC t (uC t + 1)) (hT0.time _) hW adr) yv_Tree_stopLateScopes wd_342 rfl rfl (fun _ => ⟨_, rfl⟩) rfl ⟨by decide, by decide⟩ (Nat.le_of_ble_eq_true rfl) d_Tree_passOneTick_11 ⟨by decide, by decide⟩ (fun r11 σ11 hq11 => ?_)
  obtain ⟨hr11, hq11, hf11, hn11⟩ := hq11
  subst r11
  refine pv_iconst (v := 0) E d_Tree_passOneTick_14 (by decide) ?_
  refine pv_istore_n E d_Tree_passOneTick_15 rfl (by decide) ?_
  refine pv_iconst (v := 0) E d_Tree_passOneTick_16 (by decide) ?_
  refine pv_istore_n E d_Tree_passOneTick_17 rfl (by decide) ?_
  refine pv_sub (L' := [(0, ps_ref (some (7, 0))), (1, ps_int (nI 0)), (2, ps_int (nI 0))]) ⟨rfl, rfl, rfl, trivial⟩ ?_
  refine pv_loop (ι := Nat × ps_S) (fun x => uN t - x.1) (fun x => [(0, ps_ref (some (7, 0))), (1, ps_int (nI (u_pcN (t_tick t) x.1))), (2, ps_int (nI x.1))]) (fun x => x.2) (fun x => x.1 ≤ uN t ∧ RT x.2 (u_psN (t_tick t) x.1) ∧ FrT σ x.2 ∧ ps_N x.2 = ps_N σ) (fun x hx ih => ?_) (0, σ11) ⟨Nat.zero_le _, hq11, (FrT.sI (by decide)).tr hf11, hn11⟩
  obtain ⟨i, τ⟩ := x
  obtain ⟨hi, hT, hFr, hN⟩ := hx
  dsimp only at hi hT hFr hN ih ⊢
  have hWi : tW (u_psN (t_tick t) i) := (hkt.W hW).psN i (by rw [hkt.2.1]; exact hi)
  refine pv_iload_n E d_Tree_passOneTick_18 rfl rfl ?_
  refine pv_aload_n E d_Tree_passOneTick_19 rfl rfl ?_
  refine gf_Tree_tasksMade E wd_82 d_Tree_passOneTick_20 ?_
  refine pv_top (congrArg ps_int (hT.1.2.2.1.trans (by rw [(uN_psN _ i).1, hkt.2.1]))) ?_
  refine pv_icmp_ge (tgt := 78) E d_Tree_passOneTick_23 rfl (fun h23 => ?_) (fun h23 => ?_)
  · skip
    have hi2 : uN t ≤ i := (nI_leI (by omega) (by omega)).mp h23
    refine pv_iload_n E d_Tree_passOneTick_78 rfl rfl ?_
    exact pv_iret E hr hlk d_Tree_passOneTick_79 (by decide) (by decide) ⟨by rw [show uN t = i by omega], by rw [t_pass, show uN t = i by omega]; exact hT, hFr, hN⟩
  · skip
    have hlt : i < uN t := Nat.lt_of_not_le (fun z => h23 ((nI_leI (by omega) (by omega)).mpr z))
    have hin : i < uN (u_psN (t_tick t) i) := by rw [(uN_psN _ i).1, hkt.2.1]; exact hlt
    have hin2 : i < uN (u_wk (u_psN (t_tick t) i) i) := by rw [(tKeep.wk _ i).2.1]; exact hin
    obtain ⟨⟨j0, j1, j2, j3, j4, j5⟩, j6, j7, j8, j9⟩ := hT.2.2 i hin
    refine pv_aload_n E d_Tree_passOneTick_26 rfl rfl ?_
    refine gf_Tree_tasks E wd_79 d_Tree_passOneTick_27 ?_
    refine pv_top (congrArg ps_ref hT.1.1.2.1) ?_
    refine pv_iload_n E d_Tree_passOneTick_30 rfl rfl ?_
    refine pv_aaload (t0 := 2) E 9 _ (fun _ _ _ _ _ => rfl) rfl (by rw [hT.1.1.2.2.2.1]; exact vp_in_nI (by omega) (by decide)) d_Tree_passOneTick_31 ?_
    rw [nI_clamp (show i < 2 ^ 31 by omega)]
    refine pv_top (congrArg ps_ref j0) ?_
    refine gf_Task_state E wd_720 d_Tree_passOneTick_32 ?_
    refine pv_top (congrArg ps_int j6) ?_
    refine pv_if_ne (tgt := 72) E d_Tree_passOneTick_35 rfl (fun h35 => ?_) (fun h35 => ?_)
    · skip
      refine pv_inc1 E d_Tree_passOneTick_72 rfl (by decide) ?_
      refine pv_goto (tgt := 18) E d_Tree_passOneTick_75 rfl ?_
      exact pv_back (ih (i + 1, τ) ⟨by omega, by show RT τ (u_ps1 (u_psN (t_tick t) i) i); rw [u_ps1, if_neg h35]; exact hT, hFr, hN⟩ (by show _ - (i + 1) < _ - i; omega)) ⟨rfl, by show some (ps_int _) = some (ps_int _); rw [u_pcN, u_pc1, if_neg h35]; rfl, congrArg (fun z : Int32 => some (ps_int z)) (nI_1 i), trivial⟩
    · skip
      refine pv_aload_n E d_Tree_passOneTick_38 rfl rfl ?_
      refine gf_Tree_tasks E wd_79 d_Tree_passOneTick_39 ?_
      refine pv_top (congrArg ps_ref hT.1.1.2.1) ?_
      refine pv_iload_n E d_Tree_passOneTick_42 rfl rfl ?_
      refine pv_aaload (t0 := 2) E 9 _ (fun _ _ _ _ _ => rfl) rfl (by rw [hT.1.1.2.2.2.1]; exact vp_in_nI (by omega) (by decide)) d_Tree_passOneTick_43 ?_
      rw [nI_clamp (show i < 2 ^ 31 by omega)]
      refine pv_top (congrArg ps_ref j0) ?_
      refine pv_callV E (fun adr => k_Task_workOnce l D ca A _ _ adr) yv_Task_workOnce wd_351 rfl rfl (fun _ => ⟨_, rfl⟩) rfl ⟨by decide, by decide⟩ (Nat.le_of_ble_eq_true rfl) d_Tree_passOneTick_44 ⟨by decide, by decide⟩ (fun r44 σ44 hq44 => ?_)
      obtain ⟨hr44, hs44⟩ := hq44
      subst r44
      subst σ44
      have hT1 := hT.work hin
      obtain ⟨⟨k0, k1, j2, j3, j4, j5⟩, k6, j7, j8, j9⟩ := hT1.2.2 i hin2
      refine pv_aload_n E d_Tree_passOneTick_47 rfl rfl ?_
      refine gf_Tree_tasks E wd_79 d_Tree_passOneTick_48 ?_
      refine pv_top (congrArg ps_ref hT1.1.1.2.1) ?_
      refine pv_iload_n E d_Tree_passOneTick_51 rfl rfl ?_
      refine pv_aaload (t0 := 2) E 9 _ (fun _ _ _ _ _ => rfl) rfl (by rw [hT1.1.1.2.2.2.1]; exact vp_in_nI (by omega) (by decide)) d_Tree_passOneTick_52 ?_
      rw [nI_clamp (show i < 2 ^ 31 by omega)]
      refine pv_top (congrArg ps_ref k0) ?_
      refine gf_Task_state E wd_720 d_Tree_passOneTick_53 ?_
      refine pv_top (congrArg ps_int k6) ?_
      refine pv_if_eq (tgt := 72) E d_Tree_passOneTick_56 rfl (fun h56 => ?_) (fun h56 => ?_)
      · skip
        refine pv_inc1 E d_Tree_passOneTick_72 rfl (by decide) ?_
        refine pv_goto (tgt := 18) E d_Tree_passOneTick_75 rfl ?_
        exact pv_back (ih (i + 1, tk_work τ i) ⟨by omega, by show RT _ (u_ps1 (u_psN (t_tick t) i) i); rw [u_ps1, if_pos h35, if_pos h56]; exact hT1, hFr.tr FrT.work, by rw [N_work]; exact hN⟩ (by show _ - (i + 1) < _ - i; omega)) ⟨rfl, by show some (ps_int _) = some (ps_int _); rw [u_pcN, u_pc1, if_pos h35, if_pos h56]; rfl, congrArg (fun z : Int32 => some (ps_int z)) (nI_1 i), trivial⟩
      · skip
        refine pv_aload_n E d_Tree_passOneTick_59 rfl rfl ?_
        refine pv_aload_n E d_Tree_passOneTick_60 rfl rfl ?_
        refine gf_Tree_tasks E wd_79 d_Tree_passOneTick_61 ?_
        refine pv_top (congrArg ps_ref hT1.1.1.2.1) ?_
        refine pv_iload_n E d_Tree_passOneTick_64 rfl rfl ?_
        refine pv_aaload (t0 := 2) E 9 _ (fun _ _ _ _ _ => rfl) rfl (by rw [hT1.1.1.2.2.2.1]; exact vp_in_nI (by omega) (by decide)) d_Tree_passOneTick_65 ?_
        rw [nI_clamp (show i < 2 ^ 31 by omega)]
        refine pv_top (congrArg ps_ref k0) ?_
        refine pv_callV E (fun adr => k_Tree_noteEnd l D ca A _ i (u_wk (u_psN (t_tick t) i) i) hT1 ((hWi).end hin h35 h56) hin2 adr) yv_Tree_noteEnd wd_357 rfl rfl (fun _ => ⟨_, rfl⟩) rfl ⟨by decide, by decide⟩ (Nat.le_of_ble_eq_true rfl) d_Tree_passOneTick_66 ⟨by decide, by decide⟩ (fun r66 σ66 hq66 => ?_)
        obtain ⟨hr66, hq66, hf66, hn66⟩ := hq66
        subst r66
        refine pv_inc1 E d_Tree_passOneTick_69 rfl (by decide) ?_
        refine pv_inc1 E d_Tree_passOneTick_72 rfl (by decide) ?_
        refine pv_goto (tgt := 18) E d_Tree_passOneTick_75 rfl ?_
        exact pv_back (ih (i + 1, σ66) ⟨by omega, by show RT _ (u_ps1 (u_psN (t_tick t) i) i); rw [u_ps1, if_pos h35, if_neg h56]; exact hq66, hFr.tr (FrT.work.tr hf66), by rw [hn66, N_work]; exact hN⟩ (by show _ - (i + 1) < _ - i; omega)) ⟨rfl, by show some (ps_int _) = some (ps_int _); rw [u_pcN, u_pc1, if_pos h35, if_neg h56, nI_1], congrArg (fun z : Int32 => some (ps_int z)) (nI_1 i), trivial⟩
