set_option maxHeartbeats 8000000 in
set_option maxRecDepth 100000 in
theorem k_Tree_firstEnded (l : Launch) (D : va_G) (ca : Nat → ClassId) (A : Nat → Prop) (σ : ps_S) (c : Nat) (s : Int32) (t : tT) (hT : RT σ t) (hW : tW t) : ∀ adr, ps_M l y_Tree_firstEnded c_Tree_firstEnded 6 (Option.some (Jvm.ClassFile.FieldType.object "PromiseScopes$Task")) { frames := 0, cells := 0, slots := 0, locals := 0 } D ca A adr σ [ps_ref (some (7, 0)), ps_ref (some (5, c)), ps_int s] (fun rv σ' => rv = some (ps_ref ((u_fst t c s (uN t)).map fun j => (6, j))) ∧ σ' = σ) := by
  intro adr
  refine ps_M.of (by decide +kernel) (Nat.le_of_ble_eq_true rfl) ?_
  intro p_ e_ s_ m_ args_ below_ meth_ c_ E hr hlk hnm
  have h12 := hW.1
  refine pv_null E d_Tree_firstEnded_0 ?_
  refine pv_astore_n E d_Tree_firstEnded_1 rfl (by decide) ?_
  refine pv_iconst (v := 0) E d_Tree_firstEnded_2 (by decide) ?_
  refine pv_istore E d_Tree_firstEnded_3 (by decide) ?_
  refine pv_sub (L' := [(0, ps_ref (some (7, 0))), (1, ps_ref (some (5, c))), (2, ps_int s), (3, ps_ref none), (4, ps_int (nI 0))]) ⟨rfl, rfl, rfl, rfl, rfl, trivial⟩ ?_
  refine pv_loop (ι := Nat) (fun i => uN t - i) (fun i => [(0, ps_ref (some (7, 0))), (1, ps_ref (some (5, c))), (2, ps_int s), (3, ps_ref ((u_fst t c s i).map fun j => (6, j))), (4, ps_int (nI i))]) (fun _ => σ) (fun i => i ≤ uN t) (fun i hi ih => ?_) 0 (Nat.zero_le _)
  dsimp only at hi ih ⊢
  refine pv_iload E d_Tree_firstEnded_5 rfl ?_
  refine pv_aload_n E d_Tree_firstEnded_7 rfl rfl ?_
  refine gf_Tree_tasksMade E wd_82 d_Tree_firstEnded_8 ?_
  refine pv_top (congrArg ps_int hT.1.2.2.1) ?_
  refine pv_icmp_ge (tgt := 66) E d_Tree_firstEnded_11 rfl (fun h11 => ?_) (fun h11 => ?_)
  · skip
    have hi2 : uN t ≤ i := (nI_leI (by omega) (by omega)).mp h11
    refine pv_aload_n E d_Tree_firstEnded_66 rfl rfl ?_
    exact pv_aret E hr (Or.inl ⟨_, rfl⟩) hlk d_Tree_firstEnded_67 (by decide) (by decide) ⟨by rw [show uN t = i by omega], rfl⟩
  · skip
    have hlt : i < uN t := Nat.lt_of_not_le (fun z => h11 ((nI_leI (by omega) (by omega)).mpr z))
    obtain ⟨⟨j0, j1, j2, j3, j4, j5⟩, j6, j7, j8, j9⟩ := hT.2.2 i hlt
    refine pv_aload_n E d_Tree_firstEnded_14 rfl rfl ?_
    refine gf_Tree_tasks E wd_79 d_Tree_firstEnded_15 ?_
    refine pv_top (congrArg ps_ref hT.1.1.2.1) ?_
    refine pv_iload E d_Tree_firstEnded_18 rfl ?_
    refine pv_aaload (t0 := 2) E 9 _ (fun _ _ _ _ _ => rfl) rfl (by rw [hT.1.1.2.2.2.1]; exact vp_in_nI (by omega) (by decide)) d_Tree_firstEnded_20 ?_
    rw [nI_clamp (show i < 2 ^ 31 by omega)]
    refine pv_top (congrArg ps_ref j0) ?_
    refine pv_astore E d_Tree_firstEnded_21 (by decide) ?_
    refine pv_aload E d_Tree_firstEnded_23 rfl ?_
    refine gf_Task_owner E wd_712 d_Tree_firstEnded_25 ?_
    refine pv_top (congrArg ps_ref j1) ?_
    refine pv_aload_n E d_Tree_firstEnded_28 rfl rfl ?_
    refine pv_acmp_ne (tgt := 60) E d_Tree_firstEnded_29 rfl (fun h29 => ?_) (fun h29 => ?_)
    · skip
      refine pv_inc1 E d_Tree_firstEnded_60 rfl (by decide) ?_
      refine pv_goto (tgt := 5) E d_Tree_firstEnded_63 rfl ?_
      exact pv_back (ih (i + 1) (by show i + 1 ≤ uN t; omega) (by show _ - (i + 1) < _ - i; omega)) ⟨rfl, rfl, rfl, by show some (ps_ref (Option.map _ (u_fst t c s i))) = some (ps_ref (Option.map _ (u_fst t c s (i + 1)))); rw [fst_neg (fun z => h29 (by rw [z.1]))], congrArg (fun z : Int32 => some (ps_int z)) (nI_1 i), trivial⟩
    · skip
      have ho : uO t i = c := by injection h29 with z; injection z
      refine pv_aload E d_Tree_firstEnded_32 rfl ?_
      refine gf_Task_state E wd_720 d_Tree_firstEnded_34 ?_
      refine pv_top (congrArg ps_int j6) ?_
      refine pv_iload_n E d_Tree_firstEnded_37 rfl rfl ?_
      refine pv_icmp_ne (tgt := 60) E d_Tree_firstEnded_38 rfl (fun h38 => ?_) (fun h38 => ?_)
      · skip
        refine pv_inc1 E d_Tree_firstEnded_60 rfl (by decide) ?_
        refine pv_goto (tgt := 5) E d_Tree_firstEnded_63 rfl ?_
        exact pv_back (ih (i + 1) (by show i + 1 ≤ uN t; omega) (by show _ - (i + 1) < _ - i; omega)) ⟨rfl, rfl, rfl, by show some (ps_ref (Option.map _ (u_fst t c s i))) = some (ps_ref (Option.map _ (u_fst t c s (i + 1)))); rw [fst_neg (fun z => h38 z.2)], congrArg (fun z : Int32 => some (ps_int z)) (nI_1 i), trivial⟩
      · skip
        refine pv_aload_n E d_Tree_firstEnded_41 rfl rfl ?_
        refine pv_ifnull (tgt := 57) E d_Tree_firstEnded_42 rfl (fun h42 => ?_) (fun q42 h42 => ?_)
        · skip
          have hF : u_fst t c s i = none := by
            cases z : u_fst t c s i with
            | none => rfl
            | some b => rw [z] at h42; cases h42
          refine pv_aload E d_Tree_firstEnded_57 rfl ?_
          refine pv_astore_n E d_Tree_firstEnded_59 rfl (by decide) ?_
          refine pv_inc1 E d_Tree_firstEnded_60 rfl (by decide) ?_
          refine pv_goto (tgt := 5) E d_Tree_firstEnded_63 rfl ?_
          exact pv_back (ih (i + 1) (by show i + 1 ≤ uN t; omega) (by show _ - (i + 1) < _ - i; omega)) ⟨rfl, rfl, rfl, by show some (ps_ref (some (6, i))) = some (ps_ref (Option.map _ (u_fst t c s (i + 1)))); rw [fst_none ⟨ho, h38⟩ hF]; rfl, congrArg (fun z : Int32 => some (ps_int z)) (nI_1 i), trivial⟩
        · skip
          obtain ⟨b, hF⟩ : ∃ b, u_fst t c s i = some b := by
            cases z : u_fst t c s i with
            | none => rw [z] at h42; cases h42
            | some b => exact ⟨b, rfl⟩
          have hb : b < uN t := by have := u_fst_lt t c s i b hF; omega
          refine pv_aload E d_Tree_firstEnded_45 rfl ?_
          refine gf_Task_turn E wd_727 d_Tree_firstEnded_47 ?_
          refine pv_top (congrArg ps_int j9) ?_
          refine pv_aload_n E d_Tree_firstEnded_50 rfl rfl ?_
          refine pv_top (congrArg ps_ref (show Option.map (fun j => (6, j)) (u_fst t c s i) = some (6, b) by rw [hF]; rfl)) ?_
          refine gf_Task_turn E wd_727 d_Tree_firstEnded_51 ?_
          refine pv_top (congrArg ps_int (hT.2.2 b hb).2.2.2.2) ?_
          refine pv_icmp_ge (tgt := 60) E d_Tree_firstEnded_54 rfl (fun h54 => ?_) (fun h54 => ?_)
          · skip
            refine pv_inc1 E d_Tree_firstEnded_60 rfl (by decide) ?_
            refine pv_goto (tgt := 5) E d_Tree_firstEnded_63 rfl ?_
            exact pv_back (ih (i + 1) (by show i + 1 ≤ uN t; omega) (by show _ - (i + 1) < _ - i; omega)) ⟨rfl, rfl, rfl, by show some (ps_ref (Option.map _ (u_fst t c s i))) = some (ps_ref (Option.map _ (u_fst t c s (i + 1)))); rw [fst_ge ⟨ho, h38⟩ hF (Nat.not_lt.mpr ((nI_leI (by have := hW.2.2.2.1.2 b; omega) (by have := hW.2.2.2.1.2 i; omega)).mp h54)), hF], congrArg (fun z : Int32 => some (ps_int z)) (nI_1 i), trivial⟩
          · skip
            refine pv_aload E d_Tree_firstEnded_57 rfl ?_
            refine pv_astore_n E d_Tree_firstEnded_59 rfl (by decide) ?_
            refine pv_inc1 E d_Tree_firstEnded_60 rfl (by decide) ?_
            refine pv_goto (tgt := 5) E d_Tree_firstEnded_63 rfl ?_
            exact pv_back (ih (i + 1) (by show i + 1 ≤ uN t; omega) (by show _ - (i + 1) < _ - i; omega)) ⟨rfl, rfl, rfl, by show some (ps_ref (some (6, i))) = some (ps_ref (Option.map _ (u_fst t c s (i + 1)))); rw [fst_lt ⟨ho, h38⟩ hF (Nat.lt_of_not_le (fun z => h54 ((nI_leI (by have := hW.2.2.2.1.2 b; omega) (by have := hW.2.2.2.1.2 i; omega)).mpr z)))]; rfl, congrArg (fun z : Int32 => some (ps_int z)) (nI_1 i), trivial⟩
set_option maxHeartbeats 8000000 in
set_option maxRecDepth 100000 in
theorem k_Tree_succeeded (l : Launch) (D : va_G) (ca : Nat → ClassId) (A : Nat → Prop) (σ : ps_S) (c : Nat) (t : tT) (hT : RT σ t) (hW : tW t) (hc : c < tN t) : ∀ adr, ps_M l y_Tree_succeeded c_Tree_succeeded 2 (Option.some Jvm.ClassFile.FieldType.boolean) { frames := 1, cells := 0, slots := 0, locals := 24 } D ca A adr σ [ps_ref (some (7, 0)), ps_ref (some (5, c))] (fun rv σ' => rv = some (ps_int (if t_ok t c = true then 1 else 0)) ∧ σ' = σ) := by
  intro adr
  refine ps_M.of (by decide +kernel) (Nat.le_of_ble_eq_true rfl) ?_
  intro p_ e_ s_ m_ args_ below_ meth_ c_ E hr hlk hnm
  obtain ⟨⟨b0, b1, b2, b3, b4, b5⟩, ⟨d1, d2, d3, d4, d5⟩, b6, b7, b8⟩ := hT.2.1 c hc
  have h12 := hW.1
  have hl1 := u_cnt_le t c 1 (uN t)
  have hl2 := u_cnt_le t c 2 (uN t)
  have hl3 := u_cnt_le t c 3 (uN t)
  refine pv_aload_n E d_Tree_succeeded_0 rfl rfl ?_
  refine gf_Scope_policy E wd_643 d_Tree_succeeded_1 ?_
  refine pv_top (congrArg ps_int b3) ?_
  refine pv_iconst (v := 2) E d_Tree_succeeded_4 (by decide) ?_
  refine pv_icmp_ne (tgt := 23) E d_Tree_succeeded_5 rfl (fun h5 => ?_) (fun h5 => ?_)
  · skip
    refine pv_aload_n E d_Tree_succeeded_23 rfl rfl ?_
    refine pv_aload_n E d_Tree_succeeded_24 rfl rfl ?_
    refine pv_iconst (v := 2) E d_Tree_succeeded_25 (by decide) ?_
    refine pv_callV E (fun adr => k_Tree_countTasks l D ca A _ c 2 t hT hW adr) yv_Tree_countTasks wd_296 rfl rfl (fun _ => ⟨_, rfl⟩) rfl ⟨by decide, by decide⟩ (Nat.le_of_ble_eq_true rfl) d_Tree_succeeded_26 ⟨by decide, by decide⟩ (fun r26 σ26 hq26 => ?_)
    obtain ⟨hr26, hs26⟩ := hq26
    subst r26
    subst σ26
    refine pv_if_ne (tgt := 45) E d_Tree_succeeded_29 rfl (fun h29 => ?_) (fun h29 => ?_)
    · skip
      refine pv_iconst (v := 0) E d_Tree_succeeded_45 (by decide) ?_
      exact pv_zret E hr hlk d_Tree_succeeded_46 (by first | rfl | (apply ps_zb; assumption)) (by decide) (by decide) ⟨by rw [t_ok, if_neg h5, decide_eq_false (fun z => h29 (by rw [z]; decide))]; rfl, rfl⟩
    · skip
      refine pv_aload_n E d_Tree_succeeded_32 rfl rfl ?_
      refine pv_aload_n E d_Tree_succeeded_33 rfl rfl ?_
      refine pv_iconst (v := 3) E d_Tree_succeeded_34 (by decide) ?_
      refine pv_callV E (fun adr => k_Tree_countTasks l D ca A _ c 3 t hT hW adr) yv_Tree_countTasks wd_296 rfl rfl (fun _ => ⟨_, rfl⟩) rfl ⟨by decide, by decide⟩ (Nat.le_of_ble_eq_true rfl) d_Tree_succeeded_35 ⟨by decide, by decide⟩ (fun r35 σ35 hq35 => ?_)
      obtain ⟨hr35, hs35⟩ := hq35
      subst r35
      subst σ35
      refine pv_if_ne (tgt := 45) E d_Tree_succeeded_38 rfl (fun h38 => ?_) (fun h38 => ?_)
      · skip
        refine pv_iconst (v := 0) E d_Tree_succeeded_45 (by decide) ?_
        exact pv_zret E hr hlk d_Tree_succeeded_46 (by first | rfl | (apply ps_zb; assumption)) (by decide) (by decide) ⟨by rw [t_ok, if_neg h5, decide_eq_false (p := u_cnt t c 3 (uN t) = 0) (fun z => h38 (by rw [z]; decide)), Bool.and_false]; rfl, rfl⟩
      · skip
        refine pv_iconst (v := 1) E d_Tree_succeeded_41 (by decide) ?_
        refine pv_goto (tgt := 46) E d_Tree_succeeded_42 rfl ?_
        exact pv_zret E hr hlk d_Tree_succeeded_46 (by first | rfl | (apply ps_zb; assumption)) (by decide) (by decide) ⟨by rw [t_ok, if_neg h5, decide_eq_true ((nI_0iff (by omega)).mp h29), decide_eq_true ((nI_0iff (by omega)).mp h38)]; rfl, rfl⟩
  · skip
    refine pv_aload_n E d_Tree_succeeded_8 rfl rfl ?_
    refine pv_aload_n E d_Tree_succeeded_9 rfl rfl ?_
    refine pv_iconst (v := 1) E d_Tree_succeeded_10 (by decide) ?_
    refine pv_callV E (fun adr => k_Tree_countTasks l D ca A _ c 1 t hT hW adr) yv_Tree_countTasks wd_296 rfl rfl (fun _ => ⟨_, rfl⟩) rfl ⟨by decide, by decide⟩ (Nat.le_of_ble_eq_true rfl) d_Tree_succeeded_11 ⟨by decide, by decide⟩ (fun r11 σ11 hq11 => ?_)
    obtain ⟨hr11, hs11⟩ := hq11
    subst r11
    subst σ11
    refine pv_if_le (tgt := 21) E d_Tree_succeeded_14 rfl (fun h14 => ?_) (fun h14 => ?_)
    · skip
      refine pv_iconst (v := 0) E d_Tree_succeeded_21 (by decide) ?_
      exact pv_zret E hr hlk d_Tree_succeeded_22 (by first | rfl | (apply ps_zb; assumption)) (by decide) (by decide) ⟨by rw [t_ok, if_pos h5, decide_eq_false (by have := nI_le0 (by omega) h14; omega)]; rfl, rfl⟩
    · skip
      refine pv_iconst (v := 1) E d_Tree_succeeded_17 (by decide) ?_
      refine pv_goto (tgt := 22) E d_Tree_succeeded_18 rfl ?_
      exact pv_zret E hr hlk d_Tree_succeeded_22 (by first | rfl | (apply ps_zb; assumption)) (by decide) (by decide) ⟨by rw [t_ok, if_pos h5, decide_eq_true (nI_gt0 h14)]; rfl, rfl⟩
set_option maxHeartbeats 8000000 in
set_option maxRecDepth 100000 in
theorem k_Tree_valueOf (l : Launch) (D : va_G) (ca : Nat → ClassId) (A : Nat → Prop) (σ : ps_S) (c : Nat) (t : tT) (hT : RT σ t) (hW : tW t) (hc : c < tN t) : ∀ adr, ps_M l y_Tree_valueOf c_Tree_valueOf 4 (Option.some Jvm.ClassFile.FieldType.int) { frames := 1, cells := 0, slots := 0, locals := 25 } D ca A adr σ [ps_ref (some (7, 0)), ps_ref (some (5, c))] (fun rv σ' => rv = some (ps_int (t_val t c)) ∧ σ' = σ) := by
  intro adr
  refine ps_M.of (by decide +kernel) (Nat.le_of_ble_eq_true rfl) ?_
  intro p_ e_ s_ m_ args_ below_ meth_ c_ E hr hlk hnm
  obtain ⟨⟨b0, b1, b2, b3, b4, b5⟩, ⟨d1, d2, d3, d4, d5⟩, b6, b7, b8⟩ := hT.2.1 c hc
  have h12 := hW.1
  refine pv_aload_n E d_Tree_valueOf_0 rfl rfl ?_
  refine gf_Scope_policy E wd_643 d_Tree_valueOf_1 ?_
  refine pv_top (congrArg ps_int b3) ?_
  refine pv_iconst (v := 2) E d_Tree_valueOf_4 (by decide) ?_
  refine pv_icmp_ne (tgt := 28) E d_Tree_valueOf_5 rfl (fun h5 => ?_) (fun h5 => ?_)
  · skip
    refine pv_iconst (v := 0) E d_Tree_valueOf_28 (by decide) ?_
    refine pv_istore_n E d_Tree_valueOf_29 rfl (by decide) ?_
    refine pv_iconst (v := 0) E d_Tree_valueOf_30 (by decide) ?_
    refine pv_istore_n E d_Tree_valueOf_31 rfl (by decide) ?_
    refine pv_sub (L' := [(0, ps_ref (some (7, 0))), (1, ps_ref (some (5, c))), (2, ps_int 0), (3, ps_int (nI 0))]) ⟨rfl, rfl, rfl, rfl, trivial⟩ ?_
    refine pv_loop (ι := Nat) (fun i => uN t - i) (fun i => [(0, ps_ref (some (7, 0))), (1, ps_ref (some (5, c))), (2, ps_int (u_sum t c i)), (3, ps_int (nI i))]) (fun _ => σ) (fun i => i ≤ uN t) (fun i hi ih => ?_) 0 (Nat.zero_le _)
    dsimp only at hi ih ⊢
    refine pv_iload_n E d_Tree_valueOf_32 rfl rfl ?_
    refine pv_aload_n E d_Tree_valueOf_33 rfl rfl ?_
    refine gf_Tree_tasksMade E wd_82 d_Tree_valueOf_34 ?_
    refine pv_top (congrArg ps_int hT.1.2.2.1) ?_
    refine pv_icmp_ge (tgt := 84) E d_Tree_valueOf_37 rfl (fun h37 => ?_) (fun h37 => ?_)
    · skip
      have hi2 : uN t ≤ i := (nI_leI (by omega) (by omega)).mp h37
      refine pv_iload_n E d_Tree_valueOf_84 rfl rfl ?_
      exact pv_iret E hr hlk d_Tree_valueOf_85 (by decide) (by decide) ⟨by rw [t_val, if_neg h5, show uN t = i by omega], rfl⟩
    · skip
      have hlt : i < uN t := Nat.lt_of_not_le (fun z => h37 ((nI_leI (by omega) (by omega)).mpr z))
      obtain ⟨⟨j0, j1, j2, j3, j4, j5⟩, j6, j7, j8, j9⟩ := hT.2.2 i hlt
      refine pv_aload_n E d_Tree_valueOf_40 rfl rfl ?_
      refine gf_Tree_tasks E wd_79 d_Tree_valueOf_41 ?_
      refine pv_top (congrArg ps_ref hT.1.1.2.1) ?_
      refine pv_iload_n E d_Tree_valueOf_44 rfl rfl ?_
      refine pv_aaload (t0 := 2) E 9 _ (fun _ _ _ _ _ => rfl) rfl (by rw [hT.1.1.2.2.2.1]; exact vp_in_nI (by omega) (by decide)) d_Tree_valueOf_45 ?_
      rw [nI_clamp (show i < 2 ^ 31 by omega)]
      refine pv_top (congrArg ps_ref j0) ?_
      refine gf_Task_owner E wd_712 d_Tree_valueOf_46 ?_
      refine pv_top (congrArg ps_ref j1) ?_
      refine pv_aload_n E d_Tree_valueOf_49 rfl rfl ?_
      refine pv_acmp_ne (tgt := 78) E d_Tree_valueOf_50 rfl (fun h50 => ?_) (fun h50 => ?_)
      · skip
        refine pv_inc1 E d_Tree_valueOf_78 rfl (by decide) ?_
        refine pv_goto (tgt := 32) E d_Tree_valueOf_81 rfl ?_
        exact pv_back (ih (i + 1) (by show i + 1 ≤ uN t; omega) (by show _ - (i + 1) < _ - i; omega)) ⟨rfl, rfl, by show some (ps_int _) = some (ps_int (u_sum t c (i + 1))); rw [u_sum, if_neg (fun z => h50 (by rw [z.1]))], congrArg (fun z : Int32 => some (ps_int z)) (nI_1 i), trivial⟩
      · skip
        refine pv_aload_n E d_Tree_valueOf_53 rfl rfl ?_
        refine gf_Tree_tasks E wd_79 d_Tree_valueOf_54 ?_
        refine pv_top (congrArg ps_ref hT.1.1.2.1) ?_
        refine pv_iload_n E d_Tree_valueOf_57 rfl rfl ?_
        refine pv_aaload (t0 := 2) E 9 _ (fun _ _ _ _ _ => rfl) rfl (by rw [hT.1.1.2.2.2.1]; exact vp_in_nI (by omega) (by decide)) d_Tree_valueOf_58 ?_
        rw [nI_clamp (show i < 2 ^ 31 by omega)]
        refine pv_top (congrArg ps_ref j0) ?_
        refine gf_Task_state E wd_720 d_Tree_valueOf_59 ?_
        refine pv_top (congrArg ps_int j6) ?_
        refine pv_iconst (v := 1) E d_Tree_valueOf_62 (by decide) ?_
        refine pv_icmp_ne (tgt := 78) E d_Tree_valueOf_63 rfl (fun h63 => ?_) (fun h63 => ?_)
        · skip
          refine pv_inc1 E d_Tree_valueOf_78 rfl (by decide) ?_
          refine pv_goto (tgt := 32) E d_Tree_valueOf_81 rfl ?_
          exact pv_back (ih (i + 1) (by show i + 1 ≤ uN t; omega) (by show _ - (i + 1) < _ - i; omega)) ⟨rfl, rfl, by show some (ps_int _) = some (ps_int (u_sum t c (i + 1))); rw [u_sum, if_neg (fun z => h63 z.2)], congrArg (fun z : Int32 => some (ps_int z)) (nI_1 i), trivial⟩
        · skip
          refine pv_iload_n E d_Tree_valueOf_66 rfl rfl ?_
          refine pv_aload_n E d_Tree_valueOf_67 rfl rfl ?_
          refine gf_Tree_tasks E wd_79 d_Tree_valueOf_68 ?_
          refine pv_top (congrArg ps_ref hT.1.1.2.1) ?_
          refine pv_iload_n E d_Tree_valueOf_71 rfl rfl ?_
          refine pv_aaload (t0 := 2) E 9 _ (fun _ _ _ _ _ => rfl) rfl (by rw [hT.1.1.2.2.2.1]; exact vp_in_nI (by omega) (by decide)) d_Tree_valueOf_72 ?_
          rw [nI_clamp (show i < 2 ^ 31 by omega)]
          refine pv_top (congrArg ps_ref j0) ?_
          refine gf_Task_content E wd_725 d_Tree_valueOf_73 ?_
          refine pv_top (congrArg ps_int j8) ?_
          refine pv_iadd E d_Tree_valueOf_76 ?_
          refine pv_istore_n E d_Tree_valueOf_77 rfl (by decide) ?_
          refine pv_inc1 E d_Tree_valueOf_78 rfl (by decide) ?_
          refine pv_goto (tgt := 32) E d_Tree_valueOf_81 rfl ?_
          exact pv_back (ih (i + 1) (by show i + 1 ≤ uN t; omega) (by show _ - (i + 1) < _ - i; omega)) ⟨rfl, rfl, by show some (ps_int _) = some (ps_int (u_sum t c (i + 1))); rw [u_sum, if_pos ⟨by injection h50 with z; injection z, h63⟩], congrArg (fun z : Int32 => some (ps_int z)) (nI_1 i), trivial⟩
  · skip
    refine pv_aload_n E d_Tree_valueOf_8 rfl rfl ?_
    refine pv_aload_n E d_Tree_valueOf_9 rfl rfl ?_
    refine pv_iconst (v := 1) E d_Tree_valueOf_10 (by decide) ?_
    refine pv_callV E (fun adr => k_Tree_firstEnded l D ca A _ c 1 t hT hW adr) yv_Tree_firstEnded wd_317 rfl rfl (fun _ => ⟨_, rfl⟩) rfl ⟨by decide, by decide⟩ (Nat.le_of_ble_eq_true rfl) d_Tree_valueOf_11 ⟨by decide, by decide⟩ (fun r11 σ11 hq11 => ?_)
    obtain ⟨hr11, hs11⟩ := hq11
    subst r11
    subst σ11
    refine pv_astore_n E d_Tree_valueOf_14 rfl (by decide) ?_
    refine pv_aload_n E d_Tree_valueOf_15 rfl rfl ?_
    refine pv_ifnonnull (tgt := 23) E d_Tree_valueOf_16 rfl (fun q16 h16 => ?_) (fun h16 => ?_)
    · skip
      obtain ⟨b, hF⟩ : ∃ b, u_fst t c 1 (uN t) = some b := by
        cases z : u_fst t c 1 (uN t) with
        | none => rw [z] at h16; cases h16
        | some b => exact ⟨b, rfl⟩
      have hb := u_fst_lt t c 1 _ b hF
      refine pv_aload_n E d_Tree_valueOf_23 rfl rfl ?_
      refine pv_top (congrArg ps_ref (show Option.map (fun j => (6, j)) (u_fst t c 1 (uN t)) = some (6, b) by rw [hF]; rfl)) ?_
      refine gf_Task_content E wd_725 d_Tree_valueOf_24 ?_
      refine pv_top (congrArg ps_int (hT.2.2 b hb).2.2.2.1) ?_
      exact pv_iret E hr hlk d_Tree_valueOf_27 (by decide) (by decide) ⟨by rw [t_val, if_pos h5, hF]; rfl, rfl⟩
    · skip
      have hF : u_fst t c 1 (uN t) = none := by
        cases z : u_fst t c 1 (uN t) with
        | none => rfl
        | some b => rw [z] at h16; cases h16
      refine pv_iconst (v := 0) E d_Tree_valueOf_19 (by decide) ?_
      refine pv_goto (tgt := 27) E d_Tree_valueOf_20 rfl ?_
      exact pv_iret E hr hlk d_Tree_valueOf_27 (by decide) (by decide) ⟨by rw [t_val, if_pos h5, hF]; rfl, rfl⟩
set_option maxHeartbeats 8000000 in
set_option maxRecDepth 100000 in
theorem k_Tree_giveResult (l : Launch) (D : va_G) (ca : Nat → ClassId) (A : Nat → Prop) (σ : ps_S) (c : Nat) (t : tT) (hT : RT σ t) (hW : tW t) (hc : c < tN t) (g : gT) (hR : RC σ g) (hO : gOK g) (hr_ : tR t c < gN g) : ∀ adr, ps_M l y_Tree_giveResult c_Tree_giveResult 4 (Option.none : Option Jvm.ClassFile.FieldType) { frames := 3, cells := 0, slots := 0, locals := 67 } D ca A adr σ [ps_ref (some (7, 0)), ps_ref (some (5, c)), ps_ref (some (1, 0))] (fun rv σ' => rv = none ∧ RC σ' (t_give t g c) ∧ FrG σ σ' ∧ ps_N σ' = ps_N σ) := by
  intro adr
  refine ps_M.of (by decide +kernel) (Nat.le_of_ble_eq_true rfl) ?_
  intro p_ e_ s_ m_ args_ below_ meth_ c_ E hr hlk hnm
  obtain ⟨⟨b0, b1, b2, b3, b4, b5⟩, ⟨d1, d2, d3, d4, d5⟩, b6, b7, b8⟩ := hT.2.1 c hc
  refine pv_aload_n E d_Tree_giveResult_0 rfl rfl ?_
  refine gf_Scope_result E wd_647 d_Tree_giveResult_1 ?_
  refine pv_top (congrArg ps_ref b5) ?_
  refine gf_Stage_state E wd_487 d_Tree_giveResult_4 ?_
  refine pv_top (congrArg ps_int (hR.2.1 _ hr_).2.1) ?_
  refine pv_if_eq (tgt := 11) E d_Tree_giveResult_7 rfl (fun h7 => ?_) (fun h7 => ?_)
  · skip
    refine pv_aload_n E d_Tree_giveResult_11 rfl rfl ?_
    refine gf_Scope_late E wd_657 d_Tree_giveResult_12 ?_
    refine pv_top (congrArg ps_int b8) ?_
    refine pv_if_eq (tgt := 32) E d_Tree_giveResult_15 rfl (fun h15 => ?_) (fun h15 => ?_)
    · skip
      refine pv_aload_n E d_Tree_giveResult_32 rfl rfl ?_
      refine pv_aload_n E d_Tree_giveResult_33 rfl rfl ?_
      refine pv_callV E (fun adr => k_Tree_succeeded l D ca A _ c t hT hW hc adr) yv_Tree_succeeded wd_309 rfl rfl (fun _ => ⟨_, rfl⟩) rfl ⟨by decide, by decide⟩ (Nat.le_of_ble_eq_true rfl) d_Tree_giveResult_34 ⟨by decide, by decide⟩ (fun r34 σ34 hq34 => ?_)
      obtain ⟨hr34, hs34⟩ := hq34
      subst r34
      subst σ34
      refine pv_if_eq (tgt := 57) E d_Tree_giveResult_37 rfl (fun h37 => ?_) (fun h37 => ?_)
      · skip
        have hk : ¬ t_ok t c = true := fun z => by rw [if_pos z] at h37; exact absurd h37 (by decide)
        refine pv_aload_n E d_Tree_giveResult_57 rfl rfl ?_
        refine pv_aload_n E d_Tree_giveResult_58 rfl rfl ?_
        refine pv_iconst (v := 2) E d_Tree_giveResult_59 (by decide) ?_
        refine pv_callV E (fun adr => k_Tree_firstEnded l D ca A _ c 2 t hT hW adr) yv_Tree_firstEnded wd_317 rfl rfl (fun _ => ⟨_, rfl⟩) rfl ⟨by decide, by decide⟩ (Nat.le_of_ble_eq_true rfl) d_Tree_giveResult_60 ⟨by decide, by decide⟩ (fun r60 σ60 hq60 => ?_)
        obtain ⟨hr60, hs60⟩ := hq60
        subst r60
        subst σ60
        refine pv_astore_n E d_Tree_giveResult_63 rfl (by decide) ?_
        refine pv_aload_n E d_Tree_giveResult_64 rfl rfl ?_
        refine pv_aload_n E d_Tree_giveResult_65 rfl rfl ?_
        refine gf_Scope_result E wd_647 d_Tree_giveResult_66 ?_
        refine pv_top (congrArg ps_ref b5) ?_
        refine pv_iconst (v := 2) E d_Tree_giveResult_69 (by decide) ?_
        refine pv_aload_n E d_Tree_giveResult_70 rfl rfl ?_
        refine pv_ifnonnull (tgt := 78) E d_Tree_giveResult_71 rfl (fun q71 h71 => ?_) (fun h71 => ?_)
        · skip
          obtain ⟨b, hF⟩ : ∃ b, u_fst t c 2 (uN t) = some b := by
            cases z : u_fst t c 2 (uN t) with
            | none => rw [z] at h71; cases h71
            | some b => exact ⟨b, rfl⟩
          have hb := u_fst_lt t c 2 _ b hF
          refine pv_aload_n E d_Tree_giveResult_78 rfl rfl ?_
          refine pv_top (congrArg ps_ref (show Option.map (fun j => (6, j)) (u_fst t c 2 (uN t)) = some (6, b) by rw [hF]; rfl)) ?_
          refine gf_Task_content E wd_725 d_Tree_giveResult_79 ?_
          refine pv_top (congrArg ps_int (hT.2.2 b hb).2.2.2.1) ?_
          refine pv_callV E (fun adr => k_Graph_settle l D ca A _ (tR t c) 2 _ g hR hO hr_ h7 (by decide) adr) yv_Graph_settle wd_308 rfl rfl (fun _ => ⟨_, rfl⟩) rfl ⟨by decide, by decide⟩ (Nat.le_of_ble_eq_true rfl) d_Tree_giveResult_82 ⟨by decide, by decide⟩ (fun r82 σ82 hq82 => ?_)
          obtain ⟨hr82, hq82, hf82, hn82⟩ := hq82
          subst r82
          exact pv_vret E hr hlk d_Tree_giveResult_85 (by decide) (by decide) ⟨rfl, by rw [t_give, if_pos h7, t_out, if_pos h15, if_neg hk, hF]; exact hq82, hf82, hn82⟩
        · skip
          have hF : u_fst t c 2 (uN t) = none := by
            cases z : u_fst t c 2 (uN t) with
            | none => rfl
            | some b => rw [z] at h71; cases h71
          refine pv_iconst (v := 0) E d_Tree_giveResult_74 (by decide) ?_
          refine pv_goto (tgt := 82) E d_Tree_giveResult_75 rfl ?_
          refine pv_callV E (fun adr => k_Graph_settle l D ca A _ (tR t c) 2 _ g hR hO hr_ h7 (by decide) adr) yv_Graph_settle wd_308 rfl rfl (fun _ => ⟨_, rfl⟩) rfl ⟨by decide, by decide⟩ (Nat.le_of_ble_eq_true rfl) d_Tree_giveResult_82 ⟨by decide, by decide⟩ (fun r82 σ82 hq82 => ?_)
          obtain ⟨hr82, hq82, hf82, hn82⟩ := hq82
          subst r82
          exact pv_vret E hr hlk d_Tree_giveResult_85 (by decide) (by decide) ⟨rfl, by rw [t_give, if_pos h7, t_out, if_pos h15, if_neg hk, hF]; exact hq82, hf82, hn82⟩
      · skip
        have hk : t_ok t c = true := by
          by_cases z : t_ok t c = true
          · exact z
          · exact absurd (if_neg z) h37
        refine pv_aload_n E d_Tree_giveResult_40 rfl rfl ?_
        refine pv_aload_n E d_Tree_giveResult_41 rfl rfl ?_
        refine gf_Scope_result E wd_647 d_Tree_giveResult_42 ?_
        refine pv_top (congrArg ps_ref b5) ?_
        refine pv_iconst (v := 1) E d_Tree_giveResult_45 (by decide) ?_
        refine pv_aload_n E d_Tree_giveResult_46 rfl rfl ?_
        refine pv_aload_n E d_Tree_giveResult_47 rfl rfl ?_
        refine pv_callV E (fun adr => k_Tree_valueOf l D ca A _ c t hT hW hc adr) yv_Tree_valueOf wd_313 rfl rfl (fun _ => ⟨_, rfl⟩) rfl ⟨by decide, by decide⟩ (Nat.le_of_ble_eq_true rfl) d_Tree_giveResult_48 ⟨by decide, by decide⟩ (fun r48 σ48 hq48 => ?_)
        obtain ⟨hr48, hs48⟩ := hq48
        subst r48
        subst σ48
        refine pv_callV E (fun adr => k_Graph_settle l D ca A _ (tR t c) 1 _ g hR hO hr_ h7 (by decide) adr) yv_Graph_settle wd_308 rfl rfl (fun _ => ⟨_, rfl⟩) rfl ⟨by decide, by decide⟩ (Nat.le_of_ble_eq_true rfl) d_Tree_giveResult_51 ⟨by decide, by decide⟩ (fun r51 σ51 hq51 => ?_)
        obtain ⟨hr51, hq51, hf51, hn51⟩ := hq51
        subst r51
        refine pv_goto (tgt := 85) E d_Tree_giveResult_54 rfl ?_
        exact pv_vret E hr hlk d_Tree_giveResult_85 (by decide) (by decide) ⟨rfl, by rw [t_give, if_pos h7, t_out, if_pos h15, if_pos hk]; exact hq51, hf51, hn51⟩
    · skip
      refine pv_aload_n E d_Tree_giveResult_18 rfl rfl ?_
      refine pv_aload_n E d_Tree_giveResult_19 rfl rfl ?_
      refine gf_Scope_result E wd_647 d_Tree_giveResult_20 ?_
      refine pv_top (congrArg ps_ref b5) ?_
      refine pv_iconst (v := 2) E d_Tree_giveResult_23 (by decide) ?_
      refine pv_bipush (v := 7) E d_Tree_giveResult_24 (by decide) ?_
      refine pv_callV E (fun adr => k_Graph_settle l D ca A _ (tR t c) 2 7 g hR hO hr_ h7 (by decide) adr) yv_Graph_settle wd_308 rfl rfl (fun _ => ⟨_, rfl⟩) rfl ⟨by decide, by decide⟩ (Nat.le_of_ble_eq_true rfl) d_Tree_giveResult_26 ⟨by decide, by decide⟩ (fun r26 σ26 hq26 => ?_)
      obtain ⟨hr26, hq26, hf26, hn26⟩ := hq26
      subst r26
      refine pv_goto (tgt := 85) E d_Tree_giveResult_29 rfl ?_
      exact pv_vret E hr hlk d_Tree_giveResult_85 (by decide) (by decide) ⟨rfl, by rw [t_give, if_pos h7, t_out, if_neg h15]; exact hq26, hf26, hn26⟩
  · skip
    exact pv_vret E hr hlk d_Tree_giveResult_10 (by decide) (by decide) ⟨rfl, by rw [t_give, if_neg h7]; exact hR, FrG.rf σ, rfl⟩
set_option maxHeartbeats 8000000 in
set_option maxRecDepth 100000 in
theorem k_Tree_closeAllThatCan (l : Launch) (D : va_G) (ca : Nat → ClassId) (A : Nat → Prop) (σ : ps_S)  (t : tT) (hT0 : RT σ t) (hW0 : tW t) (g : gT) (hR0 : RC σ g) (hO0 : gOK g) (hg0 : tgW t g) : ∀ adr, ps_M l y_Tree_closeAllThatCan c_Tree_closeAllThatCan 4 (Option.none : Option Jvm.ClassFile.FieldType) { frames := 4, cells := 0, slots := 0, locals := 90 } D ca A adr σ [ps_ref (some (7, 0)), ps_ref (some (1, 0))] (fun rv σ' => rv = none ∧ RT σ' (t_close (t, g)).1 ∧ RC σ' (t_close (t, g)).2 ∧ FrC σ σ' ∧ ps_N σ' = ps_N σ) := by
  intro adr
  refine ps_M.of (by decide +kernel) (Nat.le_of_ble_eq_true rfl) ?_
  intro p_ e_ s_ m_ args_ below_ meth_ c_ E hr hlk hnm
  have h12 := hW0.1
  refine pv_aload_n E d_Tree_closeAllThatCan_0 rfl rfl ?_
  refine gf_Tree_scopesMade E wd_80 d_Tree_closeAllThatCan_1 ?_
  refine pv_top (congrArg ps_int hT0.1.2.1) ?_
  refine pv_iconst (v := 1) E d_Tree_closeAllThatCan_4 (by decide) ?_
  refine pv_isub E d_Tree_closeAllThatCan_5 ?_
  refine pv_istore_n E d_Tree_closeAllThatCan_6 rfl (by decide) ?_
  refine pv_sub (L' := [(0, ps_ref (some (7, 0))), (1, ps_ref (some (1, 0))), (2, ps_int (nI (tN t) - 1))]) ⟨rfl, rfl, rfl, trivial⟩ ?_
  refine pv_loop (ι := Nat × (ps_S × (tT × gT))) (fun x => x.1) (fun x => [(0, ps_ref (some (7, 0))), (1, ps_ref (some (1, 0))), (2, ps_int (nI x.1 - 1))]) (fun x => x.2.1) (fun x => x.1 ≤ tN x.2.2.1 ∧ RT x.2.1 x.2.2.1 ∧ RC x.2.1 x.2.2.2 ∧ tW x.2.2.1 ∧ gOK x.2.2.2 ∧ tgW x.2.2.1 x.2.2.2 ∧ t_close (t, g) = t_clN x.2.2 x.1 ∧ FrC σ x.2.1 ∧ ps_N x.2.1 = ps_N σ) (fun x hx ih => ?_) (tN t, (σ, (t, g))) ⟨Nat.le_refl _, hT0, hR0, hW0, hO0, hg0, rfl, FrC.rf σ, rfl⟩
  obtain ⟨m, τ, t', g'⟩ := x
  obtain ⟨hi, hT, hR, hW, hO, hg, hcl, hFr, hN⟩ := hx
  dsimp only at hi hT hR hW hO hg hcl hFr hN ih ⊢
  have hm12 := hW.1
  refine pv_iload_n E d_Tree_closeAllThatCan_7 rfl rfl ?_
  refine pv_if_lt (tgt := 60) E d_Tree_closeAllThatCan_8 rfl (fun h8 => ?_) (fun h8 => ?_)
  · skip
    have hm : m = 0 := (nI_m1 (by omega)).mp h8
    exact pv_vret E hr hlk d_Tree_closeAllThatCan_60 (by decide) (by decide) ⟨rfl, by rw [hcl, hm]; exact hT, by rw [hcl, hm]; exact hR, hFr, hN⟩
  · skip
    obtain ⟨m, rfl⟩ : ∃ k, m = k + 1 := ⟨m - 1, by have : m ≠ 0 := fun z => h8 ((nI_m1 (by omega)).mpr z); omega⟩
    have hin : m < tN t' := by omega
    obtain ⟨⟨b0, b1, b2, b3, b4, b5⟩, ⟨d1, d2, d3, d4, d5⟩, b6, b7, b8⟩ := hT.2.1 m hin
    have hl0 := u_cnt_le t' m 0 (uN t')
    have h12' := hW.1
    have canh : t_can t' m = true ↔ tS t' m 2 = 1 ∧ u_cnt t' m 0 (uN t') = 0 ∧ t_unc t' m = false := by simp [t_can, and_assoc]
    have hcan : ¬ (tS t' m 2 = 1 ∧ u_cnt t' m 0 (uN t') = 0 ∧ t_unc t' m = false) → ¬ t_can t' m = true := fun z w => z (canh.mp w)
    refine pv_aload_n E d_Tree_closeAllThatCan_11 rfl rfl ?_
    refine gf_Tree_scopes E wd_78 d_Tree_closeAllThatCan_12 ?_
    refine pv_top (congrArg ps_ref hT.1.1.1) ?_
    refine pv_iload_n E d_Tree_closeAllThatCan_15 rfl rfl ?_
    refine pv_top (congrArg ps_int (nI_pred m)) ?_
    refine pv_aaload (t0 := 1) E 8 _ (fun _ _ _ _ _ => rfl) rfl (by rw [hT.1.1.2.2.1]; exact vp_in_nI (by omega) (by decide)) d_Tree_closeAllThatCan_16 ?_
    rw [nI_clamp (show m < 2 ^ 31 by omega)]
    refine pv_top (congrArg ps_ref b0) ?_
    refine pv_astore_n E d_Tree_closeAllThatCan_17 rfl (by decide) ?_
    refine pv_aload_n E d_Tree_closeAllThatCan_18 rfl rfl ?_
    refine gf_Scope_state E wd_652 d_Tree_closeAllThatCan_19 ?_
    refine pv_top (congrArg ps_int b6) ?_
    refine pv_iconst (v := 1) E d_Tree_closeAllThatCan_22 (by decide) ?_
    refine pv_icmp_ne (tgt := 54) E d_Tree_closeAllThatCan_23 rfl (fun h23 => ?_) (fun h23 => ?_)
    · skip
      refine pv_incm1 E d_Tree_closeAllThatCan_54 rfl (by decide) ?_
      refine pv_goto (tgt := 7) E d_Tree_closeAllThatCan_57 rfl ?_
      exact pv_back (ih (m, (τ, (t', g'))) ⟨by show m ≤ tN t'; omega, hT, hR, hW, hO, hg, by rw [hcl, t_clN_s, t_cl1, if_neg (hcan (fun z => h23 z.1))], hFr, hN⟩ (by show m < m + 1; omega)) ⟨rfl, rfl, congrArg (fun z : Int32 => some (ps_int z)) (show nI (m + 1) - 1 - 1 = nI m - 1 by rw [nI_pred]), trivial⟩
    · skip
      refine pv_aload_n E d_Tree_closeAllThatCan_26 rfl rfl ?_
      refine pv_aload_n E d_Tree_closeAllThatCan_27 rfl rfl ?_
      refine pv_iconst (v := 0) E d_Tree_closeAllThatCan_28 (by decide) ?_
      refine pv_callV E (fun adr => k_Tree_countTasks l D ca A _ m 0 t' hT hW adr) yv_Tree_countTasks wd_296 rfl rfl (fun _ => ⟨_, rfl⟩) rfl ⟨by decide, by decide⟩ (Nat.le_of_ble_eq_true rfl) d_Tree_closeAllThatCan_29 ⟨by decide, by decide⟩ (fun r29 σ29 hq29 => ?_)
      obtain ⟨hr29, hs29⟩ := hq29
      subst r29
      subst σ29
      refine pv_if_ne (tgt := 54) E d_Tree_closeAllThatCan_32 rfl (fun h32 => ?_) (fun h32 => ?_)
      · skip
        refine pv_incm1 E d_Tree_closeAllThatCan_54 rfl (by decide) ?_
        refine pv_goto (tgt := 7) E d_Tree_closeAllThatCan_57 rfl ?_
        exact pv_back (ih (m, (τ, (t', g'))) ⟨by show m ≤ tN t'; omega, hT, hR, hW, hO, hg, by rw [hcl, t_clN_s, t_cl1, if_neg (hcan (fun z => h32 (by rw [z.2.1]; decide)))], hFr, hN⟩ (by show m < m + 1; omega)) ⟨rfl, rfl, congrArg (fun z : Int32 => some (ps_int z)) (show nI (m + 1) - 1 - 1 = nI m - 1 by rw [nI_pred]), trivial⟩
      · skip
        refine pv_aload_n E d_Tree_closeAllThatCan_35 rfl rfl ?_
        refine pv_aload_n E d_Tree_closeAllThatCan_36 rfl rfl ?_
        refine pv_callV E (fun adr => k_Tree_hasUnclosedBelow l D ca A _ m t' hT hW adr) yv_Tree_hasUnclosedBelow wd_300 rfl rfl (fun _ => ⟨_, rfl⟩) rfl ⟨by decide, by decide⟩ (Nat.le_of_ble_eq_true rfl) d_Tree_closeAllThatCan_37 ⟨by decide, by decide⟩ (fun r37 σ37 hq37 => ?_)
        obtain ⟨hr37, hs37⟩ := hq37
        subst r37
        subst σ37
        refine pv_if_ne (tgt := 54) E d_Tree_closeAllThatCan_40 rfl (fun h40 => ?_) (fun h40 => ?_)
        · skip
          have hub : t_unc t' m = true := by
            cases z : t_unc t' m with
            | true => rfl
            | false => rw [if_neg (by rw [z]; decide)] at h40; exact absurd rfl h40
          refine pv_incm1 E d_Tree_closeAllThatCan_54 rfl (by decide) ?_
          refine pv_goto (tgt := 7) E d_Tree_closeAllThatCan_57 rfl ?_
          exact pv_back (ih (m, (τ, (t', g'))) ⟨by show m ≤ tN t'; omega, hT, hR, hW, hO, hg, by rw [hcl, t_clN_s, t_cl1, if_neg (hcan (fun z => h40 (by rw [z.2.2]; decide)))], hFr, hN⟩ (by show m < m + 1; omega)) ⟨rfl, rfl, congrArg (fun z : Int32 => some (ps_int z)) (show nI (m + 1) - 1 - 1 = nI m - 1 by rw [nI_pred]), trivial⟩
        · skip
          have hub : t_unc t' m = false := by
            cases z : t_unc t' m with
            | false => rfl
            | true => rw [if_pos z] at h40; exact absurd h40 (by decide)
          refine pv_aload_n E d_Tree_closeAllThatCan_43 rfl rfl ?_
          refine pv_iconst (v := 2) E d_Tree_closeAllThatCan_44 (by decide) ?_
          refine pf_Scope_state E wd_652 d_Tree_closeAllThatCan_45 ?_
          have hT2 := hT.sS m (Or.inl ⟨rfl, rfl⟩) 2
          have hW2 := (tKeep.sS t' m 2 2 (by omega)).W hW
          refine pv_aload_n E d_Tree_closeAllThatCan_48 rfl rfl ?_
          refine pv_aload_n E d_Tree_closeAllThatCan_49 rfl rfl ?_
          refine pv_aload_n E d_Tree_closeAllThatCan_50 rfl rfl ?_
          refine pv_callV E (fun adr => k_Tree_giveResult l D ca A _ m (tsS t' m 2 2) hT2 hW2 hin g' (hR.fr (FrT.sI (by decide))) hO (hg m hin) adr) yv_Tree_giveResult wd_304 rfl rfl (fun _ => ⟨_, rfl⟩) rfl ⟨by decide, by decide⟩ (Nat.le_of_ble_eq_true rfl) d_Tree_closeAllThatCan_51 ⟨by decide, by decide⟩ (fun r51 σ51 hq51 => ?_)
          obtain ⟨hr51, hq51, hf51, hn51⟩ := hq51
          subst r51
          refine pv_incm1 E d_Tree_closeAllThatCan_54 rfl (by decide) ?_
          refine pv_goto (tgt := 7) E d_Tree_closeAllThatCan_57 rfl ?_
          exact pv_back (ih (m, (σ51, (tsS t' m 2 2, t_give (tsS t' m 2 2) g' m))) ⟨by show m ≤ tN t'; omega, hT2.fr hf51, hq51, hW2, hO.tgive (hg m hin), fun x hx => by rw [gN_tgive]; exact hg x hx, by rw [hcl, t_clN_s, t_cl1, if_pos (canh.mpr ⟨h23, (nI_0iff (by omega)).mp h32, hub⟩)], hFr.tr ((FrC.ofT (FrT.sI (by decide))).tr (FrC.ofG hf51)), by rw [hn51]; exact hN⟩ (by show m < m + 1; omega)) ⟨rfl, rfl, congrArg (fun z : Int32 => some (ps_int z)) (show nI (m + 1) - 1 - 1 = nI m - 1 by rw [nI_pred]), trivial⟩
set_option maxHeartbeats 8000000 in
set_option maxRecDepth 100000 in
theorem k_Tree_addScope (l : Launch) (D : va_G) (ca : Nat → ClassId) (A : Nat → Prop) (σ : ps_S) (p : Option Nat) (po d : Int32) (r : Nat) (t : tT) (hT : RT σ t) (hW : tW t) (hn : tN t < 12) (hp : ∀ c, p = some c → c < tN t) : ∀ adr, ps_M l y_Tree_addScope c_Tree_addScope 6 (Option.some Jvm.ClassFile.FieldType.int) { frames := 2, cells := 3, slots := 18, locals := 45 } D ca A adr σ [ps_ref (some (7, 0)), ps_ref (p.map fun c => (5, c)), ps_int po, ps_int d, ps_ref (some (3, r))] (fun rv σ' => rv = some (ps_int (nI (tN t))) ∧ RT σ' (t_mk t p po d r) ∧ FrT σ σ') := by
  intro adr
  refine ps_M.of (by decide +kernel) (Nat.le_of_ble_eq_true rfl) ?_
  intro p_ e_ s_ m_ args_ below_ meth_ c_ E hr hlk hnm
  have hN5 : ps_N σ 5 = tN t := hT.1.1.2.2.2.2.1
  refine pv_aload_n E d_Tree_addScope_0 rfl rfl ?_
  refine pv_iload_n E d_Tree_addScope_1 rfl rfl ?_
  refine pv_callS E (fun adr => k_Scope_effectiveDeadline l D ca A _ p d t hT hp adr) ys_Scope_effectiveDeadline wd_628 rfl rfl ⟨by decide, by decide⟩ (Nat.le_of_ble_eq_true rfl) d_Tree_addScope_2 ⟨by decide, by decide⟩ (fun r2 σ2 hq2 => ?_)
  obtain ⟨hr2, hs2⟩ := hq2
  subst r2
  subst σ2
  refine pv_istore E d_Tree_addScope_5 (by decide) ?_
  refine pv_aload_n E d_Tree_addScope_7 rfl rfl ?_
  refine gf_Tree_scopes E wd_78 d_Tree_addScope_8 ?_
  refine pv_top (congrArg ps_ref hT.1.1.1) ?_
  refine pv_aload_n E d_Tree_addScope_11 rfl rfl ?_
  refine gf_Tree_scopesMade E wd_80 d_Tree_addScope_12 ?_
  refine pv_top (congrArg ps_int hT.1.2.1) ?_
  refine pv_new (ci := 4) (N := 10) (fs := [.int 0, .null, .int 0, .int 0, .null, .null, .null, .int 0, .int 0, .int 0]) (C := "PromiseScopes$Scope") (T := T_Scope) E 5 (by decide) (fun _ => rfl) rfl in_Scope ty_Scope ty_Scope_ok wd_74 wd_634 wd_15 (by decide) (by decide) (by decide) d_Tree_addScope_15 ?_
  rw [hN5]
  refine pv_dup E d_Tree_addScope_18 rfl ?_
  refine pv_aload_n E d_Tree_addScope_19 rfl rfl ?_
  refine gf_Tree_scopesMade E wd_80 d_Tree_addScope_20 ?_
  refine pv_top (congrArg ps_int hT.1.2.1) ?_
  refine pv_aload_n E d_Tree_addScope_23 rfl rfl ?_
  refine pv_iload_n E d_Tree_addScope_24 rfl rfl ?_
  refine pv_iload E d_Tree_addScope_25 rfl ?_
  refine pv_aload E d_Tree_addScope_27 rfl ?_
  refine pv_callI E (fun adr => k_Scope_init l D ca A _ _ _ _ _ _ _ adr) yi_Scope_init wd_635 rfl rfl ⟨by decide, by decide⟩ (Nat.le_of_ble_eq_true rfl) d_Tree_addScope_29 ⟨by decide, by decide⟩ (fun r29 σ29 hq29 => ?_)
  obtain ⟨hr29, hs29⟩ := hq29
  subst r29
  subst σ29
  refine pv_aastore (t0 := 1) (ci := 4) E 8 _ 5 _ (fun _ _ _ _ _ => rfl) rfl rfl (fun _ => ⟨_, rfl⟩) (by show vp_in _ (ps_L (sc_init (ps_mk σ 5 0) _ _ _ _ _ _) 8 0); rw [sc_L8]; rw [hT.1.1.2.2.1]; exact vp_in_nI hn (by decide)) d_Tree_addScope_32 ?_
  rw [nI_clamp (show tN t < 2 ^ 31 by omega)]
  refine pv_aload_n E d_Tree_addScope_33 rfl rfl ?_
  refine pv_dup E d_Tree_addScope_34 rfl ?_
  refine gf_Tree_scopesMade E wd_80 d_Tree_addScope_35 ?_
  refine pv_top (congrArg ps_int hT.1.2.1) ?_
  refine pv_iconst (v := 1) E d_Tree_addScope_38 (by decide) ?_
  refine pv_iadd E d_Tree_addScope_39 ?_
  refine pv_top (congrArg ps_int (nI_1 (tN t))) ?_
  refine pf_Tree_scopesMade E wd_80 d_Tree_addScope_40 ?_
  refine pv_aload_n E d_Tree_addScope_43 rfl rfl ?_
  refine gf_Tree_scopesMade E wd_80 d_Tree_addScope_44 ?_
  refine pv_top (congrArg ps_int (ps_I_eq _ 7 0 2 _)) ?_
  refine pv_iconst (v := 1) E d_Tree_addScope_47 (by decide) ?_
  refine pv_isub E d_Tree_addScope_48 ?_
  refine pv_top (congrArg ps_int (nI_pred (tN t))) ?_
  exact pv_iret E hr hlk d_Tree_addScope_49 (by decide) (by decide) ⟨rfl, hT.mk, FrT.scadd⟩
set_option maxHeartbeats 8000000 in
set_option maxRecDepth 100000 in
theorem k_Tree_addTask (l : Launch) (D : va_G) (ca : Nat → ClassId) (A : Nat → Prop) (σ : ps_S) (c : Nat) (co fn a : Int32) (t : tT) (hT : RT σ t) (hW : tW t) (hn : uN t < 30) (hc : c < tN t) : ∀ adr, ps_M l y_Tree_addTask c_Tree_addTask 5 (Option.some Jvm.ClassFile.FieldType.int) { frames := 2, cells := 1, slots := 9, locals := 45 } D ca A adr σ [ps_ref (some (7, 0)), ps_ref (some (5, c)), ps_int co, ps_int fn, ps_int a] (fun rv σ' => rv = some (ps_int (nI (uN t))) ∧ RT σ' (u_mk t c co fn a) ∧ FrT σ σ') := by
  intro adr
  refine ps_M.of (by decide +kernel) (Nat.le_of_ble_eq_true rfl) ?_
  intro p_ e_ s_ m_ args_ below_ meth_ c_ E hr hlk hnm
  have hN6 : ps_N σ 6 = uN t := hT.1.1.2.2.2.2.2.1
  have hst : ps_I σ 5 c 8 = tS t c 3 := (hT.2.1 c hc).2.2.2.1
  refine pv_aload_n E d_Tree_addTask_0 rfl rfl ?_
  refine gf_Tree_tasks E wd_79 d_Tree_addTask_1 ?_
  refine pv_top (congrArg ps_ref hT.1.1.2.1) ?_
  refine pv_aload_n E d_Tree_addTask_4 rfl rfl ?_
  refine gf_Tree_tasksMade E wd_82 d_Tree_addTask_5 ?_
  refine pv_top (congrArg ps_int hT.1.2.2.1) ?_
  refine pv_new (ci := 5) (N := 9) (fs := [.null, .int 0, .int 0, .int 0, .int 0, .int 0, .int 0, .int 0, .int 0]) (C := "PromiseScopes$Task") (T := T_Task) E 6 (by decide) (fun _ => rfl) rfl in_Task ty_Task ty_Task_ok wd_76 wd_702 wd_17 (by decide) (by decide) (by decide) d_Tree_addTask_8 ?_
  rw [hN6]
  refine pv_dup E d_Tree_addTask_11 rfl ?_
  refine pv_aload_n E d_Tree_addTask_12 rfl rfl ?_
  refine pv_iload_n E d_Tree_addTask_13 rfl rfl ?_
  refine pv_iload_n E d_Tree_addTask_14 rfl rfl ?_
  refine pv_iload E d_Tree_addTask_15 rfl ?_
  refine pv_aload_n E d_Tree_addTask_17 rfl rfl ?_
  refine pv_iconst (v := 0) E d_Tree_addTask_18 (by decide) ?_
  refine pv_callV E (fun adr => k_Scope_lookUp l D ca A (ps_mk σ 6 0) c 0 t (fun x hx => (show RTs (ps_mk σ 6 0) t x from hT.2.1 x hx)) hW hc (by decide) adr) yv_Scope_lookUp wd_703 rfl rfl (fun _ => ⟨_, rfl⟩) rfl ⟨by decide, by decide⟩ (Nat.le_of_ble_eq_true rfl) d_Tree_addTask_19 ⟨by decide, by decide⟩ (fun r19 σ19 hq19 => ?_)
  obtain ⟨hr19, hs19⟩ := hq19
  subst r19
  subst σ19
  refine pv_callI E (fun adr => k_Task_init l D ca A _ _ _ _ _ _ _ adr) yi_Task_init wd_707 rfl rfl ⟨by decide, by decide⟩ (Nat.le_of_ble_eq_true rfl) d_Tree_addTask_22 ⟨by decide, by decide⟩ (fun r22 σ22 hq22 => ?_)
  obtain ⟨hr22, hs22⟩ := hq22
  rw [show ps_I (ps_mk σ 6 0) 5 c 8 = tS t c 3 from hst] at hs22
  subst r22
  subst σ22
  refine pv_aastore (t0 := 2) (ci := 5) E 9 _ 6 _ (fun _ _ _ _ _ => rfl) rfl rfl (fun _ => ⟨_, rfl⟩) (by show vp_in _ (ps_L (tk_init (ps_mk σ 6 0) _ _ _ _ _ _ _) 9 0); show vp_in _ (ps_L σ 9 0); rw [hT.1.1.2.2.2.1]; exact vp_in_nI hn (by decide)) d_Tree_addTask_25 ?_
  rw [nI_clamp (show uN t < 2 ^ 31 by omega)]
  refine pv_aload_n E d_Tree_addTask_26 rfl rfl ?_
  refine pv_dup E d_Tree_addTask_27 rfl ?_
  refine gf_Tree_tasksMade E wd_82 d_Tree_addTask_28 ?_
  refine pv_top (congrArg ps_int hT.1.2.2.1) ?_
  refine pv_iconst (v := 1) E d_Tree_addTask_31 (by decide) ?_
  refine pv_iadd E d_Tree_addTask_32 ?_
  refine pv_top (congrArg ps_int (nI_1 (uN t))) ?_
  refine pf_Tree_tasksMade E wd_82 d_Tree_addTask_33 ?_
  refine pv_aload_n E d_Tree_addTask_36 rfl rfl ?_
  refine gf_Tree_tasksMade E wd_82 d_Tree_addTask_37 ?_
  refine pv_top (congrArg ps_int (ps_I_eq _ 7 0 3 _)) ?_
  refine pv_iconst (v := 1) E d_Tree_addTask_40 (by decide) ?_
  refine pv_isub E d_Tree_addTask_41 ?_
  refine pv_top (congrArg ps_int (nI_pred (uN t))) ?_
  exact pv_iret E hr hlk d_Tree_addTask_42 (by decide) (by decide) ⟨rfl, hT.mkk, FrT.tkadd⟩
set_option maxHeartbeats 8000000 in
set_option maxRecDepth 100000 in
theorem k_Tree_init (l : Launch) (D : va_G) (ca : Nat → ClassId) (A : Nat → Prop) (σ : ps_S)   : ∀ adr, ps_M l y_Tree_init c_Tree_init 1 (Option.none : Option Jvm.ClassFile.FieldType) { frames := 1, cells := 2, slots := 42, locals := 20 } D ca A adr σ [ps_ref (some (7, 0))] (fun rv σ' => rv = none ∧ σ' = tr_init σ) := by
  intro adr
  refine ps_M.of (by decide +kernel) (Nat.le_of_ble_eq_true rfl) ?_
  intro p_ e_ s_ m_ args_ below_ meth_ c_ E hr hlk hnm
  refine pv_aload_n E d_Tree_init_0 rfl rfl ?_
  refine pv_objInit E wd_73 wd_24 wd_25 (Nat.le_of_ble_eq_true rfl) (by decide) d_Tree_init_1 ?_
  refine pv_aload_n E d_Tree_init_4 rfl rfl ?_
  refine pv_bipush (v := 12) E d_Tree_init_5 (by decide) ?_
  refine pv_anew (t0 := 1) (N := 12) E 8 (by decide) (fun _ _ _ _ _ => rfl) rfl wd_74 wd_75 (by decide) (rfl) (by decide) (by decide) (by decide) d_Tree_init_7 ?_
  refine pf_Tree_scopes E wd_78 d_Tree_init_10 hnm ?_
  refine pv_aload_n E d_Tree_init_13 rfl rfl ?_
  refine pv_bipush (v := 30) E d_Tree_init_14 (by decide) ?_
  refine pv_anew (t0 := 2) (N := 30) E 9 (by decide) (fun _ _ _ _ _ => rfl) rfl wd_76 wd_77 (by decide) (rfl) (by decide) (by decide) (by decide) d_Tree_init_16 ?_
  refine pf_Tree_tasks E wd_79 d_Tree_init_19 hnm ?_
  exact pv_vret E hr hlk d_Tree_init_22 (by decide) (by decide) ⟨rfl, rfl⟩
