set_option maxHeartbeats 8000000 in
set_option maxRecDepth 100000 in
theorem k_Ps_source_0 (l : Launch) (D : va_G) (ca : Nat → ClassId) (A : Nat → Prop) (σ : ps_S)  (t : tT) (g : gT) (hP : RP σ t g) (hC : cOK t g) (hn : gN g < 48) : ∀ adr, ps_M l y_Ps_source c_Ps_source 1 (Option.some Jvm.ClassFile.FieldType.int) { frames := 6, cells := 2, slots := 11, locals := 92 } D ca A adr σ [ps_ref (some (0, 0))] (fun rv σ' => rv = some (ps_int (nI (gN g))) ∧ RP σ' t (g_new g 9 (-1) 0 0 []) ∧ FrC σ σ') := by
  intro adr
  refine ps_M.of (by decide +kernel) (Nat.le_of_ble_eq_true rfl) ?_
  intro p_ e_ s_ m_ args_ below_ meth_ c_ E hr hlk hnm
  refine pv_aload_n E d_Ps_source_0 rfl rfl ?_
  refine gf_Ps_graph E wd_100 d_Ps_source_1 ?_
  refine pv_top (congrArg ps_ref hP.1.1) ?_
  refine pv_callV E (fun adr => k_Graph_isFull l D ca A _ g hP.2.1 hC.1.1.1 adr) yv_Graph_isFull wd_386 rfl rfl (fun _ => ⟨_, rfl⟩) rfl ⟨by decide, by decide⟩ (Nat.le_of_ble_eq_true rfl) d_Ps_source_4 ⟨by decide, by decide⟩ (fun r4 σ4 hq4 => ?_)
  obtain ⟨hr4, hs4⟩ := hq4
  subst r4
  subst σ4
  refine pv_if_eq (tgt := 20) E d_Ps_source_7 rfl (fun h7 => ?_) (fun h7 => ?_)
  · skip
    refine pv_aload_n E d_Ps_source_20 rfl rfl ?_
    refine gf_Ps_graph E wd_100 d_Ps_source_21 ?_
    refine pv_top (congrArg ps_ref hP.1.1) ?_
    refine pv_callV E (fun adr => k_Graph_addSource l D ca A _ g hP.2.1 hC.1 hP.2.2.2 hn adr) yv_Graph_addSource wd_458 rfl rfl (fun _ => ⟨_, rfl⟩) rfl ⟨by decide, by decide⟩ (Nat.le_of_ble_eq_true rfl) d_Ps_source_24 ⟨by decide, by decide⟩ (fun r24 σ24 hq24 => ?_)
    obtain ⟨hr24, hR24, hf24, hn24⟩ := hq24
    subst r24
    have hP1 : RP σ24 t (g_new g 9 (-1) 0 0 []) := hP.gm hR24 hf24 (new_src hn24) (gN_new _ _ _ _ _ _)
    refine gf_Stage_number E wd_473 d_Ps_source_27 ?_
    refine pv_top (congrArg ps_int (hP1.2.1.2.1 _ (gN_lt1 _ _ _ _ _ _)).1.2.1) ?_
    exact pv_iret E hr hlk d_Ps_source_30 (by decide) (by decide) ⟨rfl, hP1, FrC.ofG hf24⟩
  · skip
    exact absurd hn (if01n h7)
set_option maxHeartbeats 8000000 in
set_option maxRecDepth 100000 in
theorem k_Ps_source_S (l : Launch) (htr : l.stackTraces = false) (D : va_G) (ca : Nat → ClassId) (A : Nat → Prop) (σ : ps_S)  (t : tT) (g : gT) (hP : RP σ t g) (hC : cOK t g) (hn : ¬ gN g < 48) : ∀ adr, ps_MT l y_Ps_source c_Ps_source 1 (Option.some Jvm.ClassFile.FieldType.int) { frames := 6, cells := 2, slots := 11, locals := 92 } D ca A adr σ [ps_ref (some (0, 0))] "java/lang/IllegalStateException" := by
  intro adr
  refine ps_MT.of (by decide +kernel) (Nat.le_of_ble_eq_true rfl) ?_
  intro p_ e_ s_ m_ args_ below_ meth_ c_ A E hr hlk hex hZ hA_ hW_
  refine pv_aload_n E d_Ps_source_0 rfl rfl ?_
  refine gf_Ps_graph E wd_100 d_Ps_source_1 ?_
  refine pv_top (congrArg ps_ref hP.1.1) ?_
  refine pv_callV E (fun adr => k_Graph_isFull l D ca A _ g hP.2.1 hC.1.1.1 adr) yv_Graph_isFull wd_386 rfl rfl (fun _ => ⟨_, rfl⟩) rfl ⟨by decide, by decide⟩ (Nat.le_of_ble_eq_true rfl) d_Ps_source_4 ⟨by decide, by decide⟩ (fun r4 σ4 hq4 => ?_)
  obtain ⟨hr4, hs4⟩ := hq4
  subst r4
  subst σ4
  refine pv_if_eq (tgt := 20) E d_Ps_source_7 rfl (fun h7 => ?_) (fun h7 => ?_)
  · skip
    exact absurd (if01 h7) hn
  · skip
    exact pv_throw E htr (by decide +kernel) (by decide +kernel) (th_ownS E.2.2.2.2 hZ _) (hZ _ _ (State.WarmedH.refl _) (Nat.le_refl _) (fun _ _ _ => rfl) _ zx_9) wd_390 wd_391 wd_9 hA_ hW_ hlk hex d_Ps_source_10 d_Ps_source_13 d_Ps_source_14 d_Ps_source_16 d_Ps_source_19 (by decide) (by decide) (by decide) (by decide) (by decide) (by decide)
set_option maxHeartbeats 8000000 in
set_option maxRecDepth 100000 in
theorem k_Ps_then_0 (l : Launch) (D : va_G) (ca : Nat → ClassId) (A : Nat → Prop) (σ : ps_S) (s k f a as : Int32) (t : tT) (g : gT) (hP : RP σ t g) (hC : cOK t g) (hb : a_then g s k f) (hn : gN g < 48) (has : as = 0 ∨ as = 1) : ∀ adr, ps_M l y_Ps_then c_Ps_then 7 (Option.some Jvm.ClassFile.FieldType.int) { frames := 6, cells := 2, slots := 12, locals := 131 } D ca A adr σ [ps_ref (some (0, 0)), ps_int s, ps_int k, ps_int f, ps_int a, ps_int as] (fun rv σ' => rv = some (ps_int (nI (gN g))) ∧ RP σ' t (g_work 96 (g_new g k f a as [s.toNatClampNeg])) ∧ FrC σ σ') := by
  intro adr
  refine ps_M.of (by decide +kernel) (Nat.le_of_ble_eq_true rfl) ?_
  intro p_ e_ s_ m_ args_ below_ meth_ c_ E hr hlk hnm
  refine pv_aload_n E d_Ps_then_0 rfl rfl ?_
  refine gf_Ps_graph E wd_100 d_Ps_then_1 ?_
  refine pv_top (congrArg ps_ref hP.1.1) ?_
  refine pv_iload_n E d_Ps_then_4 rfl rfl ?_
  refine pv_callV E (fun adr => k_Graph_has l D ca A _ s g hP.2.1 hC.1.1.1 adr) yv_Graph_has wd_527 rfl rfl (fun _ => ⟨_, rfl⟩) rfl ⟨by decide, by decide⟩ (Nat.le_of_ble_eq_true rfl) d_Ps_then_5 ⟨by decide, by decide⟩ (fun r5 σ5 hq5 => ?_)
  obtain ⟨hr5, hs5⟩ := hq5
  subst r5
  subst σ5
  refine pv_if_eq (tgt := 27) E d_Ps_then_8 rfl (fun h8 => ?_) (fun h8 => ?_)
  · skip
    exact absurd hb.1 (if10 h8)
  · skip
    refine pv_iload_n E d_Ps_then_11 rfl rfl ?_
    refine pv_if_lt (tgt := 27) E d_Ps_then_12 rfl (fun h12 => ?_) (fun h12 => ?_)
    · skip
      exact absurd h12 hb.2.1
    · skip
      refine pv_iload_n E d_Ps_then_15 rfl rfl ?_
      refine pv_iconst (v := 4) E d_Ps_then_16 (by decide) ?_
      refine pv_icmp_gt (tgt := 27) E d_Ps_then_17 rfl (fun h17 => ?_) (fun h17 => ?_)
      · skip
        exact absurd h17 hb.2.2.1
      · skip
        refine pv_iload_n E d_Ps_then_20 rfl rfl ?_
        refine pv_callS E (fun adr => k_Fn_has l D ca A _ f adr) ys_Fn_has wd_528 rfl rfl ⟨by decide, by decide⟩ (Nat.le_of_ble_eq_true rfl) d_Ps_then_21 ⟨by decide, by decide⟩ (fun r21 σ21 hq21 => ?_)
        obtain ⟨hr21, hs21⟩ := hq21
        subst r21
        subst σ21
        refine pv_if_ne (tgt := 37) E d_Ps_then_24 rfl (fun h24 => ?_) (fun h24 => ?_)
        · skip
          refine pv_aload_n E d_Ps_then_37 rfl rfl ?_
          refine gf_Ps_graph E wd_100 d_Ps_then_38 ?_
          refine pv_top (congrArg ps_ref hP.1.1) ?_
          refine pv_callV E (fun adr => k_Graph_isFull l D ca A _ g hP.2.1 hC.1.1.1 adr) yv_Graph_isFull wd_386 rfl rfl (fun _ => ⟨_, rfl⟩) rfl ⟨by decide, by decide⟩ (Nat.le_of_ble_eq_true rfl) d_Ps_then_41 ⟨by decide, by decide⟩ (fun r41 σ41 hq41 => ?_)
          obtain ⟨hr41, hs41⟩ := hq41
          subst r41
          subst σ41
          refine pv_if_eq (tgt := 57) E d_Ps_then_44 rfl (fun h44 => ?_) (fun h44 => ?_)
          · skip
            refine pv_aload_n E d_Ps_then_57 rfl rfl ?_
            refine gf_Ps_graph E wd_100 d_Ps_then_58 ?_
            refine pv_top (congrArg ps_ref hP.1.1) ?_
            refine pv_aload_n E d_Ps_then_61 rfl rfl ?_
            refine gf_Ps_graph E wd_100 d_Ps_then_62 ?_
            refine pv_top (congrArg ps_ref hP.1.1) ?_
            refine pv_iload_n E d_Ps_then_65 rfl rfl ?_
            refine pv_callV E (fun adr => k_Graph_inputsOf l D ca A _ s g hP.2.1 hC.1 hP.2.2.2 hb.1 adr) yv_Graph_inputsOf wd_547 rfl rfl (fun _ => ⟨_, rfl⟩) rfl ⟨by decide, by decide⟩ (Nat.le_of_ble_eq_true rfl) d_Ps_then_66 ⟨by decide, by decide⟩ (fun r66 σ66 hq66 => ?_)
            obtain ⟨hr66, hs66⟩ := hq66
            subst r66
            subst σ66
            refine pv_iload_n E d_Ps_then_69 rfl rfl ?_
            refine pv_iload_n E d_Ps_then_70 rfl rfl ?_
            refine pv_iload E d_Ps_then_71 rfl ?_
            refine pv_iload E d_Ps_then_73 rfl ?_
            refine pv_callV E (fun adr => k_Graph_addStage l D ca A _ k f a as [s.toNatClampNeg] g (hP.2.1.same ((sameG.arr hP.2.2.2).tr (sameG.fill (Nat.le_refl _)))) hC.1 hn (one_L hP.2.2.2) one_I (Nat.le_of_ble_eq_true rfl) (fun i hi => by rw [List.mem_singleton] at hi; rw [hi]; exact hb.1.2) ⟨Or.inr (Nat.le_of_ble_eq_true rfl), le_imp5 hb.2.2.1⟩ has adr) yv_Graph_addStage wd_551 rfl rfl (fun _ => ⟨_, rfl⟩) rfl ⟨by decide, by decide⟩ (Nat.le_of_ble_eq_true rfl) d_Ps_then_75 ⟨by decide, by decide⟩ (fun r75 σ75 hq75 => ?_)
            obtain ⟨hr75, hR75, hf75, hn75⟩ := hq75
            subst r75
            have hf75 := ((FrG.mk (by decide)).tr FrG.fill).tr hf75
            have hP1 : RP σ75 t (g_new g k f a as [s.toNatClampNeg]) := hP.gm hR75 hf75 (new_one hn75) (gN_new _ _ _ _ _ _)
            have hO1 : gOK (g_new g k f a as [s.toNatClampNeg]) := (hC.1.mk hn (Nat.le_of_ble_eq_true rfl) (fun i hi => by rw [List.mem_singleton] at hi; rw [hi]; exact hb.1.2) ⟨Or.inr (Nat.le_of_ble_eq_true rfl), le_imp5 hb.2.2.1⟩).scan
            refine pv_astore E d_Ps_then_78 (by decide) ?_
            refine pv_aload_n E d_Ps_then_80 rfl rfl ?_
            refine gf_Ps_graph E wd_100 d_Ps_then_81 ?_
            refine pv_top (congrArg ps_ref hP1.1.1) ?_
            refine pv_callV E (fun adr => k_Graph_workOffLine l D ca A _ (g_new g k f a as [s.toNatClampNeg]) hP1.2.1 hO1 adr) yv_Graph_workOffLine wd_151 rfl rfl (fun _ => ⟨_, rfl⟩) rfl ⟨by decide, by decide⟩ (Nat.le_of_ble_eq_true rfl) d_Ps_then_84 ⟨by decide, by decide⟩ (fun r84 σ84 hq84 => ?_)
            obtain ⟨hr84, hR84, hf84, hn84⟩ := hq84
            subst r84
            have hP2 := hP1.gf hR84 hf84 hn84 (gN_work _ _)
            refine pv_aload E d_Ps_then_87 rfl ?_
            refine gf_Stage_number E wd_473 d_Ps_then_89 ?_
            refine pv_top (congrArg ps_int (hP2.2.1.2.1 _ (by rw [gN_work]; exact gN_lt1 _ _ _ _ _ _)).1.2.1) ?_
            exact pv_iret E hr hlk d_Ps_then_92 (by decide) (by decide) ⟨rfl, hP2, (FrC.ofG hf75).tr (FrC.ofG hf84)⟩
          · skip
            exact absurd hn (if01n h44)
        · skip
          exact absurd h24 hb.2.2.2
set_option maxHeartbeats 8000000 in
set_option maxRecDepth 100000 in
theorem k_Ps_then_S (l : Launch) (htr : l.stackTraces = false) (D : va_G) (ca : Nat → ClassId) (A : Nat → Prop) (σ : ps_S) (s k f a as : Int32) (t : tT) (g : gT) (hP : RP σ t g) (hC : cOK t g) (hb : a_then g s k f) (hn : ¬ gN g < 48) : ∀ adr, ps_MT l y_Ps_then c_Ps_then 7 (Option.some Jvm.ClassFile.FieldType.int) { frames := 6, cells := 2, slots := 12, locals := 131 } D ca A adr σ [ps_ref (some (0, 0)), ps_int s, ps_int k, ps_int f, ps_int a, ps_int as] "java/lang/IllegalStateException" := by
  intro adr
  refine ps_MT.of (by decide +kernel) (Nat.le_of_ble_eq_true rfl) ?_
  intro p_ e_ s_ m_ args_ below_ meth_ c_ A E hr hlk hex hZ hA_ hW_
  refine pv_aload_n E d_Ps_then_0 rfl rfl ?_
  refine gf_Ps_graph E wd_100 d_Ps_then_1 ?_
  refine pv_top (congrArg ps_ref hP.1.1) ?_
  refine pv_iload_n E d_Ps_then_4 rfl rfl ?_
  refine pv_callV E (fun adr => k_Graph_has l D ca A _ s g hP.2.1 hC.1.1.1 adr) yv_Graph_has wd_527 rfl rfl (fun _ => ⟨_, rfl⟩) rfl ⟨by decide, by decide⟩ (Nat.le_of_ble_eq_true rfl) d_Ps_then_5 ⟨by decide, by decide⟩ (fun r5 σ5 hq5 => ?_)
  obtain ⟨hr5, hs5⟩ := hq5
  subst r5
  subst σ5
  refine pv_if_eq (tgt := 27) E d_Ps_then_8 rfl (fun h8 => ?_) (fun h8 => ?_)
  · skip
    exact absurd hb.1 (if10 h8)
  · skip
    refine pv_iload_n E d_Ps_then_11 rfl rfl ?_
    refine pv_if_lt (tgt := 27) E d_Ps_then_12 rfl (fun h12 => ?_) (fun h12 => ?_)
    · skip
      exact absurd h12 hb.2.1
    · skip
      refine pv_iload_n E d_Ps_then_15 rfl rfl ?_
      refine pv_iconst (v := 4) E d_Ps_then_16 (by decide) ?_
      refine pv_icmp_gt (tgt := 27) E d_Ps_then_17 rfl (fun h17 => ?_) (fun h17 => ?_)
      · skip
        exact absurd h17 hb.2.2.1
      · skip
        refine pv_iload_n E d_Ps_then_20 rfl rfl ?_
        refine pv_callS E (fun adr => k_Fn_has l D ca A _ f adr) ys_Fn_has wd_528 rfl rfl ⟨by decide, by decide⟩ (Nat.le_of_ble_eq_true rfl) d_Ps_then_21 ⟨by decide, by decide⟩ (fun r21 σ21 hq21 => ?_)
        obtain ⟨hr21, hs21⟩ := hq21
        subst r21
        subst σ21
        refine pv_if_ne (tgt := 37) E d_Ps_then_24 rfl (fun h24 => ?_) (fun h24 => ?_)
        · skip
          refine pv_aload_n E d_Ps_then_37 rfl rfl ?_
          refine gf_Ps_graph E wd_100 d_Ps_then_38 ?_
          refine pv_top (congrArg ps_ref hP.1.1) ?_
          refine pv_callV E (fun adr => k_Graph_isFull l D ca A _ g hP.2.1 hC.1.1.1 adr) yv_Graph_isFull wd_386 rfl rfl (fun _ => ⟨_, rfl⟩) rfl ⟨by decide, by decide⟩ (Nat.le_of_ble_eq_true rfl) d_Ps_then_41 ⟨by decide, by decide⟩ (fun r41 σ41 hq41 => ?_)
          obtain ⟨hr41, hs41⟩ := hq41
          subst r41
          subst σ41
          refine pv_if_eq (tgt := 57) E d_Ps_then_44 rfl (fun h44 => ?_) (fun h44 => ?_)
          · skip
            exact absurd (if01 h44) hn
          · skip
            exact pv_throw E htr (by decide +kernel) (by decide +kernel) (th_ownS E.2.2.2.2 hZ _) (hZ _ _ (State.WarmedH.refl _) (Nat.le_refl _) (fun _ _ _ => rfl) _ zx_9) wd_390 wd_391 wd_9 hA_ hW_ hlk hex d_Ps_then_47 d_Ps_then_50 d_Ps_then_51 d_Ps_then_53 d_Ps_then_56 (by decide) (by decide) (by decide) (by decide) (by decide) (by decide)
        · skip
          exact absurd h24 hb.2.2.2
set_option maxHeartbeats 8000000 in
set_option maxRecDepth 100000 in
theorem k_Ps_then_A (l : Launch) (htr : l.stackTraces = false) (D : va_G) (ca : Nat → ClassId) (A : Nat → Prop) (σ : ps_S) (s k f a as : Int32) (t : tT) (g : gT) (hP : RP σ t g) (hC : cOK t g) (hb : ¬ a_then g s k f) : ∀ adr, ps_MT l y_Ps_then c_Ps_then 7 (Option.some Jvm.ClassFile.FieldType.int) { frames := 6, cells := 2, slots := 12, locals := 131 } D ca A adr σ [ps_ref (some (0, 0)), ps_int s, ps_int k, ps_int f, ps_int a, ps_int as] "java/lang/IllegalArgumentException" := by
  intro adr
  refine ps_MT.of (by decide +kernel) (Nat.le_of_ble_eq_true rfl) ?_
  intro p_ e_ s_ m_ args_ below_ meth_ c_ A E hr hlk hex hZ hA_ hW_
  refine pv_aload_n E d_Ps_then_0 rfl rfl ?_
  refine gf_Ps_graph E wd_100 d_Ps_then_1 ?_
  refine pv_top (congrArg ps_ref hP.1.1) ?_
  refine pv_iload_n E d_Ps_then_4 rfl rfl ?_
  refine pv_callV E (fun adr => k_Graph_has l D ca A _ s g hP.2.1 hC.1.1.1 adr) yv_Graph_has wd_527 rfl rfl (fun _ => ⟨_, rfl⟩) rfl ⟨by decide, by decide⟩ (Nat.le_of_ble_eq_true rfl) d_Ps_then_5 ⟨by decide, by decide⟩ (fun r5 σ5 hq5 => ?_)
  obtain ⟨hr5, hs5⟩ := hq5
  subst r5
  subst σ5
  refine pv_if_eq (tgt := 27) E d_Ps_then_8 rfl (fun h8 => ?_) (fun h8 => ?_)
  · skip
    exact pv_throw E htr (by decide +kernel) (by decide +kernel) (th_ownA E.2.2.2.2 hZ _) (hZ _ _ (State.WarmedH.refl _) (Nat.le_refl _) (fun _ _ _ => rfl) _ zx_11) wd_531 wd_532 wd_12 hA_ hW_ hlk hex d_Ps_then_27 d_Ps_then_30 d_Ps_then_31 d_Ps_then_33 d_Ps_then_36 (by decide) (by decide) (by decide) (by decide) (by decide) (by decide)
  · skip
    refine pv_iload_n E d_Ps_then_11 rfl rfl ?_
    refine pv_if_lt (tgt := 27) E d_Ps_then_12 rfl (fun h12 => ?_) (fun h12 => ?_)
    · skip
      exact pv_throw E htr (by decide +kernel) (by decide +kernel) (th_ownA E.2.2.2.2 hZ _) (hZ _ _ (State.WarmedH.refl _) (Nat.le_refl _) (fun _ _ _ => rfl) _ zx_11) wd_531 wd_532 wd_12 hA_ hW_ hlk hex d_Ps_then_27 d_Ps_then_30 d_Ps_then_31 d_Ps_then_33 d_Ps_then_36 (by decide) (by decide) (by decide) (by decide) (by decide) (by decide)
    · skip
      refine pv_iload_n E d_Ps_then_15 rfl rfl ?_
      refine pv_iconst (v := 4) E d_Ps_then_16 (by decide) ?_
      refine pv_icmp_gt (tgt := 27) E d_Ps_then_17 rfl (fun h17 => ?_) (fun h17 => ?_)
      · skip
        exact pv_throw E htr (by decide +kernel) (by decide +kernel) (th_ownA E.2.2.2.2 hZ _) (hZ _ _ (State.WarmedH.refl _) (Nat.le_refl _) (fun _ _ _ => rfl) _ zx_11) wd_531 wd_532 wd_12 hA_ hW_ hlk hex d_Ps_then_27 d_Ps_then_30 d_Ps_then_31 d_Ps_then_33 d_Ps_then_36 (by decide) (by decide) (by decide) (by decide) (by decide) (by decide)
      · skip
        refine pv_iload_n E d_Ps_then_20 rfl rfl ?_
        refine pv_callS E (fun adr => k_Fn_has l D ca A _ f adr) ys_Fn_has wd_528 rfl rfl ⟨by decide, by decide⟩ (Nat.le_of_ble_eq_true rfl) d_Ps_then_21 ⟨by decide, by decide⟩ (fun r21 σ21 hq21 => ?_)
        obtain ⟨hr21, hs21⟩ := hq21
        subst r21
        subst σ21
        refine pv_if_ne (tgt := 37) E d_Ps_then_24 rfl (fun h24 => ?_) (fun h24 => ?_)
        · skip
          exact absurd ⟨if10n h8, h12, h17, h24⟩ hb
        · skip
          exact pv_throw E htr (by decide +kernel) (by decide +kernel) (th_ownA E.2.2.2.2 hZ _) (hZ _ _ (State.WarmedH.refl _) (Nat.le_refl _) (fun _ _ _ => rfl) _ zx_11) wd_531 wd_532 wd_12 hA_ hW_ hlk hex d_Ps_then_27 d_Ps_then_30 d_Ps_then_31 d_Ps_then_33 d_Ps_then_36 (by decide) (by decide) (by decide) (by decide) (by decide) (by decide)
set_option maxHeartbeats 8000000 in
set_option maxRecDepth 100000 in
theorem k_Ps_both_0 (l : Launch) (D : va_G) (ca : Nat → ClassId) (A : Nat → Prop) (σ : ps_S) (s u k f a as : Int32) (t : tT) (g : gT) (hP : RP σ t g) (hC : cOK t g) (hb : a_both g s u k f) (hn : gN g < 48) (has : as = 0 ∨ as = 1) : ∀ adr, ps_M l y_Ps_both c_Ps_both 8 (Option.some Jvm.ClassFile.FieldType.int) { frames := 6, cells := 2, slots := 13, locals := 131 } D ca A adr σ [ps_ref (some (0, 0)), ps_int s, ps_int u, ps_int k, ps_int f, ps_int a, ps_int as] (fun rv σ' => rv = some (ps_int (nI (gN g))) ∧ RP σ' t (g_work 96 (g_new g k f a as [s.toNatClampNeg, u.toNatClampNeg])) ∧ FrC σ σ') := by
  intro adr
  refine ps_M.of (by decide +kernel) (Nat.le_of_ble_eq_true rfl) ?_
  intro p_ e_ s_ m_ args_ below_ meth_ c_ E hr hlk hnm
  have hi2 : ∀ i, i ∈ [s.toNatClampNeg, u.toNatClampNeg] → i < gN g := fun i hi => by
    rcases List.mem_cons.mp hi with rfl | hi
    · exact hb.1.2
    · rw [List.mem_singleton] at hi; rw [hi]; exact hb.2.1.2
  refine pv_aload_n E d_Ps_both_0 rfl rfl ?_
  refine gf_Ps_graph E wd_100 d_Ps_both_1 ?_
  refine pv_top (congrArg ps_ref hP.1.1) ?_
  refine pv_iload_n E d_Ps_both_4 rfl rfl ?_
  refine pv_callV E (fun adr => k_Graph_has l D ca A _ s g hP.2.1 hC.1.1.1 adr) yv_Graph_has wd_527 rfl rfl (fun _ => ⟨_, rfl⟩) rfl ⟨by decide, by decide⟩ (Nat.le_of_ble_eq_true rfl) d_Ps_both_5 ⟨by decide, by decide⟩ (fun r5 σ5 hq5 => ?_)
  obtain ⟨hr5, hs5⟩ := hq5
  subst r5
  subst σ5
  refine pv_if_eq (tgt := 41) E d_Ps_both_8 rfl (fun h8 => ?_) (fun h8 => ?_)
  · skip
    exact absurd hb.1 (if10 h8)
  · skip
    refine pv_aload_n E d_Ps_both_11 rfl rfl ?_
    refine gf_Ps_graph E wd_100 d_Ps_both_12 ?_
    refine pv_top (congrArg ps_ref hP.1.1) ?_
    refine pv_iload_n E d_Ps_both_15 rfl rfl ?_
    refine pv_callV E (fun adr => k_Graph_has l D ca A _ u g hP.2.1 hC.1.1.1 adr) yv_Graph_has wd_527 rfl rfl (fun _ => ⟨_, rfl⟩) rfl ⟨by decide, by decide⟩ (Nat.le_of_ble_eq_true rfl) d_Ps_both_16 ⟨by decide, by decide⟩ (fun r16 σ16 hq16 => ?_)
    obtain ⟨hr16, hs16⟩ := hq16
    subst r16
    subst σ16
    refine pv_if_eq (tgt := 41) E d_Ps_both_19 rfl (fun h19 => ?_) (fun h19 => ?_)
    · skip
      exact absurd hb.2.1 (if10 h19)
    · skip
      refine pv_iload_n E d_Ps_both_22 rfl rfl ?_
      refine pv_iconst (v := 5) E d_Ps_both_23 (by decide) ?_
      refine pv_icmp_lt (tgt := 41) E d_Ps_both_24 rfl (fun h24 => ?_) (fun h24 => ?_)
      · skip
        exact absurd h24 hb.2.2.1
      · skip
        refine pv_iload_n E d_Ps_both_27 rfl rfl ?_
        refine pv_bipush (v := 6) E d_Ps_both_28 (by decide) ?_
        refine pv_icmp_gt (tgt := 41) E d_Ps_both_30 rfl (fun h30 => ?_) (fun h30 => ?_)
        · skip
          exact absurd h30 hb.2.2.2.1
        · skip
          refine pv_iload E d_Ps_both_33 rfl ?_
          refine pv_callS E (fun adr => k_Fn_has l D ca A _ f adr) ys_Fn_has wd_528 rfl rfl ⟨by decide, by decide⟩ (Nat.le_of_ble_eq_true rfl) d_Ps_both_35 ⟨by decide, by decide⟩ (fun r35 σ35 hq35 => ?_)
          obtain ⟨hr35, hs35⟩ := hq35
          subst r35
          subst σ35
          refine pv_if_ne (tgt := 51) E d_Ps_both_38 rfl (fun h38 => ?_) (fun h38 => ?_)
          · skip
            refine pv_aload_n E d_Ps_both_51 rfl rfl ?_
            refine gf_Ps_graph E wd_100 d_Ps_both_52 ?_
            refine pv_top (congrArg ps_ref hP.1.1) ?_
            refine pv_callV E (fun adr => k_Graph_isFull l D ca A _ g hP.2.1 hC.1.1.1 adr) yv_Graph_isFull wd_386 rfl rfl (fun _ => ⟨_, rfl⟩) rfl ⟨by decide, by decide⟩ (Nat.le_of_ble_eq_true rfl) d_Ps_both_55 ⟨by decide, by decide⟩ (fun r55 σ55 hq55 => ?_)
            obtain ⟨hr55, hs55⟩ := hq55
            subst r55
            subst σ55
            refine pv_if_eq (tgt := 71) E d_Ps_both_58 rfl (fun h58 => ?_) (fun h58 => ?_)
            · skip
              refine pv_aload_n E d_Ps_both_71 rfl rfl ?_
              refine gf_Ps_graph E wd_100 d_Ps_both_72 ?_
              refine pv_top (congrArg ps_ref hP.1.1) ?_
              refine pv_aload_n E d_Ps_both_75 rfl rfl ?_
              refine gf_Ps_graph E wd_100 d_Ps_both_76 ?_
              refine pv_top (congrArg ps_ref hP.1.1) ?_
              refine pv_iload_n E d_Ps_both_79 rfl rfl ?_
              refine pv_iload_n E d_Ps_both_80 rfl rfl ?_
              refine pv_callV E (fun adr => k_Graph_inputsOf2 l D ca A _ s u g hP.2.1 hC.1 hP.2.2.2 hb.1 hb.2.1 adr) yv_Graph_inputsOf2 wd_559 rfl rfl (fun _ => ⟨_, rfl⟩) rfl ⟨by decide, by decide⟩ (Nat.le_of_ble_eq_true rfl) d_Ps_both_81 ⟨by decide, by decide⟩ (fun r81 σ81 hq81 => ?_)
              obtain ⟨hr81, hs81⟩ := hq81
              subst r81
              subst σ81
              refine pv_iload_n E d_Ps_both_84 rfl rfl ?_
              refine pv_iload E d_Ps_both_85 rfl ?_
              refine pv_iload E d_Ps_both_87 rfl ?_
              refine pv_iload E d_Ps_both_89 rfl ?_
              refine pv_callV E (fun adr => k_Graph_addStage l D ca A _ k f a as [s.toNatClampNeg, u.toNatClampNeg] g (hP.2.1.same (((sameG.arr hP.2.2.2).tr (sameG.fill (Nat.le_refl _))).tr (sameG.fill (Nat.le_refl _)))) hC.1 hn (two_L hP.2.2.2) two_I (Nat.le_of_ble_eq_true rfl) hi2 ⟨Or.inr (Nat.le_of_ble_eq_true rfl), fun _ => Nat.le_of_ble_eq_true rfl⟩ has adr) yv_Graph_addStage wd_551 rfl rfl (fun _ => ⟨_, rfl⟩) rfl ⟨by decide, by decide⟩ (Nat.le_of_ble_eq_true rfl) d_Ps_both_91 ⟨by decide, by decide⟩ (fun r91 σ91 hq91 => ?_)
              obtain ⟨hr91, hR91, hf91, hn91⟩ := hq91
              subst r91
              have hf91 := (((FrG.mk (by decide)).tr FrG.fill).tr FrG.fill).tr hf91
              have hP1 : RP σ91 t (g_new g k f a as [s.toNatClampNeg, u.toNatClampNeg]) := hP.gm hR91 hf91 (new_two hn91) (gN_new _ _ _ _ _ _)
              have hO1 : gOK (g_new g k f a as [s.toNatClampNeg, u.toNatClampNeg]) := (hC.1.mk hn (Nat.le_of_ble_eq_true rfl) hi2 ⟨Or.inr (Nat.le_of_ble_eq_true rfl), fun _ => Nat.le_of_ble_eq_true rfl⟩).scan
              refine pv_astore E d_Ps_both_94 (by decide) ?_
              refine pv_aload_n E d_Ps_both_96 rfl rfl ?_
              refine gf_Ps_graph E wd_100 d_Ps_both_97 ?_
              refine pv_top (congrArg ps_ref hP1.1.1) ?_
              refine pv_callV E (fun adr => k_Graph_workOffLine l D ca A _ (g_new g k f a as [s.toNatClampNeg, u.toNatClampNeg]) hP1.2.1 hO1 adr) yv_Graph_workOffLine wd_151 rfl rfl (fun _ => ⟨_, rfl⟩) rfl ⟨by decide, by decide⟩ (Nat.le_of_ble_eq_true rfl) d_Ps_both_100 ⟨by decide, by decide⟩ (fun r100 σ100 hq100 => ?_)
              obtain ⟨hr100, hR100, hf100, hn100⟩ := hq100
              subst r100
              have hP2 := hP1.gf hR100 hf100 hn100 (gN_work _ _)
              refine pv_aload E d_Ps_both_103 rfl ?_
              refine gf_Stage_number E wd_473 d_Ps_both_105 ?_
              refine pv_top (congrArg ps_int (hP2.2.1.2.1 _ (by rw [gN_work]; exact gN_lt1 _ _ _ _ _ _)).1.2.1) ?_
              exact pv_iret E hr hlk d_Ps_both_108 (by decide) (by decide) ⟨rfl, hP2, (FrC.ofG hf91).tr (FrC.ofG hf100)⟩
            · skip
              exact absurd hn (if01n h58)
          · skip
            exact absurd h38 hb.2.2.2.2
set_option maxHeartbeats 8000000 in
set_option maxRecDepth 100000 in
theorem k_Ps_both_S (l : Launch) (htr : l.stackTraces = false) (D : va_G) (ca : Nat → ClassId) (A : Nat → Prop) (σ : ps_S) (s u k f a as : Int32) (t : tT) (g : gT) (hP : RP σ t g) (hC : cOK t g) (hb : a_both g s u k f) (hn : ¬ gN g < 48) : ∀ adr, ps_MT l y_Ps_both c_Ps_both 8 (Option.some Jvm.ClassFile.FieldType.int) { frames := 6, cells := 2, slots := 13, locals := 131 } D ca A adr σ [ps_ref (some (0, 0)), ps_int s, ps_int u, ps_int k, ps_int f, ps_int a, ps_int as] "java/lang/IllegalStateException" := by
  intro adr
  refine ps_MT.of (by decide +kernel) (Nat.le_of_ble_eq_true rfl) ?_
  intro p_ e_ s_ m_ args_ below_ meth_ c_ A E hr hlk hex hZ hA_ hW_
  refine pv_aload_n E d_Ps_both_0 rfl rfl ?_
  refine gf_Ps_graph E wd_100 d_Ps_both_1 ?_
  refine pv_top (congrArg ps_ref hP.1.1) ?_
  refine pv_iload_n E d_Ps_both_4 rfl rfl ?_
  refine pv_callV E (fun adr => k_Graph_has l D ca A _ s g hP.2.1 hC.1.1.1 adr) yv_Graph_has wd_527 rfl rfl (fun _ => ⟨_, rfl⟩) rfl ⟨by decide, by decide⟩ (Nat.le_of_ble_eq_true rfl) d_Ps_both_5 ⟨by decide, by decide⟩ (fun r5 σ5 hq5 => ?_)
  obtain ⟨hr5, hs5⟩ := hq5
  subst r5
  subst σ5
  refine pv_if_eq (tgt := 41) E d_Ps_both_8 rfl (fun h8 => ?_) (fun h8 => ?_)
  · skip
    exact absurd hb.1 (if10 h8)
  · skip
    refine pv_aload_n E d_Ps_both_11 rfl rfl ?_
    refine gf_Ps_graph E wd_100 d_Ps_both_12 ?_
    refine pv_top (congrArg ps_ref hP.1.1) ?_
    refine pv_iload_n E d_Ps_both_15 rfl rfl ?_
    refine pv_callV E (fun adr => k_Graph_has l D ca A _ u g hP.2.1 hC.1.1.1 adr) yv_Graph_has wd_527 rfl rfl (fun _ => ⟨_, rfl⟩) rfl ⟨by decide, by decide⟩ (Nat.le_of_ble_eq_true rfl) d_Ps_both_16 ⟨by decide, by decide⟩ (fun r16 σ16 hq16 => ?_)
    obtain ⟨hr16, hs16⟩ := hq16
    subst r16
    subst σ16
    refine pv_if_eq (tgt := 41) E d_Ps_both_19 rfl (fun h19 => ?_) (fun h19 => ?_)
    · skip
      exact absurd hb.2.1 (if10 h19)
    · skip
      refine pv_iload_n E d_Ps_both_22 rfl rfl ?_
      refine pv_iconst (v := 5) E d_Ps_both_23 (by decide) ?_
      refine pv_icmp_lt (tgt := 41) E d_Ps_both_24 rfl (fun h24 => ?_) (fun h24 => ?_)
      · skip
        exact absurd h24 hb.2.2.1
      · skip
        refine pv_iload_n E d_Ps_both_27 rfl rfl ?_
        refine pv_bipush (v := 6) E d_Ps_both_28 (by decide) ?_
        refine pv_icmp_gt (tgt := 41) E d_Ps_both_30 rfl (fun h30 => ?_) (fun h30 => ?_)
        · skip
          exact absurd h30 hb.2.2.2.1
        · skip
          refine pv_iload E d_Ps_both_33 rfl ?_
          refine pv_callS E (fun adr => k_Fn_has l D ca A _ f adr) ys_Fn_has wd_528 rfl rfl ⟨by decide, by decide⟩ (Nat.le_of_ble_eq_true rfl) d_Ps_both_35 ⟨by decide, by decide⟩ (fun r35 σ35 hq35 => ?_)
          obtain ⟨hr35, hs35⟩ := hq35
          subst r35
          subst σ35
          refine pv_if_ne (tgt := 51) E d_Ps_both_38 rfl (fun h38 => ?_) (fun h38 => ?_)
          · skip
            refine pv_aload_n E d_Ps_both_51 rfl rfl ?_
            refine gf_Ps_graph E wd_100 d_Ps_both_52 ?_
            refine pv_top (congrArg ps_ref hP.1.1) ?_
            refine pv_callV E (fun adr => k_Graph_isFull l D ca A _ g hP.2.1 hC.1.1.1 adr) yv_Graph_isFull wd_386 rfl rfl (fun _ => ⟨_, rfl⟩) rfl ⟨by decide, by decide⟩ (Nat.le_of_ble_eq_true rfl) d_Ps_both_55 ⟨by decide, by decide⟩ (fun r55 σ55 hq55 => ?_)
            obtain ⟨hr55, hs55⟩ := hq55
            subst r55
            subst σ55
            refine pv_if_eq (tgt := 71) E d_Ps_both_58 rfl (fun h58 => ?_) (fun h58 => ?_)
            · skip
              exact absurd (if01 h58) hn
            · skip
              exact pv_throw E htr (by decide +kernel) (by decide +kernel) (th_ownS E.2.2.2.2 hZ _) (hZ _ _ (State.WarmedH.refl _) (Nat.le_refl _) (fun _ _ _ => rfl) _ zx_9) wd_390 wd_391 wd_9 hA_ hW_ hlk hex d_Ps_both_61 d_Ps_both_64 d_Ps_both_65 d_Ps_both_67 d_Ps_both_70 (by decide) (by decide) (by decide) (by decide) (by decide) (by decide)
          · skip
            exact absurd h38 hb.2.2.2.2
set_option maxHeartbeats 8000000 in
set_option maxRecDepth 100000 in
theorem k_Ps_both_A (l : Launch) (htr : l.stackTraces = false) (D : va_G) (ca : Nat → ClassId) (A : Nat → Prop) (σ : ps_S) (s u k f a as : Int32) (t : tT) (g : gT) (hP : RP σ t g) (hC : cOK t g) (hb : ¬ a_both g s u k f) : ∀ adr, ps_MT l y_Ps_both c_Ps_both 8 (Option.some Jvm.ClassFile.FieldType.int) { frames := 6, cells := 2, slots := 13, locals := 131 } D ca A adr σ [ps_ref (some (0, 0)), ps_int s, ps_int u, ps_int k, ps_int f, ps_int a, ps_int as] "java/lang/IllegalArgumentException" := by
  intro adr
  refine ps_MT.of (by decide +kernel) (Nat.le_of_ble_eq_true rfl) ?_
  intro p_ e_ s_ m_ args_ below_ meth_ c_ A E hr hlk hex hZ hA_ hW_
  refine pv_aload_n E d_Ps_both_0 rfl rfl ?_
  refine gf_Ps_graph E wd_100 d_Ps_both_1 ?_
  refine pv_top (congrArg ps_ref hP.1.1) ?_
  refine pv_iload_n E d_Ps_both_4 rfl rfl ?_
  refine pv_callV E (fun adr => k_Graph_has l D ca A _ s g hP.2.1 hC.1.1.1 adr) yv_Graph_has wd_527 rfl rfl (fun _ => ⟨_, rfl⟩) rfl ⟨by decide, by decide⟩ (Nat.le_of_ble_eq_true rfl) d_Ps_both_5 ⟨by decide, by decide⟩ (fun r5 σ5 hq5 => ?_)
  obtain ⟨hr5, hs5⟩ := hq5
  subst r5
  subst σ5
  refine pv_if_eq (tgt := 41) E d_Ps_both_8 rfl (fun h8 => ?_) (fun h8 => ?_)
  · skip
    exact pv_throw E htr (by decide +kernel) (by decide +kernel) (th_ownA E.2.2.2.2 hZ _) (hZ _ _ (State.WarmedH.refl _) (Nat.le_refl _) (fun _ _ _ => rfl) _ zx_11) wd_531 wd_532 wd_12 hA_ hW_ hlk hex d_Ps_both_41 d_Ps_both_44 d_Ps_both_45 d_Ps_both_47 d_Ps_both_50 (by decide) (by decide) (by decide) (by decide) (by decide) (by decide)
  · skip
    refine pv_aload_n E d_Ps_both_11 rfl rfl ?_
    refine gf_Ps_graph E wd_100 d_Ps_both_12 ?_
    refine pv_top (congrArg ps_ref hP.1.1) ?_
    refine pv_iload_n E d_Ps_both_15 rfl rfl ?_
    refine pv_callV E (fun adr => k_Graph_has l D ca A _ u g hP.2.1 hC.1.1.1 adr) yv_Graph_has wd_527 rfl rfl (fun _ => ⟨_, rfl⟩) rfl ⟨by decide, by decide⟩ (Nat.le_of_ble_eq_true rfl) d_Ps_both_16 ⟨by decide, by decide⟩ (fun r16 σ16 hq16 => ?_)
    obtain ⟨hr16, hs16⟩ := hq16
    subst r16
    subst σ16
    refine pv_if_eq (tgt := 41) E d_Ps_both_19 rfl (fun h19 => ?_) (fun h19 => ?_)
    · skip
      exact pv_throw E htr (by decide +kernel) (by decide +kernel) (th_ownA E.2.2.2.2 hZ _) (hZ _ _ (State.WarmedH.refl _) (Nat.le_refl _) (fun _ _ _ => rfl) _ zx_11) wd_531 wd_532 wd_12 hA_ hW_ hlk hex d_Ps_both_41 d_Ps_both_44 d_Ps_both_45 d_Ps_both_47 d_Ps_both_50 (by decide) (by decide) (by decide) (by decide) (by decide) (by decide)
    · skip
      refine pv_iload_n E d_Ps_both_22 rfl rfl ?_
      refine pv_iconst (v := 5) E d_Ps_both_23 (by decide) ?_
      refine pv_icmp_lt (tgt := 41) E d_Ps_both_24 rfl (fun h24 => ?_) (fun h24 => ?_)
      · skip
        exact pv_throw E htr (by decide +kernel) (by decide +kernel) (th_ownA E.2.2.2.2 hZ _) (hZ _ _ (State.WarmedH.refl _) (Nat.le_refl _) (fun _ _ _ => rfl) _ zx_11) wd_531 wd_532 wd_12 hA_ hW_ hlk hex d_Ps_both_41 d_Ps_both_44 d_Ps_both_45 d_Ps_both_47 d_Ps_both_50 (by decide) (by decide) (by decide) (by decide) (by decide) (by decide)
      · skip
        refine pv_iload_n E d_Ps_both_27 rfl rfl ?_
        refine pv_bipush (v := 6) E d_Ps_both_28 (by decide) ?_
        refine pv_icmp_gt (tgt := 41) E d_Ps_both_30 rfl (fun h30 => ?_) (fun h30 => ?_)
        · skip
          exact pv_throw E htr (by decide +kernel) (by decide +kernel) (th_ownA E.2.2.2.2 hZ _) (hZ _ _ (State.WarmedH.refl _) (Nat.le_refl _) (fun _ _ _ => rfl) _ zx_11) wd_531 wd_532 wd_12 hA_ hW_ hlk hex d_Ps_both_41 d_Ps_both_44 d_Ps_both_45 d_Ps_both_47 d_Ps_both_50 (by decide) (by decide) (by decide) (by decide) (by decide) (by decide)
        · skip
          refine pv_iload E d_Ps_both_33 rfl ?_
          refine pv_callS E (fun adr => k_Fn_has l D ca A _ f adr) ys_Fn_has wd_528 rfl rfl ⟨by decide, by decide⟩ (Nat.le_of_ble_eq_true rfl) d_Ps_both_35 ⟨by decide, by decide⟩ (fun r35 σ35 hq35 => ?_)
          obtain ⟨hr35, hs35⟩ := hq35
          subst r35
          subst σ35
          refine pv_if_ne (tgt := 51) E d_Ps_both_38 rfl (fun h38 => ?_) (fun h38 => ?_)
          · skip
            exact absurd ⟨if10n h8, if10n h19, h24, h30, h38⟩ hb
          · skip
            exact pv_throw E htr (by decide +kernel) (by decide +kernel) (th_ownA E.2.2.2.2 hZ _) (hZ _ _ (State.WarmedH.refl _) (Nat.le_refl _) (fun _ _ _ => rfl) _ zx_11) wd_531 wd_532 wd_12 hA_ hW_ hlk hex d_Ps_both_41 d_Ps_both_44 d_Ps_both_45 d_Ps_both_47 d_Ps_both_50 (by decide) (by decide) (by decide) (by decide) (by decide) (by decide)
set_option maxHeartbeats 8000000 in
set_option maxRecDepth 100000 in
theorem k_Ps_join_0 (l : Launch) (D : va_G) (ca : Nat → ClassId) (A : Nat → Prop) (σ : ps_S) (s : Int32) (t : tT) (g : gT) (hP : RP σ t g) (hC : cOK t g) (hb : a_st g s) (h1 : gF g s.toNatClampNeg 0 = 1) : ∀ adr, ps_M l y_Ps_join c_Ps_join 3 (Option.some Jvm.ClassFile.FieldType.int) { frames := 6, cells := 1, slots := 6, locals := 82 } D ca A adr σ [ps_ref (some (0, 0)), ps_int s] (fun rv σ' => rv = some (ps_int (gF g s.toNatClampNeg 1)) ∧ σ' = σ) := by
  intro adr
  refine ps_M.of (by decide +kernel) (Nat.le_of_ble_eq_true rfl) ?_
  intro p_ e_ s_ m_ args_ below_ meth_ c_ E hr hlk hnm
  refine pv_aload_n E d_Ps_join_0 rfl rfl ?_
  refine gf_Ps_graph E wd_100 d_Ps_join_1 ?_
  refine pv_top (congrArg ps_ref hP.1.1) ?_
  refine pv_iload_n E d_Ps_join_4 rfl rfl ?_
  refine pv_callV E (fun adr => k_Graph_find l D ca A _ s g hP.2.1 hC.1.1.1 adr) yv_Graph_find wd_240 rfl rfl (fun _ => ⟨_, rfl⟩) rfl ⟨by decide, by decide⟩ (Nat.le_of_ble_eq_true rfl) d_Ps_join_5 ⟨by decide, by decide⟩ (fun r5 σ5 hq5 => ?_)
  obtain ⟨hr5, hs5⟩ := hq5
  subst r5
  subst σ5
  refine pv_astore_n E d_Ps_join_8 rfl (by decide) ?_
  refine pv_aload_n E d_Ps_join_9 rfl rfl ?_
  refine pv_ifnonnull (tgt := 23) E d_Ps_join_10 rfl (fun q10 h10 => ?_) (fun h10 => ?_)
  · skip
    have hc : a_st g s := by
      by_cases z : ¬ s < 0 ∧ s.toNatClampNeg < gN g
      · exact z
      · rw [g_find, if_neg z] at h10; cases h10
    have hv : g_find g s = some (3, s.toNatClampNeg) := if_pos hc
    refine pv_aload_n E d_Ps_join_23 rfl rfl ?_
    refine pv_top (congrArg ps_ref hv) ?_
    refine gf_Stage_state E wd_485 d_Ps_join_24 ?_
    refine pv_top (congrArg ps_int (hP.2.1.2.1 _ hc.2).2.1) ?_
    refine pv_if_ne (tgt := 40) E d_Ps_join_27 rfl (fun h27 => ?_) (fun h27 => ?_)
    · skip
      refine pv_aload_n E d_Ps_join_40 rfl rfl ?_
      refine pv_top (congrArg ps_ref hv) ?_
      refine gf_Stage_state E wd_485 d_Ps_join_41 ?_
      refine pv_top (congrArg ps_int (hP.2.1.2.1 _ hc.2).2.1) ?_
      refine pv_iconst (v := 1) E d_Ps_join_44 (by decide) ?_
      refine pv_icmp_eq (tgt := 58) E d_Ps_join_45 rfl (fun h45 => ?_) (fun h45 => ?_)
      · skip
        refine pv_aload_n E d_Ps_join_58 rfl rfl ?_
        refine pv_top (congrArg ps_ref hv) ?_
        refine gf_Stage_content E wd_489 d_Ps_join_59 ?_
        refine pv_top (congrArg ps_int (hP.2.1.2.1 _ hc.2).2.2.1) ?_
        exact pv_iret E hr hlk d_Ps_join_62 (by decide) (by decide) ⟨rfl, rfl⟩
      · skip
        exact absurd h1 h45
    · skip
      exact absurd (h1.symm.trans h27) (by decide)
  · skip
    have hc : ¬ a_st g s := fun z => by rw [g_find, if_pos (show ¬ s < 0 ∧ s.toNatClampNeg < gN g from z)] at h10; cases h10
    exact absurd hb hc
set_option maxHeartbeats 8000000 in
set_option maxRecDepth 100000 in
theorem k_Ps_join_A (l : Launch) (htr : l.stackTraces = false) (D : va_G) (ca : Nat → ClassId) (A : Nat → Prop) (σ : ps_S) (s : Int32) (t : tT) (g : gT) (hP : RP σ t g) (hC : cOK t g) (hb : ¬ a_st g s) : ∀ adr, ps_MT l y_Ps_join c_Ps_join 3 (Option.some Jvm.ClassFile.FieldType.int) { frames := 6, cells := 1, slots := 6, locals := 82 } D ca A adr σ [ps_ref (some (0, 0)), ps_int s] "java/lang/IllegalArgumentException" := by
  intro adr
  refine ps_MT.of (by decide +kernel) (Nat.le_of_ble_eq_true rfl) ?_
  intro p_ e_ s_ m_ args_ below_ meth_ c_ A E hr hlk hex hZ hA_ hW_
  refine pv_aload_n E d_Ps_join_0 rfl rfl ?_
  refine gf_Ps_graph E wd_100 d_Ps_join_1 ?_
  refine pv_top (congrArg ps_ref hP.1.1) ?_
  refine pv_iload_n E d_Ps_join_4 rfl rfl ?_
  refine pv_callV E (fun adr => k_Graph_find l D ca A _ s g hP.2.1 hC.1.1.1 adr) yv_Graph_find wd_240 rfl rfl (fun _ => ⟨_, rfl⟩) rfl ⟨by decide, by decide⟩ (Nat.le_of_ble_eq_true rfl) d_Ps_join_5 ⟨by decide, by decide⟩ (fun r5 σ5 hq5 => ?_)
  obtain ⟨hr5, hs5⟩ := hq5
  subst r5
  subst σ5
  refine pv_astore_n E d_Ps_join_8 rfl (by decide) ?_
  refine pv_aload_n E d_Ps_join_9 rfl rfl ?_
  refine pv_ifnonnull (tgt := 23) E d_Ps_join_10 rfl (fun q10 h10 => ?_) (fun h10 => ?_)
  · skip
    have hc : a_st g s := by
      by_cases z : ¬ s < 0 ∧ s.toNatClampNeg < gN g
      · exact z
      · rw [g_find, if_neg z] at h10; cases h10
    have hv : g_find g s = some (3, s.toNatClampNeg) := if_pos hc
    exact absurd hc hb
  · skip
    have hc : ¬ a_st g s := fun z => by rw [g_find, if_pos (show ¬ s < 0 ∧ s.toNatClampNeg < gN g from z)] at h10; cases h10
    exact pv_throw E htr (by decide +kernel) (by decide +kernel) (th_ownA E.2.2.2.2 hZ _) (hZ _ _ (State.WarmedH.refl _) (Nat.le_refl _) (fun _ _ _ => rfl) _ zx_13) wd_531 wd_532 wd_12 hA_ hW_ hlk hex d_Ps_join_13 d_Ps_join_16 d_Ps_join_17 d_Ps_join_19 d_Ps_join_22 (by decide) (by decide) (by decide) (by decide) (by decide) (by decide)
set_option maxHeartbeats 8000000 in
set_option maxRecDepth 100000 in
theorem k_Ps_join_U (l : Launch) (htr : l.stackTraces = false) (D : va_G) (ca : Nat → ClassId) (A : Nat → Prop) (σ : ps_S) (s : Int32) (t : tT) (g : gT) (hP : RP σ t g) (hC : cOK t g) (hb : a_st g s) (h0 : gF g s.toNatClampNeg 0 = 0) : ∀ adr, ps_MT l y_Ps_join c_Ps_join 3 (Option.some Jvm.ClassFile.FieldType.int) { frames := 6, cells := 1, slots := 6, locals := 82 } D ca A adr σ [ps_ref (some (0, 0)), ps_int s] "java/lang/UnsupportedOperationException" := by
  intro adr
  refine ps_MT.of (by decide +kernel) (Nat.le_of_ble_eq_true rfl) ?_
  intro p_ e_ s_ m_ args_ below_ meth_ c_ A E hr hlk hex hZ hA_ hW_
  refine pv_aload_n E d_Ps_join_0 rfl rfl ?_
  refine gf_Ps_graph E wd_100 d_Ps_join_1 ?_
  refine pv_top (congrArg ps_ref hP.1.1) ?_
  refine pv_iload_n E d_Ps_join_4 rfl rfl ?_
  refine pv_callV E (fun adr => k_Graph_find l D ca A _ s g hP.2.1 hC.1.1.1 adr) yv_Graph_find wd_240 rfl rfl (fun _ => ⟨_, rfl⟩) rfl ⟨by decide, by decide⟩ (Nat.le_of_ble_eq_true rfl) d_Ps_join_5 ⟨by decide, by decide⟩ (fun r5 σ5 hq5 => ?_)
  obtain ⟨hr5, hs5⟩ := hq5
  subst r5
  subst σ5
  refine pv_astore_n E d_Ps_join_8 rfl (by decide) ?_
  refine pv_aload_n E d_Ps_join_9 rfl rfl ?_
  refine pv_ifnonnull (tgt := 23) E d_Ps_join_10 rfl (fun q10 h10 => ?_) (fun h10 => ?_)
  · skip
    have hc : a_st g s := by
      by_cases z : ¬ s < 0 ∧ s.toNatClampNeg < gN g
      · exact z
      · rw [g_find, if_neg z] at h10; cases h10
    have hv : g_find g s = some (3, s.toNatClampNeg) := if_pos hc
    refine pv_aload_n E d_Ps_join_23 rfl rfl ?_
    refine pv_top (congrArg ps_ref hv) ?_
    refine gf_Stage_state E wd_485 d_Ps_join_24 ?_
    refine pv_top (congrArg ps_int (hP.2.1.2.1 _ hc.2).2.1) ?_
    refine pv_if_ne (tgt := 40) E d_Ps_join_27 rfl (fun h27 => ?_) (fun h27 => ?_)
    · skip
      exact absurd h0 h27
    · skip
      exact pv_throw E htr (by decide +kernel) (by decide +kernel) (th_ownU E.2.2.2.2 hZ _) (hZ _ _ (State.WarmedH.refl _) (Nat.le_refl _) (fun _ _ _ => rfl) _ zx_15) wd_594 wd_595 wd_14 hA_ hW_ hlk hex d_Ps_join_30 d_Ps_join_33 d_Ps_join_34 d_Ps_join_36 d_Ps_join_39 (by decide) (by decide) (by decide) (by decide) (by decide) (by decide)
  · skip
    have hc : ¬ a_st g s := fun z => by rw [g_find, if_pos (show ¬ s < 0 ∧ s.toNatClampNeg < gN g from z)] at h10; cases h10
    exact absurd hb hc
set_option maxHeartbeats 8000000 in
set_option maxRecDepth 100000 in
theorem k_Ps_join_S (l : Launch) (htr : l.stackTraces = false) (D : va_G) (ca : Nat → ClassId) (A : Nat → Prop) (σ : ps_S) (s : Int32) (t : tT) (g : gT) (hP : RP σ t g) (hC : cOK t g) (hb : a_st g s) (h0 : ¬ gF g s.toNatClampNeg 0 = 0) (h1 : ¬ gF g s.toNatClampNeg 0 = 1) : ∀ adr, ps_MT l y_Ps_join c_Ps_join 3 (Option.some Jvm.ClassFile.FieldType.int) { frames := 6, cells := 1, slots := 6, locals := 82 } D ca A adr σ [ps_ref (some (0, 0)), ps_int s] "java/lang/IllegalStateException" := by
  intro adr
  refine ps_MT.of (by decide +kernel) (Nat.le_of_ble_eq_true rfl) ?_
  intro p_ e_ s_ m_ args_ below_ meth_ c_ A E hr hlk hex hZ hA_ hW_
  refine pv_aload_n E d_Ps_join_0 rfl rfl ?_
  refine gf_Ps_graph E wd_100 d_Ps_join_1 ?_
  refine pv_top (congrArg ps_ref hP.1.1) ?_
  refine pv_iload_n E d_Ps_join_4 rfl rfl ?_
  refine pv_callV E (fun adr => k_Graph_find l D ca A _ s g hP.2.1 hC.1.1.1 adr) yv_Graph_find wd_240 rfl rfl (fun _ => ⟨_, rfl⟩) rfl ⟨by decide, by decide⟩ (Nat.le_of_ble_eq_true rfl) d_Ps_join_5 ⟨by decide, by decide⟩ (fun r5 σ5 hq5 => ?_)
  obtain ⟨hr5, hs5⟩ := hq5
  subst r5
  subst σ5
  refine pv_astore_n E d_Ps_join_8 rfl (by decide) ?_
  refine pv_aload_n E d_Ps_join_9 rfl rfl ?_
  refine pv_ifnonnull (tgt := 23) E d_Ps_join_10 rfl (fun q10 h10 => ?_) (fun h10 => ?_)
  · skip
    have hc : a_st g s := by
      by_cases z : ¬ s < 0 ∧ s.toNatClampNeg < gN g
      · exact z
      · rw [g_find, if_neg z] at h10; cases h10
    have hv : g_find g s = some (3, s.toNatClampNeg) := if_pos hc
    refine pv_aload_n E d_Ps_join_23 rfl rfl ?_
    refine pv_top (congrArg ps_ref hv) ?_
    refine gf_Stage_state E wd_485 d_Ps_join_24 ?_
    refine pv_top (congrArg ps_int (hP.2.1.2.1 _ hc.2).2.1) ?_
    refine pv_if_ne (tgt := 40) E d_Ps_join_27 rfl (fun h27 => ?_) (fun h27 => ?_)
    · skip
      refine pv_aload_n E d_Ps_join_40 rfl rfl ?_
      refine pv_top (congrArg ps_ref hv) ?_
      refine gf_Stage_state E wd_485 d_Ps_join_41 ?_
      refine pv_top (congrArg ps_int (hP.2.1.2.1 _ hc.2).2.1) ?_
      refine pv_iconst (v := 1) E d_Ps_join_44 (by decide) ?_
      refine pv_icmp_eq (tgt := 58) E d_Ps_join_45 rfl (fun h45 => ?_) (fun h45 => ?_)
      · skip
        exact absurd h45 h1
      · skip
        exact pv_throw E htr (by decide +kernel) (by decide +kernel) (th_ownS E.2.2.2.2 hZ _) (hZ _ _ (State.WarmedH.refl _) (Nat.le_refl _) (fun _ _ _ => rfl) _ zx_16) wd_390 wd_391 wd_9 hA_ hW_ hlk hex d_Ps_join_48 d_Ps_join_51 d_Ps_join_52 d_Ps_join_54 d_Ps_join_57 (by decide) (by decide) (by decide) (by decide) (by decide) (by decide)
    · skip
      exact absurd h27 h0
  · skip
    have hc : ¬ a_st g s := fun z => by rw [g_find, if_pos (show ¬ s < 0 ∧ s.toNatClampNeg < gN g from z)] at h10; cases h10
    exact absurd hb hc
set_option maxHeartbeats 8000000 in
set_option maxRecDepth 100000 in
theorem k_Ps_open_0 (l : Launch) (D : va_G) (ca : Nat → ClassId) (A : Nat → Prop) (σ : ps_S) (s po d : Int32) (t : tT) (g : gT) (hP : RP σ t g) (hC : cOK t g) (hb : a_opn t s po) (hm : tN t < 12) (hn : gN g < 48) : ∀ adr, ps_M l y_Ps_open c_Ps_open 5 (Option.some Jvm.ClassFile.FieldType.int) { frames := 6, cells := 5, slots := 29, locals := 92 } D ca A adr σ [ps_ref (some (0, 0)), ps_int s, ps_int po, ps_int d] (fun rv σ' => rv = some (ps_int (nI (tN t))) ∧ RP σ' (t_mk t (t_par t s) po d (gN g)) (g_new g 9 (-1) 0 0 []) ∧ FrC σ σ') := by
  intro adr
  refine ps_M.of (by decide +kernel) (Nat.le_of_ble_eq_true rfl) ?_
  intro p_ e_ s_ m_ args_ below_ meth_ c_ E hr hlk hnm
  refine pv_iload_n E d_Ps_open_0 rfl rfl ?_
  refine pv_iconst (v := -1) E d_Ps_open_1 (by decide) ?_
  refine pv_icmp_eq (tgt := 16) E d_Ps_open_2 rfl (fun h2 => ?_) (fun h2 => ?_)
  · skip
    refine pv_iconst (v := 1) E d_Ps_open_16 (by decide) ?_
    refine pv_goto (tgt := 21) E d_Ps_open_17 rfl ?_
    refine pv_istore E d_Ps_open_21 (by decide) ?_
    refine pv_iload E d_Ps_open_23 rfl ?_
    refine pv_if_eq (tgt := 37) E d_Ps_open_25 rfl (fun h25 => ?_) (fun h25 => ?_)
    · skip
      exact absurd h25 (by decide)
    · skip
      refine pv_iload_n E d_Ps_open_28 rfl rfl ?_
      refine pv_if_lt (tgt := 37) E d_Ps_open_29 rfl (fun h29 => ?_) (fun h29 => ?_)
      · skip
        exact absurd h29 hb.2.1
      · skip
        refine pv_iload_n E d_Ps_open_32 rfl rfl ?_
        refine pv_iconst (v := 2) E d_Ps_open_33 (by decide) ?_
        refine pv_icmp_le (tgt := 47) E d_Ps_open_34 rfl (fun h34 => ?_) (fun h34 => ?_)
        · skip
          refine pv_aload_n E d_Ps_open_47 rfl rfl ?_
          refine gf_Ps_tree E wd_101 d_Ps_open_48 ?_
          refine pv_top (congrArg ps_ref hP.1.2) ?_
          refine pv_callV E (fun adr => k_Tree_isFullOfScopes l D ca A _ t hP.2.2.1 hC.2.1 adr) yv_Tree_isFullOfScopes wd_619 rfl rfl (fun _ => ⟨_, rfl⟩) rfl ⟨by decide, by decide⟩ (Nat.le_of_ble_eq_true rfl) d_Ps_open_51 ⟨by decide, by decide⟩ (fun r51 σ51 hq51 => ?_)
          obtain ⟨hr51, hs51⟩ := hq51
          subst r51
          subst σ51
          refine pv_if_ne (tgt := 67) E d_Ps_open_54 rfl (fun h54 => ?_) (fun h54 => ?_)
          · skip
            exact absurd hm (if01n h54)
          · skip
            refine pv_aload_n E d_Ps_open_57 rfl rfl ?_
            refine gf_Ps_graph E wd_100 d_Ps_open_58 ?_
            refine pv_top (congrArg ps_ref hP.1.1) ?_
            refine pv_callV E (fun adr => k_Graph_isFull l D ca A _ g hP.2.1 hC.1.1.1 adr) yv_Graph_isFull wd_386 rfl rfl (fun _ => ⟨_, rfl⟩) rfl ⟨by decide, by decide⟩ (Nat.le_of_ble_eq_true rfl) d_Ps_open_61 ⟨by decide, by decide⟩ (fun r61 σ61 hq61 => ?_)
            obtain ⟨hr61, hs61⟩ := hq61
            subst r61
            subst σ61
            refine pv_if_eq (tgt := 77) E d_Ps_open_64 rfl (fun h64 => ?_) (fun h64 => ?_)
            · skip
              refine pv_aload_n E d_Ps_open_77 rfl rfl ?_
              refine gf_Ps_tree E wd_101 d_Ps_open_78 ?_
              refine pv_top (congrArg ps_ref hP.1.2) ?_
              refine pv_aload_n E d_Ps_open_81 rfl rfl ?_
              refine gf_Ps_tree E wd_101 d_Ps_open_82 ?_
              refine pv_top (congrArg ps_ref hP.1.2) ?_
              refine pv_iload_n E d_Ps_open_85 rfl rfl ?_
              refine pv_callV E (fun adr => k_Tree_find l D ca A _ s t hP.2.2.1 hC.2.1 adr) yv_Tree_find wd_325 rfl rfl (fun _ => ⟨_, rfl⟩) rfl ⟨by decide, by decide⟩ (Nat.le_of_ble_eq_true rfl) d_Ps_open_86 ⟨by decide, by decide⟩ (fun r86 σ86 hq86 => ?_)
              obtain ⟨hr86, hs86⟩ := hq86
              subst r86
              subst σ86
              refine pv_top (congrArg ps_ref (find_par t s)) ?_
              refine pv_iload_n E d_Ps_open_89 rfl rfl ?_
              refine pv_iload_n E d_Ps_open_90 rfl rfl ?_
              refine pv_aload_n E d_Ps_open_91 rfl rfl ?_
              refine gf_Ps_graph E wd_100 d_Ps_open_92 ?_
              refine pv_top (congrArg ps_ref hP.1.1) ?_
              refine pv_callV E (fun adr => k_Graph_addSource l D ca A _ g hP.2.1 hC.1 hP.2.2.2 hn adr) yv_Graph_addSource wd_458 rfl rfl (fun _ => ⟨_, rfl⟩) rfl ⟨by decide, by decide⟩ (Nat.le_of_ble_eq_true rfl) d_Ps_open_95 ⟨by decide, by decide⟩ (fun r95 σ95 hq95 => ?_)
              obtain ⟨hr95, hR95, hf95, hn95⟩ := hq95
              subst r95
              have hP1 : RP σ95 t (g_new g 9 (-1) 0 0 []) := hP.gm hR95 hf95 (new_src hn95) (gN_new _ _ _ _ _ _)
              refine pv_callV E (fun adr => k_Tree_addScope l D ca A _ (t_par t s) po d (gN g) t hP1.2.2.1 hC.2.1 hm par_lt adr) yv_Tree_addScope wd_624 rfl rfl (fun _ => ⟨_, rfl⟩) rfl ⟨by decide, by decide⟩ (Nat.le_of_ble_eq_true rfl) d_Ps_open_98 ⟨by decide, by decide⟩ (fun r98 σ98 hq98 => ?_)
              obtain ⟨hr98, hT98, hf98⟩ := hq98
              subst r98
              exact pv_iret E hr hlk d_Ps_open_101 (by decide) (by decide) ⟨rfl, hP1.tf hT98 hf98, (FrC.ofG hf95).tr (FrC.ofT hf98)⟩
            · skip
              exact absurd hn (if01n h64)
        · skip
          exact absurd hb.2.2 h34
  · skip
    refine pv_aload_n E d_Ps_open_5 rfl rfl ?_
    refine gf_Ps_tree E wd_101 d_Ps_open_6 ?_
    refine pv_top (congrArg ps_ref hP.1.2) ?_
    refine pv_iload_n E d_Ps_open_9 rfl rfl ?_
    refine pv_callV E (fun adr => k_Tree_findOpen l D ca A _ s t hP.2.2.1 hC.2.1 adr) yv_Tree_findOpen wd_265 rfl rfl (fun _ => ⟨_, rfl⟩) rfl ⟨by decide, by decide⟩ (Nat.le_of_ble_eq_true rfl) d_Ps_open_10 ⟨by decide, by decide⟩ (fun r10 σ10 hq10 => ?_)
    obtain ⟨hr10, hs10⟩ := hq10
    subst r10
    subst σ10
    refine pv_ifnull (tgt := 20) E d_Ps_open_13 rfl (fun h13 => ?_) (fun q13 h13 => ?_)
    · skip
      refine pv_iconst (v := 0) E d_Ps_open_20 (by decide) ?_
      refine pv_istore E d_Ps_open_21 (by decide) ?_
      refine pv_iload E d_Ps_open_23 rfl ?_
      refine pv_if_eq (tgt := 37) E d_Ps_open_25 rfl (fun h25 => ?_) (fun h25 => ?_)
      · skip
        exact absurd hb.1 (fun z => z.elim (fun y => h2 y) (fopn_none h13))
      · skip
        exact absurd rfl h25
    · skip
      refine pv_iconst (v := 1) E d_Ps_open_16 (by decide) ?_
      refine pv_goto (tgt := 21) E d_Ps_open_17 rfl ?_
      refine pv_istore E d_Ps_open_21 (by decide) ?_
      refine pv_iload E d_Ps_open_23 rfl ?_
      refine pv_if_eq (tgt := 37) E d_Ps_open_25 rfl (fun h25 => ?_) (fun h25 => ?_)
      · skip
        exact absurd h25 (by decide)
      · skip
        refine pv_iload_n E d_Ps_open_28 rfl rfl ?_
        refine pv_if_lt (tgt := 37) E d_Ps_open_29 rfl (fun h29 => ?_) (fun h29 => ?_)
        · skip
          exact absurd h29 hb.2.1
        · skip
          refine pv_iload_n E d_Ps_open_32 rfl rfl ?_
          refine pv_iconst (v := 2) E d_Ps_open_33 (by decide) ?_
          refine pv_icmp_le (tgt := 47) E d_Ps_open_34 rfl (fun h34 => ?_) (fun h34 => ?_)
          · skip
            refine pv_aload_n E d_Ps_open_47 rfl rfl ?_
            refine gf_Ps_tree E wd_101 d_Ps_open_48 ?_
            refine pv_top (congrArg ps_ref hP.1.2) ?_
            refine pv_callV E (fun adr => k_Tree_isFullOfScopes l D ca A _ t hP.2.2.1 hC.2.1 adr) yv_Tree_isFullOfScopes wd_619 rfl rfl (fun _ => ⟨_, rfl⟩) rfl ⟨by decide, by decide⟩ (Nat.le_of_ble_eq_true rfl) d_Ps_open_51 ⟨by decide, by decide⟩ (fun r51 σ51 hq51 => ?_)
            obtain ⟨hr51, hs51⟩ := hq51
            subst r51
            subst σ51
            refine pv_if_ne (tgt := 67) E d_Ps_open_54 rfl (fun h54 => ?_) (fun h54 => ?_)
            · skip
              exact absurd hm (if01n h54)
            · skip
              refine pv_aload_n E d_Ps_open_57 rfl rfl ?_
              refine gf_Ps_graph E wd_100 d_Ps_open_58 ?_
              refine pv_top (congrArg ps_ref hP.1.1) ?_
              refine pv_callV E (fun adr => k_Graph_isFull l D ca A _ g hP.2.1 hC.1.1.1 adr) yv_Graph_isFull wd_386 rfl rfl (fun _ => ⟨_, rfl⟩) rfl ⟨by decide, by decide⟩ (Nat.le_of_ble_eq_true rfl) d_Ps_open_61 ⟨by decide, by decide⟩ (fun r61 σ61 hq61 => ?_)
              obtain ⟨hr61, hs61⟩ := hq61
              subst r61
              subst σ61
              refine pv_if_eq (tgt := 77) E d_Ps_open_64 rfl (fun h64 => ?_) (fun h64 => ?_)
              · skip
                refine pv_aload_n E d_Ps_open_77 rfl rfl ?_
                refine gf_Ps_tree E wd_101 d_Ps_open_78 ?_
                refine pv_top (congrArg ps_ref hP.1.2) ?_
                refine pv_aload_n E d_Ps_open_81 rfl rfl ?_
                refine gf_Ps_tree E wd_101 d_Ps_open_82 ?_
                refine pv_top (congrArg ps_ref hP.1.2) ?_
                refine pv_iload_n E d_Ps_open_85 rfl rfl ?_
                refine pv_callV E (fun adr => k_Tree_find l D ca A _ s t hP.2.2.1 hC.2.1 adr) yv_Tree_find wd_325 rfl rfl (fun _ => ⟨_, rfl⟩) rfl ⟨by decide, by decide⟩ (Nat.le_of_ble_eq_true rfl) d_Ps_open_86 ⟨by decide, by decide⟩ (fun r86 σ86 hq86 => ?_)
                obtain ⟨hr86, hs86⟩ := hq86
                subst r86
                subst σ86
                refine pv_top (congrArg ps_ref (find_par t s)) ?_
                refine pv_iload_n E d_Ps_open_89 rfl rfl ?_
                refine pv_iload_n E d_Ps_open_90 rfl rfl ?_
                refine pv_aload_n E d_Ps_open_91 rfl rfl ?_
                refine gf_Ps_graph E wd_100 d_Ps_open_92 ?_
                refine pv_top (congrArg ps_ref hP.1.1) ?_
                refine pv_callV E (fun adr => k_Graph_addSource l D ca A _ g hP.2.1 hC.1 hP.2.2.2 hn adr) yv_Graph_addSource wd_458 rfl rfl (fun _ => ⟨_, rfl⟩) rfl ⟨by decide, by decide⟩ (Nat.le_of_ble_eq_true rfl) d_Ps_open_95 ⟨by decide, by decide⟩ (fun r95 σ95 hq95 => ?_)
                obtain ⟨hr95, hR95, hf95, hn95⟩ := hq95
                subst r95
                have hP1 : RP σ95 t (g_new g 9 (-1) 0 0 []) := hP.gm hR95 hf95 (new_src hn95) (gN_new _ _ _ _ _ _)
                refine pv_callV E (fun adr => k_Tree_addScope l D ca A _ (t_par t s) po d (gN g) t hP1.2.2.1 hC.2.1 hm par_lt adr) yv_Tree_addScope wd_624 rfl rfl (fun _ => ⟨_, rfl⟩) rfl ⟨by decide, by decide⟩ (Nat.le_of_ble_eq_true rfl) d_Ps_open_98 ⟨by decide, by decide⟩ (fun r98 σ98 hq98 => ?_)
                obtain ⟨hr98, hT98, hf98⟩ := hq98
                subst r98
                exact pv_iret E hr hlk d_Ps_open_101 (by decide) (by decide) ⟨rfl, hP1.tf hT98 hf98, (FrC.ofG hf95).tr (FrC.ofT hf98)⟩
              · skip
                exact absurd hn (if01n h64)
          · skip
            exact absurd hb.2.2 h34
set_option maxHeartbeats 8000000 in
set_option maxRecDepth 100000 in
theorem k_Ps_open_S (l : Launch) (htr : l.stackTraces = false) (D : va_G) (ca : Nat → ClassId) (A : Nat → Prop) (σ : ps_S) (s po d : Int32) (t : tT) (g : gT) (hP : RP σ t g) (hC : cOK t g) (hb : a_opn t s po) (hn : ¬ (tN t < 12 ∧ gN g < 48)) : ∀ adr, ps_MT l y_Ps_open c_Ps_open 5 (Option.some Jvm.ClassFile.FieldType.int) { frames := 6, cells := 5, slots := 29, locals := 92 } D ca A adr σ [ps_ref (some (0, 0)), ps_int s, ps_int po, ps_int d] "java/lang/IllegalStateException" := by
  intro adr
  refine ps_MT.of (by decide +kernel) (Nat.le_of_ble_eq_true rfl) ?_
  intro p_ e_ s_ m_ args_ below_ meth_ c_ A E hr hlk hex hZ hA_ hW_
  refine pv_iload_n E d_Ps_open_0 rfl rfl ?_
  refine pv_iconst (v := -1) E d_Ps_open_1 (by decide) ?_
  refine pv_icmp_eq (tgt := 16) E d_Ps_open_2 rfl (fun h2 => ?_) (fun h2 => ?_)
  · skip
    refine pv_iconst (v := 1) E d_Ps_open_16 (by decide) ?_
    refine pv_goto (tgt := 21) E d_Ps_open_17 rfl ?_
    refine pv_istore E d_Ps_open_21 (by decide) ?_
    refine pv_iload E d_Ps_open_23 rfl ?_
    refine pv_if_eq (tgt := 37) E d_Ps_open_25 rfl (fun h25 => ?_) (fun h25 => ?_)
    · skip
      exact absurd h25 (by decide)
    · skip
      refine pv_iload_n E d_Ps_open_28 rfl rfl ?_
      refine pv_if_lt (tgt := 37) E d_Ps_open_29 rfl (fun h29 => ?_) (fun h29 => ?_)
      · skip
        exact absurd h29 hb.2.1
      · skip
        refine pv_iload_n E d_Ps_open_32 rfl rfl ?_
        refine pv_iconst (v := 2) E d_Ps_open_33 (by decide) ?_
        refine pv_icmp_le (tgt := 47) E d_Ps_open_34 rfl (fun h34 => ?_) (fun h34 => ?_)
        · skip
          refine pv_aload_n E d_Ps_open_47 rfl rfl ?_
          refine gf_Ps_tree E wd_101 d_Ps_open_48 ?_
          refine pv_top (congrArg ps_ref hP.1.2) ?_
          refine pv_callV E (fun adr => k_Tree_isFullOfScopes l D ca A _ t hP.2.2.1 hC.2.1 adr) yv_Tree_isFullOfScopes wd_619 rfl rfl (fun _ => ⟨_, rfl⟩) rfl ⟨by decide, by decide⟩ (Nat.le_of_ble_eq_true rfl) d_Ps_open_51 ⟨by decide, by decide⟩ (fun r51 σ51 hq51 => ?_)
          obtain ⟨hr51, hs51⟩ := hq51
          subst r51
          subst σ51
          refine pv_if_ne (tgt := 67) E d_Ps_open_54 rfl (fun h54 => ?_) (fun h54 => ?_)
          · skip
            exact pv_throw E htr (by decide +kernel) (by decide +kernel) (th_ownS E.2.2.2.2 hZ _) (hZ _ _ (State.WarmedH.refl _) (Nat.le_refl _) (fun _ _ _ => rfl) _ zx_18) wd_390 wd_391 wd_9 hA_ hW_ hlk hex d_Ps_open_67 d_Ps_open_70 d_Ps_open_71 d_Ps_open_73 d_Ps_open_76 (by decide) (by decide) (by decide) (by decide) (by decide) (by decide)
          · skip
            refine pv_aload_n E d_Ps_open_57 rfl rfl ?_
            refine gf_Ps_graph E wd_100 d_Ps_open_58 ?_
            refine pv_top (congrArg ps_ref hP.1.1) ?_
            refine pv_callV E (fun adr => k_Graph_isFull l D ca A _ g hP.2.1 hC.1.1.1 adr) yv_Graph_isFull wd_386 rfl rfl (fun _ => ⟨_, rfl⟩) rfl ⟨by decide, by decide⟩ (Nat.le_of_ble_eq_true rfl) d_Ps_open_61 ⟨by decide, by decide⟩ (fun r61 σ61 hq61 => ?_)
            obtain ⟨hr61, hs61⟩ := hq61
            subst r61
            subst σ61
            refine pv_if_eq (tgt := 77) E d_Ps_open_64 rfl (fun h64 => ?_) (fun h64 => ?_)
            · skip
              exact absurd ⟨if01 h54, if01 h64⟩ hn
            · skip
              exact pv_throw E htr (by decide +kernel) (by decide +kernel) (th_ownS E.2.2.2.2 hZ _) (hZ _ _ (State.WarmedH.refl _) (Nat.le_refl _) (fun _ _ _ => rfl) _ zx_18) wd_390 wd_391 wd_9 hA_ hW_ hlk hex d_Ps_open_67 d_Ps_open_70 d_Ps_open_71 d_Ps_open_73 d_Ps_open_76 (by decide) (by decide) (by decide) (by decide) (by decide) (by decide)
        · skip
          exact absurd hb.2.2 h34
  · skip
    refine pv_aload_n E d_Ps_open_5 rfl rfl ?_
    refine gf_Ps_tree E wd_101 d_Ps_open_6 ?_
    refine pv_top (congrArg ps_ref hP.1.2) ?_
    refine pv_iload_n E d_Ps_open_9 rfl rfl ?_
    refine pv_callV E (fun adr => k_Tree_findOpen l D ca A _ s t hP.2.2.1 hC.2.1 adr) yv_Tree_findOpen wd_265 rfl rfl (fun _ => ⟨_, rfl⟩) rfl ⟨by decide, by decide⟩ (Nat.le_of_ble_eq_true rfl) d_Ps_open_10 ⟨by decide, by decide⟩ (fun r10 σ10 hq10 => ?_)
    obtain ⟨hr10, hs10⟩ := hq10
    subst r10
    subst σ10
    refine pv_ifnull (tgt := 20) E d_Ps_open_13 rfl (fun h13 => ?_) (fun q13 h13 => ?_)
    · skip
      refine pv_iconst (v := 0) E d_Ps_open_20 (by decide) ?_
      refine pv_istore E d_Ps_open_21 (by decide) ?_
      refine pv_iload E d_Ps_open_23 rfl ?_
      refine pv_if_eq (tgt := 37) E d_Ps_open_25 rfl (fun h25 => ?_) (fun h25 => ?_)
      · skip
        exact absurd hb.1 (fun z => z.elim (fun y => h2 y) (fopn_none h13))
      · skip
        exact absurd rfl h25
    · skip
      refine pv_iconst (v := 1) E d_Ps_open_16 (by decide) ?_
      refine pv_goto (tgt := 21) E d_Ps_open_17 rfl ?_
      refine pv_istore E d_Ps_open_21 (by decide) ?_
      refine pv_iload E d_Ps_open_23 rfl ?_
      refine pv_if_eq (tgt := 37) E d_Ps_open_25 rfl (fun h25 => ?_) (fun h25 => ?_)
      · skip
        exact absurd h25 (by decide)
      · skip
        refine pv_iload_n E d_Ps_open_28 rfl rfl ?_
        refine pv_if_lt (tgt := 37) E d_Ps_open_29 rfl (fun h29 => ?_) (fun h29 => ?_)
        · skip
          exact absurd h29 hb.2.1
        · skip
          refine pv_iload_n E d_Ps_open_32 rfl rfl ?_
          refine pv_iconst (v := 2) E d_Ps_open_33 (by decide) ?_
          refine pv_icmp_le (tgt := 47) E d_Ps_open_34 rfl (fun h34 => ?_) (fun h34 => ?_)
          · skip
            refine pv_aload_n E d_Ps_open_47 rfl rfl ?_
            refine gf_Ps_tree E wd_101 d_Ps_open_48 ?_
            refine pv_top (congrArg ps_ref hP.1.2) ?_
            refine pv_callV E (fun adr => k_Tree_isFullOfScopes l D ca A _ t hP.2.2.1 hC.2.1 adr) yv_Tree_isFullOfScopes wd_619 rfl rfl (fun _ => ⟨_, rfl⟩) rfl ⟨by decide, by decide⟩ (Nat.le_of_ble_eq_true rfl) d_Ps_open_51 ⟨by decide, by decide⟩ (fun r51 σ51 hq51 => ?_)
            obtain ⟨hr51, hs51⟩ := hq51
            subst r51
            subst σ51
            refine pv_if_ne (tgt := 67) E d_Ps_open_54 rfl (fun h54 => ?_) (fun h54 => ?_)
            · skip
              exact pv_throw E htr (by decide +kernel) (by decide +kernel) (th_ownS E.2.2.2.2 hZ _) (hZ _ _ (State.WarmedH.refl _) (Nat.le_refl _) (fun _ _ _ => rfl) _ zx_18) wd_390 wd_391 wd_9 hA_ hW_ hlk hex d_Ps_open_67 d_Ps_open_70 d_Ps_open_71 d_Ps_open_73 d_Ps_open_76 (by decide) (by decide) (by decide) (by decide) (by decide) (by decide)
            · skip
              refine pv_aload_n E d_Ps_open_57 rfl rfl ?_
              refine gf_Ps_graph E wd_100 d_Ps_open_58 ?_
              refine pv_top (congrArg ps_ref hP.1.1) ?_
              refine pv_callV E (fun adr => k_Graph_isFull l D ca A _ g hP.2.1 hC.1.1.1 adr) yv_Graph_isFull wd_386 rfl rfl (fun _ => ⟨_, rfl⟩) rfl ⟨by decide, by decide⟩ (Nat.le_of_ble_eq_true rfl) d_Ps_open_61 ⟨by decide, by decide⟩ (fun r61 σ61 hq61 => ?_)
              obtain ⟨hr61, hs61⟩ := hq61
              subst r61
              subst σ61
              refine pv_if_eq (tgt := 77) E d_Ps_open_64 rfl (fun h64 => ?_) (fun h64 => ?_)
              · skip
                exact absurd ⟨if01 h54, if01 h64⟩ hn
              · skip
                exact pv_throw E htr (by decide +kernel) (by decide +kernel) (th_ownS E.2.2.2.2 hZ _) (hZ _ _ (State.WarmedH.refl _) (Nat.le_refl _) (fun _ _ _ => rfl) _ zx_18) wd_390 wd_391 wd_9 hA_ hW_ hlk hex d_Ps_open_67 d_Ps_open_70 d_Ps_open_71 d_Ps_open_73 d_Ps_open_76 (by decide) (by decide) (by decide) (by decide) (by decide) (by decide)
          · skip
            exact absurd hb.2.2 h34
set_option maxHeartbeats 8000000 in
set_option maxRecDepth 100000 in
theorem k_Ps_open_A (l : Launch) (htr : l.stackTraces = false) (D : va_G) (ca : Nat → ClassId) (A : Nat → Prop) (σ : ps_S) (s po d : Int32) (t : tT) (g : gT) (hP : RP σ t g) (hC : cOK t g) (hb : ¬ a_opn t s po) : ∀ adr, ps_MT l y_Ps_open c_Ps_open 5 (Option.some Jvm.ClassFile.FieldType.int) { frames := 6, cells := 5, slots := 29, locals := 92 } D ca A adr σ [ps_ref (some (0, 0)), ps_int s, ps_int po, ps_int d] "java/lang/IllegalArgumentException" := by
  intro adr
  refine ps_MT.of (by decide +kernel) (Nat.le_of_ble_eq_true rfl) ?_
  intro p_ e_ s_ m_ args_ below_ meth_ c_ A E hr hlk hex hZ hA_ hW_
  refine pv_iload_n E d_Ps_open_0 rfl rfl ?_
  refine pv_iconst (v := -1) E d_Ps_open_1 (by decide) ?_
  refine pv_icmp_eq (tgt := 16) E d_Ps_open_2 rfl (fun h2 => ?_) (fun h2 => ?_)
  · skip
    refine pv_iconst (v := 1) E d_Ps_open_16 (by decide) ?_
    refine pv_goto (tgt := 21) E d_Ps_open_17 rfl ?_
    refine pv_istore E d_Ps_open_21 (by decide) ?_
    refine pv_iload E d_Ps_open_23 rfl ?_
    refine pv_if_eq (tgt := 37) E d_Ps_open_25 rfl (fun h25 => ?_) (fun h25 => ?_)
    · skip
      exact absurd h25 (by decide)
    · skip
      refine pv_iload_n E d_Ps_open_28 rfl rfl ?_
      refine pv_if_lt (tgt := 37) E d_Ps_open_29 rfl (fun h29 => ?_) (fun h29 => ?_)
      · skip
        exact pv_throw E htr (by decide +kernel) (by decide +kernel) (th_ownA E.2.2.2.2 hZ _) (hZ _ _ (State.WarmedH.refl _) (Nat.le_refl _) (fun _ _ _ => rfl) _ zx_17) wd_531 wd_532 wd_12 hA_ hW_ hlk hex d_Ps_open_37 d_Ps_open_40 d_Ps_open_41 d_Ps_open_43 d_Ps_open_46 (by decide) (by decide) (by decide) (by decide) (by decide) (by decide)
      · skip
        refine pv_iload_n E d_Ps_open_32 rfl rfl ?_
        refine pv_iconst (v := 2) E d_Ps_open_33 (by decide) ?_
        refine pv_icmp_le (tgt := 47) E d_Ps_open_34 rfl (fun h34 => ?_) (fun h34 => ?_)
        · skip
          exact absurd ⟨Or.inl h2, h29, h34⟩ hb
        · skip
          exact pv_throw E htr (by decide +kernel) (by decide +kernel) (th_ownA E.2.2.2.2 hZ _) (hZ _ _ (State.WarmedH.refl _) (Nat.le_refl _) (fun _ _ _ => rfl) _ zx_17) wd_531 wd_532 wd_12 hA_ hW_ hlk hex d_Ps_open_37 d_Ps_open_40 d_Ps_open_41 d_Ps_open_43 d_Ps_open_46 (by decide) (by decide) (by decide) (by decide) (by decide) (by decide)
  · skip
    refine pv_aload_n E d_Ps_open_5 rfl rfl ?_
    refine gf_Ps_tree E wd_101 d_Ps_open_6 ?_
    refine pv_top (congrArg ps_ref hP.1.2) ?_
    refine pv_iload_n E d_Ps_open_9 rfl rfl ?_
    refine pv_callV E (fun adr => k_Tree_findOpen l D ca A _ s t hP.2.2.1 hC.2.1 adr) yv_Tree_findOpen wd_265 rfl rfl (fun _ => ⟨_, rfl⟩) rfl ⟨by decide, by decide⟩ (Nat.le_of_ble_eq_true rfl) d_Ps_open_10 ⟨by decide, by decide⟩ (fun r10 σ10 hq10 => ?_)
    obtain ⟨hr10, hs10⟩ := hq10
    subst r10
    subst σ10
    refine pv_ifnull (tgt := 20) E d_Ps_open_13 rfl (fun h13 => ?_) (fun q13 h13 => ?_)
    · skip
      refine pv_iconst (v := 0) E d_Ps_open_20 (by decide) ?_
      refine pv_istore E d_Ps_open_21 (by decide) ?_
      refine pv_iload E d_Ps_open_23 rfl ?_
      refine pv_if_eq (tgt := 37) E d_Ps_open_25 rfl (fun h25 => ?_) (fun h25 => ?_)
      · skip
        exact pv_throw E htr (by decide +kernel) (by decide +kernel) (th_ownA E.2.2.2.2 hZ _) (hZ _ _ (State.WarmedH.refl _) (Nat.le_refl _) (fun _ _ _ => rfl) _ zx_17) wd_531 wd_532 wd_12 hA_ hW_ hlk hex d_Ps_open_37 d_Ps_open_40 d_Ps_open_41 d_Ps_open_43 d_Ps_open_46 (by decide) (by decide) (by decide) (by decide) (by decide) (by decide)
      · skip
        exact absurd rfl h25
    · skip
      refine pv_iconst (v := 1) E d_Ps_open_16 (by decide) ?_
      refine pv_goto (tgt := 21) E d_Ps_open_17 rfl ?_
      refine pv_istore E d_Ps_open_21 (by decide) ?_
      refine pv_iload E d_Ps_open_23 rfl ?_
      refine pv_if_eq (tgt := 37) E d_Ps_open_25 rfl (fun h25 => ?_) (fun h25 => ?_)
      · skip
        exact absurd h25 (by decide)
      · skip
        refine pv_iload_n E d_Ps_open_28 rfl rfl ?_
        refine pv_if_lt (tgt := 37) E d_Ps_open_29 rfl (fun h29 => ?_) (fun h29 => ?_)
        · skip
          exact pv_throw E htr (by decide +kernel) (by decide +kernel) (th_ownA E.2.2.2.2 hZ _) (hZ _ _ (State.WarmedH.refl _) (Nat.le_refl _) (fun _ _ _ => rfl) _ zx_17) wd_531 wd_532 wd_12 hA_ hW_ hlk hex d_Ps_open_37 d_Ps_open_40 d_Ps_open_41 d_Ps_open_43 d_Ps_open_46 (by decide) (by decide) (by decide) (by decide) (by decide) (by decide)
        · skip
          refine pv_iload_n E d_Ps_open_32 rfl rfl ?_
          refine pv_iconst (v := 2) E d_Ps_open_33 (by decide) ?_
          refine pv_icmp_le (tgt := 47) E d_Ps_open_34 rfl (fun h34 => ?_) (fun h34 => ?_)
          · skip
            exact absurd ⟨Or.inr (fopn_some h13).1, h29, h34⟩ hb
          · skip
            exact pv_throw E htr (by decide +kernel) (by decide +kernel) (th_ownA E.2.2.2.2 hZ _) (hZ _ _ (State.WarmedH.refl _) (Nat.le_refl _) (fun _ _ _ => rfl) _ zx_17) wd_531 wd_532 wd_12 hA_ hW_ hlk hex d_Ps_open_37 d_Ps_open_40 d_Ps_open_41 d_Ps_open_43 d_Ps_open_46 (by decide) (by decide) (by decide) (by decide) (by decide) (by decide)
set_option maxHeartbeats 8000000 in
set_option maxRecDepth 100000 in
theorem k_Ps_fork_0 (l : Launch) (D : va_G) (ca : Nat → ClassId) (A : Nat → Prop) (σ : ps_S) (s co f a : Int32) (t : tT) (g : gT) (hP : RP σ t g) (hC : cOK t g) (hb : a_frk t s co f) (hn : uN t < 30) : ∀ adr, ps_M l y_Ps_fork c_Ps_fork 6 (Option.some Jvm.ClassFile.FieldType.int) { frames := 6, cells := 1, slots := 9, locals := 82 } D ca A adr σ [ps_ref (some (0, 0)), ps_int s, ps_int co, ps_int f, ps_int a] (fun rv σ' => rv = some (ps_int (nI (uN t))) ∧ RP σ' (u_mk t s.toNatClampNeg co f a) g ∧ FrC σ σ') := by
  intro adr
  refine ps_M.of (by decide +kernel) (Nat.le_of_ble_eq_true rfl) ?_
  intro p_ e_ s_ m_ args_ below_ meth_ c_ E hr hlk hnm
  refine pv_aload_n E d_Ps_fork_0 rfl rfl ?_
  refine gf_Ps_tree E wd_101 d_Ps_fork_1 ?_
  refine pv_top (congrArg ps_ref hP.1.2) ?_
  refine pv_iload_n E d_Ps_fork_4 rfl rfl ?_
  refine pv_callV E (fun adr => k_Tree_findOpen l D ca A _ s t hP.2.2.1 hC.2.1 adr) yv_Tree_findOpen wd_265 rfl rfl (fun _ => ⟨_, rfl⟩) rfl ⟨by decide, by decide⟩ (Nat.le_of_ble_eq_true rfl) d_Ps_fork_5 ⟨by decide, by decide⟩ (fun r5 σ5 hq5 => ?_)
  obtain ⟨hr5, hs5⟩ := hq5
  subst r5
  subst σ5
  refine pv_astore E d_Ps_fork_8 (by decide) ?_
  refine pv_aload E d_Ps_fork_10 rfl ?_
  refine pv_ifnull (tgt := 29) E d_Ps_fork_12 rfl (fun h12 => ?_) (fun q12 h12 => ?_)
  · skip
    have hc := fopn_none h12
    exact absurd hb.1 hc
  · skip
    obtain ⟨hc, hv⟩ := fopn_some h12
    refine pv_iload_n E d_Ps_fork_15 rfl rfl ?_
    refine pv_callS E (fun adr => k_Task_isCost l D ca A _ co adr) ys_Task_isCost wd_689 rfl rfl ⟨by decide, by decide⟩ (Nat.le_of_ble_eq_true rfl) d_Ps_fork_16 ⟨by decide, by decide⟩ (fun r16 σ16 hq16 => ?_)
    obtain ⟨hr16, hs16⟩ := hq16
    subst r16
    subst σ16
    refine pv_if_eq (tgt := 29) E d_Ps_fork_19 rfl (fun h19 => ?_) (fun h19 => ?_)
    · skip
      exact absurd h19 hb.2.1
    · skip
      refine pv_iload_n E d_Ps_fork_22 rfl rfl ?_
      refine pv_callS E (fun adr => k_Fn_has l D ca A _ f adr) ys_Fn_has wd_528 rfl rfl ⟨by decide, by decide⟩ (Nat.le_of_ble_eq_true rfl) d_Ps_fork_23 ⟨by decide, by decide⟩ (fun r23 σ23 hq23 => ?_)
      obtain ⟨hr23, hs23⟩ := hq23
      subst r23
      subst σ23
      refine pv_if_ne (tgt := 39) E d_Ps_fork_26 rfl (fun h26 => ?_) (fun h26 => ?_)
      · skip
        refine pv_aload_n E d_Ps_fork_39 rfl rfl ?_
        refine gf_Ps_tree E wd_101 d_Ps_fork_40 ?_
        refine pv_top (congrArg ps_ref hP.1.2) ?_
        refine pv_callV E (fun adr => k_Tree_isFullOfTasks l D ca A _ t hP.2.2.1 hC.2.1 adr) yv_Tree_isFullOfTasks wd_693 rfl rfl (fun _ => ⟨_, rfl⟩) rfl ⟨by decide, by decide⟩ (Nat.le_of_ble_eq_true rfl) d_Ps_fork_43 ⟨by decide, by decide⟩ (fun r43 σ43 hq43 => ?_)
        obtain ⟨hr43, hs43⟩ := hq43
        subst r43
        subst σ43
        refine pv_if_eq (tgt := 59) E d_Ps_fork_46 rfl (fun h46 => ?_) (fun h46 => ?_)
        · skip
          refine pv_aload_n E d_Ps_fork_59 rfl rfl ?_
          refine gf_Ps_tree E wd_101 d_Ps_fork_60 ?_
          refine pv_top (congrArg ps_ref hP.1.2) ?_
          refine pv_aload E d_Ps_fork_63 rfl ?_
          refine pv_top (congrArg ps_ref hv) ?_
          refine pv_iload_n E d_Ps_fork_65 rfl rfl ?_
          refine pv_iload_n E d_Ps_fork_66 rfl rfl ?_
          refine pv_iload E d_Ps_fork_67 rfl ?_
          refine pv_callV E (fun adr => k_Tree_addTask l D ca A _ s.toNatClampNeg co f a t hP.2.2.1 hC.2.1 hn hb.1.1.2 adr) yv_Tree_addTask wd_698 rfl rfl (fun _ => ⟨_, rfl⟩) rfl ⟨by decide, by decide⟩ (Nat.le_of_ble_eq_true rfl) d_Ps_fork_69 ⟨by decide, by decide⟩ (fun r69 σ69 hq69 => ?_)
          obtain ⟨hr69, hT69, hf69⟩ := hq69
          subst r69
          exact pv_iret E hr hlk d_Ps_fork_72 (by decide) (by decide) ⟨rfl, hP.tf hT69 hf69, FrC.ofT hf69⟩
        · skip
          exact absurd hn (if01n h46)
      · skip
        exact absurd h26 hb.2.2
set_option maxHeartbeats 8000000 in
set_option maxRecDepth 100000 in
theorem k_Ps_fork_S (l : Launch) (htr : l.stackTraces = false) (D : va_G) (ca : Nat → ClassId) (A : Nat → Prop) (σ : ps_S) (s co f a : Int32) (t : tT) (g : gT) (hP : RP σ t g) (hC : cOK t g) (hb : a_frk t s co f) (hn : ¬ uN t < 30) : ∀ adr, ps_MT l y_Ps_fork c_Ps_fork 6 (Option.some Jvm.ClassFile.FieldType.int) { frames := 6, cells := 1, slots := 9, locals := 82 } D ca A adr σ [ps_ref (some (0, 0)), ps_int s, ps_int co, ps_int f, ps_int a] "java/lang/IllegalStateException" := by
  intro adr
  refine ps_MT.of (by decide +kernel) (Nat.le_of_ble_eq_true rfl) ?_
  intro p_ e_ s_ m_ args_ below_ meth_ c_ A E hr hlk hex hZ hA_ hW_
  refine pv_aload_n E d_Ps_fork_0 rfl rfl ?_
  refine gf_Ps_tree E wd_101 d_Ps_fork_1 ?_
  refine pv_top (congrArg ps_ref hP.1.2) ?_
  refine pv_iload_n E d_Ps_fork_4 rfl rfl ?_
  refine pv_callV E (fun adr => k_Tree_findOpen l D ca A _ s t hP.2.2.1 hC.2.1 adr) yv_Tree_findOpen wd_265 rfl rfl (fun _ => ⟨_, rfl⟩) rfl ⟨by decide, by decide⟩ (Nat.le_of_ble_eq_true rfl) d_Ps_fork_5 ⟨by decide, by decide⟩ (fun r5 σ5 hq5 => ?_)
  obtain ⟨hr5, hs5⟩ := hq5
  subst r5
  subst σ5
  refine pv_astore E d_Ps_fork_8 (by decide) ?_
  refine pv_aload E d_Ps_fork_10 rfl ?_
  refine pv_ifnull (tgt := 29) E d_Ps_fork_12 rfl (fun h12 => ?_) (fun q12 h12 => ?_)
  · skip
    have hc := fopn_none h12
    exact absurd hb.1 hc
  · skip
    obtain ⟨hc, hv⟩ := fopn_some h12
    refine pv_iload_n E d_Ps_fork_15 rfl rfl ?_
    refine pv_callS E (fun adr => k_Task_isCost l D ca A _ co adr) ys_Task_isCost wd_689 rfl rfl ⟨by decide, by decide⟩ (Nat.le_of_ble_eq_true rfl) d_Ps_fork_16 ⟨by decide, by decide⟩ (fun r16 σ16 hq16 => ?_)
    obtain ⟨hr16, hs16⟩ := hq16
    subst r16
    subst σ16
    refine pv_if_eq (tgt := 29) E d_Ps_fork_19 rfl (fun h19 => ?_) (fun h19 => ?_)
    · skip
      exact absurd h19 hb.2.1
    · skip
      refine pv_iload_n E d_Ps_fork_22 rfl rfl ?_
      refine pv_callS E (fun adr => k_Fn_has l D ca A _ f adr) ys_Fn_has wd_528 rfl rfl ⟨by decide, by decide⟩ (Nat.le_of_ble_eq_true rfl) d_Ps_fork_23 ⟨by decide, by decide⟩ (fun r23 σ23 hq23 => ?_)
      obtain ⟨hr23, hs23⟩ := hq23
      subst r23
      subst σ23
      refine pv_if_ne (tgt := 39) E d_Ps_fork_26 rfl (fun h26 => ?_) (fun h26 => ?_)
      · skip
        refine pv_aload_n E d_Ps_fork_39 rfl rfl ?_
        refine gf_Ps_tree E wd_101 d_Ps_fork_40 ?_
        refine pv_top (congrArg ps_ref hP.1.2) ?_
        refine pv_callV E (fun adr => k_Tree_isFullOfTasks l D ca A _ t hP.2.2.1 hC.2.1 adr) yv_Tree_isFullOfTasks wd_693 rfl rfl (fun _ => ⟨_, rfl⟩) rfl ⟨by decide, by decide⟩ (Nat.le_of_ble_eq_true rfl) d_Ps_fork_43 ⟨by decide, by decide⟩ (fun r43 σ43 hq43 => ?_)
        obtain ⟨hr43, hs43⟩ := hq43
        subst r43
        subst σ43
        refine pv_if_eq (tgt := 59) E d_Ps_fork_46 rfl (fun h46 => ?_) (fun h46 => ?_)
        · skip
          exact absurd (if01 h46) hn
        · skip
          exact pv_throw E htr (by decide +kernel) (by decide +kernel) (th_ownS E.2.2.2.2 hZ _) (hZ _ _ (State.WarmedH.refl _) (Nat.le_refl _) (fun _ _ _ => rfl) _ zx_20) wd_390 wd_391 wd_9 hA_ hW_ hlk hex d_Ps_fork_49 d_Ps_fork_52 d_Ps_fork_53 d_Ps_fork_55 d_Ps_fork_58 (by decide) (by decide) (by decide) (by decide) (by decide) (by decide)
      · skip
        exact absurd h26 hb.2.2
set_option maxHeartbeats 8000000 in
set_option maxRecDepth 100000 in
theorem k_Ps_fork_A (l : Launch) (htr : l.stackTraces = false) (D : va_G) (ca : Nat → ClassId) (A : Nat → Prop) (σ : ps_S) (s co f a : Int32) (t : tT) (g : gT) (hP : RP σ t g) (hC : cOK t g) (hb : ¬ a_frk t s co f) : ∀ adr, ps_MT l y_Ps_fork c_Ps_fork 6 (Option.some Jvm.ClassFile.FieldType.int) { frames := 6, cells := 1, slots := 9, locals := 82 } D ca A adr σ [ps_ref (some (0, 0)), ps_int s, ps_int co, ps_int f, ps_int a] "java/lang/IllegalArgumentException" := by
  intro adr
  refine ps_MT.of (by decide +kernel) (Nat.le_of_ble_eq_true rfl) ?_
  intro p_ e_ s_ m_ args_ below_ meth_ c_ A E hr hlk hex hZ hA_ hW_
  refine pv_aload_n E d_Ps_fork_0 rfl rfl ?_
  refine gf_Ps_tree E wd_101 d_Ps_fork_1 ?_
  refine pv_top (congrArg ps_ref hP.1.2) ?_
  refine pv_iload_n E d_Ps_fork_4 rfl rfl ?_
  refine pv_callV E (fun adr => k_Tree_findOpen l D ca A _ s t hP.2.2.1 hC.2.1 adr) yv_Tree_findOpen wd_265 rfl rfl (fun _ => ⟨_, rfl⟩) rfl ⟨by decide, by decide⟩ (Nat.le_of_ble_eq_true rfl) d_Ps_fork_5 ⟨by decide, by decide⟩ (fun r5 σ5 hq5 => ?_)
  obtain ⟨hr5, hs5⟩ := hq5
  subst r5
  subst σ5
  refine pv_astore E d_Ps_fork_8 (by decide) ?_
  refine pv_aload E d_Ps_fork_10 rfl ?_
  refine pv_ifnull (tgt := 29) E d_Ps_fork_12 rfl (fun h12 => ?_) (fun q12 h12 => ?_)
  · skip
    have hc := fopn_none h12
    exact pv_throw E htr (by decide +kernel) (by decide +kernel) (th_ownA E.2.2.2.2 hZ _) (hZ _ _ (State.WarmedH.refl _) (Nat.le_refl _) (fun _ _ _ => rfl) _ zx_19) wd_531 wd_532 wd_12 hA_ hW_ hlk hex d_Ps_fork_29 d_Ps_fork_32 d_Ps_fork_33 d_Ps_fork_35 d_Ps_fork_38 (by decide) (by decide) (by decide) (by decide) (by decide) (by decide)
  · skip
    obtain ⟨hc, hv⟩ := fopn_some h12
    refine pv_iload_n E d_Ps_fork_15 rfl rfl ?_
    refine pv_callS E (fun adr => k_Task_isCost l D ca A _ co adr) ys_Task_isCost wd_689 rfl rfl ⟨by decide, by decide⟩ (Nat.le_of_ble_eq_true rfl) d_Ps_fork_16 ⟨by decide, by decide⟩ (fun r16 σ16 hq16 => ?_)
    obtain ⟨hr16, hs16⟩ := hq16
    subst r16
    subst σ16
    refine pv_if_eq (tgt := 29) E d_Ps_fork_19 rfl (fun h19 => ?_) (fun h19 => ?_)
    · skip
      exact pv_throw E htr (by decide +kernel) (by decide +kernel) (th_ownA E.2.2.2.2 hZ _) (hZ _ _ (State.WarmedH.refl _) (Nat.le_refl _) (fun _ _ _ => rfl) _ zx_19) wd_531 wd_532 wd_12 hA_ hW_ hlk hex d_Ps_fork_29 d_Ps_fork_32 d_Ps_fork_33 d_Ps_fork_35 d_Ps_fork_38 (by decide) (by decide) (by decide) (by decide) (by decide) (by decide)
    · skip
      refine pv_iload_n E d_Ps_fork_22 rfl rfl ?_
      refine pv_callS E (fun adr => k_Fn_has l D ca A _ f adr) ys_Fn_has wd_528 rfl rfl ⟨by decide, by decide⟩ (Nat.le_of_ble_eq_true rfl) d_Ps_fork_23 ⟨by decide, by decide⟩ (fun r23 σ23 hq23 => ?_)
      obtain ⟨hr23, hs23⟩ := hq23
      subst r23
      subst σ23
      refine pv_if_ne (tgt := 39) E d_Ps_fork_26 rfl (fun h26 => ?_) (fun h26 => ?_)
      · skip
        exact absurd ⟨hc, h19, h26⟩ hb
      · skip
        exact pv_throw E htr (by decide +kernel) (by decide +kernel) (th_ownA E.2.2.2.2 hZ _) (hZ _ _ (State.WarmedH.refl _) (Nat.le_refl _) (fun _ _ _ => rfl) _ zx_19) wd_531 wd_532 wd_12 hA_ hW_ hlk hex d_Ps_fork_29 d_Ps_fork_32 d_Ps_fork_33 d_Ps_fork_35 d_Ps_fork_38 (by decide) (by decide) (by decide) (by decide) (by decide) (by decide)
set_option maxHeartbeats 8000000 in
set_option maxRecDepth 100000 in
theorem k_Ps_bound_0 (l : Launch) (D : va_G) (ca : Nat → ClassId) (A : Nat → Prop) (σ : ps_S) (s k : Int32) (t : tT) (g : gT) (hP : RP σ t g) (hC : cOK t g) (hb : a_bnd t s k) : ∀ adr, ps_M l y_Ps_bound c_Ps_bound 4 (Option.some Jvm.ClassFile.FieldType.int) { frames := 6, cells := 1, slots := 6, locals := 82 } D ca A adr σ [ps_ref (some (0, 0)), ps_int s, ps_int k] (fun rv σ' => rv = some (ps_int (t_look t s.toNatClampNeg k.toNatClampNeg)) ∧ σ' = σ) := by
  intro adr
  refine ps_M.of (by decide +kernel) (Nat.le_of_ble_eq_true rfl) ?_
  intro p_ e_ s_ m_ args_ below_ meth_ c_ E hr hlk hnm
  refine pv_aload_n E d_Ps_bound_0 rfl rfl ?_
  refine gf_Ps_tree E wd_101 d_Ps_bound_1 ?_
  refine pv_top (congrArg ps_ref hP.1.2) ?_
  refine pv_iload_n E d_Ps_bound_4 rfl rfl ?_
  refine pv_callV E (fun adr => k_Tree_find l D ca A _ s t hP.2.2.1 hC.2.1 adr) yv_Tree_find wd_325 rfl rfl (fun _ => ⟨_, rfl⟩) rfl ⟨by decide, by decide⟩ (Nat.le_of_ble_eq_true rfl) d_Ps_bound_5 ⟨by decide, by decide⟩ (fun r5 σ5 hq5 => ?_)
  obtain ⟨hr5, hs5⟩ := hq5
  subst r5
  subst σ5
  refine pv_astore_n E d_Ps_bound_8 rfl (by decide) ?_
  refine pv_aload_n E d_Ps_bound_9 rfl rfl ?_
  refine pv_ifnull (tgt := 20) E d_Ps_bound_10 rfl (fun h10 => ?_) (fun q10 h10 => ?_)
  · skip
    have hc := find_none h10
    exact absurd hb.1 hc
  · skip
    obtain ⟨hc, hv⟩ := find_some h10
    refine pv_iload_n E d_Ps_bound_13 rfl rfl ?_
    refine pv_callS E (fun adr => k_Scope_isKey l D ca A _ k adr) ys_Scope_isKey wd_273 rfl rfl ⟨by decide, by decide⟩ (Nat.le_of_ble_eq_true rfl) d_Ps_bound_14 ⟨by decide, by decide⟩ (fun r14 σ14 hq14 => ?_)
    obtain ⟨hr14, hs14⟩ := hq14
    subst r14
    subst σ14
    refine pv_if_ne (tgt := 30) E d_Ps_bound_17 rfl (fun h17 => ?_) (fun h17 => ?_)
    · skip
      refine pv_aload_n E d_Ps_bound_30 rfl rfl ?_
      refine pv_top (congrArg ps_ref hv) ?_
      refine pv_iload_n E d_Ps_bound_31 rfl rfl ?_
      refine pv_callV E (fun adr => k_Scope_lookUp l D ca A _ s.toNatClampNeg k t hP.2.2.1.2.1 hC.2.1 hb.1.2 hb.2 adr) yv_Scope_lookUp wd_755 rfl rfl (fun _ => ⟨_, rfl⟩) rfl ⟨by decide, by decide⟩ (Nat.le_of_ble_eq_true rfl) d_Ps_bound_32 ⟨by decide, by decide⟩ (fun r32 σ32 hq32 => ?_)
      obtain ⟨hr32, hs32⟩ := hq32
      subst r32
      subst σ32
      exact pv_iret E hr hlk d_Ps_bound_35 (by decide) (by decide) ⟨rfl, rfl⟩
    · skip
      exact absurd hb.2 (if10 h17)
set_option maxHeartbeats 8000000 in
set_option maxRecDepth 100000 in
theorem k_Ps_bound_A (l : Launch) (htr : l.stackTraces = false) (D : va_G) (ca : Nat → ClassId) (A : Nat → Prop) (σ : ps_S) (s k : Int32) (t : tT) (g : gT) (hP : RP σ t g) (hC : cOK t g) (hb : ¬ a_bnd t s k) : ∀ adr, ps_MT l y_Ps_bound c_Ps_bound 4 (Option.some Jvm.ClassFile.FieldType.int) { frames := 6, cells := 1, slots := 6, locals := 82 } D ca A adr σ [ps_ref (some (0, 0)), ps_int s, ps_int k] "java/lang/IllegalArgumentException" := by
  intro adr
  refine ps_MT.of (by decide +kernel) (Nat.le_of_ble_eq_true rfl) ?_
  intro p_ e_ s_ m_ args_ below_ meth_ c_ A E hr hlk hex hZ hA_ hW_
  refine pv_aload_n E d_Ps_bound_0 rfl rfl ?_
  refine gf_Ps_tree E wd_101 d_Ps_bound_1 ?_
  refine pv_top (congrArg ps_ref hP.1.2) ?_
  refine pv_iload_n E d_Ps_bound_4 rfl rfl ?_
  refine pv_callV E (fun adr => k_Tree_find l D ca A _ s t hP.2.2.1 hC.2.1 adr) yv_Tree_find wd_325 rfl rfl (fun _ => ⟨_, rfl⟩) rfl ⟨by decide, by decide⟩ (Nat.le_of_ble_eq_true rfl) d_Ps_bound_5 ⟨by decide, by decide⟩ (fun r5 σ5 hq5 => ?_)
  obtain ⟨hr5, hs5⟩ := hq5
  subst r5
  subst σ5
  refine pv_astore_n E d_Ps_bound_8 rfl (by decide) ?_
  refine pv_aload_n E d_Ps_bound_9 rfl rfl ?_
  refine pv_ifnull (tgt := 20) E d_Ps_bound_10 rfl (fun h10 => ?_) (fun q10 h10 => ?_)
  · skip
    have hc := find_none h10
    exact pv_throw E htr (by decide +kernel) (by decide +kernel) (th_ownA E.2.2.2.2 hZ _) (hZ _ _ (State.WarmedH.refl _) (Nat.le_refl _) (fun _ _ _ => rfl) _ zx_21) wd_531 wd_532 wd_12 hA_ hW_ hlk hex d_Ps_bound_20 d_Ps_bound_23 d_Ps_bound_24 d_Ps_bound_26 d_Ps_bound_29 (by decide) (by decide) (by decide) (by decide) (by decide) (by decide)
  · skip
    obtain ⟨hc, hv⟩ := find_some h10
    refine pv_iload_n E d_Ps_bound_13 rfl rfl ?_
    refine pv_callS E (fun adr => k_Scope_isKey l D ca A _ k adr) ys_Scope_isKey wd_273 rfl rfl ⟨by decide, by decide⟩ (Nat.le_of_ble_eq_true rfl) d_Ps_bound_14 ⟨by decide, by decide⟩ (fun r14 σ14 hq14 => ?_)
    obtain ⟨hr14, hs14⟩ := hq14
    subst r14
    subst σ14
    refine pv_if_ne (tgt := 30) E d_Ps_bound_17 rfl (fun h17 => ?_) (fun h17 => ?_)
    · skip
      exact absurd ⟨hc, if10n h17⟩ hb
    · skip
      exact pv_throw E htr (by decide +kernel) (by decide +kernel) (th_ownA E.2.2.2.2 hZ _) (hZ _ _ (State.WarmedH.refl _) (Nat.le_refl _) (fun _ _ _ => rfl) _ zx_21) wd_531 wd_532 wd_12 hA_ hW_ hlk hex d_Ps_bound_20 d_Ps_bound_23 d_Ps_bound_24 d_Ps_bound_26 d_Ps_bound_29 (by decide) (by decide) (by decide) (by decide) (by decide) (by decide)
