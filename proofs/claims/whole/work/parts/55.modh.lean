set_option maxHeartbeats 8000000 in
set_option maxRecDepth 100000 in
theorem k_Mod_stage (l : Launch) (D : va_G) (ca : Nat → ClassId) (A : Nat → Prop) (σ : ps_S) (s w : Int32) (t : tT) (g : gT) (hM : RM σ t g 0) (hO : gOK g) (hY : gY g) : ∀ adr, ps_M l y_Mod_stage c_Mod_stage 5 (Option.some Jvm.ClassFile.FieldType.int) { frames := 1, cells := 0, slots := 0, locals := 21 } D ca A adr σ [ps_ref (some (13, 0)), ps_int s, ps_int w] (fun rv σ' => rv = some (ps_int (x_stage g s w)) ∧ RM σ' t g 0 ∧ ps_I σ' 13 0 0 = 0 ∧ FrM σ σ') := by
  intro adr
  refine ps_M.of (by decide +kernel) (Nat.le_of_ble_eq_true rfl) ?_
  intro p_ e_ s_ m_ args_ below_ meth_ c_ E hr hlk hnm
  have h0 := hM.1
  have hA := hM.2.1
  have hA1 : ∀ v : Int32, RMA (ps_sI σ 13 0 0 v) g 0 := fun v => hA.sc (Or.inl rfl)
  have hp48 := gP_48 hO
  refine pv_aload_n E d_Mod_stage_0 rfl rfl ?_
  refine pv_iconst (v := 0) E d_Mod_stage_1 (by decide) ?_
  refine pf_Mod_thrown E wd_762 d_Mod_stage_2 ?_
  refine pv_aload_n E d_Mod_stage_5 rfl rfl ?_
  refine pv_iload_n E d_Mod_stage_6 rfl rfl ?_
  refine pv_callV E (fun adr => k_Mod_isStage l D ca A _ s g (hA1 0).1.1 hO.1.1 adr) yv_Mod_isStage wd_928 rfl rfl (fun _ => ⟨_, rfl⟩) rfl ⟨by decide, by decide⟩ (Nat.le_of_ble_eq_true rfl) d_Mod_stage_7 ⟨by decide, by decide⟩ (fun r7 σ7 hq7 => ?_)
  obtain ⟨hr7, hs7⟩ := hq7
  subst r7
  subst σ7
  refine pv_if_eq (tgt := 22) E d_Mod_stage_10 rfl (fun h10 => ?_) (fun h10 => ?_)
  · skip
    have hc := if10 h10
    refine pv_iconst (v := -1) E d_Mod_stage_22 (by decide) ?_
    exact pv_iret E hr hlk d_Mod_stage_23 (by decide) (by decide) ⟨by rw [x_stage, if_neg hc], hM.th, ps_I_eq _ _ _ _ _, FrM.th⟩
  · skip
    have hc := if10n h10
    have hk48 : s.toNatClampNeg < 48 := Nat.lt_of_lt_of_le hc.2 hO.1.1
    refine pv_iload_n E d_Mod_stage_13 rfl rfl ?_
    refine pv_if_lt (tgt := 22) E d_Mod_stage_14 rfl (fun h14 => ?_) (fun h14 => ?_)
    · skip
      refine pv_iconst (v := -1) E d_Mod_stage_22 (by decide) ?_
      exact pv_iret E hr hlk d_Mod_stage_23 (by decide) (by decide) ⟨(xs_out (Or.inl h14)).symm ▸ rfl, hM.th, ps_I_eq _ _ _ _ _, FrM.th⟩
    · skip
      refine pv_iload_n E d_Mod_stage_17 rfl rfl ?_
      refine pv_iconst (v := 3) E d_Mod_stage_18 (by decide) ?_
      refine pv_icmp_le (tgt := 24) E d_Mod_stage_19 rfl (fun h19 => ?_) (fun h19 => ?_)
      · skip
        refine pv_iload_n E d_Mod_stage_24 rfl rfl ?_
        refine pv_iconst (v := 3) E d_Mod_stage_25 (by decide) ?_
        refine pv_icmp_ne (tgt := 69) E d_Mod_stage_26 rfl (fun h26 => ?_) (fun h26 => ?_)
        · skip
          refine pv_iload_n E d_Mod_stage_69 rfl rfl ?_
          refine pv_if_ne (tgt := 82) E d_Mod_stage_70 rfl (fun h70 => ?_) (fun h70 => ?_)
          · skip
            refine pv_iload_n E d_Mod_stage_82 rfl rfl ?_
            refine pv_iconst (v := 1) E d_Mod_stage_83 (by decide) ?_
            refine pv_icmp_ne (tgt := 96) E d_Mod_stage_84 rfl (fun h84 => ?_) (fun h84 => ?_)
            · skip
              refine pv_aload_n E d_Mod_stage_96 rfl rfl ?_
              refine gf_Mod_kind E wd_768 d_Mod_stage_97 ?_
              refine pv_top (congrArg ps_ref (m_f h0 6 rfl)) ?_
              refine pv_iload_n E d_Mod_stage_100 rfl rfl ?_
              refine pv_top (congrArg ps_int (st_nI hc.1)) ?_
              refine pv_iaload (t0 := 6) E 14 _ (fun _ _ _ _ _ => rfl) rfl (m_ix h0 14 3 (by decide) (by decide) hk48) d_Mod_stage_101 ?_
              refine pv_top (congrArg ps_int ((congrArg (ps_I _ 14 3) (nI_clamp (Nat.lt_trans hk48 (by decide)))).trans ((hA1 0).1.2.2.1 s.toNatClampNeg hc.2).1.2.2.2.1)) ?_
              exact pv_iret E hr hlk d_Mod_stage_102 (by decide) (by decide) ⟨by rw [x_stage, if_pos hc, if_neg h70, if_neg h84, if_pos (w_two h14 h19 h70 h84 h26)], hM.th, ps_I_eq _ _ _ _ _, FrM.th⟩
            · skip
              refine pv_aload_n E d_Mod_stage_87 rfl rfl ?_
              refine gf_Mod_value E wd_765 d_Mod_stage_88 ?_
              refine pv_top (congrArg ps_ref (m_f h0 3 rfl)) ?_
              refine pv_iload_n E d_Mod_stage_91 rfl rfl ?_
              refine pv_top (congrArg ps_int (st_nI hc.1)) ?_
              refine pv_iaload (t0 := 6) E 14 _ (fun _ _ _ _ _ => rfl) rfl (m_ix h0 14 1 (by decide) (by decide) hk48) d_Mod_stage_92 ?_
              refine pv_top (congrArg ps_int ((congrArg (ps_I _ 14 1) (nI_clamp (Nat.lt_trans hk48 (by decide)))).trans ((hA1 0).1.2.2.1 s.toNatClampNeg hc.2).1.2.1)) ?_
              refine pv_goto (tgt := 102) E d_Mod_stage_93 rfl ?_
              exact pv_iret E hr hlk d_Mod_stage_102 (by decide) (by decide) ⟨by rw [x_stage, if_pos hc, if_neg h70, if_pos h84], hM.th, ps_I_eq _ _ _ _ _, FrM.th⟩
          · skip
            refine pv_aload_n E d_Mod_stage_73 rfl rfl ?_
            refine gf_Mod_state E wd_764 d_Mod_stage_74 ?_
            refine pv_top (congrArg ps_ref (m_f h0 2 rfl)) ?_
            refine pv_iload_n E d_Mod_stage_77 rfl rfl ?_
            refine pv_top (congrArg ps_int (st_nI hc.1)) ?_
            refine pv_iaload (t0 := 6) E 14 _ (fun _ _ _ _ _ => rfl) rfl (m_ix h0 14 0 (by decide) (by decide) hk48) d_Mod_stage_78 ?_
            refine pv_top (congrArg ps_int ((congrArg (ps_I _ 14 0) (nI_clamp (Nat.lt_trans hk48 (by decide)))).trans ((hA1 0).1.2.2.1 s.toNatClampNeg hc.2).1.1)) ?_
            refine pv_goto (tgt := 102) E d_Mod_stage_79 rfl ?_
            exact pv_iret E hr hlk d_Mod_stage_102 (by decide) (by decide) ⟨by rw [x_stage, if_pos hc, if_pos h70], hM.th, ps_I_eq _ _ _ _ _, FrM.th⟩
        · skip
          refine pv_iconst (v := -1) E d_Mod_stage_29 (by decide) ?_
          refine pv_istore_n E d_Mod_stage_30 rfl (by decide) ?_
          refine pv_iconst (v := 0) E d_Mod_stage_31 (by decide) ?_
          refine pv_istore E d_Mod_stage_32 (by decide) ?_
          refine pv_sub (L' := [(0, ps_ref (some (13, 0))), (1, ps_int s), (3, ps_int (g_ix s.toNatClampNeg ((gP g).take 0) 0)), (4, ps_int (nI 0))]) ⟨rfl, rfl, rfl, rfl, trivial⟩ ?_
          refine pv_loop (ι := Nat) (fun i => (gP g).length - i) (fun i => [(0, ps_ref (some (13, 0))), (1, ps_int s), (3, ps_int (g_ix s.toNatClampNeg ((gP g).take i) 0)), (4, ps_int (nI i))]) (fun _ => ps_sI σ 13 0 0 0) (fun i => i ≤ (gP g).length) (fun i hi ih => ?_) 0 (Nat.zero_le _)
          dsimp only at ih ⊢
          refine pv_iload E d_Mod_stage_34 rfl ?_
          refine pv_aload_n E d_Mod_stage_36 rfl rfl ?_
          refine gf_Mod_pooled E wd_780 d_Mod_stage_37 ?_
          refine pv_top (congrArg ps_int (hA1 0).2.2.1) ?_
          refine pv_icmp_ge (tgt := 67) E d_Mod_stage_40 rfl (fun h40 => ?_) (fun h40 => ?_)
          · skip
            have hi2 : (gP g).length ≤ i := (nI_leI (by omega) (by omega)).mp h40
            have hi3 : i = (gP g).length := by omega
            refine pv_iload_n E d_Mod_stage_67 rfl rfl ?_
            exact pv_iret E hr hlk d_Mod_stage_68 (by decide) (by decide) ⟨by rw [hi3, List.take_length, x_stage, if_pos hc, if_neg (by rw [h26]; decide), if_neg (by rw [h26]; decide), if_neg (by rw [h26]; decide), if_pos h26], hM.th, ps_I_eq _ _ _ _ _, FrM.th⟩
          · skip
            have hi2 : i < (gP g).length := Nat.lt_of_not_le (fun z => h40 ((nI_leI (by omega) (by omega)).mpr z))
            obtain ⟨j, hj⟩ : ∃ j, (gP g)[i]? = some j := ⟨_, List.getElem?_eq_getElem hi2⟩
            have hjN := (hO.2.2.2 j (List.mem_append_right _ (List.mem_of_getElem? hj))).1
            have hnd := (List.nodup_append.mp hO.2.2.1).2.1
            refine pv_aload_n E d_Mod_stage_43 rfl rfl ?_
            refine gf_Mod_pool E wd_781 d_Mod_stage_44 ?_
            refine pv_top (congrArg ps_ref (m_f h0 19 rfl)) ?_
            refine pv_iload E d_Mod_stage_47 rfl ?_
            refine pv_iaload (t0 := 6) E 14 _ (fun _ _ _ _ _ => rfl) rfl (m_ix h0 14 10 (by decide) (by decide) (show i < 48 by omega)) d_Mod_stage_49 ?_
            refine pv_top (congrArg ps_int ((congrArg (ps_I _ 14 10) (nI_clamp (Nat.lt_trans (show i < 48 by omega) (by decide)))).trans ((hA1 0).2.2.2 i j hj))) ?_
            refine pv_iload_n E d_Mod_stage_50 rfl rfl ?_
            refine pv_top (congrArg ps_int (st_nI hc.1)) ?_
            refine pv_icmp_ne (tgt := 59) E d_Mod_stage_51 rfl (fun h51 => ?_) (fun h51 => ?_)
            · skip
              have hne : ¬ j = s.toNatClampNeg := fun z => h51 (by rw [z])
              refine pv_iload_n E d_Mod_stage_59 rfl rfl ?_
              refine pv_istore_n E d_Mod_stage_60 rfl (by decide) ?_
              refine pv_inc1 E d_Mod_stage_61 rfl (by decide) ?_
              refine pv_goto (tgt := 34) E d_Mod_stage_64 rfl ?_
              exact pv_back (ih (i + 1) (by omega) (by omega)) ⟨rfl, rfl, congrArg (fun z : Int32 => some (ps_int z)) (by rw [take_get hj, ix_no hne]), congrArg (fun z : Int32 => some (ps_int z)) (nI_1 i), trivial⟩
            · skip
              have hje : j = s.toNatClampNeg := (nI_eq (by have := hO.1.1; omega) (by omega)).mp h51
              refine pv_iload E d_Mod_stage_54 rfl ?_
              refine pv_goto (tgt := 60) E d_Mod_stage_56 rfl ?_
              refine pv_istore_n E d_Mod_stage_60 rfl (by decide) ?_
              refine pv_inc1 E d_Mod_stage_61 rfl (by decide) ?_
              refine pv_goto (tgt := 34) E d_Mod_stage_64 rfl ?_
              exact pv_back (ih (i + 1) (by omega) (by omega)) ⟨rfl, rfl, congrArg (fun z : Int32 => some (ps_int z)) (by rw [take_get hj, ← hje, ix_yes _ _ (take_new hnd hj), Nat.zero_add, List.length_take, Nat.min_eq_left (by omega)]), congrArg (fun z : Int32 => some (ps_int z)) (nI_1 i), trivial⟩
      · skip
        refine pv_iconst (v := -1) E d_Mod_stage_22 (by decide) ?_
        exact pv_iret E hr hlk d_Mod_stage_23 (by decide) (by decide) ⟨(xs_out (Or.inr h19)).symm ▸ rfl, hM.th, ps_I_eq _ _ _ _ _, FrM.th⟩
