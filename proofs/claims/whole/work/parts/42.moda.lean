set_option maxHeartbeats 8000000 in
set_option maxRecDepth 100000 in
theorem k_Mod_thrown (l : Launch) (D : va_G) (ca : Nat → ClassId) (A : Nat → Prop) (σ : ps_S)   : ∀ adr, ps_M l y_Mod_thrown c_Mod_thrown 1 (Option.some Jvm.ClassFile.FieldType.int) { frames := 0, cells := 0, slots := 0, locals := 0 } D ca A adr σ [ps_ref (some (13, 0))] (fun rv σ' => rv = some (ps_int (ps_I σ 13 0 0)) ∧ σ' = σ) := by
  intro adr
  refine ps_M.of (by decide +kernel) (Nat.le_of_ble_eq_true rfl) ?_
  intro p_ e_ s_ m_ args_ below_ meth_ c_ E hr hlk hnm
  refine pv_aload_n E d_Mod_thrown_0 rfl rfl ?_
  refine gf_Mod_thrown E wd_762 d_Mod_thrown_1 ?_
  exact pv_iret E hr hlk d_Mod_thrown_4 (by decide) (by decide) ⟨rfl, rfl⟩
set_option maxHeartbeats 8000000 in
set_option maxRecDepth 100000 in
theorem k_Mod_apply (l : Launch) (D : va_G) (ca : Nat → ClassId) (A : Nat → Prop) (σ : ps_S) (f a x : Int32)  : ∀ adr, ps_M l y_Mod_apply c_Mod_apply 4 (Option.none : Option Jvm.ClassFile.FieldType) { frames := 0, cells := 0, slots := 0, locals := 0 } D ca A adr σ [ps_ref (some (13, 0)), ps_int f, ps_int a, ps_int x] (fun rv σ' => rv = none ∧ σ' = m_app σ f a x) := by
  intro adr
  refine ps_M.of (by decide +kernel) (Nat.le_of_ble_eq_true rfl) ?_
  intro p_ e_ s_ m_ args_ below_ meth_ c_ E hr hlk hnm
  refine pv_aload_n E d_Mod_apply_0 rfl rfl ?_
  refine pv_iload_n E d_Mod_apply_1 rfl rfl ?_
  refine pv_iconst (v := 2) E d_Mod_apply_2 (by decide) ?_
  refine pv_icmp_ne (tgt := 11) E d_Mod_apply_3 rfl (fun h3 => ?_) (fun h3 => ?_)
  · skip
    refine pv_iload_n E d_Mod_apply_11 rfl rfl ?_
    refine pv_iconst (v := 3) E d_Mod_apply_12 (by decide) ?_
    refine pv_icmp_ne (tgt := 25) E d_Mod_apply_13 rfl (fun h13 => ?_) (fun h13 => ?_)
    · skip
      refine pv_iload_n E d_Mod_apply_25 rfl rfl ?_
      refine pv_iconst (v := 5) E d_Mod_apply_26 (by decide) ?_
      refine pv_icmp_ne (tgt := 39) E d_Mod_apply_27 rfl (fun h27 => ?_) (fun h27 => ?_)
      · skip
        refine pv_iconst (v := 0) E d_Mod_apply_39 (by decide) ?_
        refine pv_top (congrArg ps_int (show _ = fn_thr f a x by simp [fn_thr, h3, h13, h27])) ?_
        refine pf_Mod_threw E wd_783 d_Mod_apply_40 ?_
        refine pv_aload_n E d_Mod_apply_43 rfl rfl ?_
        refine pv_iload_n E d_Mod_apply_44 rfl rfl ?_
        refine pv_if_ne (tgt := 54) E d_Mod_apply_45 rfl (fun h45 => ?_) (fun h45 => ?_)
        · skip
          refine pv_iload_n E d_Mod_apply_54 rfl rfl ?_
          refine pv_iconst (v := 1) E d_Mod_apply_55 (by decide) ?_
          refine pv_icmp_ne (tgt := 65) E d_Mod_apply_56 rfl (fun h56 => ?_) (fun h56 => ?_)
          · skip
            refine pv_iload_n E d_Mod_apply_65 rfl rfl ?_
            refine pv_iconst (v := 2) E d_Mod_apply_66 (by decide) ?_
            refine pv_icmp_ne (tgt := 74) E d_Mod_apply_67 rfl (fun h67 => ?_) (fun h67 => ?_)
            · skip
              refine pv_iload_n E d_Mod_apply_74 rfl rfl ?_
              refine pv_iconst (v := 4) E d_Mod_apply_75 (by decide) ?_
              refine pv_icmp_ne (tgt := 83) E d_Mod_apply_76 rfl (fun h76 => ?_) (fun h76 => ?_)
              · skip
                refine pv_iload_n E d_Mod_apply_83 rfl rfl ?_
                refine pv_iconst (v := 5) E d_Mod_apply_84 (by decide) ?_
                refine pv_icmp_ne (tgt := 106) E d_Mod_apply_85 rfl (fun h85 => ?_) (fun h85 => ?_)
                · skip
                  refine pv_iconst (v := 0) E d_Mod_apply_106 (by decide) ?_
                  refine pv_top (congrArg ps_int (show _ = m_mk f a x by simp [m_mk, h45, h56, h67, h76, h85])) ?_
                  refine pf_Mod_made E wd_782 d_Mod_apply_107 ?_
                  exact pv_vret E hr hlk d_Mod_apply_110 (by decide) (by decide) ⟨rfl, rfl⟩
                · skip
                  exact absurd h85 h27
              · skip
                refine pv_iload_n E d_Mod_apply_79 rfl rfl ?_
                refine pv_goto (tgt := 107) E d_Mod_apply_80 rfl ?_
                refine pv_top (congrArg ps_int (show _ = m_mk f a x by simp [m_mk, h45, h56, h67, h76])) ?_
                refine pf_Mod_made E wd_782 d_Mod_apply_107 ?_
                exact pv_vret E hr hlk d_Mod_apply_110 (by decide) (by decide) ⟨rfl, rfl⟩
            · skip
              exact absurd h67 h3
          · skip
            refine pv_iload_n E d_Mod_apply_59 rfl rfl ?_
            refine pv_iload_n E d_Mod_apply_60 rfl rfl ?_
            refine pv_imul E d_Mod_apply_61 ?_
            refine pv_goto (tgt := 107) E d_Mod_apply_62 rfl ?_
            refine pv_top (congrArg ps_int (show _ = m_mk f a x by simp [m_mk, h45, h56])) ?_
            refine pf_Mod_made E wd_782 d_Mod_apply_107 ?_
            exact pv_vret E hr hlk d_Mod_apply_110 (by decide) (by decide) ⟨rfl, rfl⟩
        · skip
          refine pv_iload_n E d_Mod_apply_48 rfl rfl ?_
          refine pv_iload_n E d_Mod_apply_49 rfl rfl ?_
          refine pv_iadd E d_Mod_apply_50 ?_
          refine pv_goto (tgt := 107) E d_Mod_apply_51 rfl ?_
          refine pv_top (congrArg ps_int (show _ = m_mk f a x by simp [m_mk, h45])) ?_
          refine pf_Mod_made E wd_782 d_Mod_apply_107 ?_
          exact pv_vret E hr hlk d_Mod_apply_110 (by decide) (by decide) ⟨rfl, rfl⟩
      · skip
        refine pv_iload_n E d_Mod_apply_30 rfl rfl ?_
        refine pv_if_ne (tgt := 39) E d_Mod_apply_31 rfl (fun h31 => ?_) (fun h31 => ?_)
        · skip
          refine pv_iconst (v := 0) E d_Mod_apply_39 (by decide) ?_
          refine pv_top (congrArg ps_int (show _ = fn_thr f a x by simp [fn_thr, h3, h13, h27, h31])) ?_
          refine pf_Mod_threw E wd_783 d_Mod_apply_40 ?_
          refine pv_aload_n E d_Mod_apply_43 rfl rfl ?_
          refine pv_iload_n E d_Mod_apply_44 rfl rfl ?_
          refine pv_if_ne (tgt := 54) E d_Mod_apply_45 rfl (fun h45 => ?_) (fun h45 => ?_)
          · skip
            refine pv_iload_n E d_Mod_apply_54 rfl rfl ?_
            refine pv_iconst (v := 1) E d_Mod_apply_55 (by decide) ?_
            refine pv_icmp_ne (tgt := 65) E d_Mod_apply_56 rfl (fun h56 => ?_) (fun h56 => ?_)
            · skip
              refine pv_iload_n E d_Mod_apply_65 rfl rfl ?_
              refine pv_iconst (v := 2) E d_Mod_apply_66 (by decide) ?_
              refine pv_icmp_ne (tgt := 74) E d_Mod_apply_67 rfl (fun h67 => ?_) (fun h67 => ?_)
              · skip
                refine pv_iload_n E d_Mod_apply_74 rfl rfl ?_
                refine pv_iconst (v := 4) E d_Mod_apply_75 (by decide) ?_
                refine pv_icmp_ne (tgt := 83) E d_Mod_apply_76 rfl (fun h76 => ?_) (fun h76 => ?_)
                · skip
                  refine pv_iload_n E d_Mod_apply_83 rfl rfl ?_
                  refine pv_iconst (v := 5) E d_Mod_apply_84 (by decide) ?_
                  refine pv_icmp_ne (tgt := 106) E d_Mod_apply_85 rfl (fun h85 => ?_) (fun h85 => ?_)
                  · skip
                    exact absurd h27 h85
                  · skip
                    refine pv_iload_n E d_Mod_apply_88 rfl rfl ?_
                    refine pv_if_eq (tgt := 106) E d_Mod_apply_89 rfl (fun h89 => ?_) (fun h89 => ?_)
                    · skip
                      exact absurd h89 h31
                    · skip
                      refine pv_iload_n E d_Mod_apply_92 rfl rfl ?_
                      refine pv_iload_n E d_Mod_apply_93 rfl rfl ?_
                      refine pv_if_ne (tgt := 101) E d_Mod_apply_94 rfl (fun h94 => ?_) (fun h94 => ?_)
                      · skip
                        refine pv_iload_n E d_Mod_apply_101 rfl rfl ?_
                        refine pv_idiv E d_Mod_apply_102 (h94) ?_
                        refine pv_goto (tgt := 107) E d_Mod_apply_103 rfl ?_
                        refine pv_top (congrArg ps_int (show _ = m_mk f a x by simp [m_mk, h31, h45, h56, h67, h76, h85, h89, h94])) ?_
                        refine pf_Mod_made E wd_782 d_Mod_apply_107 ?_
                        exact pv_vret E hr hlk d_Mod_apply_110 (by decide) (by decide) ⟨rfl, rfl⟩
                      · skip
                        exact absurd h94 h31
                · skip
                  exact absurd (h27.symm.trans h76) (by decide)
              · skip
                exact absurd h67 h3
            · skip
              exact absurd (h27.symm.trans h56) (by decide)
          · skip
            exact absurd (h27.symm.trans h45) (by decide)
        · skip
          refine pv_bipush (v := 9) E d_Mod_apply_34 (by decide) ?_
          refine pv_goto (tgt := 40) E d_Mod_apply_36 rfl ?_
          refine pv_top (congrArg ps_int (show _ = fn_thr f a x by simp [fn_thr, h3, h13, h27, h31])) ?_
          refine pf_Mod_threw E wd_783 d_Mod_apply_40 ?_
          refine pv_aload_n E d_Mod_apply_43 rfl rfl ?_
          refine pv_iload_n E d_Mod_apply_44 rfl rfl ?_
          refine pv_if_ne (tgt := 54) E d_Mod_apply_45 rfl (fun h45 => ?_) (fun h45 => ?_)
          · skip
            refine pv_iload_n E d_Mod_apply_54 rfl rfl ?_
            refine pv_iconst (v := 1) E d_Mod_apply_55 (by decide) ?_
            refine pv_icmp_ne (tgt := 65) E d_Mod_apply_56 rfl (fun h56 => ?_) (fun h56 => ?_)
            · skip
              refine pv_iload_n E d_Mod_apply_65 rfl rfl ?_
              refine pv_iconst (v := 2) E d_Mod_apply_66 (by decide) ?_
              refine pv_icmp_ne (tgt := 74) E d_Mod_apply_67 rfl (fun h67 => ?_) (fun h67 => ?_)
              · skip
                refine pv_iload_n E d_Mod_apply_74 rfl rfl ?_
                refine pv_iconst (v := 4) E d_Mod_apply_75 (by decide) ?_
                refine pv_icmp_ne (tgt := 83) E d_Mod_apply_76 rfl (fun h76 => ?_) (fun h76 => ?_)
                · skip
                  refine pv_iload_n E d_Mod_apply_83 rfl rfl ?_
                  refine pv_iconst (v := 5) E d_Mod_apply_84 (by decide) ?_
                  refine pv_icmp_ne (tgt := 106) E d_Mod_apply_85 rfl (fun h85 => ?_) (fun h85 => ?_)
                  · skip
                    exact absurd h27 h85
                  · skip
                    refine pv_iload_n E d_Mod_apply_88 rfl rfl ?_
                    refine pv_if_eq (tgt := 106) E d_Mod_apply_89 rfl (fun h89 => ?_) (fun h89 => ?_)
                    · skip
                      refine pv_iconst (v := 0) E d_Mod_apply_106 (by decide) ?_
                      refine pv_top (congrArg ps_int (show _ = m_mk f a x by simp [m_mk, h31, h45, h56, h67, h76, h85, h89])) ?_
                      refine pf_Mod_made E wd_782 d_Mod_apply_107 ?_
                      exact pv_vret E hr hlk d_Mod_apply_110 (by decide) (by decide) ⟨rfl, rfl⟩
                    · skip
                      exact absurd h31 h89
                · skip
                  exact absurd (h27.symm.trans h76) (by decide)
              · skip
                exact absurd h67 h3
            · skip
              exact absurd (h27.symm.trans h56) (by decide)
          · skip
            exact absurd (h27.symm.trans h45) (by decide)
    · skip
      refine pv_iconst (v := 1) E d_Mod_apply_16 (by decide) ?_
      refine pv_iload_n E d_Mod_apply_17 rfl rfl ?_
      refine pv_bipush (v := 7) E d_Mod_apply_18 (by decide) ?_
      refine pv_iand E d_Mod_apply_20 ?_
      refine pv_iadd E d_Mod_apply_21 ?_
      refine pv_goto (tgt := 40) E d_Mod_apply_22 rfl ?_
      refine pv_top (congrArg ps_int (show _ = fn_thr f a x by simp [fn_thr, h3, h13])) ?_
      refine pf_Mod_threw E wd_783 d_Mod_apply_40 ?_
      refine pv_aload_n E d_Mod_apply_43 rfl rfl ?_
      refine pv_iload_n E d_Mod_apply_44 rfl rfl ?_
      refine pv_if_ne (tgt := 54) E d_Mod_apply_45 rfl (fun h45 => ?_) (fun h45 => ?_)
      · skip
        refine pv_iload_n E d_Mod_apply_54 rfl rfl ?_
        refine pv_iconst (v := 1) E d_Mod_apply_55 (by decide) ?_
        refine pv_icmp_ne (tgt := 65) E d_Mod_apply_56 rfl (fun h56 => ?_) (fun h56 => ?_)
        · skip
          refine pv_iload_n E d_Mod_apply_65 rfl rfl ?_
          refine pv_iconst (v := 2) E d_Mod_apply_66 (by decide) ?_
          refine pv_icmp_ne (tgt := 74) E d_Mod_apply_67 rfl (fun h67 => ?_) (fun h67 => ?_)
          · skip
            refine pv_iload_n E d_Mod_apply_74 rfl rfl ?_
            refine pv_iconst (v := 4) E d_Mod_apply_75 (by decide) ?_
            refine pv_icmp_ne (tgt := 83) E d_Mod_apply_76 rfl (fun h76 => ?_) (fun h76 => ?_)
            · skip
              refine pv_iload_n E d_Mod_apply_83 rfl rfl ?_
              refine pv_iconst (v := 5) E d_Mod_apply_84 (by decide) ?_
              refine pv_icmp_ne (tgt := 106) E d_Mod_apply_85 rfl (fun h85 => ?_) (fun h85 => ?_)
              · skip
                refine pv_iconst (v := 0) E d_Mod_apply_106 (by decide) ?_
                refine pv_top (congrArg ps_int (show _ = m_mk f a x by simp [m_mk, h45, h56, h67, h76, h85])) ?_
                refine pf_Mod_made E wd_782 d_Mod_apply_107 ?_
                exact pv_vret E hr hlk d_Mod_apply_110 (by decide) (by decide) ⟨rfl, rfl⟩
              · skip
                exact absurd (h13.symm.trans h85) (by decide)
            · skip
              exact absurd (h13.symm.trans h76) (by decide)
          · skip
            exact absurd h67 h3
        · skip
          exact absurd (h13.symm.trans h56) (by decide)
      · skip
        exact absurd (h13.symm.trans h45) (by decide)
  · skip
    refine pv_iload_n E d_Mod_apply_6 rfl rfl ?_
    refine pv_iload_n E d_Mod_apply_7 rfl rfl ?_
    refine pv_icmp_eq (tgt := 16) E d_Mod_apply_8 rfl (fun h8 => ?_) (fun h8 => ?_)
    · skip
      refine pv_iconst (v := 1) E d_Mod_apply_16 (by decide) ?_
      refine pv_iload_n E d_Mod_apply_17 rfl rfl ?_
      refine pv_bipush (v := 7) E d_Mod_apply_18 (by decide) ?_
      refine pv_iand E d_Mod_apply_20 ?_
      refine pv_iadd E d_Mod_apply_21 ?_
      refine pv_goto (tgt := 40) E d_Mod_apply_22 rfl ?_
      refine pv_top (congrArg ps_int (show _ = fn_thr f a x by simp [fn_thr, h3, h8])) ?_
      refine pf_Mod_threw E wd_783 d_Mod_apply_40 ?_
      refine pv_aload_n E d_Mod_apply_43 rfl rfl ?_
      refine pv_iload_n E d_Mod_apply_44 rfl rfl ?_
      refine pv_if_ne (tgt := 54) E d_Mod_apply_45 rfl (fun h45 => ?_) (fun h45 => ?_)
      · skip
        refine pv_iload_n E d_Mod_apply_54 rfl rfl ?_
        refine pv_iconst (v := 1) E d_Mod_apply_55 (by decide) ?_
        refine pv_icmp_ne (tgt := 65) E d_Mod_apply_56 rfl (fun h56 => ?_) (fun h56 => ?_)
        · skip
          refine pv_iload_n E d_Mod_apply_65 rfl rfl ?_
          refine pv_iconst (v := 2) E d_Mod_apply_66 (by decide) ?_
          refine pv_icmp_ne (tgt := 74) E d_Mod_apply_67 rfl (fun h67 => ?_) (fun h67 => ?_)
          · skip
            exact absurd h3 h67
          · skip
            refine pv_iload_n E d_Mod_apply_70 rfl rfl ?_
            refine pv_goto (tgt := 107) E d_Mod_apply_71 rfl ?_
            refine pv_top (congrArg ps_int (show _ = m_mk f a x by simp [m_mk, h45, h56, h67])) ?_
            refine pf_Mod_made E wd_782 d_Mod_apply_107 ?_
            exact pv_vret E hr hlk d_Mod_apply_110 (by decide) (by decide) ⟨rfl, rfl⟩
        · skip
          exact absurd (h3.symm.trans h56) (by decide)
      · skip
        exact absurd (h3.symm.trans h45) (by decide)
    · skip
      refine pv_iload_n E d_Mod_apply_11 rfl rfl ?_
      refine pv_iconst (v := 3) E d_Mod_apply_12 (by decide) ?_
      refine pv_icmp_ne (tgt := 25) E d_Mod_apply_13 rfl (fun h13 => ?_) (fun h13 => ?_)
      · skip
        refine pv_iload_n E d_Mod_apply_25 rfl rfl ?_
        refine pv_iconst (v := 5) E d_Mod_apply_26 (by decide) ?_
        refine pv_icmp_ne (tgt := 39) E d_Mod_apply_27 rfl (fun h27 => ?_) (fun h27 => ?_)
        · skip
          refine pv_iconst (v := 0) E d_Mod_apply_39 (by decide) ?_
          refine pv_top (congrArg ps_int (show _ = fn_thr f a x by simp [fn_thr, h3, h8, h13, h27])) ?_
          refine pf_Mod_threw E wd_783 d_Mod_apply_40 ?_
          refine pv_aload_n E d_Mod_apply_43 rfl rfl ?_
          refine pv_iload_n E d_Mod_apply_44 rfl rfl ?_
          refine pv_if_ne (tgt := 54) E d_Mod_apply_45 rfl (fun h45 => ?_) (fun h45 => ?_)
          · skip
            refine pv_iload_n E d_Mod_apply_54 rfl rfl ?_
            refine pv_iconst (v := 1) E d_Mod_apply_55 (by decide) ?_
            refine pv_icmp_ne (tgt := 65) E d_Mod_apply_56 rfl (fun h56 => ?_) (fun h56 => ?_)
            · skip
              refine pv_iload_n E d_Mod_apply_65 rfl rfl ?_
              refine pv_iconst (v := 2) E d_Mod_apply_66 (by decide) ?_
              refine pv_icmp_ne (tgt := 74) E d_Mod_apply_67 rfl (fun h67 => ?_) (fun h67 => ?_)
              · skip
                exact absurd h3 h67
              · skip
                refine pv_iload_n E d_Mod_apply_70 rfl rfl ?_
                refine pv_goto (tgt := 107) E d_Mod_apply_71 rfl ?_
                refine pv_top (congrArg ps_int (show _ = m_mk f a x by simp [m_mk, h45, h56, h67])) ?_
                refine pf_Mod_made E wd_782 d_Mod_apply_107 ?_
                exact pv_vret E hr hlk d_Mod_apply_110 (by decide) (by decide) ⟨rfl, rfl⟩
            · skip
              exact absurd (h3.symm.trans h56) (by decide)
          · skip
            exact absurd (h3.symm.trans h45) (by decide)
        · skip
          exact absurd (h3.symm.trans h27) (by decide)
      · skip
        exact absurd (h3.symm.trans h13) (by decide)
set_option maxHeartbeats 8000000 in
set_option maxRecDepth 100000 in
theorem k_Mod_isStage (l : Launch) (D : va_G) (ca : Nat → ClassId) (A : Nat → Prop) (σ : ps_S) (s : Int32) (g : gT) (hG : ps_I σ 13 0 1 = nI (gN g)) (hn : gN g ≤ 48) : ∀ adr, ps_M l y_Mod_isStage c_Mod_isStage 2 (Option.some Jvm.ClassFile.FieldType.boolean) { frames := 0, cells := 0, slots := 0, locals := 0 } D ca A adr σ [ps_ref (some (13, 0)), ps_int s] (fun rv σ' => rv = some (ps_int (if ¬ s < 0 ∧ s.toNatClampNeg < gN g then 1 else 0)) ∧ σ' = σ) := by
  intro adr
  refine ps_M.of (by decide +kernel) (Nat.le_of_ble_eq_true rfl) ?_
  intro p_ e_ s_ m_ args_ below_ meth_ c_ E hr hlk hnm
  refine pv_iload_n E d_Mod_isStage_0 rfl rfl ?_
  refine pv_if_lt (tgt := 16) E d_Mod_isStage_1 rfl (fun h1 => ?_) (fun h1 => ?_)
  · skip
    refine pv_iconst (v := 0) E d_Mod_isStage_16 (by decide) ?_
    exact pv_zret E hr hlk d_Mod_isStage_17 (by first | rfl | (apply ps_zb; assumption)) (by decide) (by decide) ⟨by rw [if_neg (fun z => z.1 h1)], rfl⟩
  · skip
    refine pv_iload_n E d_Mod_isStage_4 rfl rfl ?_
    refine pv_aload_n E d_Mod_isStage_5 rfl rfl ?_
    refine gf_Mod_stages E wd_763 d_Mod_isStage_6 ?_
    refine pv_top (congrArg ps_int hG) ?_
    refine pv_icmp_ge (tgt := 16) E d_Mod_isStage_9 rfl (fun h9 => ?_) (fun h9 => ?_)
    · skip
      refine pv_iconst (v := 0) E d_Mod_isStage_16 (by decide) ?_
      exact pv_zret E hr hlk d_Mod_isStage_17 (by first | rfl | (apply ps_zb; assumption)) (by decide) (by decide) ⟨by rw [if_neg (fun z => absurd ((nI_le_s (by omega) h1).mp h9) (Nat.not_le.mpr z.2))], rfl⟩
    · skip
      refine pv_iconst (v := 1) E d_Mod_isStage_12 (by decide) ?_
      refine pv_goto (tgt := 17) E d_Mod_isStage_13 rfl ?_
      exact pv_zret E hr hlk d_Mod_isStage_17 (by first | rfl | (apply ps_zb; assumption)) (by decide) (by decide) ⟨by rw [if_pos ⟨h1, Nat.lt_of_not_le (fun z => h9 ((nI_le_s (by omega) h1).mpr z))⟩], rfl⟩
set_option maxHeartbeats 8000000 in
set_option maxRecDepth 100000 in
theorem k_Mod_settled (l : Launch) (D : va_G) (ca : Nat → ClassId) (A : Nat → Prop) (σ : ps_S) (k : Nat) (g : gT) (h0 : RM0 σ) (hG : RMG σ g) (hW : gW g) (hk : k < gN g) : ∀ adr, ps_M l y_Mod_settled c_Mod_settled 2 (Option.some Jvm.ClassFile.FieldType.boolean) { frames := 0, cells := 0, slots := 0, locals := 0 } D ca A adr σ [ps_ref (some (13, 0)), ps_int (nI k)] (fun rv σ' => rv = some (ps_int (if g_on g k = true then 1 else 0)) ∧ σ' = σ) := by
  intro adr
  refine ps_M.of (by decide +kernel) (Nat.le_of_ble_eq_true rfl) ?_
  intro p_ e_ s_ m_ args_ below_ meth_ c_ E hr hlk hnm
  have hk48 : k < 48 := Nat.lt_of_lt_of_le hk hW.1
  refine pv_aload_n E d_Mod_settled_0 rfl rfl ?_
  refine gf_Mod_state E wd_764 d_Mod_settled_1 ?_
  refine pv_top (congrArg ps_ref (m_f h0 2 rfl)) ?_
  refine pv_iload_n E d_Mod_settled_4 rfl rfl ?_
  refine pv_iaload (t0 := 6) E 14 _ (fun _ _ _ _ _ => rfl) rfl (m_ix h0 14 0 (by decide) (by decide) hk48) d_Mod_settled_5 ?_
  refine pv_top (congrArg ps_int ((congrArg (ps_I _ 14 0) (nI_clamp (Nat.lt_trans hk48 (by decide)))).trans (hG.2.2.1 k hk).1.1)) ?_
  refine pv_if_eq (tgt := 13) E d_Mod_settled_6 rfl (fun h6 => ?_) (fun h6 => ?_)
  · skip
    refine pv_iconst (v := 0) E d_Mod_settled_13 (by decide) ?_
    exact pv_zret E hr hlk d_Mod_settled_14 (by first | rfl | (apply ps_zb; assumption)) (by decide) (by decide) ⟨by rw [if_neg (fun z => (g_on_eq g k).mp z h6)], rfl⟩
  · skip
    refine pv_iconst (v := 1) E d_Mod_settled_9 (by decide) ?_
    refine pv_goto (tgt := 14) E d_Mod_settled_10 rfl ?_
    exact pv_zret E hr hlk d_Mod_settled_14 (by first | rfl | (apply ps_zb; assumption)) (by decide) (by decide) ⟨by rw [if_pos ((g_on_eq g k).mpr h6)], rfl⟩
set_option maxHeartbeats 8000000 in
set_option maxRecDepth 100000 in
theorem k_Mod_come (l : Launch) (D : va_G) (ca : Nat → ClassId) (A : Nat → Prop) (σ : ps_S) (s : Nat) (b : Int32) (g : gT) (h0 : RM0 σ) (hG : RMG σ g) (hW : gW g) (hs : s < gN g) (hx : l_N (ps_J σ 16 0 s) < 2 ^ gN g) : ∀ adr, ps_M l y_Mod_come c_Mod_come 6 (Option.some Jvm.ClassFile.FieldType.boolean) { frames := 1, cells := 0, slots := 0, locals := 21 } D ca A adr σ [ps_ref (some (13, 0)), ps_int (nI s), ps_int b] (fun rv σ' => rv = some (ps_int (if b = 0 then (if (l_set (l_N (ps_J σ 16 0 s)) (gN g)).any (g_on g) = true then 1 else 0) else (if (l_set (l_N (ps_J σ 16 0 s)) (gN g)).all (g_on g) = true then 1 else 0))) ∧ σ' = σ) := by
  intro adr
  refine ps_M.of (by decide +kernel) (Nat.le_of_ble_eq_true rfl) ?_
  intro p_ e_ s_ m_ args_ below_ meth_ c_ E hr hlk hnm
  have h48 := hW.1
  have hs48 : s < 48 := Nat.lt_of_lt_of_le hs hW.1
  have hx63 : l_N (ps_J σ 16 0 s) < 2 ^ 63 := Nat.lt_of_lt_of_le hx (Nat.pow_le_pow_right (by decide) (by omega))
  refine pv_iconst (v := 0) E d_Mod_come_0 (by decide) ?_
  refine pv_istore_n E d_Mod_come_1 rfl (by decide) ?_
  refine pv_iconst (v := 0) E d_Mod_come_2 (by decide) ?_
  refine pv_istore E d_Mod_come_3 (by decide) ?_
  refine pv_iconst (v := 0) E d_Mod_come_5 (by decide) ?_
  refine pv_istore E d_Mod_come_6 (by decide) ?_
  refine pv_sub (L' := [(0, ps_ref (some (13, 0))), (1, ps_int (nI s)), (2, ps_int b), (3, ps_int (nI (l_cnt (l_N (ps_J σ 16 0 s)) 0))), (4, ps_int (nI (m_cnt g (l_N (ps_J σ 16 0 s)) 0))), (5, ps_int (nI 0))]) ⟨rfl, rfl, rfl, rfl, rfl, rfl, trivial⟩ ?_
  refine pv_loop (ι := Nat) (fun i => gN g - i) (fun i => [(0, ps_ref (some (13, 0))), (1, ps_int (nI s)), (2, ps_int b), (3, ps_int (nI (l_cnt (l_N (ps_J σ 16 0 s)) i))), (4, ps_int (nI (m_cnt g (l_N (ps_J σ 16 0 s)) i))), (5, ps_int (nI i))]) (fun _ => σ) (fun i => i ≤ gN g) (fun i hi ih => ?_) 0 (Nat.zero_le _)
  dsimp only at ih ⊢
  have hcl : l_cnt (l_N (ps_J σ 16 0 s)) i ≤ i := cnt_le _ _
  have hml := m_cnt_le g (l_N (ps_J σ 16 0 s)) i
  refine pv_iload E d_Mod_come_8 rfl ?_
  refine pv_aload_n E d_Mod_come_10 rfl rfl ?_
  refine gf_Mod_stages E wd_763 d_Mod_come_11 ?_
  refine pv_top (congrArg ps_int hG.1) ?_
  refine pv_icmp_ge (tgt := 61) E d_Mod_come_14 rfl (fun h14 => ?_) (fun h14 => ?_)
  · skip
    have hi2 : gN g ≤ i := (nI_leI (by omega) (by omega)).mp h14
    have hi3 : i = gN g := by omega
    subst hi3
    refine pv_iload_n E d_Mod_come_61 rfl rfl ?_
    refine pv_if_eq (tgt := 79) E d_Mod_come_62 rfl (fun h62 => ?_) (fun h62 => ?_)
    · skip
      refine pv_iload E d_Mod_come_79 rfl ?_
      refine pv_if_le (tgt := 88) E d_Mod_come_81 rfl (fun h81 => ?_) (fun h81 => ?_)
      · skip
        refine pv_iconst (v := 0) E d_Mod_come_88 (by decide) ?_
        exact pv_zret E hr hlk d_Mod_come_89 (by first | rfl | (apply ps_zb; assumption)) (by decide) (by decide) ⟨by rw [if_pos h62, m_cnt_any, if_neg (fun z => absurd (of_decide_eq_true z) (Nat.not_lt.mpr (Nat.le_of_eq (nI_le0 (by omega) h81))))], rfl⟩
      · skip
        refine pv_iconst (v := 1) E d_Mod_come_84 (by decide) ?_
        refine pv_goto (tgt := 89) E d_Mod_come_85 rfl ?_
        exact pv_zret E hr hlk d_Mod_come_89 (by first | rfl | (apply ps_zb; assumption)) (by decide) (by decide) ⟨by rw [if_pos h62, m_cnt_any, if_pos (decide_eq_true (nI_gt0 h81))], rfl⟩
    · skip
      refine pv_iload E d_Mod_come_65 rfl ?_
      refine pv_iload_n E d_Mod_come_67 rfl rfl ?_
      refine pv_icmp_ne (tgt := 75) E d_Mod_come_68 rfl (fun h68 => ?_) (fun h68 => ?_)
      · skip
        refine pv_iconst (v := 0) E d_Mod_come_75 (by decide) ?_
        refine pv_goto (tgt := 89) E d_Mod_come_76 rfl ?_
        exact pv_zret E hr hlk d_Mod_come_89 (by first | rfl | (apply ps_zb; assumption)) (by decide) (by decide) ⟨by rw [if_neg h62, m_cnt_all, if_neg (fun z => h68 (congrArg nI (of_decide_eq_true z)))], rfl⟩
      · skip
        refine pv_iconst (v := 1) E d_Mod_come_71 (by decide) ?_
        refine pv_goto (tgt := 89) E d_Mod_come_72 rfl ?_
        exact pv_zret E hr hlk d_Mod_come_89 (by first | rfl | (apply ps_zb; assumption)) (by decide) (by decide) ⟨by rw [if_neg h62, m_cnt_all, if_pos (decide_eq_true ((nI_eq (by omega) (by omega)).mp h68))], rfl⟩
  · skip
    have hi2 : i < gN g := Nat.lt_of_not_le (fun z => h14 ((nI_leI (by omega) (by omega)).mpr z))
    refine pv_aload_n E d_Mod_come_17 rfl rfl ?_
    refine gf_Mod_inputs E wd_773 d_Mod_come_18 ?_
    refine pv_top (congrArg ps_ref (m_f h0 11 rfl)) ?_
    refine pv_iload_n E d_Mod_come_21 rfl rfl ?_
    refine pv_laload (t0 := 8) E 16 _ (fun _ _ _ _ _ => rfl) rfl (m_ix h0 16 0 (by decide) (by decide) hs48) d_Mod_come_22 ?_
    refine pv_top (congrArg ps_lng ((congrArg (ps_J _ 16 0) (nI_clamp (Nat.lt_trans hs48 (by decide)))))) ?_
    refine pv_iload E d_Mod_come_23 rfl ?_
    refine pv_lshr E d_Mod_come_25 ?_
    refine pv_lconst (v := 1) E d_Mod_come_26 (by decide) ?_
    refine pv_land E d_Mod_come_27 ?_
    refine pv_lconst (v := 1) E d_Mod_come_28 (by decide) ?_
    refine pv_lcmp E d_Mod_come_29 ?_
    refine pv_if_ne (tgt := 55) E d_Mod_come_30 rfl (fun h30 => ?_) (fun h30 => ?_)
    · skip
      have hb : (l_N (ps_J σ 16 0 s)).testBit i = false := by
        cases z : (l_N (ps_J σ 16 0 s)).testBit i
        · rfl
        · exact absurd (lg_cmpe.mpr ((l_bita (by omega) hx63).mpr z)) h30
      refine pv_inc1 E d_Mod_come_55 rfl (by decide) ?_
      refine pv_goto (tgt := 8) E d_Mod_come_58 rfl ?_
      exact pv_back (ih (i + 1) (by omega) (by omega)) ⟨rfl, rfl, rfl, congrArg (fun z : Nat => some (ps_int (nI z))) (by rw [l_cnt, hb]; rfl), congrArg (fun z : Nat => some (ps_int (nI z))) (by rw [m_cnt, hb, if_neg (fun z => absurd z.1 (by decide)), Nat.add_zero]), congrArg (fun z : Int32 => some (ps_int z)) (nI_1 i), trivial⟩
    · skip
      have hb : (l_N (ps_J σ 16 0 s)).testBit i = true := (l_bita (by omega) hx63).mp (lg_cmpe.mp h30)
      refine pv_inc1 E d_Mod_come_33 rfl (by decide) ?_
      refine pv_iload E d_Mod_come_36 rfl ?_
      refine pv_aload_n E d_Mod_come_38 rfl rfl ?_
      refine pv_iload E d_Mod_come_39 rfl ?_
      refine pv_callV E (fun adr => k_Mod_settled l D ca A _ i g h0 hG hW hi2 adr) yv_Mod_settled wd_912 rfl rfl (fun _ => ⟨_, rfl⟩) rfl ⟨by decide, by decide⟩ (Nat.le_of_ble_eq_true rfl) d_Mod_come_41 ⟨by decide, by decide⟩ (fun r41 σ41 hq41 => ?_)
      obtain ⟨hr41, hs41⟩ := hq41
      subst r41
      subst σ41
      refine pv_if_eq (tgt := 51) E d_Mod_come_44 rfl (fun h44 => ?_) (fun h44 => ?_)
      · skip
        refine pv_iconst (v := 0) E d_Mod_come_51 (by decide) ?_
        refine pv_iadd E d_Mod_come_52 ?_
        refine pv_istore E d_Mod_come_53 (by decide) ?_
        refine pv_inc1 E d_Mod_come_55 rfl (by decide) ?_
        refine pv_goto (tgt := 8) E d_Mod_come_58 rfl ?_
        exact pv_back (ih (i + 1) (by omega) (by omega)) ⟨rfl, rfl, rfl, congrArg (fun z : Int32 => some (ps_int z)) (by rw [l_cnt, hb]; exact nI_1 _), congrArg (fun z : Int32 => some (ps_int z)) (by rw [m_cnt, hb, if_neg (fun z => if10 h44 z.2), Nat.add_zero]; exact Int32.add_zero _), congrArg (fun z : Int32 => some (ps_int z)) (nI_1 i), trivial⟩
      · skip
        refine pv_iconst (v := 1) E d_Mod_come_47 (by decide) ?_
        refine pv_goto (tgt := 52) E d_Mod_come_48 rfl ?_
        refine pv_iadd E d_Mod_come_52 ?_
        refine pv_istore E d_Mod_come_53 (by decide) ?_
        refine pv_inc1 E d_Mod_come_55 rfl (by decide) ?_
        refine pv_goto (tgt := 8) E d_Mod_come_58 rfl ?_
        exact pv_back (ih (i + 1) (by omega) (by omega)) ⟨rfl, rfl, rfl, congrArg (fun z : Int32 => some (ps_int z)) (by rw [l_cnt, hb]; exact nI_1 _), congrArg (fun z : Int32 => some (ps_int z)) (by rw [m_cnt, hb, if_pos ⟨rfl, if10n h44⟩]; exact nI_1 _), congrArg (fun z : Int32 => some (ps_int z)) (nI_1 i), trivial⟩
set_option maxHeartbeats 8000000 in
set_option maxRecDepth 100000 in
theorem k_Mod_isAble (l : Launch) (D : va_G) (ca : Nat → ClassId) (A : Nat → Prop) (σ : ps_S) (s : Nat) (g : gT) (h0 : RM0 σ) (hG : RMG σ g) (hW : gW g) (hs : s < gN g) : ∀ adr, ps_M l y_Mod_isAble c_Mod_isAble 4 (Option.some Jvm.ClassFile.FieldType.boolean) { frames := 2, cells := 0, slots := 0, locals := 46 } D ca A adr σ [ps_ref (some (13, 0)), ps_int (nI s)] (fun rv σ' => rv = some (ps_int (if g_abl g s = true then 1 else 0)) ∧ σ' = σ) := by
  intro adr
  refine ps_M.of (by decide +kernel) (Nat.le_of_ble_eq_true rfl) ?_
  intro p_ e_ s_ m_ args_ below_ meth_ c_ E hr hlk hnm
  have hs48 : s < 48 := Nat.lt_of_lt_of_le hs hW.1
  obtain ⟨⟨r1, r2, r3, r4, r5, r6, r7⟩, r8, r9⟩ := hG.2.2.1 s hs
  obtain ⟨w1, w2, w3⟩ := hW.2.2 s hs
  have hw := hW.1
  refine pv_aload_n E d_Mod_isAble_0 rfl rfl ?_
  refine gf_Mod_kind E wd_768 d_Mod_isAble_1 ?_
  refine pv_top (congrArg ps_ref (m_f h0 6 rfl)) ?_
  refine pv_iload_n E d_Mod_isAble_4 rfl rfl ?_
  refine pv_iaload (t0 := 6) E 14 _ (fun _ _ _ _ _ => rfl) rfl (m_ix h0 14 3 (by decide) (by decide) hs48) d_Mod_isAble_5 ?_
  refine pv_top (congrArg ps_int ((congrArg (ps_I _ 14 3) (nI_clamp (Nat.lt_trans hs48 (by decide)))).trans r4)) ?_
  refine pv_istore_n E d_Mod_isAble_6 rfl (by decide) ?_
  refine pv_iload_n E d_Mod_isAble_7 rfl rfl ?_
  refine pv_bipush (v := 9) E d_Mod_isAble_8 (by decide) ?_
  refine pv_icmp_ne (tgt := 15) E d_Mod_isAble_10 rfl (fun h10 => ?_) (fun h10 => ?_)
  · skip
    refine pv_aload_n E d_Mod_isAble_15 rfl rfl ?_
    refine gf_Mod_awaits E wd_775 d_Mod_isAble_16 ?_
    refine pv_top (congrArg ps_ref (m_f h0 13 rfl)) ?_
    refine pv_iload_n E d_Mod_isAble_19 rfl rfl ?_
    refine pv_iaload (t0 := 6) E 14 _ (fun _ _ _ _ _ => rfl) rfl (m_ix h0 14 8 (by decide) (by decide) hs48) d_Mod_isAble_20 ?_
    refine pv_top (congrArg ps_int ((congrArg (ps_I _ 14 8) (nI_clamp (Nat.lt_trans hs48 (by decide)))).trans r5)) ?_
    refine pv_if_lt (tgt := 35) E d_Mod_isAble_21 rfl (fun h21 => ?_) (fun h21 => ?_)
    · skip
      have hA : gA g s = none := (m_opt_neg (fun j hj => by have := w3 j hj; omega)).mp h21
      refine pv_iload_n E d_Mod_isAble_35 rfl rfl ?_
      refine pv_bipush (v := 6) E d_Mod_isAble_36 (by decide) ?_
      refine pv_icmp_le (tgt := 58) E d_Mod_isAble_38 rfl (fun h38 => ?_) (fun h38 => ?_)
      · skip
        obtain ⟨a, b, ea, la, ha1, hab⟩ := m_fs r9 w2 h38
        refine pv_aload_n E d_Mod_isAble_58 rfl rfl ?_
        refine pv_aload_n E d_Mod_isAble_59 rfl rfl ?_
        refine gf_Mod_first E wd_771 d_Mod_isAble_60 ?_
        refine pv_top (congrArg ps_ref (m_f h0 9 rfl)) ?_
        refine pv_iload_n E d_Mod_isAble_63 rfl rfl ?_
        refine pv_iaload (t0 := 6) E 14 _ (fun _ _ _ _ _ => rfl) rfl (m_ix h0 14 6 (by decide) (by decide) hs48) d_Mod_isAble_64 ?_
        refine pv_top (congrArg ps_int ((congrArg (ps_I _ 14 6) (nI_clamp (Nat.lt_trans hs48 (by decide)))).trans ea)) ?_
        refine pv_callV E (fun adr => k_Mod_settled l D ca A _ a g h0 hG hW la adr) yv_Mod_settled wd_912 rfl rfl (fun _ => ⟨_, rfl⟩) rfl ⟨by decide, by decide⟩ (Nat.le_of_ble_eq_true rfl) d_Mod_isAble_65 ⟨by decide, by decide⟩ (fun r65 σ65 hq65 => ?_)
        obtain ⟨hr65, hs65⟩ := hq65
        subst r65
        subst σ65
        refine pv_istore_n E d_Mod_isAble_68 rfl (by decide) ?_
        refine pv_iload_n E d_Mod_isAble_69 rfl rfl ?_
        refine pv_iconst (v := 5) E d_Mod_isAble_70 (by decide) ?_
        refine pv_icmp_ge (tgt := 78) E d_Mod_isAble_71 rfl (fun h71 => ?_) (fun h71 => ?_)
        · skip
          obtain ⟨hI2, eb, lb⟩ := hab h71
          refine pv_iload_n E d_Mod_isAble_78 rfl rfl ?_
          refine pv_iconst (v := 5) E d_Mod_isAble_79 (by decide) ?_
          refine pv_icmp_ne (tgt := 108) E d_Mod_isAble_80 rfl (fun h80 => ?_) (fun h80 => ?_)
          · skip
            refine pv_iload_n E d_Mod_isAble_108 rfl rfl ?_
            refine pv_if_ne (tgt := 125) E d_Mod_isAble_109 rfl (fun h109 => ?_) (fun h109 => ?_)
            · skip
              refine pv_iconst (v := 1) E d_Mod_isAble_125 (by decide) ?_
              refine pv_goto (tgt := 130) E d_Mod_isAble_126 rfl ?_
              exact pv_zret E hr hlk d_Mod_isAble_130 (rfl) (by decide) (by decide) ⟨by unfold g_abl; rw [hA, hI2, (m_kind2 r9 h71 h38).resolve_left h80]; simp [if10t h109], rfl⟩
            · skip
              refine pv_aload_n E d_Mod_isAble_112 rfl rfl ?_
              refine pv_aload_n E d_Mod_isAble_113 rfl rfl ?_
              refine gf_Mod_second E wd_772 d_Mod_isAble_114 ?_
              refine pv_top (congrArg ps_ref (m_f h0 10 rfl)) ?_
              refine pv_iload_n E d_Mod_isAble_117 rfl rfl ?_
              refine pv_iaload (t0 := 6) E 14 _ (fun _ _ _ _ _ => rfl) rfl (m_ix h0 14 7 (by decide) (by decide) hs48) d_Mod_isAble_118 ?_
              refine pv_top (congrArg ps_int ((congrArg (ps_I _ 14 7) (nI_clamp (Nat.lt_trans hs48 (by decide)))).trans eb)) ?_
              refine pv_callV E (fun adr => k_Mod_settled l D ca A _ b g h0 hG hW lb adr) yv_Mod_settled wd_912 rfl rfl (fun _ => ⟨_, rfl⟩) rfl ⟨by decide, by decide⟩ (Nat.le_of_ble_eq_true rfl) d_Mod_isAble_119 ⟨by decide, by decide⟩ (fun r119 σ119 hq119 => ?_)
              obtain ⟨hr119, hs119⟩ := hq119
              subst r119
              subst σ119
              refine pv_if_eq (tgt := 129) E d_Mod_isAble_122 rfl (fun h122 => ?_) (fun h122 => ?_)
              · skip
                refine pv_iconst (v := 0) E d_Mod_isAble_129 (by decide) ?_
                exact pv_zret E hr hlk d_Mod_isAble_130 (rfl) (by decide) (by decide) ⟨by unfold g_abl; rw [hA, hI2, (m_kind2 r9 h71 h38).resolve_left h80]; simp [if10b h109, if10b h122], rfl⟩
              · skip
                refine pv_iconst (v := 1) E d_Mod_isAble_125 (by decide) ?_
                refine pv_goto (tgt := 130) E d_Mod_isAble_126 rfl ?_
                exact pv_zret E hr hlk d_Mod_isAble_130 (rfl) (by decide) (by decide) ⟨by unfold g_abl; rw [hA, hI2, (m_kind2 r9 h71 h38).resolve_left h80]; simp [if10t h122], rfl⟩
          · skip
            refine pv_iload_n E d_Mod_isAble_83 rfl rfl ?_
            refine pv_if_eq (tgt := 104) E d_Mod_isAble_84 rfl (fun h84 => ?_) (fun h84 => ?_)
            · skip
              refine pv_iconst (v := 0) E d_Mod_isAble_104 (by decide) ?_
              refine pv_goto (tgt := 130) E d_Mod_isAble_105 rfl ?_
              exact pv_zret E hr hlk d_Mod_isAble_130 (rfl) (by decide) (by decide) ⟨by unfold g_abl; rw [hA, hI2, h80]; simp [if10b h84], rfl⟩
            · skip
              refine pv_aload_n E d_Mod_isAble_87 rfl rfl ?_
              refine pv_aload_n E d_Mod_isAble_88 rfl rfl ?_
              refine gf_Mod_second E wd_772 d_Mod_isAble_89 ?_
              refine pv_top (congrArg ps_ref (m_f h0 10 rfl)) ?_
              refine pv_iload_n E d_Mod_isAble_92 rfl rfl ?_
              refine pv_iaload (t0 := 6) E 14 _ (fun _ _ _ _ _ => rfl) rfl (m_ix h0 14 7 (by decide) (by decide) hs48) d_Mod_isAble_93 ?_
              refine pv_top (congrArg ps_int ((congrArg (ps_I _ 14 7) (nI_clamp (Nat.lt_trans hs48 (by decide)))).trans eb)) ?_
              refine pv_callV E (fun adr => k_Mod_settled l D ca A _ b g h0 hG hW lb adr) yv_Mod_settled wd_912 rfl rfl (fun _ => ⟨_, rfl⟩) rfl ⟨by decide, by decide⟩ (Nat.le_of_ble_eq_true rfl) d_Mod_isAble_94 ⟨by decide, by decide⟩ (fun r94 σ94 hq94 => ?_)
              obtain ⟨hr94, hs94⟩ := hq94
              subst r94
              subst σ94
              refine pv_if_eq (tgt := 104) E d_Mod_isAble_97 rfl (fun h97 => ?_) (fun h97 => ?_)
              · skip
                refine pv_iconst (v := 0) E d_Mod_isAble_104 (by decide) ?_
                refine pv_goto (tgt := 130) E d_Mod_isAble_105 rfl ?_
                exact pv_zret E hr hlk d_Mod_isAble_130 (rfl) (by decide) (by decide) ⟨by unfold g_abl; rw [hA, hI2, h80]; simp [if10b h97], rfl⟩
              · skip
                refine pv_iconst (v := 1) E d_Mod_isAble_100 (by decide) ?_
                refine pv_goto (tgt := 130) E d_Mod_isAble_101 rfl ?_
                exact pv_zret E hr hlk d_Mod_isAble_130 (rfl) (by decide) (by decide) ⟨by unfold g_abl; rw [hA, hI2, h80]; simp [if10t h84, if10t h97], rfl⟩
        · skip
          have hI1 := ha1 (Int32.not_le.mp h71)
          refine pv_iload_n E d_Mod_isAble_74 rfl rfl ?_
          refine pv_goto (tgt := 130) E d_Mod_isAble_75 rfl ?_
          exact pv_zret E hr hlk d_Mod_isAble_130 (ps_zb b10) (by decide) (by decide) ⟨by unfold g_abl; rw [hA, hI1, decide_eq_false h10]; have h6 : ¬ (gF g s 2 = 6 ∨ gF g s 2 = 8) := fun z => h71 (by rcases z with z | z <;> (rw [z]; decide)); simp [h6], rfl⟩
      · skip
        have h78 := m_kind r9 h38 h10
        obtain ⟨hx1, hx2⟩ := r9.2.2.2 h78
        refine pv_aload_n E d_Mod_isAble_41 rfl rfl ?_
        refine pv_iload_n E d_Mod_isAble_42 rfl rfl ?_
        refine pv_iload_n E d_Mod_isAble_43 rfl rfl ?_
        refine pv_bipush (v := 7) E d_Mod_isAble_44 (by decide) ?_
        refine pv_icmp_ne (tgt := 53) E d_Mod_isAble_46 rfl (fun h46 => ?_) (fun h46 => ?_)
        · skip
          refine pv_iconst (v := 0) E d_Mod_isAble_53 (by decide) ?_
          refine pv_callV E (fun adr => k_Mod_come l D ca A _ s 0 g h0 hG hW hs hx1 adr) yv_Mod_come wd_920 rfl rfl (fun _ => ⟨_, rfl⟩) rfl ⟨by decide, by decide⟩ (Nat.le_of_ble_eq_true rfl) d_Mod_isAble_54 ⟨by decide, by decide⟩ (fun r54 σ54 hq54 => ?_)
          obtain ⟨hr54, hs54⟩ := hq54
          subst r54
          subst σ54
          exact pv_zret E hr hlk d_Mod_isAble_57 (ps_zb b10) (by decide) (by decide) ⟨by rw [if_pos rfl, ← hx2]; simp only [g_abl, hA, h78.resolve_left h46, or_true, if_true]; rfl, rfl⟩
        · skip
          refine pv_iconst (v := 1) E d_Mod_isAble_49 (by decide) ?_
          refine pv_goto (tgt := 54) E d_Mod_isAble_50 rfl ?_
          refine pv_callV E (fun adr => k_Mod_come l D ca A _ s 1 g h0 hG hW hs hx1 adr) yv_Mod_come wd_920 rfl rfl (fun _ => ⟨_, rfl⟩) rfl ⟨by decide, by decide⟩ (Nat.le_of_ble_eq_true rfl) d_Mod_isAble_54 ⟨by decide, by decide⟩ (fun r54 σ54 hq54 => ?_)
          obtain ⟨hr54, hs54⟩ := hq54
          subst r54
          subst σ54
          exact pv_zret E hr hlk d_Mod_isAble_57 (ps_zb b10) (by decide) (by decide) ⟨by rw [if_neg (by decide), ← hx2]; simp only [g_abl, hA, h46]; rfl, rfl⟩
    · skip
      obtain ⟨j, hA⟩ : ∃ j, gA g s = some j := by
        cases z : gA g s with
        | none => rw [z] at h21; exact absurd (by decide) h21
        | some j => exact ⟨j, rfl⟩
      have hj := w3 j hA
      refine pv_aload_n E d_Mod_isAble_24 rfl rfl ?_
      refine pv_aload_n E d_Mod_isAble_25 rfl rfl ?_
      refine gf_Mod_awaits E wd_775 d_Mod_isAble_26 ?_
      refine pv_top (congrArg ps_ref (m_f h0 13 rfl)) ?_
      refine pv_iload_n E d_Mod_isAble_29 rfl rfl ?_
      refine pv_iaload (t0 := 6) E 14 _ (fun _ _ _ _ _ => rfl) rfl (m_ix h0 14 8 (by decide) (by decide) hs48) d_Mod_isAble_30 ?_
      refine pv_top (congrArg ps_int ((congrArg (ps_I _ 14 8) (nI_clamp (Nat.lt_trans hs48 (by decide)))).trans (r5.trans (congrArg m_opt hA)))) ?_
      refine pv_callV E (fun adr => k_Mod_settled l D ca A _ j g h0 hG hW hj adr) yv_Mod_settled wd_912 rfl rfl (fun _ => ⟨_, rfl⟩) rfl ⟨by decide, by decide⟩ (Nat.le_of_ble_eq_true rfl) d_Mod_isAble_31 ⟨by decide, by decide⟩ (fun r31 σ31 hq31 => ?_)
      obtain ⟨hr31, hs31⟩ := hq31
      subst r31
      subst σ31
      exact pv_zret E hr hlk d_Mod_isAble_34 (ps_zb b10) (by decide) (by decide) ⟨by simp only [g_abl, hA, h10, decide_false, Bool.not_false, Bool.true_and], rfl⟩
  · skip
    refine pv_iconst (v := 0) E d_Mod_isAble_13 (by decide) ?_
    exact pv_zret E hr hlk d_Mod_isAble_14 (by first | rfl | (apply ps_zb; assumption)) (by decide) (by decide) ⟨by rw [if_neg (fun z => by simp [g_abl, h10] at z)], rfl⟩
