theorem w_four {w : Int32} (h0 : ¬ w < 0) (h5 : w ≤ 5) (n0 : ¬ w = 0) (n1 : ¬ w = 1) (n2 : ¬ w = 2) (n3 : ¬ w = 3) (n5 : ¬ w = 5) : w = 4 := by
  obtain ⟨j, hj, rfl⟩ := nI_of h0
  rw [show (5 : Int32) = nI 5 from rfl, nI_leI hj (by decide)] at h5
  have : j = 0 ∨ j = 1 ∨ j = 2 ∨ j = 3 ∨ j = 4 ∨ j = 5 := by omega
  rcases this with rfl | rfl | rfl | rfl | rfl | rfl
  · exact absurd rfl n0
  · exact absurd rfl n1
  · exact absurd rfl n2
  · exact absurd rfl n3
  · rfl
  · exact absurd rfl n5
theorem xc_out {t : tT} {s w : Int32} (h : w < 0 ∨ ¬ w ≤ 5) : x_scope t s w = -1 := by
  have key : ∀ c : Int32, 0 ≤ c → c ≤ 5 → ¬ w = c := by
    intro c h1 h2 z
    rcases h with h | h
    · rw [z] at h; exact absurd h (Int32.not_lt.mpr h1)
    · rw [z] at h; exact h h2
  unfold x_scope
  rw [if_neg (key 0 (by decide) (by decide)), if_neg (key 1 (by decide) (by decide)), if_neg (key 2 (by decide) (by decide)), if_neg (key 3 (by decide) (by decide)), if_neg (key 4 (by decide) (by decide)), if_neg (key 5 (by decide) (by decide))]
  split <;> rfl
set_option maxHeartbeats 8000000 in
set_option maxRecDepth 100000 in
theorem k_Mod_scope (l : Launch) (D : va_G) (ca : Nat → ClassId) (A : Nat → Prop) (σ : ps_S) (s w : Int32) (t : tT) (g : gT) (hM : RM σ t g 0) (hW : tW t) (hD : tD t) : ∀ adr, ps_M l y_Mod_scope c_Mod_scope 5 (Option.some Jvm.ClassFile.FieldType.int) { frames := 1, cells := 0, slots := 0, locals := 23 } D ca A adr σ [ps_ref (some (13, 0)), ps_int s, ps_int w] (fun rv σ' => rv = some (ps_int (x_scope t s w)) ∧ RM σ' t g 0 ∧ ps_I σ' 13 0 0 = 0 ∧ FrM σ σ') := by
  intro adr
  refine ps_M.of (by decide +kernel) (Nat.le_of_ble_eq_true rfl) ?_
  intro p_ e_ s_ m_ args_ below_ meth_ c_ E hr hlk hnm
  have h0 := hM.1
  have hB := hM.2.2
  have hB1 : ∀ v : Int32, RMB (ps_sI σ 13 0 0 v) t := fun v => hB.th
  have hu30 := hW.1.2
  have hw12 := hW.1.1
  refine pv_aload_n E d_Mod_scope_0 rfl rfl ?_
  refine pv_iconst (v := 0) E d_Mod_scope_1 (by decide) ?_
  refine pf_Mod_thrown E wd_762 d_Mod_scope_2 ?_
  refine pv_aload_n E d_Mod_scope_5 rfl rfl ?_
  refine pv_iload_n E d_Mod_scope_6 rfl rfl ?_
  refine pv_callV E (fun adr => k_Mod_isScope l D ca A _ s t (hB1 0).1.1 hW.1.1 adr) yv_Mod_isScope wd_1016 rfl rfl (fun _ => ⟨_, rfl⟩) rfl ⟨by decide, by decide⟩ (Nat.le_of_ble_eq_true rfl) d_Mod_scope_7 ⟨by decide, by decide⟩ (fun r7 σ7 hq7 => ?_)
  obtain ⟨hr7, hs7⟩ := hq7
  subst r7
  subst σ7
  refine pv_if_eq (tgt := 22) E d_Mod_scope_10 rfl (fun h10 => ?_) (fun h10 => ?_)
  · skip
    have hc := if10 h10
    refine pv_iconst (v := -1) E d_Mod_scope_22 (by decide) ?_
    exact pv_iret E hr hlk d_Mod_scope_23 (by decide) (by decide) ⟨by rw [x_scope, if_neg hc], hM.th, ps_I_eq _ _ _ _ _, FrM.th⟩
  · skip
    have hc := if10n h10
    have hc12 : s.toNatClampNeg < 12 := Nat.lt_of_lt_of_le hc.2 hW.1.1
    refine pv_iload_n E d_Mod_scope_13 rfl rfl ?_
    refine pv_if_lt (tgt := 22) E d_Mod_scope_14 rfl (fun h14 => ?_) (fun h14 => ?_)
    · skip
      refine pv_iconst (v := -1) E d_Mod_scope_22 (by decide) ?_
      exact pv_iret E hr hlk d_Mod_scope_23 (by decide) (by decide) ⟨(xc_out (Or.inl h14)).symm ▸ rfl, hM.th, ps_I_eq _ _ _ _ _, FrM.th⟩
    · skip
      refine pv_iload_n E d_Mod_scope_17 rfl rfl ?_
      refine pv_iconst (v := 5) E d_Mod_scope_18 (by decide) ?_
      refine pv_icmp_le (tgt := 24) E d_Mod_scope_19 rfl (fun h19 => ?_) (fun h19 => ?_)
      · skip
        refine pv_iload_n E d_Mod_scope_24 rfl rfl ?_
        refine pv_iconst (v := 5) E d_Mod_scope_25 (by decide) ?_
        refine pv_icmp_ne (tgt := 81) E d_Mod_scope_26 rfl (fun h26 => ?_) (fun h26 => ?_)
        · skip
          refine pv_iload_n E d_Mod_scope_81 rfl rfl ?_
          refine pv_if_ne (tgt := 94) E d_Mod_scope_82 rfl (fun h82 => ?_) (fun h82 => ?_)
          · skip
            refine pv_iload_n E d_Mod_scope_94 rfl rfl ?_
            refine pv_iconst (v := 1) E d_Mod_scope_95 (by decide) ?_
            refine pv_icmp_ne (tgt := 108) E d_Mod_scope_96 rfl (fun h96 => ?_) (fun h96 => ?_)
            · skip
              refine pv_iload_n E d_Mod_scope_108 rfl rfl ?_
              refine pv_iconst (v := 2) E d_Mod_scope_109 (by decide) ?_
              refine pv_icmp_ne (tgt := 121) E d_Mod_scope_110 rfl (fun h110 => ?_) (fun h110 => ?_)
              · skip
                refine pv_iload_n E d_Mod_scope_121 rfl rfl ?_
                refine pv_iconst (v := 3) E d_Mod_scope_122 (by decide) ?_
                refine pv_icmp_ne (tgt := 134) E d_Mod_scope_123 rfl (fun h123 => ?_) (fun h123 => ?_)
                · skip
                  refine pv_aload_n E d_Mod_scope_134 rfl rfl ?_
                  refine gf_Mod_stopped E wd_790 d_Mod_scope_135 ?_
                  refine pv_top (congrArg ps_ref (m_f h0 28 rfl)) ?_
                  refine pv_iload_n E d_Mod_scope_138 rfl rfl ?_
                  refine pv_top (congrArg ps_int (st_nI hc.1)) ?_
                  refine pv_baload (t0 := 7) E 15 _ (fun _ _ _ _ _ => rfl) rfl (m_ix h0 15 2 (by decide) (by decide) hc12) d_Mod_scope_139 ?_
                  refine pv_top (congrArg ps_int ((congrArg (ps_I _ 15 2) (nI_clamp (Nat.lt_trans hc12 (by decide)))).trans ((hB1 0).1.2.1 s.toNatClampNeg hc.2).1.2.2.2.2.2.1)) ?_
                  refine pv_if_eq (tgt := 147) E d_Mod_scope_140 rfl (fun h140 => ?_) (fun h140 => ?_)
                  · skip
                    refine pv_iconst (v := 0) E d_Mod_scope_147 (by decide) ?_
                    refine pv_aload_n E d_Mod_scope_148 rfl rfl ?_
                    refine gf_Mod_late E wd_791 d_Mod_scope_149 ?_
                    refine pv_top (congrArg ps_ref (m_f h0 29 rfl)) ?_
                    refine pv_iload_n E d_Mod_scope_152 rfl rfl ?_
                    refine pv_top (congrArg ps_int (st_nI hc.1)) ?_
                    refine pv_baload (t0 := 7) E 15 _ (fun _ _ _ _ _ => rfl) rfl (m_ix h0 15 3 (by decide) (by decide) hc12) d_Mod_scope_153 ?_
                    refine pv_top (congrArg ps_int ((congrArg (ps_I _ 15 3) (nI_clamp (Nat.lt_trans hc12 (by decide)))).trans ((hB1 0).1.2.1 s.toNatClampNeg hc.2).1.2.2.2.2.2.2)) ?_
                    refine pv_if_eq (tgt := 161) E d_Mod_scope_154 rfl (fun h154 => ?_) (fun h154 => ?_)
                    · skip
                      refine pv_iconst (v := 0) E d_Mod_scope_161 (by decide) ?_
                      refine pv_iadd E d_Mod_scope_162 ?_
                      exact pv_iret E hr hlk d_Mod_scope_163 (by decide) (by decide) ⟨by rw [x_scope, if_pos hc, if_neg h82, if_neg h96, if_neg h110, if_neg h123, if_pos (w_four h14 h19 h82 h96 h110 h123 h26), if_pos h140, if_pos h154], hM.th, ps_I_eq _ _ _ _ _, FrM.th⟩
                    · skip
                      refine pv_iconst (v := 2) E d_Mod_scope_157 (by decide) ?_
                      refine pv_goto (tgt := 162) E d_Mod_scope_158 rfl ?_
                      refine pv_iadd E d_Mod_scope_162 ?_
                      exact pv_iret E hr hlk d_Mod_scope_163 (by decide) (by decide) ⟨by rw [x_scope, if_pos hc, if_neg h82, if_neg h96, if_neg h110, if_neg h123, if_pos (w_four h14 h19 h82 h96 h110 h123 h26), if_pos h140, if_neg h154], hM.th, ps_I_eq _ _ _ _ _, FrM.th⟩
                  · skip
                    refine pv_iconst (v := 1) E d_Mod_scope_143 (by decide) ?_
                    refine pv_goto (tgt := 148) E d_Mod_scope_144 rfl ?_
                    refine pv_aload_n E d_Mod_scope_148 rfl rfl ?_
                    refine gf_Mod_late E wd_791 d_Mod_scope_149 ?_
                    refine pv_top (congrArg ps_ref (m_f h0 29 rfl)) ?_
                    refine pv_iload_n E d_Mod_scope_152 rfl rfl ?_
                    refine pv_top (congrArg ps_int (st_nI hc.1)) ?_
                    refine pv_baload (t0 := 7) E 15 _ (fun _ _ _ _ _ => rfl) rfl (m_ix h0 15 3 (by decide) (by decide) hc12) d_Mod_scope_153 ?_
                    refine pv_top (congrArg ps_int ((congrArg (ps_I _ 15 3) (nI_clamp (Nat.lt_trans hc12 (by decide)))).trans ((hB1 0).1.2.1 s.toNatClampNeg hc.2).1.2.2.2.2.2.2)) ?_
                    refine pv_if_eq (tgt := 161) E d_Mod_scope_154 rfl (fun h154 => ?_) (fun h154 => ?_)
                    · skip
                      refine pv_iconst (v := 0) E d_Mod_scope_161 (by decide) ?_
                      refine pv_iadd E d_Mod_scope_162 ?_
                      exact pv_iret E hr hlk d_Mod_scope_163 (by decide) (by decide) ⟨by rw [x_scope, if_pos hc, if_neg h82, if_neg h96, if_neg h110, if_neg h123, if_pos (w_four h14 h19 h82 h96 h110 h123 h26), if_neg h140, if_pos h154], hM.th, ps_I_eq _ _ _ _ _, FrM.th⟩
                    · skip
                      refine pv_iconst (v := 2) E d_Mod_scope_157 (by decide) ?_
                      refine pv_goto (tgt := 162) E d_Mod_scope_158 rfl ?_
                      refine pv_iadd E d_Mod_scope_162 ?_
                      exact pv_iret E hr hlk d_Mod_scope_163 (by decide) (by decide) ⟨by rw [x_scope, if_pos hc, if_neg h82, if_neg h96, if_neg h110, if_neg h123, if_pos (w_four h14 h19 h82 h96 h110 h123 h26), if_neg h140, if_neg h154], hM.th, ps_I_eq _ _ _ _ _, FrM.th⟩
                · skip
                  refine pv_aload_n E d_Mod_scope_126 rfl rfl ?_
                  refine pv_iload_n E d_Mod_scope_127 rfl rfl ?_
                  refine pv_top (congrArg ps_int (st_nI hc.1)) ?_
                  refine pv_callV E (fun adr => k_Mod_running l D ca A _ s.toNatClampNeg t h0.th (hB1 0) hW hc.2 adr) yv_Mod_running wd_1048 rfl rfl (fun _ => ⟨_, rfl⟩) rfl ⟨by decide, by decide⟩ (Nat.le_of_ble_eq_true rfl) d_Mod_scope_128 ⟨by decide, by decide⟩ (fun r128 σ128 hq128 => ?_)
                  obtain ⟨hr128, hs128⟩ := hq128
                  subst r128
                  subst σ128
                  refine pv_goto (tgt := 163) E d_Mod_scope_131 rfl ?_
                  exact pv_iret E hr hlk d_Mod_scope_163 (by decide) (by decide) ⟨by rw [x_scope, if_pos hc, if_neg h82, if_neg h96, if_neg h110, if_pos h123], hM.th, ps_I_eq _ _ _ _ _, FrM.th⟩
              · skip
                refine pv_aload_n E d_Mod_scope_113 rfl rfl ?_
                refine pv_iload_n E d_Mod_scope_114 rfl rfl ?_
                refine pv_top (congrArg ps_int (st_nI hc.1)) ?_
                refine pv_callV E (fun adr => k_Mod_effective l D ca A _ s.toNatClampNeg t h0.th (hB1 0) hW hD hc.2 adr) yv_Mod_effective wd_1072 rfl rfl (fun _ => ⟨_, rfl⟩) rfl ⟨by decide, by decide⟩ (Nat.le_of_ble_eq_true rfl) d_Mod_scope_115 ⟨by decide, by decide⟩ (fun r115 σ115 hq115 => ?_)
                obtain ⟨hr115, hs115⟩ := hq115
                subst r115
                subst σ115
                refine pv_goto (tgt := 163) E d_Mod_scope_118 rfl ?_
                exact pv_iret E hr hlk d_Mod_scope_163 (by decide) (by decide) ⟨by rw [x_scope, if_pos hc, if_neg h82, if_neg h96, if_pos h110], hM.th, ps_I_eq _ _ _ _ _, FrM.th⟩
            · skip
              refine pv_aload_n E d_Mod_scope_99 rfl rfl ?_
              refine gf_Mod_result E wd_789 d_Mod_scope_100 ?_
              refine pv_top (congrArg ps_ref (m_f h0 27 rfl)) ?_
              refine pv_iload_n E d_Mod_scope_103 rfl rfl ?_
              refine pv_top (congrArg ps_int (st_nI hc.1)) ?_
              refine pv_iaload (t0 := 6) E 14 _ (fun _ _ _ _ _ => rfl) rfl (m_ix h0 14 15 (by decide) (by decide) hc12) d_Mod_scope_104 ?_
              refine pv_top (congrArg ps_int ((congrArg (ps_I _ 14 15) (nI_clamp (Nat.lt_trans hc12 (by decide)))).trans ((hB1 0).1.2.1 s.toNatClampNeg hc.2).1.2.2.2.2.1)) ?_
              refine pv_goto (tgt := 163) E d_Mod_scope_105 rfl ?_
              exact pv_iret E hr hlk d_Mod_scope_163 (by decide) (by decide) ⟨by rw [x_scope, if_pos hc, if_neg h82, if_pos h96], hM.th, ps_I_eq _ _ _ _ _, FrM.th⟩
          · skip
            refine pv_aload_n E d_Mod_scope_85 rfl rfl ?_
            refine gf_Mod_mode E wd_788 d_Mod_scope_86 ?_
            refine pv_top (congrArg ps_ref (m_f h0 26 rfl)) ?_
            refine pv_iload_n E d_Mod_scope_89 rfl rfl ?_
            refine pv_top (congrArg ps_int (st_nI hc.1)) ?_
            refine pv_iaload (t0 := 6) E 14 _ (fun _ _ _ _ _ => rfl) rfl (m_ix h0 14 14 (by decide) (by decide) hc12) d_Mod_scope_90 ?_
            refine pv_top (congrArg ps_int ((congrArg (ps_I _ 14 14) (nI_clamp (Nat.lt_trans hc12 (by decide)))).trans ((hB1 0).1.2.1 s.toNatClampNeg hc.2).1.2.2.2.1)) ?_
            refine pv_goto (tgt := 163) E d_Mod_scope_91 rfl ?_
            exact pv_iret E hr hlk d_Mod_scope_163 (by decide) (by decide) ⟨by rw [x_scope, if_pos hc, if_pos h82], hM.th, ps_I_eq _ _ _ _ _, FrM.th⟩
        · skip
          refine pv_iconst (v := 0) E d_Mod_scope_29 (by decide) ?_
          refine pv_istore_n E d_Mod_scope_30 rfl (by decide) ?_
          refine pv_iconst (v := 0) E d_Mod_scope_31 (by decide) ?_
          refine pv_istore E d_Mod_scope_32 (by decide) ?_
          refine pv_sub (L' := [(0, ps_ref (some (13, 0))), (1, ps_int s), (3, ps_int (nI (u_cnt t s.toNatClampNeg 2 0))), (4, ps_int (nI 0))]) ⟨rfl, rfl, rfl, rfl, trivial⟩ ?_
          refine pv_loop (ι := Nat) (fun j => uN t - j) (fun j => [(0, ps_ref (some (13, 0))), (1, ps_int s), (3, ps_int (nI (u_cnt t s.toNatClampNeg 2 j))), (4, ps_int (nI j))]) (fun _ => ps_sI σ 13 0 0 0) (fun j => j ≤ uN t) (fun j hj ih => ?_) 0 (Nat.zero_le _)
          dsimp only at ih ⊢
          refine pv_iload E d_Mod_scope_34 rfl ?_
          refine pv_aload_n E d_Mod_scope_36 rfl rfl ?_
          refine gf_Mod_tasks E wd_797 d_Mod_scope_37 ?_
          refine pv_top (congrArg ps_int (hB1 0).2.1) ?_
          refine pv_icmp_ge (tgt := 79) E d_Mod_scope_40 rfl (fun h40 => ?_) (fun h40 => ?_)
          · skip
            have hj2 : uN t ≤ j := (nI_leI (by omega) (by omega)).mp h40
            have hj3 : j = uN t := by omega
            subst hj3
            refine pv_iload_n E d_Mod_scope_79 rfl rfl ?_
            exact pv_iret E hr hlk d_Mod_scope_80 (by decide) (by decide) ⟨by rw [x_scope, if_pos hc, if_neg (by rw [h26]; decide), if_neg (by rw [h26]; decide), if_neg (by rw [h26]; decide), if_neg (by rw [h26]; decide), if_neg (by rw [h26]; decide), if_pos h26], hM.th, ps_I_eq _ _ _ _ _, FrM.th⟩
          · skip
            have hj2 : j < uN t := Nat.lt_of_not_le (fun z => h40 ((nI_leI (by omega) (by omega)).mpr z))
            have hoj := hW.2.2.1 j hj2
            refine pv_iload_n E d_Mod_scope_43 rfl rfl ?_
            refine pv_aload_n E d_Mod_scope_44 rfl rfl ?_
            refine gf_Mod_home E wd_798 d_Mod_scope_45 ?_
            refine pv_top (congrArg ps_ref (m_f h0 36 rfl)) ?_
            refine pv_iload E d_Mod_scope_48 rfl ?_
            refine pv_iaload (t0 := 6) E 14 _ (fun _ _ _ _ _ => rfl) rfl (m_ix h0 14 19 (by decide) (by decide) (show j < 30 by omega)) d_Mod_scope_50 ?_
            refine pv_top (congrArg ps_int ((congrArg (ps_I _ 14 19) (nI_clamp (Nat.lt_trans (show j < 30 by omega) (by decide)))).trans ((hB1 0).2.2.2.1 j hj2).1)) ?_
            refine pv_iload_n E d_Mod_scope_51 rfl rfl ?_
            refine pv_top (congrArg ps_int (st_nI hc.1)) ?_
            refine pv_icmp_ne (tgt := 70) E d_Mod_scope_52 rfl (fun h52 => ?_) (fun h52 => ?_)
            · skip
              have hne : ¬ uO t j = s.toNatClampNeg := fun z => h52 (by rw [z])
              refine pv_iconst (v := 0) E d_Mod_scope_70 (by decide) ?_
              refine pv_iadd E d_Mod_scope_71 ?_
              refine pv_istore_n E d_Mod_scope_72 rfl (by decide) ?_
              refine pv_inc1 E d_Mod_scope_73 rfl (by decide) ?_
              refine pv_goto (tgt := 34) E d_Mod_scope_76 rfl ?_
              exact pv_back (ih (j + 1) (by omega) (by omega)) ⟨rfl, rfl, congrArg (fun z : Int32 => some (ps_int z)) (by rw [u_cnt, if_neg (fun z => hne z.1)]; exact Int32.add_zero _), congrArg (fun z : Int32 => some (ps_int z)) (nI_1 j), trivial⟩
            · skip
              have heq : uO t j = s.toNatClampNeg := (nI_eq (by omega) (by omega)).mp h52
              refine pv_aload_n E d_Mod_scope_55 rfl rfl ?_
              refine gf_Mod_how E wd_803 d_Mod_scope_56 ?_
              refine pv_top (congrArg ps_ref (m_f h0 41 rfl)) ?_
              refine pv_iload E d_Mod_scope_59 rfl ?_
              refine pv_iaload (t0 := 6) E 14 _ (fun _ _ _ _ _ => rfl) rfl (m_ix h0 14 24 (by decide) (by decide) (show j < 30 by omega)) d_Mod_scope_61 ?_
              refine pv_top (congrArg ps_int ((congrArg (ps_I _ 14 24) (nI_clamp (Nat.lt_trans (show j < 30 by omega) (by decide)))).trans ((hB1 0).2.2.2.1 j hj2).2.2.2.2.2.1)) ?_
              refine pv_iconst (v := 2) E d_Mod_scope_62 (by decide) ?_
              refine pv_icmp_ne (tgt := 70) E d_Mod_scope_63 rfl (fun h63 => ?_) (fun h63 => ?_)
              · skip
                refine pv_iconst (v := 0) E d_Mod_scope_70 (by decide) ?_
                refine pv_iadd E d_Mod_scope_71 ?_
                refine pv_istore_n E d_Mod_scope_72 rfl (by decide) ?_
                refine pv_inc1 E d_Mod_scope_73 rfl (by decide) ?_
                refine pv_goto (tgt := 34) E d_Mod_scope_76 rfl ?_
                exact pv_back (ih (j + 1) (by omega) (by omega)) ⟨rfl, rfl, congrArg (fun z : Int32 => some (ps_int z)) (by rw [u_cnt, if_neg (fun z => h63 z.2)]; exact Int32.add_zero _), congrArg (fun z : Int32 => some (ps_int z)) (nI_1 j), trivial⟩
              · skip
                refine pv_iconst (v := 1) E d_Mod_scope_66 (by decide) ?_
                refine pv_goto (tgt := 71) E d_Mod_scope_67 rfl ?_
                refine pv_iadd E d_Mod_scope_71 ?_
                refine pv_istore_n E d_Mod_scope_72 rfl (by decide) ?_
                refine pv_inc1 E d_Mod_scope_73 rfl (by decide) ?_
                refine pv_goto (tgt := 34) E d_Mod_scope_76 rfl ?_
                exact pv_back (ih (j + 1) (by omega) (by omega)) ⟨rfl, rfl, congrArg (fun z : Int32 => some (ps_int z)) (by rw [u_cnt, if_pos ⟨heq, h63⟩]; exact nI_1 _), congrArg (fun z : Int32 => some (ps_int z)) (nI_1 j), trivial⟩
      · skip
        refine pv_iconst (v := -1) E d_Mod_scope_22 (by decide) ?_
        exact pv_iret E hr hlk d_Mod_scope_23 (by decide) (by decide) ⟨(xc_out (Or.inr h19)).symm ▸ rfl, hM.th, ps_I_eq _ _ _ _ _, FrM.th⟩
