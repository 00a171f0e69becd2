set_option maxHeartbeats 8000000 in
set_option maxRecDepth 100000 in
theorem k_Mod_conclude (l : Launch) (D : va_G) (ca : Nat → ClassId) (A : Nat → Prop) (σ : ps_S) (c : Nat) (g : gT) (p : Nat) (h0 : RM0 σ) (hA : RMA σ g p) (hO : gOK g) (hp : p ≤ 150) (t : tT) (hB : RMB σ t) (hW : tW t) (hc : c < tN t) (hR : tR t c < gN g) (hU : tU t) (hrun : u_cnt t c 0 (uN t) = 0) (hpo : tS t c 0 ≤ 2) : ∀ adr, ps_M l y_Mod_conclude c_Mod_conclude 6 (Option.none : Option Jvm.ClassFile.FieldType) { frames := 5, cells := 0, slots := 0, locals := 113 } D ca A adr σ [ps_ref (some (13, 0)), ps_int (nI c)] (fun rv σ' => rv = none ∧ RMA σ' (t_give t g c) p ∧ FrA σ σ') := by
  intro adr
  refine ps_M.of (by decide +kernel) (Nat.le_of_ble_eq_true rfl) ?_
  intro p_ e_ s_ m_ args_ below_ meth_ c_ E hr hlk hnm
  have hw12 := hW.1.1
  have hc12 : c < 12 := Nat.lt_of_lt_of_le hc hW.1.1
  have hu30 := hW.1.2
  refine pv_iconst (v := 0) E d_Mod_conclude_0 (by decide) ?_
  refine pv_istore_n E d_Mod_conclude_1 rfl (by decide) ?_
  refine pv_iconst (v := 1) E d_Mod_conclude_2 (by decide) ?_
  refine pv_istore_n E d_Mod_conclude_3 rfl (by decide) ?_
  refine pv_iconst (v := 0) E d_Mod_conclude_4 (by decide) ?_
  refine pv_istore E d_Mod_conclude_5 (by decide) ?_
  refine pv_sub (L' := [(0, ps_ref (some (13, 0))), (1, ps_int (nI c)), (2, ps_int (u_sum t c 0)), (3, ps_int (if m_wh t c 0 = true then 1 else 0)), (4, ps_int (nI 0))]) ⟨rfl, rfl, rfl, rfl, rfl, trivial⟩ ?_
  refine pv_loop (ι := Nat) (fun j => uN t - j) (fun j => [(0, ps_ref (some (13, 0))), (1, ps_int (nI c)), (2, ps_int (u_sum t c j)), (3, ps_int (if m_wh t c j = true then 1 else 0)), (4, ps_int (nI j))]) (fun _ => σ) (fun j => j ≤ uN t) (fun j hj ih => ?_) 0 (Nat.zero_le _)
  dsimp only at ih ⊢
  refine pv_iload E d_Mod_conclude_7 rfl ?_
  refine pv_aload_n E d_Mod_conclude_9 rfl rfl ?_
  refine gf_Mod_tasks E wd_797 d_Mod_conclude_10 ?_
  refine pv_top (congrArg ps_int hB.2.1) ?_
  refine pv_icmp_ge (tgt := 79) E d_Mod_conclude_13 rfl (fun h13 => ?_) (fun h13 => ?_)
  · skip
    have hj2 : uN t ≤ j := (nI_leI (by omega) (by omega)).mp h13
    have hj3 : j = uN t := by omega
    subst hj3
    refine pv_aload_n E d_Mod_conclude_79 rfl rfl ?_
    refine gf_Mod_firstFailed E wd_793 d_Mod_conclude_80 ?_
    refine pv_top (congrArg ps_ref (m_f h0 31 rfl)) ?_
    refine pv_iload_n E d_Mod_conclude_83 rfl rfl ?_
    refine pv_iaload (t0 := 6) E 14 _ (fun _ _ _ _ _ => rfl) rfl (m_ix h0 14 17 (by decide) (by decide) hc12) d_Mod_conclude_84 ?_
    refine pv_top (congrArg ps_int ((congrArg (ps_I _ 14 17) (nI_clamp (Nat.lt_trans hc12 (by decide)))).trans (hB.1.2.1 c hc).2.1.2)) ?_
    refine pv_if_ge (tgt := 92) E d_Mod_conclude_85 rfl (fun h85 => ?_) (fun h85 => ?_)
    · skip
      obtain ⟨b2, hff⟩ := m_opt_some (Int32.not_lt.mpr h85)
      have hf2 := (fst_cnt t c 2 (uN t)).2 b2 hff
      have hf30 : b2 < 30 := by omega
      refine pv_aload_n E d_Mod_conclude_92 rfl rfl ?_
      refine gf_Mod_came2 E wd_805 d_Mod_conclude_93 ?_
      refine pv_top (congrArg ps_ref (m_f h0 43 rfl)) ?_
      refine pv_aload_n E d_Mod_conclude_96 rfl rfl ?_
      refine gf_Mod_firstFailed E wd_793 d_Mod_conclude_97 ?_
      refine pv_top (congrArg ps_ref (m_f h0 31 rfl)) ?_
      refine pv_iload_n E d_Mod_conclude_100 rfl rfl ?_
      refine pv_iaload (t0 := 6) E 14 _ (fun _ _ _ _ _ => rfl) rfl (m_ix h0 14 17 (by decide) (by decide) hc12) d_Mod_conclude_101 ?_
      refine pv_top (congrArg ps_int ((congrArg (ps_I _ 14 17) (nI_clamp (Nat.lt_trans hc12 (by decide)))).trans ((hB.1.2.1 c hc).2.1.2.trans (congrArg m_opt hff)))) ?_
      refine pv_iaload (t0 := 6) E 14 _ (fun _ _ _ _ _ => rfl) rfl (m_ix h0 14 26 (by decide) (by decide) hf30) d_Mod_conclude_102 ?_
      refine pv_top (congrArg ps_int ((congrArg (ps_I _ 14 26) (nI_clamp (Nat.lt_trans hf30 (by decide)))).trans (hB.2.2.2.1 b2 hf2).2.2.2.2.2.2.2)) ?_
      refine pv_top (congrArg ps_int (show _ = (u_val t (u_fst t c 2 (uN t))) by rw [hff]; rfl)) ?_
      refine pv_istore E d_Mod_conclude_103 (by decide) ?_
      refine pv_aload_n E d_Mod_conclude_105 rfl rfl ?_
      refine gf_Mod_result E wd_789 d_Mod_conclude_106 ?_
      refine pv_top (congrArg ps_ref (m_f h0 27 rfl)) ?_
      refine pv_iload_n E d_Mod_conclude_109 rfl rfl ?_
      refine pv_iaload (t0 := 6) E 14 _ (fun _ _ _ _ _ => rfl) rfl (m_ix h0 14 15 (by decide) (by decide) hc12) d_Mod_conclude_110 ?_
      refine pv_top (congrArg ps_int ((congrArg (ps_I _ 14 15) (nI_clamp (Nat.lt_trans hc12 (by decide)))).trans (hB.1.2.1 c hc).1.2.2.2.2.1)) ?_
      refine pv_istore E d_Mod_conclude_111 (by decide) ?_
      refine pv_aload_n E d_Mod_conclude_113 rfl rfl ?_
      refine pv_iload E d_Mod_conclude_114 rfl ?_
      refine pv_callV E (fun adr => k_Mod_settled l D ca A _ (tR t c) g h0 hA.1 hO.1 hR adr) yv_Mod_settled wd_912 rfl rfl (fun _ => ⟨_, rfl⟩) rfl ⟨by decide, by decide⟩ (Nat.le_of_ble_eq_true rfl) d_Mod_conclude_116 ⟨by decide, by decide⟩ (fun r116 σ116 hq116 => ?_)
      obtain ⟨hr116, hs116⟩ := hq116
      subst r116
      subst σ116
      refine pv_if_eq (tgt := 123) E d_Mod_conclude_119 rfl (fun h119 => ?_) (fun h119 => ?_)
      · skip
        have hz : gF g (tR t c) 0 = 0 := off_0 (if10b h119)
        refine pv_aload_n E d_Mod_conclude_123 rfl rfl ?_
        refine gf_Mod_late E wd_791 d_Mod_conclude_124 ?_
        refine pv_top (congrArg ps_ref (m_f h0 29 rfl)) ?_
        refine pv_iload_n E d_Mod_conclude_127 rfl rfl ?_
        refine pv_baload (t0 := 7) E 15 _ (fun _ _ _ _ _ => rfl) rfl (m_ix h0 15 3 (by decide) (by decide) hc12) d_Mod_conclude_128 ?_
        refine pv_top (congrArg ps_int ((congrArg (ps_I _ 15 3) (nI_clamp (Nat.lt_trans hc12 (by decide)))).trans (hB.1.2.1 c hc).1.2.2.2.2.2.2)) ?_
        refine pv_if_eq (tgt := 144) E d_Mod_conclude_129 rfl (fun h129 => ?_) (fun h129 => ?_)
        · skip
          refine pv_aload_n E d_Mod_conclude_144 rfl rfl ?_
          refine gf_Mod_policy E wd_786 d_Mod_conclude_145 ?_
          refine pv_top (congrArg ps_ref (m_f h0 24 rfl)) ?_
          refine pv_iload_n E d_Mod_conclude_148 rfl rfl ?_
          refine pv_iaload (t0 := 6) E 14 _ (fun _ _ _ _ _ => rfl) rfl (m_ix h0 14 12 (by decide) (by decide) hc12) d_Mod_conclude_149 ?_
          refine pv_top (congrArg ps_int ((congrArg (ps_I _ 14 12) (nI_clamp (Nat.lt_trans hc12 (by decide)))).trans (hB.1.2.1 c hc).1.2.1)) ?_
          refine pv_iconst (v := 2) E d_Mod_conclude_150 (by decide) ?_
          refine pv_icmp_ge (tgt := 161) E d_Mod_conclude_151 rfl (fun h151 => ?_) (fun h151 => ?_)
          · skip
            have h2 := le2_eq hpo h151
            refine pv_aload_n E d_Mod_conclude_161 rfl rfl ?_
            refine gf_Mod_firstDone E wd_792 d_Mod_conclude_162 ?_
            refine pv_top (congrArg ps_ref (m_f h0 30 rfl)) ?_
            refine pv_iload_n E d_Mod_conclude_165 rfl rfl ?_
            refine pv_iaload (t0 := 6) E 14 _ (fun _ _ _ _ _ => rfl) rfl (m_ix h0 14 16 (by decide) (by decide) hc12) d_Mod_conclude_166 ?_
            refine pv_top (congrArg ps_int ((congrArg (ps_I _ 14 16) (nI_clamp (Nat.lt_trans hc12 (by decide)))).trans (hB.1.2.1 c hc).2.1.1)) ?_
            refine pv_if_lt (tgt := 205) E d_Mod_conclude_167 rfl (fun h167 => ?_) (fun h167 => ?_)
            · skip
              have hfn : u_fst t c 1 (uN t) = none := (m_opt_neg (fun z hz => by have := (fst_cnt t c 1 (uN t)).2 z hz; omega)).mp h167
              refine pv_aload_n E d_Mod_conclude_205 rfl rfl ?_
              refine pv_iload E d_Mod_conclude_206 rfl ?_
              refine pv_iconst (v := 2) E d_Mod_conclude_208 (by decide) ?_
              refine pv_iload E d_Mod_conclude_209 rfl ?_
              refine pv_callV E (fun adr => k_Mod_give l D ca A _ (tR t c) 2 (u_val t (u_fst t c 2 (uN t))) g p h0 hA hO hp hR hz (by decide) adr) yv_Mod_give wd_944 rfl rfl (fun _ => ⟨_, rfl⟩) rfl ⟨by decide, by decide⟩ (Nat.le_of_ble_eq_true rfl) d_Mod_conclude_211 ⟨by decide, by decide⟩ (fun r211 σ211 hq211 => ?_)
              obtain ⟨hr211, hA211, hf211⟩ := hq211
              subst r211
              exact pv_vret E hr hlk d_Mod_conclude_214 (by decide) (by decide) ⟨rfl, by rw [t_give, if_pos hz, t_out, if_pos h129, if_neg (fun z => (ok_2 h2).mp z hfn)]; exact hA211, hf211⟩
            · skip
              obtain ⟨b1, hfb⟩ := m_opt_some h167
              have hb1 := (fst_cnt t c 1 (uN t)).2 b1 hfb
              have hb30 : b1 < 30 := by omega
              refine pv_aload_n E d_Mod_conclude_170 rfl rfl ?_
              refine pv_iload E d_Mod_conclude_171 rfl ?_
              refine pv_iconst (v := 1) E d_Mod_conclude_173 (by decide) ?_
              refine pv_aload_n E d_Mod_conclude_174 rfl rfl ?_
              refine gf_Mod_policy E wd_786 d_Mod_conclude_175 ?_
              refine pv_top (congrArg ps_ref (m_f h0 24 rfl)) ?_
              refine pv_iload_n E d_Mod_conclude_178 rfl rfl ?_
              refine pv_iaload (t0 := 6) E 14 _ (fun _ _ _ _ _ => rfl) rfl (m_ix h0 14 12 (by decide) (by decide) hc12) d_Mod_conclude_179 ?_
              refine pv_top (congrArg ps_int ((congrArg (ps_I _ 14 12) (nI_clamp (Nat.lt_trans hc12 (by decide)))).trans (hB.1.2.1 c hc).1.2.1)) ?_
              refine pv_iconst (v := 2) E d_Mod_conclude_180 (by decide) ?_
              refine pv_icmp_ge (tgt := 188) E d_Mod_conclude_181 rfl (fun h181 => ?_) (fun h181 => ?_)
              · skip
                refine pv_aload_n E d_Mod_conclude_188 rfl rfl ?_
                refine gf_Mod_came2 E wd_805 d_Mod_conclude_189 ?_
                refine pv_top (congrArg ps_ref (m_f h0 43 rfl)) ?_
                refine pv_aload_n E d_Mod_conclude_192 rfl rfl ?_
                refine gf_Mod_firstDone E wd_792 d_Mod_conclude_193 ?_
                refine pv_top (congrArg ps_ref (m_f h0 30 rfl)) ?_
                refine pv_iload_n E d_Mod_conclude_196 rfl rfl ?_
                refine pv_iaload (t0 := 6) E 14 _ (fun _ _ _ _ _ => rfl) rfl (m_ix h0 14 16 (by decide) (by decide) hc12) d_Mod_conclude_197 ?_
                refine pv_top (congrArg ps_int ((congrArg (ps_I _ 14 16) (nI_clamp (Nat.lt_trans hc12 (by decide)))).trans ((hB.1.2.1 c hc).2.1.1.trans (congrArg m_opt hfb)))) ?_
                refine pv_iaload (t0 := 6) E 14 _ (fun _ _ _ _ _ => rfl) rfl (m_ix h0 14 26 (by decide) (by decide) hb30) d_Mod_conclude_198 ?_
                refine pv_top (congrArg ps_int ((congrArg (ps_I _ 14 26) (nI_clamp (Nat.lt_trans hb30 (by decide)))).trans (hB.2.2.2.1 b1 hb1).2.2.2.2.2.2.2)) ?_
                refine pv_callV E (fun adr => k_Mod_give l D ca A _ (tR t c) 1 (uK t b1 6) g p h0 hA hO hp hR hz (by decide) adr) yv_Mod_give wd_944 rfl rfl (fun _ => ⟨_, rfl⟩) rfl ⟨by decide, by decide⟩ (Nat.le_of_ble_eq_true rfl) d_Mod_conclude_199 ⟨by decide, by decide⟩ (fun r199 σ199 hq199 => ?_)
                obtain ⟨hr199, hA199, hf199⟩ := hq199
                subst r199
                refine pv_goto (tgt := 214) E d_Mod_conclude_202 rfl ?_
                exact pv_vret E hr hlk d_Mod_conclude_214 (by decide) (by decide) ⟨rfl, by rw [t_give, if_pos hz, t_out, if_pos h129, if_pos ((ok_2 h2).mpr (by rw [hfb]; exact fun z => by cases z)), val_2 h2 hfb]; exact hA199, hf199⟩
              · skip
                exact absurd h151 h181
          · skip
            refine pv_iload_n E d_Mod_conclude_154 rfl rfl ?_
            refine pv_if_eq (tgt := 205) E d_Mod_conclude_155 rfl (fun h155 => ?_) (fun h155 => ?_)
            · skip
              refine pv_aload_n E d_Mod_conclude_205 rfl rfl ?_
              refine pv_iload E d_Mod_conclude_206 rfl ?_
              refine pv_iconst (v := 2) E d_Mod_conclude_208 (by decide) ?_
              refine pv_iload E d_Mod_conclude_209 rfl ?_
              refine pv_callV E (fun adr => k_Mod_give l D ca A _ (tR t c) 2 (u_val t (u_fst t c 2 (uN t))) g p h0 hA hO hp hR hz (by decide) adr) yv_Mod_give wd_944 rfl rfl (fun _ => ⟨_, rfl⟩) rfl ⟨by decide, by decide⟩ (Nat.le_of_ble_eq_true rfl) d_Mod_conclude_211 ⟨by decide, by decide⟩ (fun r211 σ211 hq211 => ?_)
              obtain ⟨hr211, hA211, hf211⟩ := hq211
              subst r211
              exact pv_vret E hr hlk d_Mod_conclude_214 (by decide) (by decide) ⟨rfl, by rw [t_give, if_pos hz, t_out, if_pos h129, if_neg (fun z => by rw [ok_lt2 hU h151 hrun, if10b h155] at z; exact absurd z (by decide))]; exact hA211, hf211⟩
            · skip
              refine pv_goto (tgt := 170) E d_Mod_conclude_158 rfl ?_
              refine pv_aload_n E d_Mod_conclude_170 rfl rfl ?_
              refine pv_iload E d_Mod_conclude_171 rfl ?_
              refine pv_iconst (v := 1) E d_Mod_conclude_173 (by decide) ?_
              refine pv_aload_n E d_Mod_conclude_174 rfl rfl ?_
              refine gf_Mod_policy E wd_786 d_Mod_conclude_175 ?_
              refine pv_top (congrArg ps_ref (m_f h0 24 rfl)) ?_
              refine pv_iload_n E d_Mod_conclude_178 rfl rfl ?_
              refine pv_iaload (t0 := 6) E 14 _ (fun _ _ _ _ _ => rfl) rfl (m_ix h0 14 12 (by decide) (by decide) hc12) d_Mod_conclude_179 ?_
              refine pv_top (congrArg ps_int ((congrArg (ps_I _ 14 12) (nI_clamp (Nat.lt_trans hc12 (by decide)))).trans (hB.1.2.1 c hc).1.2.1)) ?_
              refine pv_iconst (v := 2) E d_Mod_conclude_180 (by decide) ?_
              refine pv_icmp_ge (tgt := 188) E d_Mod_conclude_181 rfl (fun h181 => ?_) (fun h181 => ?_)
              · skip
                exact absurd h181 h151
              · skip
                refine pv_iload_n E d_Mod_conclude_184 rfl rfl ?_
                refine pv_goto (tgt := 199) E d_Mod_conclude_185 rfl ?_
                refine pv_callV E (fun adr => k_Mod_give l D ca A _ (tR t c) 1 (u_sum t c (uN t)) g p h0 hA hO hp hR hz (by decide) adr) yv_Mod_give wd_944 rfl rfl (fun _ => ⟨_, rfl⟩) rfl ⟨by decide, by decide⟩ (Nat.le_of_ble_eq_true rfl) d_Mod_conclude_199 ⟨by decide, by decide⟩ (fun r199 σ199 hq199 => ?_)
                obtain ⟨hr199, hA199, hf199⟩ := hq199
                subst r199
                refine pv_goto (tgt := 214) E d_Mod_conclude_202 rfl ?_
                exact pv_vret E hr hlk d_Mod_conclude_214 (by decide) (by decide) ⟨rfl, by rw [t_give, if_pos hz, t_out, if_pos h129, if_pos ((ok_lt2 hU h151 hrun).trans (if10t h155)), val_lt2 h151]; exact hA199, hf199⟩
        · skip
          refine pv_aload_n E d_Mod_conclude_132 rfl rfl ?_
          refine pv_iload E d_Mod_conclude_133 rfl ?_
          refine pv_iconst (v := 2) E d_Mod_conclude_135 (by decide) ?_
          refine pv_bipush (v := 7) E d_Mod_conclude_136 (by decide) ?_
          refine pv_callV E (fun adr => k_Mod_give l D ca A _ (tR t c) 2 7 g p h0 hA hO hp hR hz (by decide) adr) yv_Mod_give wd_944 rfl rfl (fun _ => ⟨_, rfl⟩) rfl ⟨by decide, by decide⟩ (Nat.le_of_ble_eq_true rfl) d_Mod_conclude_138 ⟨by decide, by decide⟩ (fun r138 σ138 hq138 => ?_)
          obtain ⟨hr138, hA138, hf138⟩ := hq138
          subst r138
          refine pv_goto (tgt := 214) E d_Mod_conclude_141 rfl ?_
          exact pv_vret E hr hlk d_Mod_conclude_214 (by decide) (by decide) ⟨rfl, by rw [t_give, if_pos hz, t_out, if_neg h129]; exact hA138, hf138⟩
      · skip
        exact pv_vret E hr hlk d_Mod_conclude_122 (by decide) (by decide) ⟨rfl, by rw [t_give, if_neg ((g_on_eq _ _).mp (if10t h119))]; exact hA, FrA.rf σ⟩
    · skip
      have hff : u_fst t c 2 (uN t) = none := (m_opt_neg (fun z hz => by have := (fst_cnt t c 2 (uN t)).2 z hz; omega)).mp (Int32.not_le.mp h85)
      refine pv_iconst (v := 0) E d_Mod_conclude_88 (by decide) ?_
      refine pv_goto (tgt := 103) E d_Mod_conclude_89 rfl ?_
      refine pv_top (congrArg ps_int (show _ = (u_val t (u_fst t c 2 (uN t))) by rw [hff]; rfl)) ?_
      refine pv_istore E d_Mod_conclude_103 (by decide) ?_
      refine pv_aload_n E d_Mod_conclude_105 rfl rfl ?_
      refine gf_Mod_result E wd_789 d_Mod_conclude_106 ?_
      refine pv_top (congrArg ps_ref (m_f h0 27 rfl)) ?_
      refine pv_iload_n E d_Mod_conclude_109 rfl rfl ?_
      refine pv_iaload (t0 := 6) E 14 _ (fun _ _ _ _ _ => rfl) rfl (m_ix h0 14 15 (by decide) (by decide) hc12) d_Mod_conclude_110 ?_
      refine pv_top (congrArg ps_int ((congrArg (ps_I _ 14 15) (nI_clamp (Nat.lt_trans hc12 (by decide)))).trans (hB.1.2.1 c hc).1.2.2.2.2.1)) ?_
      refine pv_istore E d_Mod_conclude_111 (by decide) ?_
      refine pv_aload_n E d_Mod_conclude_113 rfl rfl ?_
      refine pv_iload E d_Mod_conclude_114 rfl ?_
      refine pv_callV E (fun adr => k_Mod_settled l D ca A _ (tR t c) g h0 hA.1 hO.1 hR adr) yv_Mod_settled wd_912 rfl rfl (fun _ => ⟨_, rfl⟩) rfl ⟨by decide, by decide⟩ (Nat.le_of_ble_eq_true rfl) d_Mod_conclude_116 ⟨by decide, by decide⟩ (fun r116 σ116 hq116 => ?_)
      obtain ⟨hr116, hs116⟩ := hq116
      subst r116
      subst σ116
      refine pv_if_eq (tgt := 123) E d_Mod_conclude_119 rfl (fun h119 => ?_) (fun h119 => ?_)
      · skip
        have hz : gF g (tR t c) 0 = 0 := off_0 (if10b h119)
        refine pv_aload_n E d_Mod_conclude_123 rfl rfl ?_
        refine gf_Mod_late E wd_791 d_Mod_conclude_124 ?_
        refine pv_top (congrArg ps_ref (m_f h0 29 rfl)) ?_
        refine pv_iload_n E d_Mod_conclude_127 rfl rfl ?_
        refine pv_baload (t0 := 7) E 15 _ (fun _ _ _ _ _ => rfl) rfl (m_ix h0 15 3 (by decide) (by decide) hc12) d_Mod_conclude_128 ?_
        refine pv_top (congrArg ps_int ((congrArg (ps_I _ 15 3) (nI_clamp (Nat.lt_trans hc12 (by decide)))).trans (hB.1.2.1 c hc).1.2.2.2.2.2.2)) ?_
        refine pv_if_eq (tgt := 144) E d_Mod_conclude_129 rfl (fun h129 => ?_) (fun h129 => ?_)
        · skip
          refine pv_aload_n E d_Mod_conclude_144 rfl rfl ?_
          refine gf_Mod_policy E wd_786 d_Mod_conclude_145 ?_
          refine pv_top (congrArg ps_ref (m_f h0 24 rfl)) ?_
          refine pv_iload_n E d_Mod_conclude_148 rfl rfl ?_
          refine pv_iaload (t0 := 6) E 14 _ (fun _ _ _ _ _ => rfl) rfl (m_ix h0 14 12 (by decide) (by decide) hc12) d_Mod_conclude_149 ?_
          refine pv_top (congrArg ps_int ((congrArg (ps_I _ 14 12) (nI_clamp (Nat.lt_trans hc12 (by decide)))).trans (hB.1.2.1 c hc).1.2.1)) ?_
          refine pv_iconst (v := 2) E d_Mod_conclude_150 (by decide) ?_
          refine pv_icmp_ge (tgt := 161) E d_Mod_conclude_151 rfl (fun h151 => ?_) (fun h151 => ?_)
          · skip
            have h2 := le2_eq hpo h151
            refine pv_aload_n E d_Mod_conclude_161 rfl rfl ?_
            refine gf_Mod_firstDone E wd_792 d_Mod_conclude_162 ?_
            refine pv_top (congrArg ps_ref (m_f h0 30 rfl)) ?_
            refine pv_iload_n E d_Mod_conclude_165 rfl rfl ?_
            refine pv_iaload (t0 := 6) E 14 _ (fun _ _ _ _ _ => rfl) rfl (m_ix h0 14 16 (by decide) (by decide) hc12) d_Mod_conclude_166 ?_
            refine pv_top (congrArg ps_int ((congrArg (ps_I _ 14 16) (nI_clamp (Nat.lt_trans hc12 (by decide)))).trans (hB.1.2.1 c hc).2.1.1)) ?_
            refine pv_if_lt (tgt := 205) E d_Mod_conclude_167 rfl (fun h167 => ?_) (fun h167 => ?_)
            · skip
              have hfn : u_fst t c 1 (uN t) = none := (m_opt_neg (fun z hz => by have := (fst_cnt t c 1 (uN t)).2 z hz; omega)).mp h167
              refine pv_aload_n E d_Mod_conclude_205 rfl rfl ?_
              refine pv_iload E d_Mod_conclude_206 rfl ?_
              refine pv_iconst (v := 2) E d_Mod_conclude_208 (by decide) ?_
              refine pv_iload E d_Mod_conclude_209 rfl ?_
              refine pv_callV E (fun adr => k_Mod_give l D ca A _ (tR t c) 2 (u_val t (u_fst t c 2 (uN t))) g p h0 hA hO hp hR hz (by decide) adr) yv_Mod_give wd_944 rfl rfl (fun _ => ⟨_, rfl⟩) rfl ⟨by decide, by decide⟩ (Nat.le_of_ble_eq_true rfl) d_Mod_conclude_211 ⟨by decide, by decide⟩ (fun r211 σ211 hq211 => ?_)
              obtain ⟨hr211, hA211, hf211⟩ := hq211
              subst r211
              exact pv_vret E hr hlk d_Mod_conclude_214 (by decide) (by decide) ⟨rfl, by rw [t_give, if_pos hz, t_out, if_pos h129, if_neg (fun z => (ok_2 h2).mp z hfn)]; exact hA211, hf211⟩
            · skip
              obtain ⟨b1, hfb⟩ := m_opt_some h167
              have hb1 := (fst_cnt t c 1 (uN t)).2 b1 hfb
              have hb30 : b1 < 30 := by omega
              refine pv_aload_n E d_Mod_conclude_170 rfl rfl ?_
              refine pv_iload E d_Mod_conclude_171 rfl ?_
              refine pv_iconst (v := 1) E d_Mod_conclude_173 (by decide) ?_
              refine pv_aload_n E d_Mod_conclude_174 rfl rfl ?_
              refine gf_Mod_policy E wd_786 d_Mod_conclude_175 ?_
              refine pv_top (congrArg ps_ref (m_f h0 24 rfl)) ?_
              refine pv_iload_n E d_Mod_conclude_178 rfl rfl ?_
              refine pv_iaload (t0 := 6) E 14 _ (fun _ _ _ _ _ => rfl) rfl (m_ix h0 14 12 (by decide) (by decide) hc12) d_Mod_conclude_179 ?_
              refine pv_top (congrArg ps_int ((congrArg (ps_I _ 14 12) (nI_clamp (Nat.lt_trans hc12 (by decide)))).trans (hB.1.2.1 c hc).1.2.1)) ?_
              refine pv_iconst (v := 2) E d_Mod_conclude_180 (by decide) ?_
              refine pv_icmp_ge (tgt := 188) E d_Mod_conclude_181 rfl (fun h181 => ?_) (fun h181 => ?_)
              · skip
                refine pv_aload_n E d_Mod_conclude_188 rfl rfl ?_
                refine gf_Mod_came2 E wd_805 d_Mod_conclude_189 ?_
                refine pv_top (congrArg ps_ref (m_f h0 43 rfl)) ?_
                refine pv_aload_n E d_Mod_conclude_192 rfl rfl ?_
                refine gf_Mod_firstDone E wd_792 d_Mod_conclude_193 ?_
                refine pv_top (congrArg ps_ref (m_f h0 30 rfl)) ?_
                refine pv_iload_n E d_Mod_conclude_196 rfl rfl ?_
                refine pv_iaload (t0 := 6) E 14 _ (fun _ _ _ _ _ => rfl) rfl (m_ix h0 14 16 (by decide) (by decide) hc12) d_Mod_conclude_197 ?_
                refine pv_top (congrArg ps_int ((congrArg (ps_I _ 14 16) (nI_clamp (Nat.lt_trans hc12 (by decide)))).trans ((hB.1.2.1 c hc).2.1.1.trans (congrArg m_opt hfb)))) ?_
                refine pv_iaload (t0 := 6) E 14 _ (fun _ _ _ _ _ => rfl) rfl (m_ix h0 14 26 (by decide) (by decide) hb30) d_Mod_conclude_198 ?_
                refine pv_top (congrArg ps_int ((congrArg (ps_I _ 14 26) (nI_clamp (Nat.lt_trans hb30 (by decide)))).trans (hB.2.2.2.1 b1 hb1).2.2.2.2.2.2.2)) ?_
                refine pv_callV E (fun adr => k_Mod_give l D ca A _ (tR t c) 1 (uK t b1 6) g p h0 hA hO hp hR hz (by decide) adr) yv_Mod_give wd_944 rfl rfl (fun _ => ⟨_, rfl⟩) rfl ⟨by decide, by decide⟩ (Nat.le_of_ble_eq_true rfl) d_Mod_conclude_199 ⟨by decide, by decide⟩ (fun r199 σ199 hq199 => ?_)
                obtain ⟨hr199, hA199, hf199⟩ := hq199
                subst r199
                refine pv_goto (tgt := 214) E d_Mod_conclude_202 rfl ?_
                exact pv_vret E hr hlk d_Mod_conclude_214 (by decide) (by decide) ⟨rfl, by rw [t_give, if_pos hz, t_out, if_pos h129, if_pos ((ok_2 h2).mpr (by rw [hfb]; exact fun z => by cases z)), val_2 h2 hfb]; exact hA199, hf199⟩
              · skip
                exact absurd h151 h181
          · skip
            refine pv_iload_n E d_Mod_conclude_154 rfl rfl ?_
            refine pv_if_eq (tgt := 205) E d_Mod_conclude_155 rfl (fun h155 => ?_) (fun h155 => ?_)
            · skip
              refine pv_aload_n E d_Mod_conclude_205 rfl rfl ?_
              refine pv_iload E d_Mod_conclude_206 rfl ?_
              refine pv_iconst (v := 2) E d_Mod_conclude_208 (by decide) ?_
              refine pv_iload E d_Mod_conclude_209 rfl ?_
              refine pv_callV E (fun adr => k_Mod_give l D ca A _ (tR t c) 2 (u_val t (u_fst t c 2 (uN t))) g p h0 hA hO hp hR hz (by decide) adr) yv_Mod_give wd_944 rfl rfl (fun _ => ⟨_, rfl⟩) rfl ⟨by decide, by decide⟩ (Nat.le_of_ble_eq_true rfl) d_Mod_conclude_211 ⟨by decide, by decide⟩ (fun r211 σ211 hq211 => ?_)
              obtain ⟨hr211, hA211, hf211⟩ := hq211
              subst r211
              exact pv_vret E hr hlk d_Mod_conclude_214 (by decide) (by decide) ⟨rfl, by rw [t_give, if_pos hz, t_out, if_pos h129, if_neg (fun z => by rw [ok_lt2 hU h151 hrun, if10b h155] at z; exact absurd z (by decide))]; exact hA211, hf211⟩
            · skip
              refine pv_goto (tgt := 170) E d_Mod_conclude_158 rfl ?_
              refine pv_aload_n E d_Mod_conclude_170 rfl rfl ?_
              refine pv_iload E d_Mod_conclude_171 rfl ?_
              refine pv_iconst (v := 1) E d_Mod_conclude_173 (by decide) ?_
              refine pv_aload_n E d_Mod_conclude_174 rfl rfl ?_
              refine gf_Mod_policy E wd_786 d_Mod_conclude_175 ?_
              refine pv_top (congrArg ps_ref (m_f h0 24 rfl)) ?_
              refine pv_iload_n E d_Mod_conclude_178 rfl rfl ?_
              refine pv_iaload (t0 := 6) E 14 _ (fun _ _ _ _ _ => rfl) rfl (m_ix h0 14 12 (by decide) (by decide) hc12) d_Mod_conclude_179 ?_
              refine pv_top (congrArg ps_int ((congrArg (ps_I _ 14 12) (nI_clamp (Nat.lt_trans hc12 (by decide)))).trans (hB.1.2.1 c hc).1.2.1)) ?_
              refine pv_iconst (v := 2) E d_Mod_conclude_180 (by decide) ?_
              refine pv_icmp_ge (tgt := 188) E d_Mod_conclude_181 rfl (fun h181 => ?_) (fun h181 => ?_)
              · skip
                exact absurd h181 h151
              · skip
                refine pv_iload_n E d_Mod_conclude_184 rfl rfl ?_
                refine pv_goto (tgt := 199) E d_Mod_conclude_185 rfl ?_
                refine pv_callV E (fun adr => k_Mod_give l D ca A _ (tR t c) 1 (u_sum t c (uN t)) g p h0 hA hO hp hR hz (by decide) adr) yv_Mod_give wd_944 rfl rfl (fun _ => ⟨_, rfl⟩) rfl ⟨by decide, by decide⟩ (Nat.le_of_ble_eq_true rfl) d_Mod_conclude_199 ⟨by decide, by decide⟩ (fun r199 σ199 hq199 => ?_)
                obtain ⟨hr199, hA199, hf199⟩ := hq199
                subst r199
                refine pv_goto (tgt := 214) E d_Mod_conclude_202 rfl ?_
                exact pv_vret E hr hlk d_Mod_conclude_214 (by decide) (by decide) ⟨rfl, by rw [t_give, if_pos hz, t_out, if_pos h129, if_pos ((ok_lt2 hU h151 hrun).trans (if10t h155)), val_lt2 h151]; exact hA199, hf199⟩
        · skip
          refine pv_aload_n E d_Mod_conclude_132 rfl rfl ?_
          refine pv_iload E d_Mod_conclude_133 rfl ?_
          refine pv_iconst (v := 2) E d_Mod_conclude_135 (by decide) ?_
          refine pv_bipush (v := 7) E d_Mod_conclude_136 (by decide) ?_
          refine pv_callV E (fun adr => k_Mod_give l D ca A _ (tR t c) 2 7 g p h0 hA hO hp hR hz (by decide) adr) yv_Mod_give wd_944 rfl rfl (fun _ => ⟨_, rfl⟩) rfl ⟨by decide, by decide⟩ (Nat.le_of_ble_eq_true rfl) d_Mod_conclude_138 ⟨by decide, by decide⟩ (fun r138 σ138 hq138 => ?_)
          obtain ⟨hr138, hA138, hf138⟩ := hq138
          subst r138
          refine pv_goto (tgt := 214) E d_Mod_conclude_141 rfl ?_
          exact pv_vret E hr hlk d_Mod_conclude_214 (by decide) (by decide) ⟨rfl, by rw [t_give, if_pos hz, t_out, if_neg h129]; exact hA138, hf138⟩
      · skip
        exact pv_vret E hr hlk d_Mod_conclude_122 (by decide) (by decide) ⟨rfl, by rw [t_give, if_neg ((g_on_eq _ _).mp (if10t h119))]; exact hA, FrA.rf σ⟩
  · skip
    have hj2 : j < uN t := Nat.lt_of_not_le (fun z => h13 ((nI_leI (by omega) (by omega)).mpr z))
    have hj30 : j < 30 := by omega
    obtain ⟨r1, r2, r3, r4, r5, r6, r7, r8⟩ := hB.2.2.2.1 j hj2
    have hoj := hW.2.2.1 j hj2
    refine pv_aload_n E d_Mod_conclude_16 rfl rfl ?_
    refine gf_Mod_home E wd_798 d_Mod_conclude_17 ?_
    refine pv_top (congrArg ps_ref (m_f h0 36 rfl)) ?_
    refine pv_iload E d_Mod_conclude_20 rfl ?_
    refine pv_iaload (t0 := 6) E 14 _ (fun _ _ _ _ _ => rfl) rfl (m_ix h0 14 19 (by decide) (by decide) hj30) d_Mod_conclude_22 ?_
    refine pv_top (congrArg ps_int ((congrArg (ps_I _ 14 19) (nI_clamp (Nat.lt_trans hj30 (by decide)))).trans r1)) ?_
    refine pv_iload_n E d_Mod_conclude_23 rfl rfl ?_
    refine pv_icmp_ne (tgt := 73) E d_Mod_conclude_24 rfl (fun h24 => ?_) (fun h24 => ?_)
    · skip
      have hne : ¬ uO t j = c := fun z => h24 (by rw [z])
      refine pv_inc1 E d_Mod_conclude_73 rfl (by decide) ?_
      refine pv_goto (tgt := 7) E d_Mod_conclude_76 rfl ?_
      exact pv_back (ih (j + 1) (by omega) (by omega)) ⟨rfl, rfl, congrArg (fun z : Int32 => some (ps_int z)) (by rw [u_sum, if_neg (fun z => hne z.1)]), congrArg (fun z : Int32 => some (ps_int z)) (by rw [m_wh, decide_eq_false hne]; simp), congrArg (fun z : Int32 => some (ps_int z)) (nI_1 j), trivial⟩
    · skip
      have heq : uO t j = c := (nI_eq (by omega) (by omega)).mp h24
      refine pv_iload_n E d_Mod_conclude_27 rfl rfl ?_
      refine pv_if_eq (tgt := 46) E d_Mod_conclude_28 rfl (fun h28 => ?_) (fun h28 => ?_)
      · skip
        refine pv_iconst (v := 0) E d_Mod_conclude_46 (by decide) ?_
        refine pv_istore_n E d_Mod_conclude_47 rfl (by decide) ?_
        refine pv_iload_n E d_Mod_conclude_48 rfl rfl ?_
        refine pv_aload_n E d_Mod_conclude_49 rfl rfl ?_
        refine gf_Mod_how E wd_803 d_Mod_conclude_50 ?_
        refine pv_top (congrArg ps_ref (m_f h0 41 rfl)) ?_
        refine pv_iload E d_Mod_conclude_53 rfl ?_
        refine pv_iaload (t0 := 6) E 14 _ (fun _ _ _ _ _ => rfl) rfl (m_ix h0 14 24 (by decide) (by decide) hj30) d_Mod_conclude_55 ?_
        refine pv_top (congrArg ps_int ((congrArg (ps_I _ 14 24) (nI_clamp (Nat.lt_trans hj30 (by decide)))).trans r6)) ?_
        refine pv_iconst (v := 1) E d_Mod_conclude_56 (by decide) ?_
        refine pv_icmp_ne (tgt := 70) E d_Mod_conclude_57 rfl (fun h57 => ?_) (fun h57 => ?_)
        · skip
          refine pv_iconst (v := 0) E d_Mod_conclude_70 (by decide) ?_
          refine pv_iadd E d_Mod_conclude_71 ?_
          refine pv_istore_n E d_Mod_conclude_72 rfl (by decide) ?_
          refine pv_inc1 E d_Mod_conclude_73 rfl (by decide) ?_
          refine pv_goto (tgt := 7) E d_Mod_conclude_76 rfl ?_
          exact pv_back (ih (j + 1) (by omega) (by omega)) ⟨rfl, rfl, congrArg (fun z : Int32 => some (ps_int z)) (by rw [u_sum, if_neg (fun z => h57 z.2)]; exact Int32.add_zero _), congrArg (fun z : Int32 => some (ps_int z)) (by rw [m_wh, if10b h28]; rfl), congrArg (fun z : Int32 => some (ps_int z)) (nI_1 j), trivial⟩
        · skip
          refine pv_aload_n E d_Mod_conclude_60 rfl rfl ?_
          refine gf_Mod_came2 E wd_805 d_Mod_conclude_61 ?_
          refine pv_top (congrArg ps_ref (m_f h0 43 rfl)) ?_
          refine pv_iload E d_Mod_conclude_64 rfl ?_
          refine pv_iaload (t0 := 6) E 14 _ (fun _ _ _ _ _ => rfl) rfl (m_ix h0 14 26 (by decide) (by decide) hj30) d_Mod_conclude_66 ?_
          refine pv_top (congrArg ps_int ((congrArg (ps_I _ 14 26) (nI_clamp (Nat.lt_trans hj30 (by decide)))).trans r8)) ?_
          refine pv_goto (tgt := 71) E d_Mod_conclude_67 rfl ?_
          refine pv_iadd E d_Mod_conclude_71 ?_
          refine pv_istore_n E d_Mod_conclude_72 rfl (by decide) ?_
          refine pv_inc1 E d_Mod_conclude_73 rfl (by decide) ?_
          refine pv_goto (tgt := 7) E d_Mod_conclude_76 rfl ?_
          exact pv_back (ih (j + 1) (by omega) (by omega)) ⟨rfl, rfl, congrArg (fun z : Int32 => some (ps_int z)) (by rw [u_sum, if_pos ⟨heq, h57⟩]), congrArg (fun z : Int32 => some (ps_int z)) (by rw [m_wh, if10b h28]; rfl), congrArg (fun z : Int32 => some (ps_int z)) (nI_1 j), trivial⟩
      · skip
        refine pv_aload_n E d_Mod_conclude_31 rfl rfl ?_
        refine gf_Mod_how E wd_803 d_Mod_conclude_32 ?_
        refine pv_top (congrArg ps_ref (m_f h0 41 rfl)) ?_
        refine pv_iload E d_Mod_conclude_35 rfl ?_
        refine pv_iaload (t0 := 6) E 14 _ (fun _ _ _ _ _ => rfl) rfl (m_ix h0 14 24 (by decide) (by decide) hj30) d_Mod_conclude_37 ?_
        refine pv_top (congrArg ps_int ((congrArg (ps_I _ 14 24) (nI_clamp (Nat.lt_trans hj30 (by decide)))).trans r6)) ?_
        refine pv_iconst (v := 1) E d_Mod_conclude_38 (by decide) ?_
        refine pv_icmp_ne (tgt := 46) E d_Mod_conclude_39 rfl (fun h39 => ?_) (fun h39 => ?_)
        · skip
          refine pv_iconst (v := 0) E d_Mod_conclude_46 (by decide) ?_
          refine pv_istore_n E d_Mod_conclude_47 rfl (by decide) ?_
          refine pv_iload_n E d_Mod_conclude_48 rfl rfl ?_
          refine pv_aload_n E d_Mod_conclude_49 rfl rfl ?_
          refine gf_Mod_how E wd_803 d_Mod_conclude_50 ?_
          refine pv_top (congrArg ps_ref (m_f h0 41 rfl)) ?_
          refine pv_iload E d_Mod_conclude_53 rfl ?_
          refine pv_iaload (t0 := 6) E 14 _ (fun _ _ _ _ _ => rfl) rfl (m_ix h0 14 24 (by decide) (by decide) hj30) d_Mod_conclude_55 ?_
          refine pv_top (congrArg ps_int ((congrArg (ps_I _ 14 24) (nI_clamp (Nat.lt_trans hj30 (by decide)))).trans r6)) ?_
          refine pv_iconst (v := 1) E d_Mod_conclude_56 (by decide) ?_
          refine pv_icmp_ne (tgt := 70) E d_Mod_conclude_57 rfl (fun h57 => ?_) (fun h57 => ?_)
          · skip
            refine pv_iconst (v := 0) E d_Mod_conclude_70 (by decide) ?_
            refine pv_iadd E d_Mod_conclude_71 ?_
            refine pv_istore_n E d_Mod_conclude_72 rfl (by decide) ?_
            refine pv_inc1 E d_Mod_conclude_73 rfl (by decide) ?_
            refine pv_goto (tgt := 7) E d_Mod_conclude_76 rfl ?_
            exact pv_back (ih (j + 1) (by omega) (by omega)) ⟨rfl, rfl, congrArg (fun z : Int32 => some (ps_int z)) (by rw [u_sum, if_neg (fun z => h57 z.2)]; exact Int32.add_zero _), congrArg (fun z : Int32 => some (ps_int z)) (by rw [m_wh, decide_eq_true heq, decide_eq_false h39]; simp), congrArg (fun z : Int32 => some (ps_int z)) (nI_1 j), trivial⟩
          · skip
            exact absurd h57 h39
        · skip
          refine pv_iconst (v := 1) E d_Mod_conclude_42 (by decide) ?_
          refine pv_goto (tgt := 47) E d_Mod_conclude_43 rfl ?_
          refine pv_istore_n E d_Mod_conclude_47 rfl (by decide) ?_
          refine pv_iload_n E d_Mod_conclude_48 rfl rfl ?_
          refine pv_aload_n E d_Mod_conclude_49 rfl rfl ?_
          refine gf_Mod_how E wd_803 d_Mod_conclude_50 ?_
          refine pv_top (congrArg ps_ref (m_f h0 41 rfl)) ?_
          refine pv_iload E d_Mod_conclude_53 rfl ?_
          refine pv_iaload (t0 := 6) E 14 _ (fun _ _ _ _ _ => rfl) rfl (m_ix h0 14 24 (by decide) (by decide) hj30) d_Mod_conclude_55 ?_
          refine pv_top (congrArg ps_int ((congrArg (ps_I _ 14 24) (nI_clamp (Nat.lt_trans hj30 (by decide)))).trans r6)) ?_
          refine pv_iconst (v := 1) E d_Mod_conclude_56 (by decide) ?_
          refine pv_icmp_ne (tgt := 70) E d_Mod_conclude_57 rfl (fun h57 => ?_) (fun h57 => ?_)
          · skip
            exact absurd h39 h57
          · skip
            refine pv_aload_n E d_Mod_conclude_60 rfl rfl ?_
            refine gf_Mod_came2 E wd_805 d_Mod_conclude_61 ?_
            refine pv_top (congrArg ps_ref (m_f h0 43 rfl)) ?_
            refine pv_iload E d_Mod_conclude_64 rfl ?_
            refine pv_iaload (t0 := 6) E 14 _ (fun _ _ _ _ _ => rfl) rfl (m_ix h0 14 26 (by decide) (by decide) hj30) d_Mod_conclude_66 ?_
            refine pv_top (congrArg ps_int ((congrArg (ps_I _ 14 26) (nI_clamp (Nat.lt_trans hj30 (by decide)))).trans r8)) ?_
            refine pv_goto (tgt := 71) E d_Mod_conclude_67 rfl ?_
            refine pv_iadd E d_Mod_conclude_71 ?_
            refine pv_istore_n E d_Mod_conclude_72 rfl (by decide) ?_
            refine pv_inc1 E d_Mod_conclude_73 rfl (by decide) ?_
            refine pv_goto (tgt := 7) E d_Mod_conclude_76 rfl ?_
            exact pv_back (ih (j + 1) (by omega) (by omega)) ⟨rfl, rfl, congrArg (fun z : Int32 => some (ps_int z)) (by rw [u_sum, if_pos ⟨heq, h57⟩]), congrArg (fun z : Int32 => some (ps_int z)) (by rw [m_wh, if10t h28, decide_eq_true h39]; simp), congrArg (fun z : Int32 => some (ps_int z)) (nI_1 j), trivial⟩
