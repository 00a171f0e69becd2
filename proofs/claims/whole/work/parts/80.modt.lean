theorem turn_wk {t : tT} {j : Nat} {v : Int32} (h : tI t) : ∀ k, k < uN (usK t j 5 v) → uK (usK t j 5 v) k 4 = 1 ∨ uK (usK t j 5 v) k 4 = 2 → uT (usK t j 5 v) k < uE (usK t j 5 v) := fun k hk hz => by
  rw [usK_K, if_neg (by omega)] at hz
  exact h.2.2.2.2 k hk hz
theorem pcN_s (t : tT) (j : Nat) : u_pcN t (j + 1) = u_pcN t j + u_pc1 (u_psN t j) j := rfl
theorem psN_s (t : tT) (j : Nat) : u_psN t (j + 1) = u_ps1 (u_psN t j) j := rfl
theorem laN_s (t : tT) (j : Nat) : t_laN t (j + 1) = t_la1 (t_laN t j) j := rfl
theorem la1_no {t : tT} {i : Nat} (h : ¬ (¬ tS t i 2 = 2 ∧ t_past t i = true)) : t_la1 t i = t := by unfold t_la1; rw [if_neg h]
theorem la1_yes {t : tT} {i : Nat} (h1 : ¬ tS t i 2 = 2) (h2 : t_past t i = true) : t_la1 t i = tsS (t_stop t i) i 4 1 := by unfold t_la1; rw [if_pos ⟨h1, h2⟩, stop_late]
set_option maxHeartbeats 8000000 in
set_option maxRecDepth 100000 in
theorem k_Mod_pass (l : Launch) (D : va_G) (ca : Nat → ClassId) (A : Nat → Prop) (σ : ps_S)  (t : tT) (g : gT) (hM : RM σ t g 0) (hZ0 : zI t g) (hI : tI t) : ∀ adr, ps_M l y_Mod_pass c_Mod_pass 3 (Option.some Jvm.ClassFile.FieldType.int) { frames := 10, cells := 0, slots := 0, locals := 229 } D ca A adr σ [ps_ref (some (13, 0))] (fun rv σ' => rv = some (ps_int (nI (u_pcN (t_tick t) (uN t)))) ∧ RM σ' (x_tick1 (t, g)).1 (x_tick1 (t, g)).2 0 ∧ gY (x_tick1 (t, g)).2 ∧ ps_I σ' 13 0 0 = ps_I σ 13 0 0 ∧ FrM σ σ') := by
  intro adr
  refine ps_M.of (by decide +kernel) (Nat.le_of_ble_eq_true rfl) ?_
  intro p_ e_ s_ m_ args_ below_ meth_ c_ E hr hlk hnm
  have h0 := hM.1
  have hB := hM.2.2
  have hW := hZ0.1.2.1
  have hw12 := hW.1.1
  have hu30 := hW.1.2
  refine pv_aload_n E d_Mod_pass_0 rfl rfl ?_
  refine pv_dup E d_Mod_pass_1 rfl ?_
  refine gf_Mod_time E wd_796 d_Mod_pass_2 ?_
  refine pv_top (congrArg ps_int hB.2.2.1) ?_
  refine pv_iconst (v := 1) E d_Mod_pass_5 (by decide) ?_
  refine pv_iadd E d_Mod_pass_6 ?_
  refine pf_Mod_time E wd_796 d_Mod_pass_7 ?_
  have hB7 := hB.tm (v := uC t + 1)
  refine pv_iconst (v := 0) E d_Mod_pass_10 (by decide) ?_
  refine pv_istore_n E d_Mod_pass_11 rfl (by decide) ?_
  refine pv_sub (L' := [(0, ps_ref (some (13, 0))), (1, ps_int (nI 0))]) ⟨rfl, rfl, trivial⟩ ?_
  refine pv_loop (ι := Nat × ps_S) (fun x => tN t - x.1) (fun x => [(0, ps_ref (some (13, 0))), (1, ps_int (nI x.1))]) (fun x => x.2) (fun x => x.1 ≤ tN t ∧ RMB x.2 (t_laN (usC t (uC t + 1)) x.1) ∧ FrB σ x.2) (fun x hx_ ih => ?_) (0, ps_sI σ 13 0 34 (uC t + 1)) ⟨Nat.zero_le _, hB7, FrB.sI (Or.inl ⟨rfl, by decide⟩)⟩
  obtain ⟨i, τ⟩ := x
  obtain ⟨hi, hT, hFr⟩ := hx_
  dsimp only at hi hT hFr ih ⊢
  have h0t := h0.B hFr
  have hK := tL.laN (usC t (uC t + 1)) i
  have hWg : tW (t_laN (usC t (uC t + 1)) i) := hK.1.W (usC_W hW)
  have hDg : tD (t_laN (usC t (uC t + 1)) i) := hK.1.D hI.1
  refine pv_iload_n E d_Mod_pass_12 rfl rfl ?_
  refine pv_aload_n E d_Mod_pass_13 rfl rfl ?_
  refine gf_Mod_scopes E wd_784 d_Mod_pass_14 ?_
  refine pv_top (congrArg ps_int (hT.1.1.trans (congrArg nI (show _ = tN t from hK.1.1.1)))) ?_
  refine pv_icmp_ge (tgt := 66) E d_Mod_pass_17 rfl (fun h17 => ?_) (fun h17 => ?_)
  · skip
    have hi2 : tN t ≤ i := (nI_leI (by omega) (by omega)).mp h17
    have hi3 : i = tN t := by omega
    subst hi3
    refine pv_iconst (v := 0) E d_Mod_pass_66 (by decide) ?_
    refine pv_istore_n E d_Mod_pass_67 rfl (by decide) ?_
    refine pv_iconst (v := 0) E d_Mod_pass_68 (by decide) ?_
    refine pv_istore_n E d_Mod_pass_69 rfl (by decide) ?_
    refine pv_sub (L' := [(0, ps_ref (some (13, 0))), (1, ps_int (nI (u_pcN (t_tick t) 0))), (2, ps_int (nI 0))]) ⟨rfl, rfl, rfl, trivial⟩ ?_
    refine pv_loop (ι := Nat × ps_S) (fun y => uN t - y.1) (fun y => [(0, ps_ref (some (13, 0))), (1, ps_int (nI (u_pcN (t_tick t) y.1))), (2, ps_int (nI y.1))]) (fun y => y.2) (fun y => y.1 ≤ uN t ∧ RMB y.2 (u_psN (t_tick t) y.1) ∧ FrB σ y.2) (fun y hy_ ih2 => ?_) (0, τ) ⟨Nat.zero_le _, hT, hFr⟩
    obtain ⟨j, ρ⟩ := y
    obtain ⟨hj, hQ, hFq⟩ := hy_
    dsimp only at hj hQ hFq ih2 ⊢
    have h0q := h0.B hFq
    have hγW : tW (u_psN (t_tick t) j) := ((tKeep.tick t).W hW).psN j (by rw [(tKeep.tick t).2.1]; exact hj)
    have hγI : tI (u_psN (t_tick t) j) := hI.tick.psN j (by rw [(tKeep.tick t).2.1]; exact hj)
    have hun : uN (u_psN (t_tick t) j) = uN t := (uN_psN _ _).1.trans (tKeep.tick t).2.1
    refine pv_iload_n E d_Mod_pass_70 rfl rfl ?_
    refine pv_aload_n E d_Mod_pass_71 rfl rfl ?_
    refine gf_Mod_tasks E wd_797 d_Mod_pass_72 ?_
    refine pv_top (congrArg ps_int (hQ.2.1.trans (congrArg nI hun))) ?_
    refine pv_icmp_ge (tgt := 126) E d_Mod_pass_75 rfl (fun h75 => ?_) (fun h75 => ?_)
    · skip
      have hj2 : uN t ≤ j := (nI_leI (by omega) (by omega)).mp h75
      have hj3 : j = uN t := by omega
      subst hj3
      refine pv_aload_n E d_Mod_pass_126 rfl rfl ?_
      refine pv_callV E (fun adr => k_Mod_closeAll l D ca A _ (t_pass t) g (hM.B hQ hFq) (hZ0.pass hI) adr) yv_Mod_closeAll wd_1044 rfl rfl (fun _ => ⟨_, rfl⟩) rfl ⟨by decide, by decide⟩ (Nat.le_of_ble_eq_true rfl) d_Mod_pass_127 ⟨by decide, by decide⟩ (fun r127 σ127 hq127 => ?_)
      obtain ⟨hr127, hA127, hY127, ht127, hf127⟩ := hq127
      subst r127
      refine pv_iload_n E d_Mod_pass_130 rfl rfl ?_
      exact pv_iret E hr hlk d_Mod_pass_131 (by decide) (by decide) ⟨rfl, hA127, hY127, ht127.trans hFq.th, (FrM.ofB hFq).tr hf127⟩
    · skip
      have hj2 : j < uN t := Nat.lt_of_not_le (fun z => h75 ((nI_leI (by omega) (by omega)).mpr z))
      have hj30 : j < 30 := by omega
      have hjN : j < uN (u_psN (t_tick t) j) := by rw [hun]; exact hj2
      obtain ⟨r1, r2, r3, r4, r5, r6, r7, r8⟩ := hQ.2.2.2.1 j hjN
      refine pv_aload_n E d_Mod_pass_78 rfl rfl ?_
      refine gf_Mod_how E wd_803 d_Mod_pass_79 ?_
      refine pv_top (congrArg ps_ref (m_f h0q 41 rfl)) ?_
      refine pv_iload_n E d_Mod_pass_82 rfl rfl ?_
      refine pv_iaload (t0 := 6) E 14 _ (fun _ _ _ _ _ => rfl) rfl (m_ix h0q 14 24 (by decide) (by decide) hj30) d_Mod_pass_83 ?_
      refine pv_top (congrArg ps_int ((congrArg (ps_I _ 14 24) (nI_clamp (Nat.lt_trans hj30 (by decide)))).trans r6)) ?_
      refine pv_if_ne (tgt := 120) E d_Mod_pass_84 rfl (fun h84 => ?_) (fun h84 => ?_)
      · skip
        refine pv_inc1 E d_Mod_pass_120 rfl (by decide) ?_
        refine pv_goto (tgt := 70) E d_Mod_pass_123 rfl ?_
        exact pv_back (ih2 (j + 1, ρ) ⟨by show j + 1 ≤ uN t; omega, by show RMB ρ (u_psN (t_tick t) (j + 1)); rw [psN_s, (ps1_no h84).1]; exact hQ, hFq⟩ (by show uN t - (j + 1) < uN t - j; omega)) ⟨rfl, congrArg (fun z : Int32 => some (ps_int z)) (by rw [pcN_s, (ps1_no h84).2]; rfl), congrArg (fun z : Int32 => some (ps_int z)) (nI_1 j), trivial⟩
      · skip
        refine pv_aload_n E d_Mod_pass_87 rfl rfl ?_
        refine gf_Mod_worked E wd_804 d_Mod_pass_88 ?_
        refine pv_top (congrArg ps_ref (m_f h0q 42 rfl)) ?_
        refine pv_iload_n E d_Mod_pass_91 rfl rfl ?_
        refine pv_dup2 E d_Mod_pass_92 rfl rfl ?_
        refine pv_iaload (t0 := 6) E 14 _ (fun _ _ _ _ _ => rfl) rfl (m_ix h0q 14 25 (by decide) (by decide) hj30) d_Mod_pass_93 ?_
        refine pv_top (congrArg ps_int ((congrArg (ps_I _ 14 25) (nI_clamp (Nat.lt_trans hj30 (by decide)))).trans r7)) ?_
        refine pv_iconst (v := 1) E d_Mod_pass_94 (by decide) ?_
        refine pv_iadd E d_Mod_pass_95 ?_
        refine pv_iastore (t0 := 6) E 14 _ (fun _ _ _ _ _ => rfl) rfl (m_ix h0q 14 25 (by decide) (by decide) hj30) d_Mod_pass_96 ?_
        rw [nI_clamp (Nat.lt_trans hj30 (by decide))]
        have hQ1 := hQ.wk (v := uK (u_psN (t_tick t) j) j 5 + 1) hjN
        refine pv_aload_n E d_Mod_pass_97 rfl rfl ?_
        refine gf_Mod_worked E wd_804 d_Mod_pass_98 ?_
        refine pv_top (congrArg ps_ref (m_f h0q 42 rfl)) ?_
        refine pv_iload_n E d_Mod_pass_101 rfl rfl ?_
        refine pv_iaload (t0 := 6) E 14 _ (fun _ _ _ _ _ => rfl) rfl (m_ix h0q 14 25 (by decide) (by decide) hj30) d_Mod_pass_102 ?_
        refine pv_top (congrArg ps_int ((congrArg (ps_I _ 14 25) (nI_clamp (Nat.lt_trans hj30 (by decide)))).trans (ps_I_eq _ _ _ _ _))) ?_
        refine pv_aload_n E d_Mod_pass_103 rfl rfl ?_
        refine gf_Mod_cost E wd_799 d_Mod_pass_104 ?_
        refine pv_top (congrArg ps_ref (m_f h0q 37 rfl)) ?_
        refine pv_iload_n E d_Mod_pass_107 rfl rfl ?_
        refine pv_iaload (t0 := 6) E 14 _ (fun _ _ _ _ _ => rfl) rfl (m_ix h0q 14 20 (by decide) (by decide) hj30) d_Mod_pass_108 ?_
        refine pv_top (congrArg ps_int ((congrArg (ps_I _ 14 20) (nI_clamp (Nat.lt_trans hj30 (by decide)))).trans ((sI_ne (by omega)).trans r2))) ?_
        refine pv_icmp_ne (tgt := 120) E d_Mod_pass_109 rfl (fun h109 => ?_) (fun h109 => ?_)
        · skip
          refine pv_inc1 E d_Mod_pass_120 rfl (by decide) ?_
          refine pv_goto (tgt := 70) E d_Mod_pass_123 rfl ?_
          exact pv_back (ih2 (j + 1, _) ⟨by show j + 1 ≤ uN t; omega, by show RMB _ (u_psN (t_tick t) (j + 1)); rw [psN_s, (ps1_go h84 (Decidable.not_not.mp (fun z => h109 ((wk_cmp hγI hjN h84).mpr z)))).1]; exact hQ1, hFq.tr (FrB.b14 (by decide))⟩ (by show uN t - (j + 1) < uN t - j; omega)) ⟨rfl, congrArg (fun z : Int32 => some (ps_int z)) (by rw [pcN_s, (ps1_go h84 (Decidable.not_not.mp (fun z => h109 ((wk_cmp hγI hjN h84).mpr z)))).2]; rfl), congrArg (fun z : Int32 => some (ps_int z)) (nI_1 j), trivial⟩
        · skip
          refine pv_aload_n E d_Mod_pass_112 rfl rfl ?_
          refine pv_iload_n E d_Mod_pass_113 rfl rfl ?_
          refine pv_callV E (fun adr => k_Mod_end l D ca A _ j (usK (u_psN (t_tick t) j) j 5 (uK (u_psN (t_tick t) j) j 5 + 1)) (h0q.B (FrB.b14 (i := 25) (k := j) (by decide))) hQ1 ((tKeep.sK _ j 5 _ (fun z => absurd z (by decide))).W hγW) hjN (by rw [usK_K, if_neg (by omega)]; exact h84) (by rw [usK_K, if_neg (by omega)]; exact hγI.2.2.1 j hjN) (turn_wk hγI) (hγI.2.2.2.1 j hjN h84).1 adr) yv_Mod_end wd_1076 rfl rfl (fun _ => ⟨_, rfl⟩) rfl ⟨by decide, by decide⟩ (Nat.le_of_ble_eq_true rfl) d_Mod_pass_114 ⟨by decide, by decide⟩ (fun r114 σ114 hq114 => ?_)
          obtain ⟨hr114, hB114, hf114⟩ := hq114
          subst r114
          refine pv_inc1 E d_Mod_pass_117 rfl (by decide) ?_
          refine pv_inc1 E d_Mod_pass_120 rfl (by decide) ?_
          refine pv_goto (tgt := 70) E d_Mod_pass_123 rfl ?_
          exact pv_back (ih2 (j + 1, _) ⟨by show j + 1 ≤ uN t; omega, by show RMB _ (u_psN (t_tick t) (j + 1)); rw [psN_s, (ps1_end h84 ((wk_cmp hγI hjN h84).mp h109)).1]; exact hB114, (hFq.tr (FrB.b14 (by decide))).tr hf114⟩ (by show uN t - (j + 1) < uN t - j; omega)) ⟨rfl, congrArg (fun z : Int32 => some (ps_int z)) (by rw [pcN_s, (ps1_end h84 ((wk_cmp hγI hjN h84).mp h109)).2]; exact nI_1 _), congrArg (fun z : Int32 => some (ps_int z)) (nI_1 j), trivial⟩
  · skip
    have hi2 : i < tN t := Nat.lt_of_not_le (fun z => h17 ((nI_leI (by omega) (by omega)).mpr z))
    have hi12 : i < 12 := by omega
    have hiN : i < tN (t_laN (usC t (uC t + 1)) i) := by rw [hK.1.1.1]; exact hi2
    refine pv_aload_n E d_Mod_pass_20 rfl rfl ?_
    refine pv_iload_n E d_Mod_pass_21 rfl rfl ?_
    refine pv_callV E (fun adr => k_Mod_effective l D ca A _ i (t_laN (usC t (uC t + 1)) i) h0t hT hWg hDg hiN adr) yv_Mod_effective wd_1072 rfl rfl (fun _ => ⟨_, rfl⟩) rfl ⟨by decide, by decide⟩ (Nat.le_of_ble_eq_true rfl) d_Mod_pass_22 ⟨by decide, by decide⟩ (fun r22 σ22 hq22 => ?_)
    obtain ⟨hr22, hs22⟩ := hq22
    subst r22
    subst σ22
    refine pv_istore_n E d_Mod_pass_25 rfl (by decide) ?_
    refine pv_aload_n E d_Mod_pass_26 rfl rfl ?_
    refine gf_Mod_mode E wd_788 d_Mod_pass_27 ?_
    refine pv_top (congrArg ps_ref (m_f h0t 26 rfl)) ?_
    refine pv_iload_n E d_Mod_pass_30 rfl rfl ?_
    refine pv_iaload (t0 := 6) E 14 _ (fun _ _ _ _ _ => rfl) rfl (m_ix h0t 14 14 (by decide) (by decide) hi12) d_Mod_pass_31 ?_
    refine pv_top (congrArg ps_int ((congrArg (ps_I _ 14 14) (nI_clamp (Nat.lt_trans hi12 (by decide)))).trans (hT.1.2.1 i hiN).1.2.2.2.1)) ?_
    refine pv_iconst (v := 2) E d_Mod_pass_32 (by decide) ?_
    refine pv_icmp_eq (tgt := 60) E d_Mod_pass_33 rfl (fun h33 => ?_) (fun h33 => ?_)
    · skip
      refine pv_inc1 E d_Mod_pass_60 rfl (by decide) ?_
      refine pv_goto (tgt := 12) E d_Mod_pass_63 rfl ?_
      exact pv_back (ih (i + 1, τ) ⟨by show i + 1 ≤ tN t; omega, by show RMB τ (t_laN (usC t (uC t + 1)) (i + 1)); rw [laN_s, la1_no (fun z => z.1 h33)]; exact hT, hFr⟩ (by show tN t - (i + 1) < tN t - i; omega)) ⟨rfl, congrArg (fun z : Int32 => some (ps_int z)) (nI_1 i), trivial⟩
    · skip
      refine pv_iload_n E d_Mod_pass_36 rfl rfl ?_
      refine pv_if_lt (tgt := 60) E d_Mod_pass_37 rfl (fun h37 => ?_) (fun h37 => ?_)
      · skip
        refine pv_inc1 E d_Mod_pass_60 rfl (by decide) ?_
        refine pv_goto (tgt := 12) E d_Mod_pass_63 rfl ?_
        exact pv_back (ih (i + 1, τ) ⟨by show i + 1 ≤ tN t; omega, by show RMB τ (t_laN (usC t (uC t + 1)) (i + 1)); rw [laN_s, la1_no (fun z => absurd h37 (Int32.not_lt.mpr ((past_iff hDg hiN).mp z.2).1))]; exact hT, hFr⟩ (by show tN t - (i + 1) < tN t - i; omega)) ⟨rfl, congrArg (fun z : Int32 => some (ps_int z)) (nI_1 i), trivial⟩
      · skip
        refine pv_iload_n E d_Mod_pass_40 rfl rfl ?_
        refine pv_aload_n E d_Mod_pass_41 rfl rfl ?_
        refine gf_Mod_time E wd_796 d_Mod_pass_42 ?_
        refine pv_top (congrArg ps_int hT.2.2.1) ?_
        refine pv_icmp_gt (tgt := 60) E d_Mod_pass_45 rfl (fun h45 => ?_) (fun h45 => ?_)
        · skip
          refine pv_inc1 E d_Mod_pass_60 rfl (by decide) ?_
          refine pv_goto (tgt := 12) E d_Mod_pass_63 rfl ?_
          exact pv_back (ih (i + 1, τ) ⟨by show i + 1 ≤ tN t; omega, by show RMB τ (t_laN (usC t (uC t + 1)) (i + 1)); rw [laN_s, la1_no (fun z => absurd h45 (Int32.not_lt.mpr ((past_iff hDg hiN).mp z.2).2))]; exact hT, hFr⟩ (by show tN t - (i + 1) < tN t - i; omega)) ⟨rfl, congrArg (fun z : Int32 => some (ps_int z)) (nI_1 i), trivial⟩
        · skip
          refine pv_aload_n E d_Mod_pass_48 rfl rfl ?_
          refine pv_iload_n E d_Mod_pass_49 rfl rfl ?_
          refine pv_callV E (fun adr => k_Mod_stop l D ca A _ i (t_laN (usC t (uC t + 1)) i) h0t hT hWg hiN h33 adr) yv_Mod_stop wd_1060 rfl rfl (fun _ => ⟨_, rfl⟩) rfl ⟨by decide, by decide⟩ (Nat.le_of_ble_eq_true rfl) d_Mod_pass_50 ⟨by decide, by decide⟩ (fun r50 σ50 hq50 => ?_)
          obtain ⟨hr50, hB50, hf50⟩ := hq50
          subst r50
          have h0s := h0t.B hf50
          have hi50 : i < tN (t_stop (t_laN (usC t (uC t + 1)) i) i) := by rw [(tKeep.stop (t_laN (usC t (uC t + 1)) i) i).1.1]; exact hiN
          refine pv_aload_n E d_Mod_pass_53 rfl rfl ?_
          refine gf_Mod_late E wd_791 d_Mod_pass_54 ?_
          refine pv_top (congrArg ps_ref (m_f h0s 29 rfl)) ?_
          refine pv_iload_n E d_Mod_pass_57 rfl rfl ?_
          refine pv_iconst (v := 1) E d_Mod_pass_58 (by decide) ?_
          refine pv_bastore (t0 := 7) E 15 _ (fun _ _ _ _ _ => rfl) rfl (m_ix h0s 15 3 (by decide) (by decide) hi12) (rfl) d_Mod_pass_59 ?_
          rw [nI_clamp (Nat.lt_trans hi12 (by decide))]
          have hB59 := hB50.sS (v := 1) hi50 (Or.inr (Or.inr ⟨rfl, rfl, rfl⟩))
          refine pv_inc1 E d_Mod_pass_60 rfl (by decide) ?_
          refine pv_goto (tgt := 12) E d_Mod_pass_63 rfl ?_
          exact pv_back (ih (i + 1, _) ⟨by show i + 1 ≤ tN t; omega, by show RMB _ (t_laN (usC t (uC t + 1)) (i + 1)); rw [laN_s, la1_yes h33 ((past_iff hDg hiN).mpr ⟨Int32.not_lt.mp h37, Int32.not_lt.mp h45⟩)]; exact hB59, (hFr.tr hf50).tr (FrB.b15 (by decide))⟩ (by show tN t - (i + 1) < tN t - i; omega)) ⟨rfl, congrArg (fun z : Int32 => some (ps_int z)) (nI_1 i), trivial⟩
set_option maxHeartbeats 8000000 in
set_option maxRecDepth 100000 in
theorem k_Mod_tick_b (l : Launch) (D : va_G) (ca : Nat → ClassId) (A : Nat → Prop) (σ : ps_S) (n : Int32) (t : tT) (g : gT) (hM : RM σ t g 0) (hb : n_bad n) : ∀ adr, ps_M l y_Mod_tick c_Mod_tick 4 (Option.some Jvm.ClassFile.FieldType.int) { frames := 11, cells := 0, slots := 0, locals := 251 } D ca A adr σ [ps_ref (some (13, 0)), ps_int n] (fun rv σ' => rv = some (ps_int (-1)) ∧ RM σ' t g 0 ∧ ps_I σ' 13 0 0 = 0 ∧ FrM σ σ') := by
  intro adr
  refine ps_M.of (by decide +kernel) (Nat.le_of_ble_eq_true rfl) ?_
  intro p_ e_ s_ m_ args_ below_ meth_ c_ E hr hlk hnm
  refine pv_aload_n E d_Mod_tick_0 rfl rfl ?_
  refine pv_iconst (v := 0) E d_Mod_tick_1 (by decide) ?_
  refine pf_Mod_thrown E wd_762 d_Mod_tick_2 ?_
  refine pv_iload_n E d_Mod_tick_5 rfl rfl ?_
  refine pv_if_lt (tgt := 15) E d_Mod_tick_6 rfl (fun h6 => ?_) (fun h6 => ?_)
  · skip
    refine pv_iconst (v := -1) E d_Mod_tick_15 (by decide) ?_
    exact pv_iret E hr hlk d_Mod_tick_16 (by decide) (by decide) ⟨rfl, hM.th, ps_I_eq _ _ _ _ _, FrM.th⟩
  · skip
    refine pv_iload_n E d_Mod_tick_9 rfl rfl ?_
    refine pv_bipush (v := 60) E d_Mod_tick_10 (by decide) ?_
    refine pv_icmp_le (tgt := 17) E d_Mod_tick_12 rfl (fun h12 => ?_) (fun h12 => ?_)
    · skip
      exact absurd h12 (Int32.not_le.mpr (hb.resolve_left h6))
    · skip
      refine pv_iconst (v := -1) E d_Mod_tick_15 (by decide) ?_
      exact pv_iret E hr hlk d_Mod_tick_16 (by decide) (by decide) ⟨rfl, hM.th, ps_I_eq _ _ _ _ _, FrM.th⟩
set_option maxHeartbeats 8000000 in
set_option maxRecDepth 100000 in
theorem k_Mod_tick_0 (l : Launch) (D : va_G) (ca : Nat → ClassId) (A : Nat → Prop) (σ : ps_S) (n : Int32) (t : tT) (g : gT) (hM : RM σ t g 0) (hZ0 : zI t g) (hI0 : tI t) (hY0 : gY g) (hb : ¬ n_bad n) : ∀ adr, ps_M l y_Mod_tick c_Mod_tick 4 (Option.some Jvm.ClassFile.FieldType.int) { frames := 11, cells := 0, slots := 0, locals := 251 } D ca A adr σ [ps_ref (some (13, 0)), ps_int n] (fun rv σ' => rv = some (ps_int (nI (x_tkc n.toNatClampNeg (t, g)))) ∧ RM σ' (x_tkN n.toNatClampNeg (t, g)).1 (x_tkN n.toNatClampNeg (t, g)).2 0 ∧ gY (x_tkN n.toNatClampNeg (t, g)).2 ∧ zI (x_tkN n.toNatClampNeg (t, g)).1 (x_tkN n.toNatClampNeg (t, g)).2 ∧ tI (x_tkN n.toNatClampNeg (t, g)).1 ∧ ps_I σ' 13 0 0 = 0 ∧ FrM σ σ') := by
  intro adr
  refine ps_M.of (by decide +kernel) (Nat.le_of_ble_eq_true rfl) ?_
  intro p_ e_ s_ m_ args_ below_ meth_ c_ E hr hlk hnm
  have h0 := hM.1
  obtain ⟨hn1, hn2⟩ := nI_of60 (fun z => hb (Or.inl z)) (fun z => hb (Or.inr z))
  refine pv_aload_n E d_Mod_tick_0 rfl rfl ?_
  refine pv_iconst (v := 0) E d_Mod_tick_1 (by decide) ?_
  refine pf_Mod_thrown E wd_762 d_Mod_tick_2 ?_
  refine pv_iload_n E d_Mod_tick_5 rfl rfl ?_
  refine pv_if_lt (tgt := 15) E d_Mod_tick_6 rfl (fun h6 => ?_) (fun h6 => ?_)
  · skip
    exact absurd (Or.inl h6) hb
  · skip
    refine pv_iload_n E d_Mod_tick_9 rfl rfl ?_
    refine pv_bipush (v := 60) E d_Mod_tick_10 (by decide) ?_
    refine pv_icmp_le (tgt := 17) E d_Mod_tick_12 rfl (fun h12 => ?_) (fun h12 => ?_)
    · skip
      refine pv_iconst (v := 0) E d_Mod_tick_17 (by decide) ?_
      refine pv_istore_n E d_Mod_tick_18 rfl (by decide) ?_
      refine pv_iconst (v := 0) E d_Mod_tick_19 (by decide) ?_
      refine pv_istore_n E d_Mod_tick_20 rfl (by decide) ?_
      refine pv_sub (L' := [(0, ps_ref (some (13, 0))), (1, ps_int (nI n.toNatClampNeg)), (2, ps_int (nI 0)), (3, ps_int (nI 0))]) ⟨rfl, congrArg (fun z : Int32 => some (ps_int z)) hn1, rfl, rfl, trivial⟩ ?_
      refine pv_loop (ι := Nat × Nat × ps_S × (tT × gT)) (fun y => n.toNatClampNeg - y.1) (fun y => [(0, ps_ref (some (13, 0))), (1, ps_int (nI n.toNatClampNeg)), (2, ps_int (nI y.2.1)), (3, ps_int (nI y.1))]) (fun y => y.2.2.1) (fun y => y.1 ≤ n.toNatClampNeg ∧ RM y.2.2.1 y.2.2.2.1 y.2.2.2.2 0 ∧ zI y.2.2.2.1 y.2.2.2.2 ∧ tI y.2.2.2.1 ∧ gY y.2.2.2.2 ∧ x_tkN n.toNatClampNeg (t, g) = x_tkN (n.toNatClampNeg - y.1) y.2.2.2 ∧ x_tkc n.toNatClampNeg (t, g) = y.2.1 + x_tkc (n.toNatClampNeg - y.1) y.2.2.2 ∧ FrM σ y.2.2.1 ∧ ps_I y.2.2.1 13 0 0 = 0) (fun y hy_ ih => ?_) (0, 0, ps_sI σ 13 0 0 0, (t, g)) ⟨Nat.zero_le _, hM.th, hZ0, hI0, hY0, rfl, (Nat.zero_add _).symm, FrM.th, ps_I_eq _ _ _ _ _⟩
      obtain ⟨k, e, τ, x⟩ := y
      obtain ⟨hk, hT, hZ, hI, hY, hx, hc, hFr, hth⟩ := hy_
      dsimp only at hk hT hZ hI hY hx hc hFr hth ih ⊢
      refine pv_iload_n E d_Mod_tick_21 rfl rfl ?_
      refine pv_iload_n E d_Mod_tick_22 rfl rfl ?_
      refine pv_icmp_ge (tgt := 39) E d_Mod_tick_23 rfl (fun h23 => ?_) (fun h23 => ?_)
      · skip
        have hk2 : n.toNatClampNeg ≤ k := (nI_leI (by omega) (by omega)).mp h23
        have hk3 : n.toNatClampNeg - k = 0 := by omega
        rw [hk3] at hx hc
        refine pv_iload_n E d_Mod_tick_39 rfl rfl ?_
        exact pv_iret E hr hlk d_Mod_tick_40 (by decide) (by decide) ⟨by rw [hc]; rfl, by rw [hx]; exact hT, by rw [hx]; exact hY, by rw [hx]; exact hZ, by rw [hx]; exact hI, hth, hFr⟩
      · skip
        have hk2 : k < n.toNatClampNeg := Nat.lt_of_not_le (fun z => h23 ((nI_leI (by omega) (by omega)).mpr z))
        have hk3 : n.toNatClampNeg - k = (n.toNatClampNeg - (k + 1)) + 1 := by omega
        rw [hk3] at hx hc
        refine pv_iload_n E d_Mod_tick_26 rfl rfl ?_
        refine pv_aload_n E d_Mod_tick_27 rfl rfl ?_
        refine pv_callV E (fun adr => k_Mod_pass l D ca A _ x.1 x.2 hT hZ hI adr) yv_Mod_pass wd_1068 rfl rfl (fun _ => ⟨_, rfl⟩) rfl ⟨by decide, by decide⟩ (Nat.le_of_ble_eq_true rfl) d_Mod_tick_28 ⟨by decide, by decide⟩ (fun r28 σ28 hq28 => ?_)
        obtain ⟨hr28, hA28, hY28, ht28, hf28⟩ := hq28
        subst r28
        refine pv_iadd E d_Mod_tick_31 ?_
        refine pv_top (congrArg ps_int (nI_add _ _)) ?_
        refine pv_istore_n E d_Mod_tick_32 rfl (by decide) ?_
        refine pv_inc1 E d_Mod_tick_33 rfl (by decide) ?_
        refine pv_goto (tgt := 21) E d_Mod_tick_36 rfl ?_
        exact pv_back (ih (k + 1, e + u_pcN (t_tick x.1) (uN x.1), σ28, x_tick1 x) ⟨by show k + 1 ≤ n.toNatClampNeg; omega, hA28, (hZ.pass hI).close hY28, hI.pass.close, hY28, hx, hc.trans (Nat.add_assoc _ _ _).symm, hFr.tr hf28, ht28.trans hth⟩ (by show n.toNatClampNeg - (k + 1) < n.toNatClampNeg - k; omega)) ⟨rfl, rfl, rfl, congrArg (fun z : Int32 => some (ps_int z)) (nI_1 k), trivial⟩
    · skip
      exact absurd (Or.inr (Int32.not_le.mp h12)) hb
