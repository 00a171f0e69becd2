theorem RMB.id {σ : ps_S} {t : tT} {κ i j : Nat} {v : Int32} (h : RMB σ t) (hv : ps_I σ κ i j = v) : RMB (ps_sI σ κ i j v) t := by
  have e : ∀ a b c, ps_I (ps_sI σ κ i j v) a b c = ps_I σ a b c := by
    intro a b c
    rw [ps_I_sI]
    by_cases hz : a = κ ∧ b = i ∧ c = j
    · rw [if_pos hz, hz.1, hz.2.1, hz.2.2, hv]
    · rw [if_neg hz]
  unfold RMB RMS RMK RMs RMk at h ⊢
  simp only [e]
  exact h
theorem tS_can (t : tT) (c : Nat) : ∀ m, tS (u_can t c m) = tS t
  | 0 => rfl
  | m + 1 => by
    rw [u_can]
    split
    · exact tS_can t c m
    · exact tS_can t c m
theorem st_mode (t : tT) (c : Nat) : ∀ m a, tS (t_stN t c m) a 2 = tS t a 2
  | 0, _ => rfl
  | m + 1, a => by
    rw [t_stN, t_st1]
    split
    · rw [tS_can, tsS_S, if_neg (by omega)]
      exact st_mode t c m a
    · exact st_mode t c m a
set_option maxHeartbeats 8000000 in
set_option maxRecDepth 100000 in
theorem k_Mod_stop (l : Launch) (D : va_G) (ca : Nat → ClassId) (A : Nat → Prop) (σ : ps_S) (c : Nat) (t : tT) (h0 : RM0 σ) (hB : RMB σ t) (hW : tW t) (hc : c < tN t) (hcl : ¬ tS t c 2 = 2) : ∀ adr, ps_M l y_Mod_stop c_Mod_stop 4 (Option.none : Option Jvm.ClassFile.FieldType) { frames := 1, cells := 0, slots := 0, locals := 23 } D ca A adr σ [ps_ref (some (13, 0)), ps_int (nI c)] (fun rv σ' => rv = none ∧ RMB σ' (t_stop t c) ∧ FrB σ σ') := by
  intro adr
  refine ps_M.of (by decide +kernel) (Nat.le_of_ble_eq_true rfl) ?_
  intro p_ e_ s_ m_ args_ below_ meth_ c_ E hr hlk hnm
  have hw12 := hW.1.1
  have hu30 := hW.1.2
  refine pv_iconst (v := 0) E d_Mod_stop_0 (by decide) ?_
  refine pv_istore_n E d_Mod_stop_1 rfl (by decide) ?_
  refine pv_sub (L' := [(0, ps_ref (some (13, 0))), (1, ps_int (nI c)), (2, ps_int (nI 0))]) ⟨rfl, rfl, rfl, trivial⟩ ?_
  refine pv_loop (ι := Nat × ps_S) (fun x => tN t - x.1) (fun x => [(0, ps_ref (some (13, 0))), (1, ps_int (nI c)), (2, ps_int (nI x.1))]) (fun x => x.2) (fun x => x.1 ≤ tN t ∧ RMB x.2 (t_stN t c x.1) ∧ FrB σ x.2) (fun x hx_ ih => ?_) (0, σ) ⟨Nat.zero_le _, hB, FrB.rf σ⟩
  obtain ⟨i, τ⟩ := x
  obtain ⟨hi, hT, hFr⟩ := hx_
  dsimp only at hi hT hFr ih ⊢
  have h0t := h0.B hFr
  have hK := tKeep.stN t c i
  refine pv_iload_n E d_Mod_stop_2 rfl rfl ?_
  refine pv_aload_n E d_Mod_stop_3 rfl rfl ?_
  refine gf_Mod_scopes E wd_784 d_Mod_stop_4 ?_
  refine pv_top (congrArg ps_int (hT.1.1.trans (congrArg nI hK.1.1))) ?_
  refine pv_icmp_ge (tgt := 98) E d_Mod_stop_7 rfl (fun h7 => ?_) (fun h7 => ?_)
  · skip
    have hi2 : tN t ≤ i := (nI_leI (by omega) (by omega)).mp h7
    have hi3 : i = tN t := by omega
    subst hi3
    exact pv_vret E hr hlk d_Mod_stop_98 (by decide) (by decide) ⟨rfl, hT, hFr⟩
  · skip
    have hi2 : i < tN t := Nat.lt_of_not_le (fun z => h7 ((nI_leI (by omega) (by omega)).mpr z))
    have hi12 : i < 12 := by omega
    have hiN : i < tN (t_stN t c i) := by rw [hK.1.1]; exact hi2
    have hcN : c < tN (t_stN t c i) := by rw [hK.1.1]; exact hc
    refine pv_aload_n E d_Mod_stop_10 rfl rfl ?_
    refine gf_Mod_mode E wd_788 d_Mod_stop_11 ?_
    refine pv_top (congrArg ps_ref (m_f h0t 26 rfl)) ?_
    refine pv_iload_n E d_Mod_stop_14 rfl rfl ?_
    refine pv_iaload (t0 := 6) E 14 _ (fun _ _ _ _ _ => rfl) rfl (m_ix h0t 14 14 (by decide) (by decide) hi12) d_Mod_stop_15 ?_
    refine pv_top (congrArg ps_int ((congrArg (ps_I _ 14 14) (nI_clamp (Nat.lt_trans hi12 (by decide)))).trans (hT.1.2.1 i hiN).1.2.2.2.1)) ?_
    refine pv_iconst (v := 2) E d_Mod_stop_16 (by decide) ?_
    refine pv_icmp_eq (tgt := 92) E d_Mod_stop_17 rfl (fun h17 => ?_) (fun h17 => ?_)
    · skip
      refine pv_inc1 E d_Mod_stop_92 rfl (by decide) ?_
      refine pv_goto (tgt := 2) E d_Mod_stop_95 rfl ?_
      exact pv_back (ih (i + 1, τ) ⟨by show i + 1 ≤ tN t; omega, by show RMB τ (t_st1 (t_stN t c i) c i); rw [t_st1, if_neg (fun z => z.elim (fun y => hcl ((st_mode t c i c).symm.trans (y ▸ h17))) (fun y => y.1 h17))]; exact hT, hFr⟩ (by show tN t - (i + 1) < tN t - i; omega)) ⟨rfl, rfl, congrArg (fun z : Int32 => some (ps_int z)) (nI_1 i), trivial⟩
    · skip
      refine pv_iload_n E d_Mod_stop_20 rfl rfl ?_
      refine pv_iload_n E d_Mod_stop_21 rfl rfl ?_
      refine pv_icmp_eq (tgt := 34) E d_Mod_stop_22 rfl (fun h22 => ?_) (fun h22 => ?_)
      · skip
        have hic : i = c := (nI_eq (by omega) (by omega)).mp h22
        refine pv_aload_n E d_Mod_stop_34 rfl rfl ?_
        refine gf_Mod_stopped E wd_790 d_Mod_stop_35 ?_
        refine pv_top (congrArg ps_ref (m_f h0t 28 rfl)) ?_
        refine pv_iload_n E d_Mod_stop_38 rfl rfl ?_
        refine pv_iconst (v := 1) E d_Mod_stop_39 (by decide) ?_
        refine pv_bastore (t0 := 7) E 15 _ (fun _ _ _ _ _ => rfl) rfl (m_ix h0t 15 2 (by decide) (by decide) hi12) (rfl) d_Mod_stop_40 ?_
        rw [nI_clamp (Nat.lt_trans hi12 (by decide))]
        have hT1 := hT.sS (v := 1) hiN (Or.inr (Or.inl ⟨rfl, rfl, rfl⟩))
        refine pv_iconst (v := 0) E d_Mod_stop_41 (by decide) ?_
        refine pv_istore_n E d_Mod_stop_42 rfl (by decide) ?_
        refine pv_sub (L' := [(0, ps_ref (some (13, 0))), (1, ps_int (nI c)), (2, ps_int (nI i)), (3, ps_int (nI 0))]) ⟨rfl, rfl, rfl, rfl, trivial⟩ ?_
        refine pv_loop (ι := Nat × ps_S) (fun y => uN t - y.1) (fun y => [(0, ps_ref (some (13, 0))), (1, ps_int (nI c)), (2, ps_int (nI i)), (3, ps_int (nI y.1))]) (fun y => y.2) (fun y => y.1 ≤ uN t ∧ RMB y.2 (u_can (tsS (t_stN t c i) i 3 1) i y.1) ∧ FrB σ y.2) (fun y hy_ ih2 => ?_) (0, ps_sI τ 15 2 i 1) ⟨Nat.zero_le _, hT1, hFr.tr (FrB.b15 (by decide))⟩
        obtain ⟨j, ρ⟩ := y
        obtain ⟨hj, hQ, hFq⟩ := hy_
        dsimp only at hj hQ hFq ih2 ⊢
        have h0q := h0.B hFq
        have hKj := (hK.tr (tKeep.sS (t_stN t c i) i 3 1 (by omega))).tr (tKeep.can (tsS (t_stN t c i) i 3 1) i j)
        refine pv_iload_n E d_Mod_stop_43 rfl rfl ?_
        refine pv_aload_n E d_Mod_stop_44 rfl rfl ?_
        refine gf_Mod_tasks E wd_797 d_Mod_stop_45 ?_
        refine pv_top (congrArg ps_int (hQ.2.1.trans (congrArg nI hKj.2.1))) ?_
        refine pv_icmp_ge (tgt := 92) E d_Mod_stop_48 rfl (fun h48 => ?_) (fun h48 => ?_)
        · skip
          have hj2 : uN t ≤ j := (nI_leI (by omega) (by omega)).mp h48
          have hj3 : j = uN t := by omega
          subst hj3
          refine pv_inc1 E d_Mod_stop_92 rfl (by decide) ?_
          refine pv_goto (tgt := 2) E d_Mod_stop_95 rfl ?_
          exact pv_back (ih (i + 1, ρ) ⟨by show i + 1 ≤ tN t; omega, by show RMB ρ (t_st1 (t_stN t c i) c i); rw [t_st1, if_pos (Or.inl hic), hK.2.1]; exact hQ, hFq⟩ (by show tN t - (i + 1) < tN t - i; omega)) ⟨rfl, rfl, congrArg (fun z : Int32 => some (ps_int z)) (nI_1 i), trivial⟩
        · skip
          have hj2 : j < uN t := Nat.lt_of_not_le (fun z => h48 ((nI_leI (by omega) (by omega)).mpr z))
          have hj30 : j < 30 := by omega
          have hjN : j < uN (u_can (tsS (t_stN t c i) i 3 1) i j) := by rw [hKj.2.1]; exact hj2
          obtain ⟨r1, r2, r3, r4, r5, r6, r7, r8⟩ := hQ.2.2.2.1 j hjN
          have hoj := (hKj.W hW).2.2.1 j hjN
          rw [hKj.1.1] at hoj
          refine pv_aload_n E d_Mod_stop_51 rfl rfl ?_
          refine gf_Mod_how E wd_803 d_Mod_stop_52 ?_
          refine pv_top (congrArg ps_ref (m_f h0q 41 rfl)) ?_
          refine pv_iload_n E d_Mod_stop_55 rfl rfl ?_
          refine pv_aload_n E d_Mod_stop_56 rfl rfl ?_
          refine gf_Mod_home E wd_798 d_Mod_stop_57 ?_
          refine pv_top (congrArg ps_ref (m_f h0q 36 rfl)) ?_
          refine pv_iload_n E d_Mod_stop_60 rfl rfl ?_
          refine pv_iaload (t0 := 6) E 14 _ (fun _ _ _ _ _ => rfl) rfl (m_ix h0q 14 19 (by decide) (by decide) hj30) d_Mod_stop_61 ?_
          refine pv_top (congrArg ps_int ((congrArg (ps_I _ 14 19) (nI_clamp (Nat.lt_trans hj30 (by decide)))).trans r1)) ?_
          refine pv_iload_n E d_Mod_stop_62 rfl rfl ?_
          refine pv_icmp_ne (tgt := 79) E d_Mod_stop_63 rfl (fun h63 => ?_) (fun h63 => ?_)
          · skip
            have hne : ¬ uO (u_can (tsS (t_stN t c i) i 3 1) i j) j = i := fun z => h63 (by rw [z])
            refine pv_aload_n E d_Mod_stop_79 rfl rfl ?_
            refine gf_Mod_how E wd_803 d_Mod_stop_80 ?_
            refine pv_top (congrArg ps_ref (m_f h0q 41 rfl)) ?_
            refine pv_iload_n E d_Mod_stop_83 rfl rfl ?_
            refine pv_iaload (t0 := 6) E 14 _ (fun _ _ _ _ _ => rfl) rfl (m_ix h0q 14 24 (by decide) (by decide) hj30) d_Mod_stop_84 ?_
            refine pv_top (congrArg ps_int ((congrArg (ps_I _ 14 24) (nI_clamp (Nat.lt_trans hj30 (by decide)))).trans r6)) ?_
            refine pv_iastore (t0 := 6) E 14 _ (fun _ _ _ _ _ => rfl) rfl (m_ix h0q 14 24 (by decide) (by decide) hj30) d_Mod_stop_85 ?_
            rw [nI_clamp (Nat.lt_trans hj30 (by decide))]
            refine pv_inc1 E d_Mod_stop_86 rfl (by decide) ?_
            refine pv_goto (tgt := 43) E d_Mod_stop_89 rfl ?_
            exact pv_back (ih2 (j + 1, _) ⟨by show j + 1 ≤ uN t; omega, by show RMB _ (u_can (tsS (t_stN t c i) i 3 1) i (j + 1)); rw [u_can, if_neg (fun z => hne z.1)]; exact hQ.id r6, hFq.tr (FrB.b14 (by decide))⟩ (by show uN t - (j + 1) < uN t - j; omega)) ⟨rfl, rfl, rfl, congrArg (fun z : Int32 => some (ps_int z)) (nI_1 j), trivial⟩
          · skip
            have heq : uO (u_can (tsS (t_stN t c i) i 3 1) i j) j = i := (nI_eq (by omega) (by omega)).mp h63
            refine pv_aload_n E d_Mod_stop_66 rfl rfl ?_
            refine gf_Mod_how E wd_803 d_Mod_stop_67 ?_
            refine pv_top (congrArg ps_ref (m_f h0q 41 rfl)) ?_
            refine pv_iload_n E d_Mod_stop_70 rfl rfl ?_
            refine pv_iaload (t0 := 6) E 14 _ (fun _ _ _ _ _ => rfl) rfl (m_ix h0q 14 24 (by decide) (by decide) hj30) d_Mod_stop_71 ?_
            refine pv_top (congrArg ps_int ((congrArg (ps_I _ 14 24) (nI_clamp (Nat.lt_trans hj30 (by decide)))).trans r6)) ?_
            refine pv_if_ne (tgt := 79) E d_Mod_stop_72 rfl (fun h72 => ?_) (fun h72 => ?_)
            · skip
              refine pv_aload_n E d_Mod_stop_79 rfl rfl ?_
              refine gf_Mod_how E wd_803 d_Mod_stop_80 ?_
              refine pv_top (congrArg ps_ref (m_f h0q 41 rfl)) ?_
              refine pv_iload_n E d_Mod_stop_83 rfl rfl ?_
              refine pv_iaload (t0 := 6) E 14 _ (fun _ _ _ _ _ => rfl) rfl (m_ix h0q 14 24 (by decide) (by decide) hj30) d_Mod_stop_84 ?_
              refine pv_top (congrArg ps_int ((congrArg (ps_I _ 14 24) (nI_clamp (Nat.lt_trans hj30 (by decide)))).trans r6)) ?_
              refine pv_iastore (t0 := 6) E 14 _ (fun _ _ _ _ _ => rfl) rfl (m_ix h0q 14 24 (by decide) (by decide) hj30) d_Mod_stop_85 ?_
              rw [nI_clamp (Nat.lt_trans hj30 (by decide))]
              refine pv_inc1 E d_Mod_stop_86 rfl (by decide) ?_
              refine pv_goto (tgt := 43) E d_Mod_stop_89 rfl ?_
              exact pv_back (ih2 (j + 1, _) ⟨by show j + 1 ≤ uN t; omega, by show RMB _ (u_can (tsS (t_stN t c i) i 3 1) i (j + 1)); rw [u_can, if_neg (fun z => h72 z.2)]; exact hQ.id r6, hFq.tr (FrB.b14 (by decide))⟩ (by show uN t - (j + 1) < uN t - j; omega)) ⟨rfl, rfl, rfl, congrArg (fun z : Int32 => some (ps_int z)) (nI_1 j), trivial⟩
            · skip
              refine pv_iconst (v := 3) E d_Mod_stop_75 (by decide) ?_
              refine pv_goto (tgt := 85) E d_Mod_stop_76 rfl ?_
              refine pv_iastore (t0 := 6) E 14 _ (fun _ _ _ _ _ => rfl) rfl (m_ix h0q 14 24 (by decide) (by decide) hj30) d_Mod_stop_85 ?_
              rw [nI_clamp (Nat.lt_trans hj30 (by decide))]
              refine pv_inc1 E d_Mod_stop_86 rfl (by decide) ?_
              refine pv_goto (tgt := 43) E d_Mod_stop_89 rfl ?_
              exact pv_back (ih2 (j + 1, _) ⟨by show j + 1 ≤ uN t; omega, by show RMB _ (u_can (tsS (t_stN t c i) i 3 1) i (j + 1)); rw [u_can, if_pos ⟨heq, h72⟩]; exact hQ.can hjN h72, hFq.tr (FrB.b14 (by decide))⟩ (by show uN t - (j + 1) < uN t - j; omega)) ⟨rfl, rfl, rfl, congrArg (fun z : Int32 => some (ps_int z)) (nI_1 j), trivial⟩
      · skip
        have hic : ¬ i = c := fun z => h22 (by rw [z])
        refine pv_aload_n E d_Mod_stop_25 rfl rfl ?_
        refine pv_iload_n E d_Mod_stop_26 rfl rfl ?_
        refine pv_iload_n E d_Mod_stop_27 rfl rfl ?_
        refine pv_callV E (fun adr => k_Mod_below l D ca A _ i c (t_stN t c i) h0t hT (hK.W hW) hiN hcN adr) yv_Mod_below wd_1040 rfl rfl (fun _ => ⟨_, rfl⟩) rfl ⟨by decide, by decide⟩ (Nat.le_of_ble_eq_true rfl) d_Mod_stop_28 ⟨by decide, by decide⟩ (fun r28 σ28 hq28 => ?_)
        obtain ⟨hr28, hs28⟩ := hq28
        subst r28
        subst σ28
        refine pv_if_eq (tgt := 92) E d_Mod_stop_31 rfl (fun h31 => ?_) (fun h31 => ?_)
        · skip
          refine pv_inc1 E d_Mod_stop_92 rfl (by decide) ?_
          refine pv_goto (tgt := 2) E d_Mod_stop_95 rfl ?_
          exact pv_back (ih (i + 1, τ) ⟨by show i + 1 ≤ tN t; omega, by show RMB τ (t_st1 (t_stN t c i) c i); rw [t_st1, if_neg (fun z => z.elim hic (fun y => if10 h31 y.2))]; exact hT, hFr⟩ (by show tN t - (i + 1) < tN t - i; omega)) ⟨rfl, rfl, congrArg (fun z : Int32 => some (ps_int z)) (nI_1 i), trivial⟩
        · skip
          refine pv_aload_n E d_Mod_stop_34 rfl rfl ?_
          refine gf_Mod_stopped E wd_790 d_Mod_stop_35 ?_
          refine pv_top (congrArg ps_ref (m_f h0t 28 rfl)) ?_
          refine pv_iload_n E d_Mod_stop_38 rfl rfl ?_
          refine pv_iconst (v := 1) E d_Mod_stop_39 (by decide) ?_
          refine pv_bastore (t0 := 7) E 15 _ (fun _ _ _ _ _ => rfl) rfl (m_ix h0t 15 2 (by decide) (by decide) hi12) (rfl) d_Mod_stop_40 ?_
          rw [nI_clamp (Nat.lt_trans hi12 (by decide))]
          have hT1 := hT.sS (v := 1) hiN (Or.inr (Or.inl ⟨rfl, rfl, rfl⟩))
          refine pv_iconst (v := 0) E d_Mod_stop_41 (by decide) ?_
          refine pv_istore_n E d_Mod_stop_42 rfl (by decide) ?_
          refine pv_sub (L' := [(0, ps_ref (some (13, 0))), (1, ps_int (nI c)), (2, ps_int (nI i)), (3, ps_int (nI 0))]) ⟨rfl, rfl, rfl, rfl, trivial⟩ ?_
          refine pv_loop (ι := Nat × ps_S) (fun y => uN t - y.1) (fun y => [(0, ps_ref (some (13, 0))), (1, ps_int (nI c)), (2, ps_int (nI i)), (3, ps_int (nI y.1))]) (fun y => y.2) (fun y => y.1 ≤ uN t ∧ RMB y.2 (u_can (tsS (t_stN t c i) i 3 1) i y.1) ∧ FrB σ y.2) (fun y hy_ ih2 => ?_) (0, ps_sI τ 15 2 i 1) ⟨Nat.zero_le _, hT1, hFr.tr (FrB.b15 (by decide))⟩
          obtain ⟨j, ρ⟩ := y
          obtain ⟨hj, hQ, hFq⟩ := hy_
          dsimp only at hj hQ hFq ih2 ⊢
          have h0q := h0.B hFq
          have hKj := (hK.tr (tKeep.sS (t_stN t c i) i 3 1 (by omega))).tr (tKeep.can (tsS (t_stN t c i) i 3 1) i j)
          refine pv_iload_n E d_Mod_stop_43 rfl rfl ?_
          refine pv_aload_n E d_Mod_stop_44 rfl rfl ?_
          refine gf_Mod_tasks E wd_797 d_Mod_stop_45 ?_
          refine pv_top (congrArg ps_int (hQ.2.1.trans (congrArg nI hKj.2.1))) ?_
          refine pv_icmp_ge (tgt := 92) E d_Mod_stop_48 rfl (fun h48 => ?_) (fun h48 => ?_)
          · skip
            have hj2 : uN t ≤ j := (nI_leI (by omega) (by omega)).mp h48
            have hj3 : j = uN t := by omega
            subst hj3
            refine pv_inc1 E d_Mod_stop_92 rfl (by decide) ?_
            refine pv_goto (tgt := 2) E d_Mod_stop_95 rfl ?_
            exact pv_back (ih (i + 1, ρ) ⟨by show i + 1 ≤ tN t; omega, by show RMB ρ (t_st1 (t_stN t c i) c i); rw [t_st1, if_pos (Or.inr ⟨h17, if10n h31⟩), hK.2.1]; exact hQ, hFq⟩ (by show tN t - (i + 1) < tN t - i; omega)) ⟨rfl, rfl, congrArg (fun z : Int32 => some (ps_int z)) (nI_1 i), trivial⟩
          · skip
            have hj2 : j < uN t := Nat.lt_of_not_le (fun z => h48 ((nI_leI (by omega) (by omega)).mpr z))
            have hj30 : j < 30 := by omega
            have hjN : j < uN (u_can (tsS (t_stN t c i) i 3 1) i j) := by rw [hKj.2.1]; exact hj2
            obtain ⟨r1, r2, r3, r4, r5, r6, r7, r8⟩ := hQ.2.2.2.1 j hjN
            have hoj := (hKj.W hW).2.2.1 j hjN
            rw [hKj.1.1] at hoj
            refine pv_aload_n E d_Mod_stop_51 rfl rfl ?_
            refine gf_Mod_how E wd_803 d_Mod_stop_52 ?_
            refine pv_top (congrArg ps_ref (m_f h0q 41 rfl)) ?_
            refine pv_iload_n E d_Mod_stop_55 rfl rfl ?_
            refine pv_aload_n E d_Mod_stop_56 rfl rfl ?_
            refine gf_Mod_home E wd_798 d_Mod_stop_57 ?_
            refine pv_top (congrArg ps_ref (m_f h0q 36 rfl)) ?_
            refine pv_iload_n E d_Mod_stop_60 rfl rfl ?_
            refine pv_iaload (t0 := 6) E 14 _ (fun _ _ _ _ _ => rfl) rfl (m_ix h0q 14 19 (by decide) (by decide) hj30) d_Mod_stop_61 ?_
            refine pv_top (congrArg ps_int ((congrArg (ps_I _ 14 19) (nI_clamp (Nat.lt_trans hj30 (by decide)))).trans r1)) ?_
            refine pv_iload_n E d_Mod_stop_62 rfl rfl ?_
            refine pv_icmp_ne (tgt := 79) E d_Mod_stop_63 rfl (fun h63 => ?_) (fun h63 => ?_)
            · skip
              have hne : ¬ uO (u_can (tsS (t_stN t c i) i 3 1) i j) j = i := fun z => h63 (by rw [z])
              refine pv_aload_n E d_Mod_stop_79 rfl rfl ?_
              refine gf_Mod_how E wd_803 d_Mod_stop_80 ?_
              refine pv_top (congrArg ps_ref (m_f h0q 41 rfl)) ?_
              refine pv_iload_n E d_Mod_stop_83 rfl rfl ?_
              refine pv_iaload (t0 := 6) E 14 _ (fun _ _ _ _ _ => rfl) rfl (m_ix h0q 14 24 (by decide) (by decide) hj30) d_Mod_stop_84 ?_
              refine pv_top (congrArg ps_int ((congrArg (ps_I _ 14 24) (nI_clamp (Nat.lt_trans hj30 (by decide)))).trans r6)) ?_
              refine pv_iastore (t0 := 6) E 14 _ (fun _ _ _ _ _ => rfl) rfl (m_ix h0q 14 24 (by decide) (by decide) hj30) d_Mod_stop_85 ?_
              rw [nI_clamp (Nat.lt_trans hj30 (by decide))]
              refine pv_inc1 E d_Mod_stop_86 rfl (by decide) ?_
              refine pv_goto (tgt := 43) E d_Mod_stop_89 rfl ?_
              exact pv_back (ih2 (j + 1, _) ⟨by show j + 1 ≤ uN t; omega, by show RMB _ (u_can (tsS (t_stN t c i) i 3 1) i (j + 1)); rw [u_can, if_neg (fun z => hne z.1)]; exact hQ.id r6, hFq.tr (FrB.b14 (by decide))⟩ (by show uN t - (j + 1) < uN t - j; omega)) ⟨rfl, rfl, rfl, congrArg (fun z : Int32 => some (ps_int z)) (nI_1 j), trivial⟩
            · skip
              have heq : uO (u_can (tsS (t_stN t c i) i 3 1) i j) j = i := (nI_eq (by omega) (by omega)).mp h63
              refine pv_aload_n E d_Mod_stop_66 rfl rfl ?_
              refine gf_Mod_how E wd_803 d_Mod_stop_67 ?_
              refine pv_top (congrArg ps_ref (m_f h0q 41 rfl)) ?_
              refine pv_iload_n E d_Mod_stop_70 rfl rfl ?_
              refine pv_iaload (t0 := 6) E 14 _ (fun _ _ _ _ _ => rfl) rfl (m_ix h0q 14 24 (by decide) (by decide) hj30) d_Mod_stop_71 ?_
              refine pv_top (congrArg ps_int ((congrArg (ps_I _ 14 24) (nI_clamp (Nat.lt_trans hj30 (by decide)))).trans r6)) ?_
              refine pv_if_ne (tgt := 79) E d_Mod_stop_72 rfl (fun h72 => ?_) (fun h72 => ?_)
              · skip
                refine pv_aload_n E d_Mod_stop_79 rfl rfl ?_
                refine gf_Mod_how E wd_803 d_Mod_stop_80 ?_
                refine pv_top (congrArg ps_ref (m_f h0q 41 rfl)) ?_
                refine pv_iload_n E d_Mod_stop_83 rfl rfl ?_
                refine pv_iaload (t0 := 6) E 14 _ (fun _ _ _ _ _ => rfl) rfl (m_ix h0q 14 24 (by decide) (by decide) hj30) d_Mod_stop_84 ?_
                refine pv_top (congrArg ps_int ((congrArg (ps_I _ 14 24) (nI_clamp (Nat.lt_trans hj30 (by decide)))).trans r6)) ?_
                refine pv_iastore (t0 := 6) E 14 _ (fun _ _ _ _ _ => rfl) rfl (m_ix h0q 14 24 (by decide) (by decide) hj30) d_Mod_stop_85 ?_
                rw [nI_clamp (Nat.lt_trans hj30 (by decide))]
                refine pv_inc1 E d_Mod_stop_86 rfl (by decide) ?_
                refine pv_goto (tgt := 43) E d_Mod_stop_89 rfl ?_
                exact pv_back (ih2 (j + 1, _) ⟨by show j + 1 ≤ uN t; omega, by show RMB _ (u_can (tsS (t_stN t c i) i 3 1) i (j + 1)); rw [u_can, if_neg (fun z => h72 z.2)]; exact hQ.id r6, hFq.tr (FrB.b14 (by decide))⟩ (by show uN t - (j + 1) < uN t - j; omega)) ⟨rfl, rfl, rfl, congrArg (fun z : Int32 => some (ps_int z)) (nI_1 j), trivial⟩
              · skip
                refine pv_iconst (v := 3) E d_Mod_stop_75 (by decide) ?_
                refine pv_goto (tgt := 85) E d_Mod_stop_76 rfl ?_
                refine pv_iastore (t0 := 6) E 14 _ (fun _ _ _ _ _ => rfl) rfl (m_ix h0q 14 24 (by decide) (by decide) hj30) d_Mod_stop_85 ?_
                rw [nI_clamp (Nat.lt_trans hj30 (by decide))]
                refine pv_inc1 E d_Mod_stop_86 rfl (by decide) ?_
                refine pv_goto (tgt := 43) E d_Mod_stop_89 rfl ?_
                exact pv_back (ih2 (j + 1, _) ⟨by show j + 1 ≤ uN t; omega, by show RMB _ (u_can (tsS (t_stN t c i) i 3 1) i (j + 1)); rw [u_can, if_pos ⟨heq, h72⟩]; exact hQ.can hjN h72, hFq.tr (FrB.b14 (by decide))⟩ (by show uN t - (j + 1) < uN t - j; omega)) ⟨rfl, rfl, rfl, congrArg (fun z : Int32 => some (ps_int z)) (nI_1 j), trivial⟩
