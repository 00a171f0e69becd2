theorem cnt_leN (t : tT) (c : Nat) (s : Int32) : ∀ m, u_cnt t c s m ≤ m
  | 0 => Nat.le_refl _
  | m + 1 => by
    have := cnt_leN t c s m
    rw [cnt_s]
    split <;> omega
theorem cnt_tsS (t : tT) (d f : Nat) (v : Int32) (c : Nat) (s : Int32) : ∀ m, u_cnt t c s m = u_cnt (tsS t d f v) c s m
  | 0 => rfl
  | m + 1 => by
    rw [cnt_s, cnt_s, cnt_tsS t d f v c s m]
    rfl
set_option maxHeartbeats 8000000 in
set_option maxRecDepth 100000 in
theorem k_Mod_closeAll (l : Launch) (D : va_G) (ca : Nat → ClassId) (A : Nat → Prop) (σ : ps_S)  (t : tT) (g : gT) (hM : RM σ t g 0) (hZ0 : zI t g) : ∀ adr, ps_M l y_Mod_closeAll c_Mod_closeAll 4 (Option.none : Option Jvm.ClassFile.FieldType) { frames := 9, cells := 0, slots := 0, locals := 206 } D ca A adr σ [ps_ref (some (13, 0))] (fun rv σ' => rv = none ∧ RM σ' (x_close (t, g)).1 (x_close (t, g)).2 0 ∧ gY (x_close (t, g)).2 ∧ ps_I σ' 13 0 0 = ps_I σ 13 0 0 ∧ FrM σ σ') := by
  intro adr
  refine ps_M.of (by decide +kernel) (Nat.le_of_ble_eq_true rfl) ?_
  intro p_ e_ s_ m_ args_ below_ meth_ c_ E hr hlk hnm
  have h0 := hM.1
  have hw12 := hZ0.1.2.1.1.1
  refine pv_aload_n E d_Mod_closeAll_0 rfl rfl ?_
  refine gf_Mod_scopes E wd_784 d_Mod_closeAll_1 ?_
  refine pv_top (congrArg ps_int hM.2.2.1.1) ?_
  refine pv_iconst (v := 1) E d_Mod_closeAll_4 (by decide) ?_
  refine pv_isub E d_Mod_closeAll_5 ?_
  refine pv_istore_n E d_Mod_closeAll_6 rfl (by decide) ?_
  refine pv_sub (L' := [(0, ps_ref (some (13, 0))), (1, ps_int (nI (tN t) - 1))]) ⟨rfl, rfl, trivial⟩ ?_
  refine pv_loop (ι := Nat × ps_S × (tT × gT)) (fun y => y.1) (fun y => [(0, ps_ref (some (13, 0))), (1, ps_int (nI y.1 - 1))]) (fun y => y.2.1) (fun y => y.1 ≤ tN t ∧ RM y.2.1 y.2.2.1 y.2.2.2 0 ∧ zI y.2.2.1 y.2.2.2 ∧ tN y.2.2.1 = tN t ∧ t_close (t, g) = t_clN y.2.2 y.1 ∧ FrM σ y.2.1 ∧ ps_I y.2.1 13 0 0 = ps_I σ 13 0 0) (fun y hy_ ih => ?_) (tN t, σ, (t, g)) ⟨Nat.le_refl _, hM, hZ0, rfl, rfl, FrM.rf σ, rfl⟩
  obtain ⟨m, τ, x⟩ := y
  obtain ⟨hm, hT, hZ, hNt, hcl, hFr, hth⟩ := hy_
  dsimp only at hm hT hZ hNt hcl hFr hth ih ⊢
  have h0t := hT.1
  refine pv_iload_n E d_Mod_closeAll_7 rfl rfl ?_
  refine pv_if_lt (tgt := 104) E d_Mod_closeAll_8 rfl (fun h8 => ?_) (fun h8 => ?_)
  · skip
    have hm0 : m = 0 := (nI_m1 (by omega)).mp h8
    subst hm0
    refine pv_aload_n E d_Mod_closeAll_104 rfl rfl ?_
    refine pv_callV E (fun adr => k_Mod_workOff l D ca A _ x.2 hT.1 hT.2.1 hZ.1.1 hZ.2.1 adr) yv_Mod_workOff wd_932 rfl rfl (fun _ => ⟨_, rfl⟩) rfl ⟨by decide, by decide⟩ (Nat.le_of_ble_eq_true rfl) d_Mod_closeAll_105 ⟨by decide, by decide⟩ (fun r105 σ105 hq105 => ?_)
    obtain ⟨hr105, hA105, hl105, hx105, hf105⟩ := hq105
    subst r105
    exact pv_vret E hr hlk d_Mod_closeAll_108 (by decide) (by decide) ⟨rfl, by rw [x_close, hcl]; exact hT.A hA105 hf105, by rw [x_close, hcl]; exact ⟨hx105, hl105⟩, hf105.th.trans hth, hFr.tr (FrM.ofA hf105)⟩
  · skip
    obtain ⟨c, rfl⟩ : ∃ c, m = c + 1 := ⟨m - 1, by have : ¬ m = 0 := fun z => h8 ((nI_m1 (by omega)).mpr z); omega⟩
    have hc12 : c < 12 := by omega
    have hcN : c < tN x.1 := by rw [hNt]; omega
    have hWx := hZ.1.2.1
    have hcnt := cnt_leN x.1 c 0 (uN x.1)
    have hu30 := hWx.1.2
    refine pv_aload_n E d_Mod_closeAll_11 rfl rfl ?_
    refine gf_Mod_mode E wd_788 d_Mod_closeAll_12 ?_
    refine pv_top (congrArg ps_ref (m_f h0t 26 rfl)) ?_
    refine pv_iload_n E d_Mod_closeAll_15 rfl rfl ?_
    refine pv_top (congrArg ps_int (nI_m1s c)) ?_
    refine pv_iaload (t0 := 6) E 14 _ (fun _ _ _ _ _ => rfl) rfl (m_ix h0t 14 14 (by decide) (by decide) hc12) d_Mod_closeAll_16 ?_
    refine pv_top (congrArg ps_int ((congrArg (ps_I _ 14 14) (nI_clamp (Nat.lt_trans hc12 (by decide)))).trans (hT.2.2.1.2.1 c hcN).1.2.2.2.1)) ?_
    refine pv_iconst (v := 1) E d_Mod_closeAll_17 (by decide) ?_
    refine pv_icmp_ne (tgt := 33) E d_Mod_closeAll_18 rfl (fun h18 => ?_) (fun h18 => ?_)
    · skip
      refine pv_iconst (v := 0) E d_Mod_closeAll_33 (by decide) ?_
      refine pv_top (congrArg ps_int (show _ = (if (decide (tS x.1 c 2 = 1) && decide (u_cnt x.1 c 0 (uN x.1) = 0)) = true then (1 : Int32) else 0) by rw [decide_eq_false h18]; rfl)) ?_
      refine pv_istore_n E d_Mod_closeAll_34 rfl (by decide) ?_
      refine pv_iload_n E d_Mod_closeAll_35 rfl rfl ?_
      refine pv_top (congrArg ps_int (nI_m1s c)) ?_
      refine pv_iconst (v := 1) E d_Mod_closeAll_36 (by decide) ?_
      refine pv_iadd E d_Mod_closeAll_37 ?_
      refine pv_top (congrArg ps_int (nI_1 c)) ?_
      refine pv_istore_n E d_Mod_closeAll_38 rfl (by decide) ?_
      refine pv_sub (L' := [(0, ps_ref (some (13, 0))), (1, ps_int (nI (c + 1) - 1)), (2, ps_int (if ((decide (tS x.1 c 2 = 1) && decide (u_cnt x.1 c 0 (uN x.1) = 0)) && !(anyN (fun i => !decide (tS x.1 i 2 = 2) && t_low x.1 i c) (c + 1))) = true then (1 : Int32) else 0)), (3, ps_int (nI (c + 1)))]) ⟨rfl, rfl, congrArg (fun z : Int32 => some (ps_int z)) (by rw [any_low hWx _ (c + 1) (Nat.le_refl _) (by omega)]; simp), rfl, trivial⟩ ?_
      refine pv_loop (ι := Nat) (fun j => tN t - j) (fun j => [(0, ps_ref (some (13, 0))), (1, ps_int (nI (c + 1) - 1)), (2, ps_int (if ((decide (tS x.1 c 2 = 1) && decide (u_cnt x.1 c 0 (uN x.1) = 0)) && !(anyN (fun i => !decide (tS x.1 i 2 = 2) && t_low x.1 i c) j)) = true then (1 : Int32) else 0)), (3, ps_int (nI j))]) (fun _ => τ) (fun j => c + 1 ≤ j ∧ j ≤ tN t) (fun j hj_ ih2 => ?_) (c + 1) ⟨Nat.le_refl _, hm⟩
      obtain ⟨hj0, hj⟩ := hj_
      refine pv_iload_n E d_Mod_closeAll_39 rfl rfl ?_
      refine pv_aload_n E d_Mod_closeAll_40 rfl rfl ?_
      refine gf_Mod_scopes E wd_784 d_Mod_closeAll_41 ?_
      refine pv_top (congrArg ps_int (hT.2.2.1.1.trans (congrArg nI hNt))) ?_
      refine pv_icmp_ge (tgt := 82) E d_Mod_closeAll_44 rfl (fun h44 => ?_) (fun h44 => ?_)
      · skip
        have hj2 : tN t ≤ j := (nI_leI (by omega) (by omega)).mp h44
        have hj3 : j = tN t := by omega
        subst hj3
        refine pv_iload_n E d_Mod_closeAll_82 rfl rfl ?_
        refine pv_if_eq (tgt := 98) E d_Mod_closeAll_83 rfl (fun h83 => ?_) (fun h83 => ?_)
        · skip
          have hcan : t_can x.1 c = false := by rw [can_eq, hNt]; exact if10b h83
          refine pv_incm1 E d_Mod_closeAll_98 rfl (by decide) ?_
          refine pv_goto (tgt := 7) E d_Mod_closeAll_101 rfl ?_
          exact pv_back (ih (c, τ, x) ⟨by show c ≤ tN t; omega, hT, hZ, hNt, by rw [hcl, t_clN, cl1_no hcan], hFr, hth⟩ (by show c < c + 1; omega)) ⟨rfl, congrArg (fun z : Int32 => some (ps_int z)) (by rw [nI_m1s]), trivial⟩
        · skip
          have hcan : t_can x.1 c = true := by rw [can_eq, hNt]; exact if10t h83
          have hrun : u_cnt x.1 c 0 (uN x.1) = 0 := by
            rw [can_eq, Bool.and_eq_true, Bool.and_eq_true] at hcan
            exact of_decide_eq_true hcan.1.2
          refine pv_aload_n E d_Mod_closeAll_86 rfl rfl ?_
          refine gf_Mod_mode E wd_788 d_Mod_closeAll_87 ?_
          refine pv_top (congrArg ps_ref (m_f h0t 26 rfl)) ?_
          refine pv_iload_n E d_Mod_closeAll_90 rfl rfl ?_
          refine pv_top (congrArg ps_int (nI_m1s c)) ?_
          refine pv_iconst (v := 2) E d_Mod_closeAll_91 (by decide) ?_
          refine pv_iastore (t0 := 6) E 14 _ (fun _ _ _ _ _ => rfl) rfl (m_ix h0t 14 14 (by decide) (by decide) hc12) d_Mod_closeAll_92 ?_
          rw [nI_clamp (Nat.lt_trans hc12 (by decide))]
          have hB1 := hT.2.2.sS (v := 2) hcN (Or.inl ⟨rfl, rfl, rfl⟩)
          have hM1 := hT.B hB1 (FrB.b14 (by decide))
          refine pv_aload_n E d_Mod_closeAll_93 rfl rfl ?_
          refine pv_iload_n E d_Mod_closeAll_94 rfl rfl ?_
          refine pv_top (congrArg ps_int (nI_m1s c)) ?_
          refine pv_callV E (fun adr => k_Mod_conclude l D ca A _ c x.2 0 hM1.1 hM1.2.1 hZ.1.1 (by decide) (tsS x.1 c 2 2) hB1 ((tKeep.sS _ _ _ _ (by omega)).W hWx) hcN (hZ.1.2.2 c hcN) hZ.2.2.1 (cnt_tsS _ _ _ _ _ _ _ ▸ hrun) (by rw [tsS_S, if_neg (by omega)]; exact (hZ.2.2.2 c hcN).1) adr) yv_Mod_conclude wd_1052 rfl rfl (fun _ => ⟨_, rfl⟩) rfl ⟨by decide, by decide⟩ (Nat.le_of_ble_eq_true rfl) d_Mod_closeAll_95 ⟨by decide, by decide⟩ (fun r95 σ95 hq95 => ?_)
          obtain ⟨hr95, hA95, hf95⟩ := hq95
          subst r95
          refine pv_incm1 E d_Mod_closeAll_98 rfl (by decide) ?_
          refine pv_goto (tgt := 7) E d_Mod_closeAll_101 rfl ?_
          exact pv_back (ih (c, σ95, t_cl1 x c) ⟨by show c ≤ tN t; omega, by show RM σ95 (t_cl1 x c).1 (t_cl1 x c).2 0; rw [cl1_yes hcan]; exact hM1.A hA95 hf95, hZ.cl1 hcN, by show tN (t_cl1 x c).1 = tN t; rw [(t_cl1_ok hZ.1 hcN).2.1]; exact hNt, by rw [hcl, t_clN], (hFr.tr (FrM.ofB (FrB.b14 (by decide)))).tr (FrM.ofA hf95), (hf95.th.trans (FrB.th (FrB.b14 (by decide)))).trans hth⟩ (by show c < c + 1; omega)) ⟨rfl, congrArg (fun z : Int32 => some (ps_int z)) (by rw [nI_m1s]), trivial⟩
      · skip
        have hj2 : j < tN t := Nat.lt_of_not_le (fun z => h44 ((nI_leI (by omega) (by omega)).mpr z))
        have hj12 : j < 12 := by omega
        have hjN : j < tN x.1 := by rw [hNt]; exact hj2
        refine pv_iload_n E d_Mod_closeAll_47 rfl rfl ?_
        refine pv_if_eq (tgt := 74) E d_Mod_closeAll_48 rfl (fun h48 => ?_) (fun h48 => ?_)
        · skip
          refine pv_iconst (v := 0) E d_Mod_closeAll_74 (by decide) ?_
          refine pv_istore_n E d_Mod_closeAll_75 rfl (by decide) ?_
          refine pv_inc1 E d_Mod_closeAll_76 rfl (by decide) ?_
          refine pv_goto (tgt := 39) E d_Mod_closeAll_79 rfl ?_
          exact pv_back (ih2 (j + 1) ⟨by omega, by omega⟩ (by omega)) ⟨rfl, rfl, congrArg (fun z : Int32 => some (ps_int z)) (by rw [anyN]; simp only [Bool.not_or, ← Bool.and_assoc, if10b h48, Bool.false_and]; rfl), congrArg (fun z : Int32 => some (ps_int z)) (nI_1 j), trivial⟩
        · skip
          refine pv_aload_n E d_Mod_closeAll_51 rfl rfl ?_
          refine gf_Mod_mode E wd_788 d_Mod_closeAll_52 ?_
          refine pv_top (congrArg ps_ref (m_f h0t 26 rfl)) ?_
          refine pv_iload_n E d_Mod_closeAll_55 rfl rfl ?_
          refine pv_iaload (t0 := 6) E 14 _ (fun _ _ _ _ _ => rfl) rfl (m_ix h0t 14 14 (by decide) (by decide) hj12) d_Mod_closeAll_56 ?_
          refine pv_top (congrArg ps_int ((congrArg (ps_I _ 14 14) (nI_clamp (Nat.lt_trans hj12 (by decide)))).trans (hT.2.2.1.2.1 j hjN).1.2.2.2.1)) ?_
          refine pv_iconst (v := 2) E d_Mod_closeAll_57 (by decide) ?_
          refine pv_icmp_eq (tgt := 70) E d_Mod_closeAll_58 rfl (fun h58 => ?_) (fun h58 => ?_)
          · skip
            refine pv_iconst (v := 1) E d_Mod_closeAll_70 (by decide) ?_
            refine pv_goto (tgt := 75) E d_Mod_closeAll_71 rfl ?_
            refine pv_istore_n E d_Mod_closeAll_75 rfl (by decide) ?_
            refine pv_inc1 E d_Mod_closeAll_76 rfl (by decide) ?_
            refine pv_goto (tgt := 39) E d_Mod_closeAll_79 rfl ?_
            exact pv_back (ih2 (j + 1) ⟨by omega, by omega⟩ (by omega)) ⟨rfl, rfl, congrArg (fun z : Int32 => some (ps_int z)) (by rw [anyN, decide_eq_true h58]; simp only [Bool.not_true, Bool.false_and, Bool.or_false]; exact (if_pos (if10t h48)).symm), congrArg (fun z : Int32 => some (ps_int z)) (nI_1 j), trivial⟩
          · skip
            refine pv_aload_n E d_Mod_closeAll_61 rfl rfl ?_
            refine pv_iload_n E d_Mod_closeAll_62 rfl rfl ?_
            refine pv_iload_n E d_Mod_closeAll_63 rfl rfl ?_
            refine pv_top (congrArg ps_int (nI_m1s c)) ?_
            refine pv_callV E (fun adr => k_Mod_below l D ca A _ j c x.1 hT.1 hT.2.2 hWx hjN hcN adr) yv_Mod_below wd_1040 rfl rfl (fun _ => ⟨_, rfl⟩) rfl ⟨by decide, by decide⟩ (Nat.le_of_ble_eq_true rfl) d_Mod_closeAll_64 ⟨by decide, by decide⟩ (fun r64 σ64 hq64 => ?_)
            obtain ⟨hr64, hs64⟩ := hq64
            subst r64
            subst σ64
            refine pv_if_ne (tgt := 74) E d_Mod_closeAll_67 rfl (fun h67 => ?_) (fun h67 => ?_)
            · skip
              refine pv_iconst (v := 0) E d_Mod_closeAll_74 (by decide) ?_
              refine pv_istore_n E d_Mod_closeAll_75 rfl (by decide) ?_
              refine pv_inc1 E d_Mod_closeAll_76 rfl (by decide) ?_
              refine pv_goto (tgt := 39) E d_Mod_closeAll_79 rfl ?_
              exact pv_back (ih2 (j + 1) ⟨by omega, by omega⟩ (by omega)) ⟨rfl, rfl, congrArg (fun z : Int32 => some (ps_int z)) (by rw [anyN, decide_eq_false h58, if10t h67]; simp), congrArg (fun z : Int32 => some (ps_int z)) (nI_1 j), trivial⟩
            · skip
              refine pv_iconst (v := 1) E d_Mod_closeAll_70 (by decide) ?_
              refine pv_goto (tgt := 75) E d_Mod_closeAll_71 rfl ?_
              refine pv_istore_n E d_Mod_closeAll_75 rfl (by decide) ?_
              refine pv_inc1 E d_Mod_closeAll_76 rfl (by decide) ?_
              refine pv_goto (tgt := 39) E d_Mod_closeAll_79 rfl ?_
              exact pv_back (ih2 (j + 1) ⟨by omega, by omega⟩ (by omega)) ⟨rfl, rfl, congrArg (fun z : Int32 => some (ps_int z)) (by rw [anyN, if10b h67]; simp only [Bool.and_false, Bool.or_false]; exact (if_pos (if10t h48)).symm), congrArg (fun z : Int32 => some (ps_int z)) (nI_1 j), trivial⟩
    · skip
      refine pv_aload_n E d_Mod_closeAll_21 rfl rfl ?_
      refine pv_iload_n E d_Mod_closeAll_22 rfl rfl ?_
      refine pv_top (congrArg ps_int (nI_m1s c)) ?_
      refine pv_callV E (fun adr => k_Mod_running l D ca A _ c x.1 hT.1 hT.2.2 hWx hcN adr) yv_Mod_running wd_1048 rfl rfl (fun _ => ⟨_, rfl⟩) rfl ⟨by decide, by decide⟩ (Nat.le_of_ble_eq_true rfl) d_Mod_closeAll_23 ⟨by decide, by decide⟩ (fun r23 σ23 hq23 => ?_)
      obtain ⟨hr23, hs23⟩ := hq23
      subst r23
      subst σ23
      refine pv_if_ne (tgt := 33) E d_Mod_closeAll_26 rfl (fun h26 => ?_) (fun h26 => ?_)
      · skip
        refine pv_iconst (v := 0) E d_Mod_closeAll_33 (by decide) ?_
        refine pv_top (congrArg ps_int (show _ = (if (decide (tS x.1 c 2 = 1) && decide (u_cnt x.1 c 0 (uN x.1) = 0)) = true then (1 : Int32) else 0) by rw [decide_eq_false (show ¬ u_cnt x.1 c 0 (uN x.1) = 0 from fun z => h26 (by rw [z]; rfl)), Bool.and_false]; rfl)) ?_
        refine pv_istore_n E d_Mod_closeAll_34 rfl (by decide) ?_
        refine pv_iload_n E d_Mod_closeAll_35 rfl rfl ?_
        refine pv_top (congrArg ps_int (nI_m1s c)) ?_
        refine pv_iconst (v := 1) E d_Mod_closeAll_36 (by decide) ?_
        refine pv_iadd E d_Mod_closeAll_37 ?_
        refine pv_top (congrArg ps_int (nI_1 c)) ?_
        refine pv_istore_n E d_Mod_closeAll_38 rfl (by decide) ?_
        refine pv_sub (L' := [(0, ps_ref (some (13, 0))), (1, ps_int (nI (c + 1) - 1)), (2, ps_int (if ((decide (tS x.1 c 2 = 1) && decide (u_cnt x.1 c 0 (uN x.1) = 0)) && !(anyN (fun i => !decide (tS x.1 i 2 = 2) && t_low x.1 i c) (c + 1))) = true then (1 : Int32) else 0)), (3, ps_int (nI (c + 1)))]) ⟨rfl, rfl, congrArg (fun z : Int32 => some (ps_int z)) (by rw [any_low hWx _ (c + 1) (Nat.le_refl _) (by omega)]; simp), rfl, trivial⟩ ?_
        refine pv_loop (ι := Nat) (fun j => tN t - j) (fun j => [(0, ps_ref (some (13, 0))), (1, ps_int (nI (c + 1) - 1)), (2, ps_int (if ((decide (tS x.1 c 2 = 1) && decide (u_cnt x.1 c 0 (uN x.1) = 0)) && !(anyN (fun i => !decide (tS x.1 i 2 = 2) && t_low x.1 i c) j)) = true then (1 : Int32) else 0)), (3, ps_int (nI j))]) (fun _ => τ) (fun j => c + 1 ≤ j ∧ j ≤ tN t) (fun j hj_ ih2 => ?_) (c + 1) ⟨Nat.le_refl _, hm⟩
        obtain ⟨hj0, hj⟩ := hj_
        refine pv_iload_n E d_Mod_closeAll_39 rfl rfl ?_
        refine pv_aload_n E d_Mod_closeAll_40 rfl rfl ?_
        refine gf_Mod_scopes E wd_784 d_Mod_closeAll_41 ?_
        refine pv_top (congrArg ps_int (hT.2.2.1.1.trans (congrArg nI hNt))) ?_
        refine pv_icmp_ge (tgt := 82) E d_Mod_closeAll_44 rfl (fun h44 => ?_) (fun h44 => ?_)
        · skip
          have hj2 : tN t ≤ j := (nI_leI (by omega) (by omega)).mp h44
          have hj3 : j = tN t := by omega
          subst hj3
          refine pv_iload_n E d_Mod_closeAll_82 rfl rfl ?_
          refine pv_if_eq (tgt := 98) E d_Mod_closeAll_83 rfl (fun h83 => ?_) (fun h83 => ?_)
          · skip
            have hcan : t_can x.1 c = false := by rw [can_eq, hNt]; exact if10b h83
            refine pv_incm1 E d_Mod_closeAll_98 rfl (by decide) ?_
            refine pv_goto (tgt := 7) E d_Mod_closeAll_101 rfl ?_
            exact pv_back (ih (c, τ, x) ⟨by show c ≤ tN t; omega, hT, hZ, hNt, by rw [hcl, t_clN, cl1_no hcan], hFr, hth⟩ (by show c < c + 1; omega)) ⟨rfl, congrArg (fun z : Int32 => some (ps_int z)) (by rw [nI_m1s]), trivial⟩
          · skip
            have hcan : t_can x.1 c = true := by rw [can_eq, hNt]; exact if10t h83
            have hrun : u_cnt x.1 c 0 (uN x.1) = 0 := by
              rw [can_eq, Bool.and_eq_true, Bool.and_eq_true] at hcan
              exact of_decide_eq_true hcan.1.2
            refine pv_aload_n E d_Mod_closeAll_86 rfl rfl ?_
            refine gf_Mod_mode E wd_788 d_Mod_closeAll_87 ?_
            refine pv_top (congrArg ps_ref (m_f h0t 26 rfl)) ?_
            refine pv_iload_n E d_Mod_closeAll_90 rfl rfl ?_
            refine pv_top (congrArg ps_int (nI_m1s c)) ?_
            refine pv_iconst (v := 2) E d_Mod_closeAll_91 (by decide) ?_
            refine pv_iastore (t0 := 6) E 14 _ (fun _ _ _ _ _ => rfl) rfl (m_ix h0t 14 14 (by decide) (by decide) hc12) d_Mod_closeAll_92 ?_
            rw [nI_clamp (Nat.lt_trans hc12 (by decide))]
            have hB1 := hT.2.2.sS (v := 2) hcN (Or.inl ⟨rfl, rfl, rfl⟩)
            have hM1 := hT.B hB1 (FrB.b14 (by decide))
            refine pv_aload_n E d_Mod_closeAll_93 rfl rfl ?_
            refine pv_iload_n E d_Mod_closeAll_94 rfl rfl ?_
            refine pv_top (congrArg ps_int (nI_m1s c)) ?_
            refine pv_callV E (fun adr => k_Mod_conclude l D ca A _ c x.2 0 hM1.1 hM1.2.1 hZ.1.1 (by decide) (tsS x.1 c 2 2) hB1 ((tKeep.sS _ _ _ _ (by omega)).W hWx) hcN (hZ.1.2.2 c hcN) hZ.2.2.1 (cnt_tsS _ _ _ _ _ _ _ ▸ hrun) (by rw [tsS_S, if_neg (by omega)]; exact (hZ.2.2.2 c hcN).1) adr) yv_Mod_conclude wd_1052 rfl rfl (fun _ => ⟨_, rfl⟩) rfl ⟨by decide, by decide⟩ (Nat.le_of_ble_eq_true rfl) d_Mod_closeAll_95 ⟨by decide, by decide⟩ (fun r95 σ95 hq95 => ?_)
            obtain ⟨hr95, hA95, hf95⟩ := hq95
            subst r95
            refine pv_incm1 E d_Mod_closeAll_98 rfl (by decide) ?_
            refine pv_goto (tgt := 7) E d_Mod_closeAll_101 rfl ?_
            exact pv_back (ih (c, σ95, t_cl1 x c) ⟨by show c ≤ tN t; omega, by show RM σ95 (t_cl1 x c).1 (t_cl1 x c).2 0; rw [cl1_yes hcan]; exact hM1.A hA95 hf95, hZ.cl1 hcN, by show tN (t_cl1 x c).1 = tN t; rw [(t_cl1_ok hZ.1 hcN).2.1]; exact hNt, by rw [hcl, t_clN], (hFr.tr (FrM.ofB (FrB.b14 (by decide)))).tr (FrM.ofA hf95), (hf95.th.trans (FrB.th (FrB.b14 (by decide)))).trans hth⟩ (by show c < c + 1; omega)) ⟨rfl, congrArg (fun z : Int32 => some (ps_int z)) (by rw [nI_m1s]), trivial⟩
        · skip
          have hj2 : j < tN t := Nat.lt_of_not_le (fun z => h44 ((nI_leI (by omega) (by omega)).mpr z))
          have hj12 : j < 12 := by omega
          have hjN : j < tN x.1 := by rw [hNt]; exact hj2
          refine pv_iload_n E d_Mod_closeAll_47 rfl rfl ?_
          refine pv_if_eq (tgt := 74) E d_Mod_closeAll_48 rfl (fun h48 => ?_) (fun h48 => ?_)
          · skip
            refine pv_iconst (v := 0) E d_Mod_closeAll_74 (by decide) ?_
            refine pv_istore_n E d_Mod_closeAll_75 rfl (by decide) ?_
            refine pv_inc1 E d_Mod_closeAll_76 rfl (by decide) ?_
            refine pv_goto (tgt := 39) E d_Mod_closeAll_79 rfl ?_
            exact pv_back (ih2 (j + 1) ⟨by omega, by omega⟩ (by omega)) ⟨rfl, rfl, congrArg (fun z : Int32 => some (ps_int z)) (by rw [anyN]; simp only [Bool.not_or, ← Bool.and_assoc, if10b h48, Bool.false_and]; rfl), congrArg (fun z : Int32 => some (ps_int z)) (nI_1 j), trivial⟩
          · skip
            refine pv_aload_n E d_Mod_closeAll_51 rfl rfl ?_
            refine gf_Mod_mode E wd_788 d_Mod_closeAll_52 ?_
            refine pv_top (congrArg ps_ref (m_f h0t 26 rfl)) ?_
            refine pv_iload_n E d_Mod_closeAll_55 rfl rfl ?_
            refine pv_iaload (t0 := 6) E 14 _ (fun _ _ _ _ _ => rfl) rfl (m_ix h0t 14 14 (by decide) (by decide) hj12) d_Mod_closeAll_56 ?_
            refine pv_top (congrArg ps_int ((congrArg (ps_I _ 14 14) (nI_clamp (Nat.lt_trans hj12 (by decide)))).trans (hT.2.2.1.2.1 j hjN).1.2.2.2.1)) ?_
            refine pv_iconst (v := 2) E d_Mod_closeAll_57 (by decide) ?_
            refine pv_icmp_eq (tgt := 70) E d_Mod_closeAll_58 rfl (fun h58 => ?_) (fun h58 => ?_)
            · skip
              refine pv_iconst (v := 1) E d_Mod_closeAll_70 (by decide) ?_
              refine pv_goto (tgt := 75) E d_Mod_closeAll_71 rfl ?_
              refine pv_istore_n E d_Mod_closeAll_75 rfl (by decide) ?_
              refine pv_inc1 E d_Mod_closeAll_76 rfl (by decide) ?_
              refine pv_goto (tgt := 39) E d_Mod_closeAll_79 rfl ?_
              exact pv_back (ih2 (j + 1) ⟨by omega, by omega⟩ (by omega)) ⟨rfl, rfl, congrArg (fun z : Int32 => some (ps_int z)) (by rw [anyN, decide_eq_true h58]; simp only [Bool.not_true, Bool.false_and, Bool.or_false]; exact (if_pos (if10t h48)).symm), congrArg (fun z : Int32 => some (ps_int z)) (nI_1 j), trivial⟩
            · skip
              refine pv_aload_n E d_Mod_closeAll_61 rfl rfl ?_
              refine pv_iload_n E d_Mod_closeAll_62 rfl rfl ?_
              refine pv_iload_n E d_Mod_closeAll_63 rfl rfl ?_
              refine pv_top (congrArg ps_int (nI_m1s c)) ?_
              refine pv_callV E (fun adr => k_Mod_below l D ca A _ j c x.1 hT.1 hT.2.2 hWx hjN hcN adr) yv_Mod_below wd_1040 rfl rfl (fun _ => ⟨_, rfl⟩) rfl ⟨by decide, by decide⟩ (Nat.le_of_ble_eq_true rfl) d_Mod_closeAll_64 ⟨by decide, by decide⟩ (fun r64 σ64 hq64 => ?_)
              obtain ⟨hr64, hs64⟩ := hq64
              subst r64
              subst σ64
              refine pv_if_ne (tgt := 74) E d_Mod_closeAll_67 rfl (fun h67 => ?_) (fun h67 => ?_)
              · skip
                refine pv_iconst (v := 0) E d_Mod_closeAll_74 (by decide) ?_
                refine pv_istore_n E d_Mod_closeAll_75 rfl (by decide) ?_
                refine pv_inc1 E d_Mod_closeAll_76 rfl (by decide) ?_
                refine pv_goto (tgt := 39) E d_Mod_closeAll_79 rfl ?_
                exact pv_back (ih2 (j + 1) ⟨by omega, by omega⟩ (by omega)) ⟨rfl, rfl, congrArg (fun z : Int32 => some (ps_int z)) (by rw [anyN, decide_eq_false h58, if10t h67]; simp), congrArg (fun z : Int32 => some (ps_int z)) (nI_1 j), trivial⟩
              · skip
                refine pv_iconst (v := 1) E d_Mod_closeAll_70 (by decide) ?_
                refine pv_goto (tgt := 75) E d_Mod_closeAll_71 rfl ?_
                refine pv_istore_n E d_Mod_closeAll_75 rfl (by decide) ?_
                refine pv_inc1 E d_Mod_closeAll_76 rfl (by decide) ?_
                refine pv_goto (tgt := 39) E d_Mod_closeAll_79 rfl ?_
                exact pv_back (ih2 (j + 1) ⟨by omega, by omega⟩ (by omega)) ⟨rfl, rfl, congrArg (fun z : Int32 => some (ps_int z)) (by rw [anyN, if10b h67]; simp only [Bool.and_false, Bool.or_false]; exact (if_pos (if10t h48)).symm), congrArg (fun z : Int32 => some (ps_int z)) (nI_1 j), trivial⟩
      · skip
        refine pv_iconst (v := 1) E d_Mod_closeAll_29 (by decide) ?_
        refine pv_goto (tgt := 34) E d_Mod_closeAll_30 rfl ?_
        refine pv_top (congrArg ps_int (show _ = (if (decide (tS x.1 c 2 = 1) && decide (u_cnt x.1 c 0 (uN x.1) = 0)) = true then (1 : Int32) else 0) by rw [decide_eq_true h18, decide_eq_true ((nI_0iff (by have := hcnt; omega)).mp h26)]; rfl)) ?_
        refine pv_istore_n E d_Mod_closeAll_34 rfl (by decide) ?_
        refine pv_iload_n E d_Mod_closeAll_35 rfl rfl ?_
        refine pv_top (congrArg ps_int (nI_m1s c)) ?_
        refine pv_iconst (v := 1) E d_Mod_closeAll_36 (by decide) ?_
        refine pv_iadd E d_Mod_closeAll_37 ?_
        refine pv_top (congrArg ps_int (nI_1 c)) ?_
        refine pv_istore_n E d_Mod_closeAll_38 rfl (by decide) ?_
        refine pv_sub (L' := [(0, ps_ref (some (13, 0))), (1, ps_int (nI (c + 1) - 1)), (2, ps_int (if ((decide (tS x.1 c 2 = 1) && decide (u_cnt x.1 c 0 (uN x.1) = 0)) && !(anyN (fun i => !decide (tS x.1 i 2 = 2) && t_low x.1 i c) (c + 1))) = true then (1 : Int32) else 0)), (3, ps_int (nI (c + 1)))]) ⟨rfl, rfl, congrArg (fun z : Int32 => some (ps_int z)) (by rw [any_low hWx _ (c + 1) (Nat.le_refl _) (by omega)]; simp), rfl, trivial⟩ ?_
        refine pv_loop (ι := Nat) (fun j => tN t - j) (fun j => [(0, ps_ref (some (13, 0))), (1, ps_int (nI (c + 1) - 1)), (2, ps_int (if ((decide (tS x.1 c 2 = 1) && decide (u_cnt x.1 c 0 (uN x.1) = 0)) && !(anyN (fun i => !decide (tS x.1 i 2 = 2) && t_low x.1 i c) j)) = true then (1 : Int32) else 0)), (3, ps_int (nI j))]) (fun _ => τ) (fun j => c + 1 ≤ j ∧ j ≤ tN t) (fun j hj_ ih2 => ?_) (c + 1) ⟨Nat.le_refl _, hm⟩
        obtain ⟨hj0, hj⟩ := hj_
        refine pv_iload_n E d_Mod_closeAll_39 rfl rfl ?_
        refine pv_aload_n E d_Mod_closeAll_40 rfl rfl ?_
        refine gf_Mod_scopes E wd_784 d_Mod_closeAll_41 ?_
        refine pv_top (congrArg ps_int (hT.2.2.1.1.trans (congrArg nI hNt))) ?_
        refine pv_icmp_ge (tgt := 82) E d_Mod_closeAll_44 rfl (fun h44 => ?_) (fun h44 => ?_)
        · skip
          have hj2 : tN t ≤ j := (nI_leI (by omega) (by omega)).mp h44
          have hj3 : j = tN t := by omega
          subst hj3
          refine pv_iload_n E d_Mod_closeAll_82 rfl rfl ?_
          refine pv_if_eq (tgt := 98) E d_Mod_closeAll_83 rfl (fun h83 => ?_) (fun h83 => ?_)
          · skip
            have hcan : t_can x.1 c = false := by rw [can_eq, hNt]; exact if10b h83
            refine pv_incm1 E d_Mod_closeAll_98 rfl (by decide) ?_
            refine pv_goto (tgt := 7) E d_Mod_closeAll_101 rfl ?_
            exact pv_back (ih (c, τ, x) ⟨by show c ≤ tN t; omega, hT, hZ, hNt, by rw [hcl, t_clN, cl1_no hcan], hFr, hth⟩ (by show c < c + 1; omega)) ⟨rfl, congrArg (fun z : Int32 => some (ps_int z)) (by rw [nI_m1s]), trivial⟩
          · skip
            have hcan : t_can x.1 c = true := by rw [can_eq, hNt]; exact if10t h83
            have hrun : u_cnt x.1 c 0 (uN x.1) = 0 := by
              rw [can_eq, Bool.and_eq_true, Bool.and_eq_true] at hcan
              exact of_decide_eq_true hcan.1.2
            refine pv_aload_n E d_Mod_closeAll_86 rfl rfl ?_
            refine gf_Mod_mode E wd_788 d_Mod_closeAll_87 ?_
            refine pv_top (congrArg ps_ref (m_f h0t 26 rfl)) ?_
            refine pv_iload_n E d_Mod_closeAll_90 rfl rfl ?_
            refine pv_top (congrArg ps_int (nI_m1s c)) ?_
            refine pv_iconst (v := 2) E d_Mod_closeAll_91 (by decide) ?_
            refine pv_iastore (t0 := 6) E 14 _ (fun _ _ _ _ _ => rfl) rfl (m_ix h0t 14 14 (by decide) (by decide) hc12) d_Mod_closeAll_92 ?_
            rw [nI_clamp (Nat.lt_trans hc12 (by decide))]
            have hB1 := hT.2.2.sS (v := 2) hcN (Or.inl ⟨rfl, rfl, rfl⟩)
            have hM1 := hT.B hB1 (FrB.b14 (by decide))
            refine pv_aload_n E d_Mod_closeAll_93 rfl rfl ?_
            refine pv_iload_n E d_Mod_closeAll_94 rfl rfl ?_
            refine pv_top (congrArg ps_int (nI_m1s c)) ?_
            refine pv_callV E (fun adr => k_Mod_conclude l D ca A _ c x.2 0 hM1.1 hM1.2.1 hZ.1.1 (by decide) (tsS x.1 c 2 2) hB1 ((tKeep.sS _ _ _ _ (by omega)).W hWx) hcN (hZ.1.2.2 c hcN) hZ.2.2.1 (cnt_tsS _ _ _ _ _ _ _ ▸ hrun) (by rw [tsS_S, if_neg (by omega)]; exact (hZ.2.2.2 c hcN).1) adr) yv_Mod_conclude wd_1052 rfl rfl (fun _ => ⟨_, rfl⟩) rfl ⟨by decide, by decide⟩ (Nat.le_of_ble_eq_true rfl) d_Mod_closeAll_95 ⟨by decide, by decide⟩ (fun r95 σ95 hq95 => ?_)
            obtain ⟨hr95, hA95, hf95⟩ := hq95
            subst r95
            refine pv_incm1 E d_Mod_closeAll_98 rfl (by decide) ?_
            refine pv_goto (tgt := 7) E d_Mod_closeAll_101 rfl ?_
            exact pv_back (ih (c, σ95, t_cl1 x c) ⟨by show c ≤ tN t; omega, by show RM σ95 (t_cl1 x c).1 (t_cl1 x c).2 0; rw [cl1_yes hcan]; exact hM1.A hA95 hf95, hZ.cl1 hcN, by show tN (t_cl1 x c).1 = tN t; rw [(t_cl1_ok hZ.1 hcN).2.1]; exact hNt, by rw [hcl, t_clN], (hFr.tr (FrM.ofB (FrB.b14 (by decide)))).tr (FrM.ofA hf95), (hf95.th.trans (FrB.th (FrB.b14 (by decide)))).trans hth⟩ (by show c < c + 1; omega)) ⟨rfl, congrArg (fun z : Int32 => some (ps_int z)) (by rw [nI_m1s]), trivial⟩
        · skip
          have hj2 : j < tN t := Nat.lt_of_not_le (fun z => h44 ((nI_leI (by omega) (by omega)).mpr z))
          have hj12 : j < 12 := by omega
          have hjN : j < tN x.1 := by rw [hNt]; exact hj2
          refine pv_iload_n E d_Mod_closeAll_47 rfl rfl ?_
          refine pv_if_eq (tgt := 74) E d_Mod_closeAll_48 rfl (fun h48 => ?_) (fun h48 => ?_)
          · skip
            refine pv_iconst (v := 0) E d_Mod_closeAll_74 (by decide) ?_
            refine pv_istore_n E d_Mod_closeAll_75 rfl (by decide) ?_
            refine pv_inc1 E d_Mod_closeAll_76 rfl (by decide) ?_
            refine pv_goto (tgt := 39) E d_Mod_closeAll_79 rfl ?_
            exact pv_back (ih2 (j + 1) ⟨by omega, by omega⟩ (by omega)) ⟨rfl, rfl, congrArg (fun z : Int32 => some (ps_int z)) (by rw [anyN]; simp only [Bool.not_or, ← Bool.and_assoc, if10b h48, Bool.false_and]; rfl), congrArg (fun z : Int32 => some (ps_int z)) (nI_1 j), trivial⟩
          · skip
            refine pv_aload_n E d_Mod_closeAll_51 rfl rfl ?_
            refine gf_Mod_mode E wd_788 d_Mod_closeAll_52 ?_
            refine pv_top (congrArg ps_ref (m_f h0t 26 rfl)) ?_
            refine pv_iload_n E d_Mod_closeAll_55 rfl rfl ?_
            refine pv_iaload (t0 := 6) E 14 _ (fun _ _ _ _ _ => rfl) rfl (m_ix h0t 14 14 (by decide) (by decide) hj12) d_Mod_closeAll_56 ?_
            refine pv_top (congrArg ps_int ((congrArg (ps_I _ 14 14) (nI_clamp (Nat.lt_trans hj12 (by decide)))).trans (hT.2.2.1.2.1 j hjN).1.2.2.2.1)) ?_
            refine pv_iconst (v := 2) E d_Mod_closeAll_57 (by decide) ?_
            refine pv_icmp_eq (tgt := 70) E d_Mod_closeAll_58 rfl (fun h58 => ?_) (fun h58 => ?_)
            · skip
              refine pv_iconst (v := 1) E d_Mod_closeAll_70 (by decide) ?_
              refine pv_goto (tgt := 75) E d_Mod_closeAll_71 rfl ?_
              refine pv_istore_n E d_Mod_closeAll_75 rfl (by decide) ?_
              refine pv_inc1 E d_Mod_closeAll_76 rfl (by decide) ?_
              refine pv_goto (tgt := 39) E d_Mod_closeAll_79 rfl ?_
              exact pv_back (ih2 (j + 1) ⟨by omega, by omega⟩ (by omega)) ⟨rfl, rfl, congrArg (fun z : Int32 => some (ps_int z)) (by rw [anyN, decide_eq_true h58]; simp only [Bool.not_true, Bool.false_and, Bool.or_false]; exact (if_pos (if10t h48)).symm), congrArg (fun z : Int32 => some (ps_int z)) (nI_1 j), trivial⟩
            · skip
              refine pv_aload_n E d_Mod_closeAll_61 rfl rfl ?_
              refine pv_iload_n E d_Mod_closeAll_62 rfl rfl ?_
              refine pv_iload_n E d_Mod_closeAll_63 rfl rfl ?_
              refine pv_top (congrArg ps_int (nI_m1s c)) ?_
              refine pv_callV E (fun adr => k_Mod_below l D ca A _ j c x.1 hT.1 hT.2.2 hWx hjN hcN adr) yv_Mod_below wd_1040 rfl rfl (fun _ => ⟨_, rfl⟩) rfl ⟨by decide, by decide⟩ (Nat.le_of_ble_eq_true rfl) d_Mod_closeAll_64 ⟨by decide, by decide⟩ (fun r64 σ64 hq64 => ?_)
              obtain ⟨hr64, hs64⟩ := hq64
              subst r64
              subst σ64
              refine pv_if_ne (tgt := 74) E d_Mod_closeAll_67 rfl (fun h67 => ?_) (fun h67 => ?_)
              · skip
                refine pv_iconst (v := 0) E d_Mod_closeAll_74 (by decide) ?_
                refine pv_istore_n E d_Mod_closeAll_75 rfl (by decide) ?_
                refine pv_inc1 E d_Mod_closeAll_76 rfl (by decide) ?_
                refine pv_goto (tgt := 39) E d_Mod_closeAll_79 rfl ?_
                exact pv_back (ih2 (j + 1) ⟨by omega, by omega⟩ (by omega)) ⟨rfl, rfl, congrArg (fun z : Int32 => some (ps_int z)) (by rw [anyN, decide_eq_false h58, if10t h67]; simp), congrArg (fun z : Int32 => some (ps_int z)) (nI_1 j), trivial⟩
              · skip
                refine pv_iconst (v := 1) E d_Mod_closeAll_70 (by decide) ?_
                refine pv_goto (tgt := 75) E d_Mod_closeAll_71 rfl ?_
                refine pv_istore_n E d_Mod_closeAll_75 rfl (by decide) ?_
                refine pv_inc1 E d_Mod_closeAll_76 rfl (by decide) ?_
                refine pv_goto (tgt := 39) E d_Mod_closeAll_79 rfl ?_
                exact pv_back (ih2 (j + 1) ⟨by omega, by omega⟩ (by omega)) ⟨rfl, rfl, congrArg (fun z : Int32 => some (ps_int z)) (by rw [anyN, if10b h67]; simp only [Bool.and_false, Bool.or_false]; exact (if_pos (if10t h48)).symm), congrArg (fun z : Int32 => some (ps_int z)) (nI_1 j), trivial⟩
