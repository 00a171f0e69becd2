theorem thr_le {f a x : Int32} : fn_thr f a x ≤ 0 ↔ fn_thr f a x = 0 := by
  constructor
  · intro h
    by_cases hz : fn_thr f a x = 0
    · exact hz
    · exact absurd (fn_thr_pos.mpr hz) (Int32.not_lt.mpr h)
  · intro h
    rw [h]
    decide
set_option maxHeartbeats 8000000 in
set_option maxRecDepth 100000 in
theorem k_Mod_joinScope_0 (l : Launch) (D : va_G) (ca : Nat → ClassId) (A : Nat → Prop) (σ : ps_S) (s : Int32) (t : tT) (g : gT) (hM : RM σ t g 0) (hW : tW t) (hZ0 : zI t g) (hb : ¬ x_jok t s) : ∀ adr, ps_M l y_Mod_joinScope c_Mod_joinScope 4 (Option.some Jvm.ClassFile.FieldType.boolean) { frames := 10, cells := 0, slots := 0, locals := 229 } D ca A adr σ [ps_ref (some (13, 0)), ps_int s] (fun rv σ' => rv = some (ps_int (0)) ∧ RM σ' t g 0 ∧ ps_I σ' 13 0 0 = 0 ∧ FrM σ σ') := by
  intro adr
  refine ps_M.of (by decide +kernel) (Nat.le_of_ble_eq_true rfl) ?_
  intro p_ e_ s_ m_ args_ below_ meth_ c_ E hr hlk hnm
  have h0 := hM.1
  have hB := hM.2.2
  have hB1 : ∀ v : Int32, RMB (ps_sI σ 13 0 0 v) t := fun v => hB.th
  have hw12 := hW.1.1
  refine pv_aload_n E d_Mod_joinScope_0 rfl rfl ?_
  refine pv_iconst (v := 0) E d_Mod_joinScope_1 (by decide) ?_
  refine pf_Mod_thrown E wd_762 d_Mod_joinScope_2 ?_
  refine pv_aload_n E d_Mod_joinScope_5 rfl rfl ?_
  refine pv_iload_n E d_Mod_joinScope_6 rfl rfl ?_
  refine pv_callV E (fun adr => k_Mod_isOpen l D ca A _ s t h0.th (hB1 0) hW adr) yv_Mod_isOpen wd_1012 rfl rfl (fun _ => ⟨_, rfl⟩) rfl ⟨by decide, by decide⟩ (Nat.le_of_ble_eq_true rfl) d_Mod_joinScope_7 ⟨by decide, by decide⟩ (fun r7 σ7 hq7 => ?_)
  obtain ⟨hr7, hs7⟩ := hq7
  subst r7
  subst σ7
  refine pv_istore_n E d_Mod_joinScope_10 rfl (by decide) ?_
  refine pv_iconst (v := 0) E d_Mod_joinScope_11 (by decide) ?_
  refine pv_istore_n E d_Mod_joinScope_12 rfl (by decide) ?_
  refine pv_sub (L' := [(0, ps_ref (some (13, 0))), (1, ps_int s), (2, ps_int (if (decide ((¬ s < 0 ∧ s.toNatClampNeg < tN t) ∧ tS t s.toNatClampNeg 2 = 0) && !(anyN (fun i => decide (tS t i 2 = 0) && t_low t i s.toNatClampNeg) 0)) = true then (1 : Int32) else 0)), (3, ps_int (nI 0))]) ⟨rfl, rfl, congrArg (fun z : Int32 => some (ps_int z)) (by rw [anyN]; simp), rfl, trivial⟩ ?_
  refine pv_loop (ι := Nat) (fun i => tN t - i) (fun i => [(0, ps_ref (some (13, 0))), (1, ps_int s), (2, ps_int (if (decide ((¬ s < 0 ∧ s.toNatClampNeg < tN t) ∧ tS t s.toNatClampNeg 2 = 0) && !(anyN (fun i => decide (tS t i 2 = 0) && t_low t i s.toNatClampNeg) i)) = true then (1 : Int32) else 0)), (3, ps_int (nI i))]) (fun _ => ps_sI σ 13 0 0 0) (fun i => i ≤ tN t) (fun i hi ih => ?_) 0 (Nat.zero_le _)
  dsimp only at ih ⊢
  refine pv_iload_n E d_Mod_joinScope_13 rfl rfl ?_
  refine pv_aload_n E d_Mod_joinScope_14 rfl rfl ?_
  refine gf_Mod_scopes E wd_784 d_Mod_joinScope_15 ?_
  refine pv_top (congrArg ps_int (hB1 0).1.1) ?_
  refine pv_icmp_ge (tgt := 55) E d_Mod_joinScope_18 rfl (fun h18 => ?_) (fun h18 => ?_)
  · skip
    have hi2 : tN t ≤ i := (nI_leI (by omega) (by omega)).mp h18
    have hi3 : i = tN t := by omega
    subst hi3
    refine pv_iload_n E d_Mod_joinScope_55 rfl rfl ?_
    refine pv_if_ne (tgt := 61) E d_Mod_joinScope_56 rfl (fun h56 => ?_) (fun h56 => ?_)
    · skip
      exact absurd (show x_jok t s from by have z := if10t h56; rw [Bool.and_eq_true, decide_eq_true_iff, Bool.not_eq_true'] at z; exact ⟨z.1, fun q => absurd (q.symm.trans z.2) (by decide)⟩) hb
    · skip
      refine pv_iconst (v := 0) E d_Mod_joinScope_59 (by decide) ?_
      exact pv_zret E hr hlk d_Mod_joinScope_60 (by first | rfl | (apply ps_zb; assumption)) (by decide) (by decide) ⟨rfl, hM.th, ps_I_eq _ _ _ _ _, FrM.th⟩
  · skip
    have hi2 : i < tN t := Nat.lt_of_not_le (fun z => h18 ((nI_leI (by omega) (by omega)).mpr z))
    have hi12 : i < 12 := by omega
    refine pv_iload_n E d_Mod_joinScope_21 rfl rfl ?_
    refine pv_if_eq (tgt := 55) E d_Mod_joinScope_22 rfl (fun h22 => ?_) (fun h22 => ?_)
    · skip
      refine pv_iload_n E d_Mod_joinScope_55 rfl rfl ?_
      refine pv_if_ne (tgt := 61) E d_Mod_joinScope_56 rfl (fun h56 => ?_) (fun h56 => ?_)
      · skip
        exact absurd h22 h56
      · skip
        refine pv_iconst (v := 0) E d_Mod_joinScope_59 (by decide) ?_
        exact pv_zret E hr hlk d_Mod_joinScope_60 (by first | rfl | (apply ps_zb; assumption)) (by decide) (by decide) ⟨rfl, hM.th, ps_I_eq _ _ _ _ _, FrM.th⟩
    · skip
      have h22b := if10t h22
      rw [Bool.and_eq_true, decide_eq_true_iff, Bool.not_eq_true'] at h22b
      obtain ⟨hO, hany⟩ := h22b
      refine pv_aload_n E d_Mod_joinScope_25 rfl rfl ?_
      refine gf_Mod_mode E wd_788 d_Mod_joinScope_26 ?_
      refine pv_top (congrArg ps_ref (m_f h0 26 rfl)) ?_
      refine pv_iload_n E d_Mod_joinScope_29 rfl rfl ?_
      refine pv_iaload (t0 := 6) E 14 _ (fun _ _ _ _ _ => rfl) rfl (m_ix h0 14 14 (by decide) (by decide) hi12) d_Mod_joinScope_30 ?_
      refine pv_top (congrArg ps_int ((congrArg (ps_I _ 14 14) (nI_clamp (Nat.lt_trans hi12 (by decide)))).trans ((hB1 0).1.2.1 i hi2).1.2.2.2.1)) ?_
      refine pv_if_ne (tgt := 43) E d_Mod_joinScope_31 rfl (fun h31 => ?_) (fun h31 => ?_)
      · skip
        refine pv_iconst (v := 1) E d_Mod_joinScope_43 (by decide) ?_
        refine pv_goto (tgt := 48) E d_Mod_joinScope_44 rfl ?_
        refine pv_istore_n E d_Mod_joinScope_48 rfl (by decide) ?_
        refine pv_inc1 E d_Mod_joinScope_49 rfl (by decide) ?_
        refine pv_goto (tgt := 13) E d_Mod_joinScope_52 rfl ?_
        exact pv_back (ih (i + 1) (by omega) (by omega)) ⟨rfl, rfl, congrArg (fun z : Int32 => some (ps_int z)) (by rw [anyN, hany, decide_eq_true hO, decide_eq_false h31]; rfl), congrArg (fun z : Int32 => some (ps_int z)) (nI_1 i), trivial⟩
      · skip
        refine pv_aload_n E d_Mod_joinScope_34 rfl rfl ?_
        refine pv_iload_n E d_Mod_joinScope_35 rfl rfl ?_
        refine pv_iload_n E d_Mod_joinScope_36 rfl rfl ?_
        refine pv_top (congrArg ps_int (st_nI hO.1.1)) ?_
        refine pv_callV E (fun adr => k_Mod_below l D ca A _ i s.toNatClampNeg t h0.th (hB1 0) hW hi2 hO.1.2 adr) yv_Mod_below wd_1040 rfl rfl (fun _ => ⟨_, rfl⟩) rfl ⟨by decide, by decide⟩ (Nat.le_of_ble_eq_true rfl) d_Mod_joinScope_37 ⟨by decide, by decide⟩ (fun r37 σ37 hq37 => ?_)
        obtain ⟨hr37, hs37⟩ := hq37
        subst r37
        subst σ37
        refine pv_if_ne (tgt := 47) E d_Mod_joinScope_40 rfl (fun h40 => ?_) (fun h40 => ?_)
        · skip
          refine pv_iconst (v := 0) E d_Mod_joinScope_47 (by decide) ?_
          refine pv_istore_n E d_Mod_joinScope_48 rfl (by decide) ?_
          refine pv_inc1 E d_Mod_joinScope_49 rfl (by decide) ?_
          refine pv_goto (tgt := 13) E d_Mod_joinScope_52 rfl ?_
          exact pv_back (ih (i + 1) (by omega) (by omega)) ⟨rfl, rfl, congrArg (fun z : Int32 => some (ps_int z)) (by rw [anyN, hany, decide_eq_true hO, decide_eq_true h31, if10t h40]; rfl), congrArg (fun z : Int32 => some (ps_int z)) (nI_1 i), trivial⟩
        · skip
          refine pv_iconst (v := 1) E d_Mod_joinScope_43 (by decide) ?_
          refine pv_goto (tgt := 48) E d_Mod_joinScope_44 rfl ?_
          refine pv_istore_n E d_Mod_joinScope_48 rfl (by decide) ?_
          refine pv_inc1 E d_Mod_joinScope_49 rfl (by decide) ?_
          refine pv_goto (tgt := 13) E d_Mod_joinScope_52 rfl ?_
          exact pv_back (ih (i + 1) (by omega) (by omega)) ⟨rfl, rfl, congrArg (fun z : Int32 => some (ps_int z)) (by rw [anyN, hany, decide_eq_true hO, decide_eq_true h31, if10b h40]; rfl), congrArg (fun z : Int32 => some (ps_int z)) (nI_1 i), trivial⟩
set_option maxHeartbeats 8000000 in
set_option maxRecDepth 100000 in
theorem k_Mod_joinScope_1 (l : Launch) (D : va_G) (ca : Nat → ClassId) (A : Nat → Prop) (σ : ps_S) (s : Int32) (t : tT) (g : gT) (hM : RM σ t g 0) (hW : tW t) (hZ0 : zI t g) (hb : x_jok t s) : ∀ adr, ps_M l y_Mod_joinScope c_Mod_joinScope 4 (Option.some Jvm.ClassFile.FieldType.boolean) { frames := 10, cells := 0, slots := 0, locals := 229 } D ca A adr σ [ps_ref (some (13, 0)), ps_int s] (fun rv σ' => rv = some (ps_int 1) ∧ RM σ' (x_close (tsS t s.toNatClampNeg 2 1, g)).1 (x_close (tsS t s.toNatClampNeg 2 1, g)).2 0 ∧ gY (x_close (tsS t s.toNatClampNeg 2 1, g)).2 ∧ ps_I σ' 13 0 0 = 0 ∧ FrM σ σ') := by
  intro adr
  refine ps_M.of (by decide +kernel) (Nat.le_of_ble_eq_true rfl) ?_
  intro p_ e_ s_ m_ args_ below_ meth_ c_ E hr hlk hnm
  have h0 := hM.1
  have hB := hM.2.2
  have hB1 : ∀ v : Int32, RMB (ps_sI σ 13 0 0 v) t := fun v => hB.th
  have hw12 := hW.1.1
  refine pv_aload_n E d_Mod_joinScope_0 rfl rfl ?_
  refine pv_iconst (v := 0) E d_Mod_joinScope_1 (by decide) ?_
  refine pf_Mod_thrown E wd_762 d_Mod_joinScope_2 ?_
  refine pv_aload_n E d_Mod_joinScope_5 rfl rfl ?_
  refine pv_iload_n E d_Mod_joinScope_6 rfl rfl ?_
  refine pv_callV E (fun adr => k_Mod_isOpen l D ca A _ s t h0.th (hB1 0) hW adr) yv_Mod_isOpen wd_1012 rfl rfl (fun _ => ⟨_, rfl⟩) rfl ⟨by decide, by decide⟩ (Nat.le_of_ble_eq_true rfl) d_Mod_joinScope_7 ⟨by decide, by decide⟩ (fun r7 σ7 hq7 => ?_)
  obtain ⟨hr7, hs7⟩ := hq7
  subst r7
  subst σ7
  refine pv_istore_n E d_Mod_joinScope_10 rfl (by decide) ?_
  refine pv_iconst (v := 0) E d_Mod_joinScope_11 (by decide) ?_
  refine pv_istore_n E d_Mod_joinScope_12 rfl (by decide) ?_
  refine pv_sub (L' := [(0, ps_ref (some (13, 0))), (1, ps_int s), (2, ps_int (if (decide ((¬ s < 0 ∧ s.toNatClampNeg < tN t) ∧ tS t s.toNatClampNeg 2 = 0) && !(anyN (fun i => decide (tS t i 2 = 0) && t_low t i s.toNatClampNeg) 0)) = true then (1 : Int32) else 0)), (3, ps_int (nI 0))]) ⟨rfl, rfl, congrArg (fun z : Int32 => some (ps_int z)) (by rw [anyN]; simp), rfl, trivial⟩ ?_
  refine pv_loop (ι := Nat) (fun i => tN t - i) (fun i => [(0, ps_ref (some (13, 0))), (1, ps_int s), (2, ps_int (if (decide ((¬ s < 0 ∧ s.toNatClampNeg < tN t) ∧ tS t s.toNatClampNeg 2 = 0) && !(anyN (fun i => decide (tS t i 2 = 0) && t_low t i s.toNatClampNeg) i)) = true then (1 : Int32) else 0)), (3, ps_int (nI i))]) (fun _ => ps_sI σ 13 0 0 0) (fun i => i ≤ tN t) (fun i hi ih => ?_) 0 (Nat.zero_le _)
  dsimp only at ih ⊢
  refine pv_iload_n E d_Mod_joinScope_13 rfl rfl ?_
  refine pv_aload_n E d_Mod_joinScope_14 rfl rfl ?_
  refine gf_Mod_scopes E wd_784 d_Mod_joinScope_15 ?_
  refine pv_top (congrArg ps_int (hB1 0).1.1) ?_
  refine pv_icmp_ge (tgt := 55) E d_Mod_joinScope_18 rfl (fun h18 => ?_) (fun h18 => ?_)
  · skip
    have hi2 : tN t ≤ i := (nI_leI (by omega) (by omega)).mp h18
    have hi3 : i = tN t := by omega
    subst hi3
    refine pv_iload_n E d_Mod_joinScope_55 rfl rfl ?_
    refine pv_if_ne (tgt := 61) E d_Mod_joinScope_56 rfl (fun h56 => ?_) (fun h56 => ?_)
    · skip
      have hc12 : s.toNatClampNeg < 12 := by have := hb.1.1.2; omega
      refine pv_aload_n E d_Mod_joinScope_61 rfl rfl ?_
      refine gf_Mod_mode E wd_788 d_Mod_joinScope_62 ?_
      refine pv_top (congrArg ps_ref (m_f h0 26 rfl)) ?_
      refine pv_iload_n E d_Mod_joinScope_65 rfl rfl ?_
      refine pv_top (congrArg ps_int (st_nI hb.1.1.1)) ?_
      refine pv_iconst (v := 1) E d_Mod_joinScope_66 (by decide) ?_
      refine pv_iastore (t0 := 6) E 14 _ (fun _ _ _ _ _ => rfl) rfl (m_ix h0 14 14 (by decide) (by decide) hc12) d_Mod_joinScope_67 ?_
      rw [nI_clamp (Nat.lt_trans hc12 (by decide))]
      have hB2 := (hB1 0).sS (v := 1) hb.1.1.2 (Or.inl ⟨rfl, rfl, rfl⟩)
      have hM2 := hM.th.B hB2 (FrB.b14 (by decide))
      refine pv_aload_n E d_Mod_joinScope_68 rfl rfl ?_
      refine pv_callV E (fun adr => k_Mod_closeAll l D ca A _ (tsS t s.toNatClampNeg 2 1) g hM2 hZ0.mode adr) yv_Mod_closeAll wd_1044 rfl rfl (fun _ => ⟨_, rfl⟩) rfl ⟨by decide, by decide⟩ (Nat.le_of_ble_eq_true rfl) d_Mod_joinScope_69 ⟨by decide, by decide⟩ (fun r69 σ69 hq69 => ?_)
      obtain ⟨hr69, hA69, hY69, ht69, hf69⟩ := hq69
      subst r69
      refine pv_iconst (v := 1) E d_Mod_joinScope_72 (by decide) ?_
      exact pv_zret E hr hlk d_Mod_joinScope_73 (by first | rfl | (apply ps_zb; assumption)) (by decide) (by decide) ⟨rfl, hA69, hY69, (ht69.trans (FrB.th (FrB.b14 (by decide)))).trans (ps_I_eq _ _ _ _ _), (FrM.th.tr (FrM.ofB (FrB.b14 (by decide)))).tr hf69⟩
    · skip
      exact absurd (if10b h56) (by rw [decide_eq_true (show (¬ s < 0 ∧ s.toNatClampNeg < tN t) ∧ tS t s.toNatClampNeg 2 = 0 from hb.1), Bool.true_and]; cases ha : anyN (fun i => decide (tS t i 2 = 0) && t_low t i s.toNatClampNeg) (tN t) with | false => decide | true => exact absurd ha hb.2)
  · skip
    have hi2 : i < tN t := Nat.lt_of_not_le (fun z => h18 ((nI_leI (by omega) (by omega)).mpr z))
    have hi12 : i < 12 := by omega
    refine pv_iload_n E d_Mod_joinScope_21 rfl rfl ?_
    refine pv_if_eq (tgt := 55) E d_Mod_joinScope_22 rfl (fun h22 => ?_) (fun h22 => ?_)
    · skip
      exact absurd (if10b h22) (by rw [decide_eq_true (show (¬ s < 0 ∧ s.toNatClampNeg < tN t) ∧ tS t s.toNatClampNeg 2 = 0 from hb.1), Bool.true_and]; cases ha : anyN (fun i => decide (tS t i 2 = 0) && t_low t i s.toNatClampNeg) i with | false => decide | true => exact absurd (anyN_mono ha (tN t) hi) hb.2)
    · skip
      have h22b := if10t h22
      rw [Bool.and_eq_true, decide_eq_true_iff, Bool.not_eq_true'] at h22b
      obtain ⟨hO, hany⟩ := h22b
      refine pv_aload_n E d_Mod_joinScope_25 rfl rfl ?_
      refine gf_Mod_mode E wd_788 d_Mod_joinScope_26 ?_
      refine pv_top (congrArg ps_ref (m_f h0 26 rfl)) ?_
      refine pv_iload_n E d_Mod_joinScope_29 rfl rfl ?_
      refine pv_iaload (t0 := 6) E 14 _ (fun _ _ _ _ _ => rfl) rfl (m_ix h0 14 14 (by decide) (by decide) hi12) d_Mod_joinScope_30 ?_
      refine pv_top (congrArg ps_int ((congrArg (ps_I _ 14 14) (nI_clamp (Nat.lt_trans hi12 (by decide)))).trans ((hB1 0).1.2.1 i hi2).1.2.2.2.1)) ?_
      refine pv_if_ne (tgt := 43) E d_Mod_joinScope_31 rfl (fun h31 => ?_) (fun h31 => ?_)
      · skip
        refine pv_iconst (v := 1) E d_Mod_joinScope_43 (by decide) ?_
        refine pv_goto (tgt := 48) E d_Mod_joinScope_44 rfl ?_
        refine pv_istore_n E d_Mod_joinScope_48 rfl (by decide) ?_
        refine pv_inc1 E d_Mod_joinScope_49 rfl (by decide) ?_
        refine pv_goto (tgt := 13) E d_Mod_joinScope_52 rfl ?_
        exact pv_back (ih (i + 1) (by omega) (by omega)) ⟨rfl, rfl, congrArg (fun z : Int32 => some (ps_int z)) (by rw [anyN, hany, decide_eq_true hO, decide_eq_false h31]; rfl), congrArg (fun z : Int32 => some (ps_int z)) (nI_1 i), trivial⟩
      · skip
        refine pv_aload_n E d_Mod_joinScope_34 rfl rfl ?_
        refine pv_iload_n E d_Mod_joinScope_35 rfl rfl ?_
        refine pv_iload_n E d_Mod_joinScope_36 rfl rfl ?_
        refine pv_top (congrArg ps_int (st_nI hO.1.1)) ?_
        refine pv_callV E (fun adr => k_Mod_below l D ca A _ i s.toNatClampNeg t h0.th (hB1 0) hW hi2 hO.1.2 adr) yv_Mod_below wd_1040 rfl rfl (fun _ => ⟨_, rfl⟩) rfl ⟨by decide, by decide⟩ (Nat.le_of_ble_eq_true rfl) d_Mod_joinScope_37 ⟨by decide, by decide⟩ (fun r37 σ37 hq37 => ?_)
        obtain ⟨hr37, hs37⟩ := hq37
        subst r37
        subst σ37
        refine pv_if_ne (tgt := 47) E d_Mod_joinScope_40 rfl (fun h40 => ?_) (fun h40 => ?_)
        · skip
          refine pv_iconst (v := 0) E d_Mod_joinScope_47 (by decide) ?_
          refine pv_istore_n E d_Mod_joinScope_48 rfl (by decide) ?_
          refine pv_inc1 E d_Mod_joinScope_49 rfl (by decide) ?_
          refine pv_goto (tgt := 13) E d_Mod_joinScope_52 rfl ?_
          exact pv_back (ih (i + 1) (by omega) (by omega)) ⟨rfl, rfl, congrArg (fun z : Int32 => some (ps_int z)) (by rw [anyN, hany, decide_eq_true hO, decide_eq_true h31, if10t h40]; rfl), congrArg (fun z : Int32 => some (ps_int z)) (nI_1 i), trivial⟩
        · skip
          refine pv_iconst (v := 1) E d_Mod_joinScope_43 (by decide) ?_
          refine pv_goto (tgt := 48) E d_Mod_joinScope_44 rfl ?_
          refine pv_istore_n E d_Mod_joinScope_48 rfl (by decide) ?_
          refine pv_inc1 E d_Mod_joinScope_49 rfl (by decide) ?_
          refine pv_goto (tgt := 13) E d_Mod_joinScope_52 rfl ?_
          exact pv_back (ih (i + 1) (by omega) (by omega)) ⟨rfl, rfl, congrArg (fun z : Int32 => some (ps_int z)) (by rw [anyN, hany, decide_eq_true hO, decide_eq_true h31, if10b h40]; rfl), congrArg (fun z : Int32 => some (ps_int z)) (nI_1 i), trivial⟩
set_option maxHeartbeats 8000000 in
set_option maxRecDepth 100000 in
theorem k_Mod_cancelScope_0 (l : Launch) (D : va_G) (ca : Nat → ClassId) (A : Nat → Prop) (σ : ps_S) (s : Int32) (t : tT) (g : gT) (hM : RM σ t g 0) (hW : tW t) (hZ0 : zI t g) (hb : ¬ x_cok t s) : ∀ adr, ps_M l y_Mod_cancelScope c_Mod_cancelScope 2 (Option.some Jvm.ClassFile.FieldType.boolean) { frames := 10, cells := 0, slots := 0, locals := 229 } D ca A adr σ [ps_ref (some (13, 0)), ps_int s] (fun rv σ' => rv = some (ps_int (0)) ∧ RM σ' t g 0 ∧ ps_I σ' 13 0 0 = 0 ∧ FrM σ σ') := by
  intro adr
  refine ps_M.of (by decide +kernel) (Nat.le_of_ble_eq_true rfl) ?_
  intro p_ e_ s_ m_ args_ below_ meth_ c_ E hr hlk hnm
  have h0 := hM.1
  have hB := hM.2.2
  have hB1 : ∀ v : Int32, RMB (ps_sI σ 13 0 0 v) t := fun v => hB.th
  have hw12 := hW.1.1
  refine pv_aload_n E d_Mod_cancelScope_0 rfl rfl ?_
  refine pv_iconst (v := 0) E d_Mod_cancelScope_1 (by decide) ?_
  refine pf_Mod_thrown E wd_762 d_Mod_cancelScope_2 ?_
  refine pv_aload_n E d_Mod_cancelScope_5 rfl rfl ?_
  refine pv_iload_n E d_Mod_cancelScope_6 rfl rfl ?_
  refine pv_callV E (fun adr => k_Mod_isScope l D ca A _ s t (hB1 0).1.1 hW.1.1 adr) yv_Mod_isScope wd_1016 rfl rfl (fun _ => ⟨_, rfl⟩) rfl ⟨by decide, by decide⟩ (Nat.le_of_ble_eq_true rfl) d_Mod_cancelScope_7 ⟨by decide, by decide⟩ (fun r7 σ7 hq7 => ?_)
  obtain ⟨hr7, hs7⟩ := hq7
  subst r7
  subst σ7
  refine pv_if_ne (tgt := 15) E d_Mod_cancelScope_10 rfl (fun h10 => ?_) (fun h10 => ?_)
  · skip
    have hc := if10n h10
    have hc12 : s.toNatClampNeg < 12 := by have := hc.2; omega
    refine pv_aload_n E d_Mod_cancelScope_15 rfl rfl ?_
    refine gf_Mod_mode E wd_788 d_Mod_cancelScope_16 ?_
    refine pv_top (congrArg ps_ref (m_f h0 26 rfl)) ?_
    refine pv_iload_n E d_Mod_cancelScope_19 rfl rfl ?_
    refine pv_top (congrArg ps_int (st_nI hc.1)) ?_
    refine pv_iaload (t0 := 6) E 14 _ (fun _ _ _ _ _ => rfl) rfl (m_ix h0 14 14 (by decide) (by decide) hc12) d_Mod_cancelScope_20 ?_
    refine pv_top (congrArg ps_int ((congrArg (ps_I _ 14 14) (nI_clamp (Nat.lt_trans hc12 (by decide)))).trans ((hB1 0).1.2.1 s.toNatClampNeg hc.2).1.2.2.2.1)) ?_
    refine pv_iconst (v := 2) E d_Mod_cancelScope_21 (by decide) ?_
    refine pv_icmp_ne (tgt := 27) E d_Mod_cancelScope_22 rfl (fun h22 => ?_) (fun h22 => ?_)
    · skip
      exact absurd ⟨hc, h22⟩ hb
    · skip
      refine pv_iconst (v := 0) E d_Mod_cancelScope_25 (by decide) ?_
      exact pv_zret E hr hlk d_Mod_cancelScope_26 (by first | rfl | (apply ps_zb; assumption)) (by decide) (by decide) ⟨rfl, hM.th, ps_I_eq _ _ _ _ _, FrM.th⟩
  · skip
    have hc := if10 h10
    refine pv_iconst (v := 0) E d_Mod_cancelScope_13 (by decide) ?_
    exact pv_zret E hr hlk d_Mod_cancelScope_14 (by first | rfl | (apply ps_zb; assumption)) (by decide) (by decide) ⟨rfl, hM.th, ps_I_eq _ _ _ _ _, FrM.th⟩
set_option maxHeartbeats 8000000 in
set_option maxRecDepth 100000 in
theorem k_Mod_cancelScope_1 (l : Launch) (D : va_G) (ca : Nat → ClassId) (A : Nat → Prop) (σ : ps_S) (s : Int32) (t : tT) (g : gT) (hM : RM σ t g 0) (hW : tW t) (hZ0 : zI t g) (hb : x_cok t s) : ∀ adr, ps_M l y_Mod_cancelScope c_Mod_cancelScope 2 (Option.some Jvm.ClassFile.FieldType.boolean) { frames := 10, cells := 0, slots := 0, locals := 229 } D ca A adr σ [ps_ref (some (13, 0)), ps_int s] (fun rv σ' => rv = some (ps_int 1) ∧ RM σ' (x_close (t_stop t s.toNatClampNeg, g)).1 (x_close (t_stop t s.toNatClampNeg, g)).2 0 ∧ gY (x_close (t_stop t s.toNatClampNeg, g)).2 ∧ ps_I σ' 13 0 0 = 0 ∧ FrM σ σ') := by
  intro adr
  refine ps_M.of (by decide +kernel) (Nat.le_of_ble_eq_true rfl) ?_
  intro p_ e_ s_ m_ args_ below_ meth_ c_ E hr hlk hnm
  have h0 := hM.1
  have hB := hM.2.2
  have hB1 : ∀ v : Int32, RMB (ps_sI σ 13 0 0 v) t := fun v => hB.th
  have hw12 := hW.1.1
  refine pv_aload_n E d_Mod_cancelScope_0 rfl rfl ?_
  refine pv_iconst (v := 0) E d_Mod_cancelScope_1 (by decide) ?_
  refine pf_Mod_thrown E wd_762 d_Mod_cancelScope_2 ?_
  refine pv_aload_n E d_Mod_cancelScope_5 rfl rfl ?_
  refine pv_iload_n E d_Mod_cancelScope_6 rfl rfl ?_
  refine pv_callV E (fun adr => k_Mod_isScope l D ca A _ s t (hB1 0).1.1 hW.1.1 adr) yv_Mod_isScope wd_1016 rfl rfl (fun _ => ⟨_, rfl⟩) rfl ⟨by decide, by decide⟩ (Nat.le_of_ble_eq_true rfl) d_Mod_cancelScope_7 ⟨by decide, by decide⟩ (fun r7 σ7 hq7 => ?_)
  obtain ⟨hr7, hs7⟩ := hq7
  subst r7
  subst σ7
  refine pv_if_ne (tgt := 15) E d_Mod_cancelScope_10 rfl (fun h10 => ?_) (fun h10 => ?_)
  · skip
    have hc := if10n h10
    have hc12 : s.toNatClampNeg < 12 := by have := hc.2; omega
    refine pv_aload_n E d_Mod_cancelScope_15 rfl rfl ?_
    refine gf_Mod_mode E wd_788 d_Mod_cancelScope_16 ?_
    refine pv_top (congrArg ps_ref (m_f h0 26 rfl)) ?_
    refine pv_iload_n E d_Mod_cancelScope_19 rfl rfl ?_
    refine pv_top (congrArg ps_int (st_nI hc.1)) ?_
    refine pv_iaload (t0 := 6) E 14 _ (fun _ _ _ _ _ => rfl) rfl (m_ix h0 14 14 (by decide) (by decide) hc12) d_Mod_cancelScope_20 ?_
    refine pv_top (congrArg ps_int ((congrArg (ps_I _ 14 14) (nI_clamp (Nat.lt_trans hc12 (by decide)))).trans ((hB1 0).1.2.1 s.toNatClampNeg hc.2).1.2.2.2.1)) ?_
    refine pv_iconst (v := 2) E d_Mod_cancelScope_21 (by decide) ?_
    refine pv_icmp_ne (tgt := 27) E d_Mod_cancelScope_22 rfl (fun h22 => ?_) (fun h22 => ?_)
    · skip
      refine pv_aload_n E d_Mod_cancelScope_27 rfl rfl ?_
      refine pv_iload_n E d_Mod_cancelScope_28 rfl rfl ?_
      refine pv_top (congrArg ps_int (st_nI hc.1)) ?_
      refine pv_callV E (fun adr => k_Mod_stop l D ca A _ s.toNatClampNeg t h0.th (hB1 0) hW hc.2 h22 adr) yv_Mod_stop wd_1060 rfl rfl (fun _ => ⟨_, rfl⟩) rfl ⟨by decide, by decide⟩ (Nat.le_of_ble_eq_true rfl) d_Mod_cancelScope_29 ⟨by decide, by decide⟩ (fun r29 σ29 hq29 => ?_)
      obtain ⟨hr29, hB29, hf29⟩ := hq29
      subst r29
      have hM2 := hM.th.B hB29 hf29
      refine pv_aload_n E d_Mod_cancelScope_32 rfl rfl ?_
      refine pv_callV E (fun adr => k_Mod_closeAll l D ca A _ (t_stop t s.toNatClampNeg) g hM2 (hZ0.L (tL.stop t s.toNatClampNeg)) adr) yv_Mod_closeAll wd_1044 rfl rfl (fun _ => ⟨_, rfl⟩) rfl ⟨by decide, by decide⟩ (Nat.le_of_ble_eq_true rfl) d_Mod_cancelScope_33 ⟨by decide, by decide⟩ (fun r33 σ33 hq33 => ?_)
      obtain ⟨hr33, hA33, hY33, ht33, hf33⟩ := hq33
      subst r33
      refine pv_iconst (v := 1) E d_Mod_cancelScope_36 (by decide) ?_
      exact pv_zret E hr hlk d_Mod_cancelScope_37 (by first | rfl | (apply ps_zb; assumption)) (by decide) (by decide) ⟨rfl, hA33, hY33, (ht33.trans hf29.th).trans (ps_I_eq _ _ _ _ _), (FrM.th.tr (FrM.ofB hf29)).tr hf33⟩
    · skip
      exact absurd h22 hb.2
  · skip
    have hc := if10 h10
    exact absurd hb.1 hc
set_option maxHeartbeats 8000000 in
set_option maxRecDepth 100000 in
theorem k_Mod_end (l : Launch) (D : va_G) (ca : Nat → ClassId) (A : Nat → Prop) (σ : ps_S) (j : Nat) (t : tT) (h0 : RM0 σ) (hB : RMB σ t) (hW : tW t) (hj : j < uN t) (h0j : uK t j 4 = 0) (hfn : ¬ fn_has (uK t j 1) = 0) (hT : ∀ k, k < uN t → uK t k 4 = 1 ∨ uK t k 4 = 2 → uT t k < uE t) (hop : ¬ tS t (uO t j) 2 = 2) : ∀ adr, ps_M l y_Mod_end c_Mod_end 3 (Option.none : Option Jvm.ClassFile.FieldType) { frames := 2, cells := 0, slots := 0, locals := 46 } D ca A adr σ [ps_ref (some (13, 0)), ps_int (nI j)] (fun rv σ' => rv = none ∧ RMB σ' (u_do t j) ∧ FrB σ σ') := by
  intro adr
  refine ps_M.of (by decide +kernel) (Nat.le_of_ble_eq_true rfl) ?_
  intro p_ e_ s_ m_ args_ below_ meth_ c_ E hr hlk hnm
  have hw12 := hW.1.1
  have hu30 := hW.1.2
  have hj30 : j < 30 := by omega
  have hoj := hW.2.2.1 j hj
  have hc12 : uO t j < 12 := by omega
  obtain ⟨r1, r2, r3, r4, r5, r6, r7, r8⟩ := hB.2.2.2.1 j hj
  have hBa : RMB (m_app σ (uK t j 1) (uK t j 2) (uK t j 3)) t := hB.app
  refine pv_aload_n E d_Mod_end_0 rfl rfl ?_
  refine gf_Mod_home E wd_798 d_Mod_end_1 ?_
  refine pv_top (congrArg ps_ref (m_f h0 36 rfl)) ?_
  refine pv_iload_n E d_Mod_end_4 rfl rfl ?_
  refine pv_iaload (t0 := 6) E 14 _ (fun _ _ _ _ _ => rfl) rfl (m_ix h0 14 19 (by decide) (by decide) hj30) d_Mod_end_5 ?_
  refine pv_top (congrArg ps_int ((congrArg (ps_I _ 14 19) (nI_clamp (Nat.lt_trans hj30 (by decide)))).trans r1)) ?_
  refine pv_istore_n E d_Mod_end_6 rfl (by decide) ?_
  refine pv_aload_n E d_Mod_end_7 rfl rfl ?_
  refine pv_aload_n E d_Mod_end_8 rfl rfl ?_
  refine gf_Mod_does E wd_800 d_Mod_end_9 ?_
  refine pv_top (congrArg ps_ref (m_f h0 38 rfl)) ?_
  refine pv_iload_n E d_Mod_end_12 rfl rfl ?_
  refine pv_iaload (t0 := 6) E 14 _ (fun _ _ _ _ _ => rfl) rfl (m_ix h0 14 21 (by decide) (by decide) hj30) d_Mod_end_13 ?_
  refine pv_top (congrArg ps_int ((congrArg (ps_I _ 14 21) (nI_clamp (Nat.lt_trans hj30 (by decide)))).trans r3)) ?_
  refine pv_aload_n E d_Mod_end_14 rfl rfl ?_
  refine gf_Mod_with E wd_801 d_Mod_end_15 ?_
  refine pv_top (congrArg ps_ref (m_f h0 39 rfl)) ?_
  refine pv_iload_n E d_Mod_end_18 rfl rfl ?_
  refine pv_iaload (t0 := 6) E 14 _ (fun _ _ _ _ _ => rfl) rfl (m_ix h0 14 22 (by decide) (by decide) hj30) d_Mod_end_19 ?_
  refine pv_top (congrArg ps_int ((congrArg (ps_I _ 14 22) (nI_clamp (Nat.lt_trans hj30 (by decide)))).trans r4)) ?_
  refine pv_aload_n E d_Mod_end_20 rfl rfl ?_
  refine gf_Mod_given E wd_802 d_Mod_end_21 ?_
  refine pv_top (congrArg ps_ref (m_f h0 40 rfl)) ?_
  refine pv_iload_n E d_Mod_end_24 rfl rfl ?_
  refine pv_iaload (t0 := 6) E 14 _ (fun _ _ _ _ _ => rfl) rfl (m_ix h0 14 23 (by decide) (by decide) hj30) d_Mod_end_25 ?_
  refine pv_top (congrArg ps_int ((congrArg (ps_I _ 14 23) (nI_clamp (Nat.lt_trans hj30 (by decide)))).trans r5)) ?_
  refine pv_callV E (fun adr => k_Mod_apply l D ca A _ (uK t j 1) (uK t j 2) (uK t j 3) adr) yv_Mod_apply wd_952 rfl rfl (fun _ => ⟨_, rfl⟩) rfl ⟨by decide, by decide⟩ (Nat.le_of_ble_eq_true rfl) d_Mod_end_26 ⟨by decide, by decide⟩ (fun r26 σ26 hq26 => ?_)
  obtain ⟨hr26, hs26⟩ := hq26
  subst r26
  subst hs26
  refine pv_aload_n E d_Mod_end_29 rfl rfl ?_
  refine gf_Mod_how E wd_803 d_Mod_end_30 ?_
  refine pv_top (congrArg ps_ref (m_f h0 41 rfl)) ?_
  refine pv_iload_n E d_Mod_end_33 rfl rfl ?_
  refine pv_aload_n E d_Mod_end_34 rfl rfl ?_
  refine gf_Mod_threw E wd_783 d_Mod_end_35 ?_
  refine pv_top (congrArg ps_int (app_21 _ _ _ _)) ?_
  refine pv_if_le (tgt := 45) E d_Mod_end_38 rfl (fun h38 => ?_) (fun h38 => ?_)
  · skip
    refine pv_iconst (v := 1) E d_Mod_end_45 (by decide) ?_
    refine pv_iastore (t0 := 6) E 14 _ (fun _ _ _ _ _ => rfl) rfl (m_ix h0 14 24 (by decide) (by decide) hj30) d_Mod_end_46 ?_
    rw [nI_clamp (Nat.lt_trans hj30 (by decide))]
    refine pv_aload_n E d_Mod_end_47 rfl rfl ?_
    refine gf_Mod_came2 E wd_805 d_Mod_end_48 ?_
    refine pv_top (congrArg ps_ref (m_f h0 43 rfl)) ?_
    refine pv_iload_n E d_Mod_end_51 rfl rfl ?_
    refine pv_aload_n E d_Mod_end_52 rfl rfl ?_
    refine gf_Mod_threw E wd_783 d_Mod_end_53 ?_
    refine pv_top (congrArg ps_int ((sI_ne (by omega)).trans (app_21 _ _ _ _))) ?_
    refine pv_if_le (tgt := 66) E d_Mod_end_56 rfl (fun h56 => ?_) (fun h56 => ?_)
    · skip
      refine pv_aload_n E d_Mod_end_66 rfl rfl ?_
      refine gf_Mod_made E wd_782 d_Mod_end_67 ?_
      refine pv_top (congrArg ps_int (((sI_ne (by omega)).trans (app_20 _ _ _ _)).trans (m_mk_eq hfn (thr_le.mp h38)))) ?_
      refine pv_iastore (t0 := 6) E 14 _ (fun _ _ _ _ _ => rfl) rfl (m_ix h0 14 26 (by decide) (by decide) hj30) d_Mod_end_70 ?_
      rw [nI_clamp (Nat.lt_trans hj30 (by decide))]
      refine pv_aload_n E d_Mod_end_71 rfl rfl ?_
      refine gf_Mod_threw E wd_783 d_Mod_end_72 ?_
      refine pv_top (congrArg ps_int ((sI_ne (by omega)).trans ((sI_ne (by omega)).trans (app_21 _ _ _ _)))) ?_
      refine pv_if_le (tgt := 106) E d_Mod_end_75 rfl (fun h75 => ?_) (fun h75 => ?_)
      · skip
        refine pv_aload_n E d_Mod_end_106 rfl rfl ?_
        refine gf_Mod_firstDone E wd_792 d_Mod_end_107 ?_
        refine pv_top (congrArg ps_ref (m_f h0 30 rfl)) ?_
        refine pv_iload_n E d_Mod_end_110 rfl rfl ?_
        refine pv_aload_n E d_Mod_end_111 rfl rfl ?_
        refine gf_Mod_firstDone E wd_792 d_Mod_end_112 ?_
        refine pv_top (congrArg ps_ref (m_f h0 30 rfl)) ?_
        refine pv_iload_n E d_Mod_end_115 rfl rfl ?_
        refine pv_iaload (t0 := 6) E 14 _ (fun _ _ _ _ _ => rfl) rfl (m_ix h0 14 16 (by decide) (by decide) hc12) d_Mod_end_116 ?_
        refine pv_top (congrArg ps_int ((congrArg (ps_I _ 14 16) (nI_clamp (Nat.lt_trans hc12 (by decide)))).trans ((sI_ne (by omega)).trans ((sI_ne (by omega)).trans (hBa.1.2.1 (uO t j) hoj).2.1.1)))) ?_
        refine pv_if_ge (tgt := 124) E d_Mod_end_117 rfl (fun h117 => ?_) (fun h117 => ?_)
        · skip
          obtain ⟨b1, hff⟩ := m_opt_some (Int32.not_lt.mpr h117)
          refine pv_aload_n E d_Mod_end_124 rfl rfl ?_
          refine gf_Mod_firstDone E wd_792 d_Mod_end_125 ?_
          refine pv_top (congrArg ps_ref (m_f h0 30 rfl)) ?_
          refine pv_iload_n E d_Mod_end_128 rfl rfl ?_
          refine pv_iaload (t0 := 6) E 14 _ (fun _ _ _ _ _ => rfl) rfl (m_ix h0 14 16 (by decide) (by decide) hc12) d_Mod_end_129 ?_
          refine pv_top (congrArg ps_int ((congrArg (ps_I _ 14 16) (nI_clamp (Nat.lt_trans hc12 (by decide)))).trans ((sI_ne (by omega)).trans ((sI_ne (by omega)).trans (hBa.1.2.1 (uO t j) hoj).2.1.1)))) ?_
          refine pv_iastore (t0 := 6) E 14 _ (fun _ _ _ _ _ => rfl) rfl (m_ix h0 14 16 (by decide) (by decide) hc12) d_Mod_end_130 ?_
          rw [nI_clamp (Nat.lt_trans hc12 (by decide))]
          have hE := hBa.en (i := 16) (s := 1) (v := (fn_mk (uK t j 1) (uK t j 2) (uK t j 3))) (w := m_opt (u_fst t (uO t j) 1 (uN t))) hW hj h0j hT (Or.inl ⟨rfl, rfl⟩) (by rw [hff]; rfl)
          have hWe : tW (u_en t j 1 (fn_mk (uK t j 1) (uK t j 2) (uK t j 3))) := hW.en hj h0j (by decide)
          refine pv_aload_n E d_Mod_end_131 rfl rfl ?_
          refine gf_Mod_policy E wd_786 d_Mod_end_132 ?_
          refine pv_top (congrArg ps_ref (m_f h0 24 rfl)) ?_
          refine pv_iload_n E d_Mod_end_135 rfl rfl ?_
          refine pv_iaload (t0 := 6) E 14 _ (fun _ _ _ _ _ => rfl) rfl (m_ix h0 14 12 (by decide) (by decide) hc12) d_Mod_end_136 ?_
          refine pv_top (congrArg ps_int ((congrArg (ps_I _ 14 12) (nI_clamp (Nat.lt_trans hc12 (by decide)))).trans (show _ = tS t (uO t j) 0 from (hE.1.2.1 (uO t j) hoj).1.2.1))) ?_
          refine pv_iconst (v := 1) E d_Mod_end_137 (by decide) ?_
          refine pv_icmp_ne (tgt := 148) E d_Mod_end_138 rfl (fun h138 => ?_) (fun h138 => ?_)
          · skip
            refine pv_aload_n E d_Mod_end_148 rfl rfl ?_
            refine gf_Mod_policy E wd_786 d_Mod_end_149 ?_
            refine pv_top (congrArg ps_ref (m_f h0 24 rfl)) ?_
            refine pv_iload_n E d_Mod_end_152 rfl rfl ?_
            refine pv_iaload (t0 := 6) E 14 _ (fun _ _ _ _ _ => rfl) rfl (m_ix h0 14 12 (by decide) (by decide) hc12) d_Mod_end_153 ?_
            refine pv_top (congrArg ps_int ((congrArg (ps_I _ 14 12) (nI_clamp (Nat.lt_trans hc12 (by decide)))).trans (show _ = tS t (uO t j) 0 from (hE.1.2.1 (uO t j) hoj).1.2.1))) ?_
            refine pv_iconst (v := 2) E d_Mod_end_154 (by decide) ?_
            refine pv_icmp_ne (tgt := 170) E d_Mod_end_155 rfl (fun h155 => ?_) (fun h155 => ?_)
            · skip
              exact pv_vret E hr hlk d_Mod_end_170 (by decide) (by decide) ⟨rfl, by have hs4 : u_s4 t j = 1 := if_pos (thr_le.mp h38); have hs6 : u_s6 t j = (fn_mk (uK t j 1) (uK t j 2) (uK t j 3)) := if_pos (thr_le.mp h38); unfold u_do; rw [if_neg (by rw [hs4, decide_eq_false h138, decide_eq_false h155]; decide), hs4, hs6]; exact hE, (FrB.app.tr (FrB.en (by decide)))⟩
            · skip
              refine pv_aload_n E d_Mod_end_158 rfl rfl ?_
              refine gf_Mod_threw E wd_783 d_Mod_end_159 ?_
              refine pv_top (congrArg ps_int ((sI_ne (by omega)).trans ((sI_ne (by omega)).trans ((sI_ne (by omega)).trans (app_21 _ _ _ _))))) ?_
              refine pv_if_ne (tgt := 170) E d_Mod_end_162 rfl (fun h162 => ?_) (fun h162 => ?_)
              · skip
                exact absurd (thr_le.mp h38) h162
              · skip
                refine pv_aload_n E d_Mod_end_165 rfl rfl ?_
                refine pv_iload_n E d_Mod_end_166 rfl rfl ?_
                refine pv_callV E (fun adr => k_Mod_stop l D ca A _ (uO t j) (u_en t j 1 (fn_mk (uK t j 1) (uK t j 2) (uK t j 3))) (h0.B (FrB.app.tr (FrB.en (i := 16) (by decide)))) hE hWe hoj hop adr) yv_Mod_stop wd_1060 rfl rfl (fun _ => ⟨_, rfl⟩) rfl ⟨by decide, by decide⟩ (Nat.le_of_ble_eq_true rfl) d_Mod_end_167 ⟨by decide, by decide⟩ (fun r167 σ167 hq167 => ?_)
                obtain ⟨hr167, hB167, hf167⟩ := hq167
                subst r167
                exact pv_vret E hr hlk d_Mod_end_170 (by decide) (by decide) ⟨rfl, by have hs4 : u_s4 t j = 1 := if_pos (thr_le.mp h38); have hs6 : u_s6 t j = (fn_mk (uK t j 1) (uK t j 2) (uK t j 3)) := if_pos (thr_le.mp h38); unfold u_do; rw [if_pos (by rw [hs4, h155]; rfl), hs4, hs6]; exact hB167, (FrB.app.tr (FrB.en (by decide))).tr hf167⟩
          · skip
            refine pv_aload_n E d_Mod_end_141 rfl rfl ?_
            refine gf_Mod_threw E wd_783 d_Mod_end_142 ?_
            refine pv_top (congrArg ps_int ((sI_ne (by omega)).trans ((sI_ne (by omega)).trans ((sI_ne (by omega)).trans (app_21 _ _ _ _))))) ?_
            refine pv_if_gt (tgt := 165) E d_Mod_end_145 rfl (fun h145 => ?_) (fun h145 => ?_)
            · skip
              exact absurd h145 (Int32.not_lt.mpr h38)
            · skip
              refine pv_aload_n E d_Mod_end_148 rfl rfl ?_
              refine gf_Mod_policy E wd_786 d_Mod_end_149 ?_
              refine pv_top (congrArg ps_ref (m_f h0 24 rfl)) ?_
              refine pv_iload_n E d_Mod_end_152 rfl rfl ?_
              refine pv_iaload (t0 := 6) E 14 _ (fun _ _ _ _ _ => rfl) rfl (m_ix h0 14 12 (by decide) (by decide) hc12) d_Mod_end_153 ?_
              refine pv_top (congrArg ps_int ((congrArg (ps_I _ 14 12) (nI_clamp (Nat.lt_trans hc12 (by decide)))).trans (show _ = tS t (uO t j) 0 from (hE.1.2.1 (uO t j) hoj).1.2.1))) ?_
              refine pv_iconst (v := 2) E d_Mod_end_154 (by decide) ?_
              refine pv_icmp_ne (tgt := 170) E d_Mod_end_155 rfl (fun h155 => ?_) (fun h155 => ?_)
              · skip
                exact pv_vret E hr hlk d_Mod_end_170 (by decide) (by decide) ⟨rfl, by have hs4 : u_s4 t j = 1 := if_pos (thr_le.mp h38); have hs6 : u_s6 t j = (fn_mk (uK t j 1) (uK t j 2) (uK t j 3)) := if_pos (thr_le.mp h38); unfold u_do; rw [if_neg (by rw [hs4, h138]; decide), hs4, hs6]; exact hE, (FrB.app.tr (FrB.en (by decide)))⟩
              · skip
                refine pv_aload_n E d_Mod_end_158 rfl rfl ?_
                refine gf_Mod_threw E wd_783 d_Mod_end_159 ?_
                refine pv_top (congrArg ps_int ((sI_ne (by omega)).trans ((sI_ne (by omega)).trans ((sI_ne (by omega)).trans (app_21 _ _ _ _))))) ?_
                refine pv_if_ne (tgt := 170) E d_Mod_end_162 rfl (fun h162 => ?_) (fun h162 => ?_)
                · skip
                  exact absurd (thr_le.mp h38) h162
                · skip
                  refine pv_aload_n E d_Mod_end_165 rfl rfl ?_
                  refine pv_iload_n E d_Mod_end_166 rfl rfl ?_
                  refine pv_callV E (fun adr => k_Mod_stop l D ca A _ (uO t j) (u_en t j 1 (fn_mk (uK t j 1) (uK t j 2) (uK t j 3))) (h0.B (FrB.app.tr (FrB.en (i := 16) (by decide)))) hE hWe hoj hop adr) yv_Mod_stop wd_1060 rfl rfl (fun _ => ⟨_, rfl⟩) rfl ⟨by decide, by decide⟩ (Nat.le_of_ble_eq_true rfl) d_Mod_end_167 ⟨by decide, by decide⟩ (fun r167 σ167 hq167 => ?_)
                  obtain ⟨hr167, hB167, hf167⟩ := hq167
                  subst r167
                  exact pv_vret E hr hlk d_Mod_end_170 (by decide) (by decide) ⟨rfl, by have hs4 : u_s4 t j = 1 := if_pos (thr_le.mp h38); have hs6 : u_s6 t j = (fn_mk (uK t j 1) (uK t j 2) (uK t j 3)) := if_pos (thr_le.mp h38); unfold u_do; rw [if_pos (by rw [hs4, h155]; rfl), hs4, hs6]; exact hB167, (FrB.app.tr (FrB.en (by decide))).tr hf167⟩
        · skip
          have hff : u_fst t (uO t j) 1 (uN t) = none := (m_opt_neg (fun z hz => by have := (fst_cnt t (uO t j) 1 (uN t)).2 z hz; omega)).mp (Int32.not_le.mp h117)
          refine pv_iload_n E d_Mod_end_120 rfl rfl ?_
          refine pv_goto (tgt := 130) E d_Mod_end_121 rfl ?_
          refine pv_iastore (t0 := 6) E 14 _ (fun _ _ _ _ _ => rfl) rfl (m_ix h0 14 16 (by decide) (by decide) hc12) d_Mod_end_130 ?_
          rw [nI_clamp (Nat.lt_trans hc12 (by decide))]
          have hE := hBa.en (i := 16) (s := 1) (v := (fn_mk (uK t j 1) (uK t j 2) (uK t j 3))) (w := nI j) hW hj h0j hT (Or.inl ⟨rfl, rfl⟩) (by rw [hff]; rfl)
          have hWe : tW (u_en t j 1 (fn_mk (uK t j 1) (uK t j 2) (uK t j 3))) := hW.en hj h0j (by decide)
          refine pv_aload_n E d_Mod_end_131 rfl rfl ?_
          refine gf_Mod_policy E wd_786 d_Mod_end_132 ?_
          refine pv_top (congrArg ps_ref (m_f h0 24 rfl)) ?_
          refine pv_iload_n E d_Mod_end_135 rfl rfl ?_
          refine pv_iaload (t0 := 6) E 14 _ (fun _ _ _ _ _ => rfl) rfl (m_ix h0 14 12 (by decide) (by decide) hc12) d_Mod_end_136 ?_
          refine pv_top (congrArg ps_int ((congrArg (ps_I _ 14 12) (nI_clamp (Nat.lt_trans hc12 (by decide)))).trans (show _ = tS t (uO t j) 0 from (hE.1.2.1 (uO t j) hoj).1.2.1))) ?_
          refine pv_iconst (v := 1) E d_Mod_end_137 (by decide) ?_
          refine pv_icmp_ne (tgt := 148) E d_Mod_end_138 rfl (fun h138 => ?_) (fun h138 => ?_)
          · skip
            refine pv_aload_n E d_Mod_end_148 rfl rfl ?_
            refine gf_Mod_policy E wd_786 d_Mod_end_149 ?_
            refine pv_top (congrArg ps_ref (m_f h0 24 rfl)) ?_
            refine pv_iload_n E d_Mod_end_152 rfl rfl ?_
            refine pv_iaload (t0 := 6) E 14 _ (fun _ _ _ _ _ => rfl) rfl (m_ix h0 14 12 (by decide) (by decide) hc12) d_Mod_end_153 ?_
            refine pv_top (congrArg ps_int ((congrArg (ps_I _ 14 12) (nI_clamp (Nat.lt_trans hc12 (by decide)))).trans (show _ = tS t (uO t j) 0 from (hE.1.2.1 (uO t j) hoj).1.2.1))) ?_
            refine pv_iconst (v := 2) E d_Mod_end_154 (by decide) ?_
            refine pv_icmp_ne (tgt := 170) E d_Mod_end_155 rfl (fun h155 => ?_) (fun h155 => ?_)
            · skip
              exact pv_vret E hr hlk d_Mod_end_170 (by decide) (by decide) ⟨rfl, by have hs4 : u_s4 t j = 1 := if_pos (thr_le.mp h38); have hs6 : u_s6 t j = (fn_mk (uK t j 1) (uK t j 2) (uK t j 3)) := if_pos (thr_le.mp h38); unfold u_do; rw [if_neg (by rw [hs4, decide_eq_false h138, decide_eq_false h155]; decide), hs4, hs6]; exact hE, (FrB.app.tr (FrB.en (by decide)))⟩
            · skip
              refine pv_aload_n E d_Mod_end_158 rfl rfl ?_
              refine gf_Mod_threw E wd_783 d_Mod_end_159 ?_
              refine pv_top (congrArg ps_int ((sI_ne (by omega)).trans ((sI_ne (by omega)).trans ((sI_ne (by omega)).trans (app_21 _ _ _ _))))) ?_
              refine pv_if_ne (tgt := 170) E d_Mod_end_162 rfl (fun h162 => ?_) (fun h162 => ?_)
              · skip
                exact absurd (thr_le.mp h38) h162
              · skip
                refine pv_aload_n E d_Mod_end_165 rfl rfl ?_
                refine pv_iload_n E d_Mod_end_166 rfl rfl ?_
                refine pv_callV E (fun adr => k_Mod_stop l D ca A _ (uO t j) (u_en t j 1 (fn_mk (uK t j 1) (uK t j 2) (uK t j 3))) (h0.B (FrB.app.tr (FrB.en (i := 16) (by decide)))) hE hWe hoj hop adr) yv_Mod_stop wd_1060 rfl rfl (fun _ => ⟨_, rfl⟩) rfl ⟨by decide, by decide⟩ (Nat.le_of_ble_eq_true rfl) d_Mod_end_167 ⟨by decide, by decide⟩ (fun r167 σ167 hq167 => ?_)
                obtain ⟨hr167, hB167, hf167⟩ := hq167
                subst r167
                exact pv_vret E hr hlk d_Mod_end_170 (by decide) (by decide) ⟨rfl, by have hs4 : u_s4 t j = 1 := if_pos (thr_le.mp h38); have hs6 : u_s6 t j = (fn_mk (uK t j 1) (uK t j 2) (uK t j 3)) := if_pos (thr_le.mp h38); unfold u_do; rw [if_pos (by rw [hs4, h155]; rfl), hs4, hs6]; exact hB167, (FrB.app.tr (FrB.en (by decide))).tr hf167⟩
          · skip
            refine pv_aload_n E d_Mod_end_141 rfl rfl ?_
            refine gf_Mod_threw E wd_783 d_Mod_end_142 ?_
            refine pv_top (congrArg ps_int ((sI_ne (by omega)).trans ((sI_ne (by omega)).trans ((sI_ne (by omega)).trans (app_21 _ _ _ _))))) ?_
            refine pv_if_gt (tgt := 165) E d_Mod_end_145 rfl (fun h145 => ?_) (fun h145 => ?_)
            · skip
              exact absurd h145 (Int32.not_lt.mpr h38)
            · skip
              refine pv_aload_n E d_Mod_end_148 rfl rfl ?_
              refine gf_Mod_policy E wd_786 d_Mod_end_149 ?_
              refine pv_top (congrArg ps_ref (m_f h0 24 rfl)) ?_
              refine pv_iload_n E d_Mod_end_152 rfl rfl ?_
              refine pv_iaload (t0 := 6) E 14 _ (fun _ _ _ _ _ => rfl) rfl (m_ix h0 14 12 (by decide) (by decide) hc12) d_Mod_end_153 ?_
              refine pv_top (congrArg ps_int ((congrArg (ps_I _ 14 12) (nI_clamp (Nat.lt_trans hc12 (by decide)))).trans (show _ = tS t (uO t j) 0 from (hE.1.2.1 (uO t j) hoj).1.2.1))) ?_
              refine pv_iconst (v := 2) E d_Mod_end_154 (by decide) ?_
              refine pv_icmp_ne (tgt := 170) E d_Mod_end_155 rfl (fun h155 => ?_) (fun h155 => ?_)
              · skip
                exact pv_vret E hr hlk d_Mod_end_170 (by decide) (by decide) ⟨rfl, by have hs4 : u_s4 t j = 1 := if_pos (thr_le.mp h38); have hs6 : u_s6 t j = (fn_mk (uK t j 1) (uK t j 2) (uK t j 3)) := if_pos (thr_le.mp h38); unfold u_do; rw [if_neg (by rw [hs4, h138]; decide), hs4, hs6]; exact hE, (FrB.app.tr (FrB.en (by decide)))⟩
              · skip
                refine pv_aload_n E d_Mod_end_158 rfl rfl ?_
                refine gf_Mod_threw E wd_783 d_Mod_end_159 ?_
                refine pv_top (congrArg ps_int ((sI_ne (by omega)).trans ((sI_ne (by omega)).trans ((sI_ne (by omega)).trans (app_21 _ _ _ _))))) ?_
                refine pv_if_ne (tgt := 170) E d_Mod_end_162 rfl (fun h162 => ?_) (fun h162 => ?_)
                · skip
                  exact absurd (thr_le.mp h38) h162
                · skip
                  refine pv_aload_n E d_Mod_end_165 rfl rfl ?_
                  refine pv_iload_n E d_Mod_end_166 rfl rfl ?_
                  refine pv_callV E (fun adr => k_Mod_stop l D ca A _ (uO t j) (u_en t j 1 (fn_mk (uK t j 1) (uK t j 2) (uK t j 3))) (h0.B (FrB.app.tr (FrB.en (i := 16) (by decide)))) hE hWe hoj hop adr) yv_Mod_stop wd_1060 rfl rfl (fun _ => ⟨_, rfl⟩) rfl ⟨by decide, by decide⟩ (Nat.le_of_ble_eq_true rfl) d_Mod_end_167 ⟨by decide, by decide⟩ (fun r167 σ167 hq167 => ?_)
                  obtain ⟨hr167, hB167, hf167⟩ := hq167
                  subst r167
                  exact pv_vret E hr hlk d_Mod_end_170 (by decide) (by decide) ⟨rfl, by have hs4 : u_s4 t j = 1 := if_pos (thr_le.mp h38); have hs6 : u_s6 t j = (fn_mk (uK t j 1) (uK t j 2) (uK t j 3)) := if_pos (thr_le.mp h38); unfold u_do; rw [if_pos (by rw [hs4, h155]; rfl), hs4, hs6]; exact hB167, (FrB.app.tr (FrB.en (by decide))).tr hf167⟩
      · skip
        exact absurd h38 h75
    · skip
      exact absurd h38 h56
  · skip
    refine pv_iconst (v := 2) E d_Mod_end_41 (by decide) ?_
    refine pv_goto (tgt := 46) E d_Mod_end_42 rfl ?_
    refine pv_iastore (t0 := 6) E 14 _ (fun _ _ _ _ _ => rfl) rfl (m_ix h0 14 24 (by decide) (by decide) hj30) d_Mod_end_46 ?_
    rw [nI_clamp (Nat.lt_trans hj30 (by decide))]
    refine pv_aload_n E d_Mod_end_47 rfl rfl ?_
    refine gf_Mod_came2 E wd_805 d_Mod_end_48 ?_
    refine pv_top (congrArg ps_ref (m_f h0 43 rfl)) ?_
    refine pv_iload_n E d_Mod_end_51 rfl rfl ?_
    refine pv_aload_n E d_Mod_end_52 rfl rfl ?_
    refine gf_Mod_threw E wd_783 d_Mod_end_53 ?_
    refine pv_top (congrArg ps_int ((sI_ne (by omega)).trans (app_21 _ _ _ _))) ?_
    refine pv_if_le (tgt := 66) E d_Mod_end_56 rfl (fun h56 => ?_) (fun h56 => ?_)
    · skip
      exact absurd h56 h38
    · skip
      refine pv_aload_n E d_Mod_end_59 rfl rfl ?_
      refine gf_Mod_threw E wd_783 d_Mod_end_60 ?_
      refine pv_top (congrArg ps_int ((sI_ne (by omega)).trans (app_21 _ _ _ _))) ?_
      refine pv_goto (tgt := 70) E d_Mod_end_63 rfl ?_
      refine pv_iastore (t0 := 6) E 14 _ (fun _ _ _ _ _ => rfl) rfl (m_ix h0 14 26 (by decide) (by decide) hj30) d_Mod_end_70 ?_
      rw [nI_clamp (Nat.lt_trans hj30 (by decide))]
      refine pv_aload_n E d_Mod_end_71 rfl rfl ?_
      refine gf_Mod_threw E wd_783 d_Mod_end_72 ?_
      refine pv_top (congrArg ps_int ((sI_ne (by omega)).trans ((sI_ne (by omega)).trans (app_21 _ _ _ _)))) ?_
      refine pv_if_le (tgt := 106) E d_Mod_end_75 rfl (fun h75 => ?_) (fun h75 => ?_)
      · skip
        exact absurd h75 h38
      · skip
        refine pv_aload_n E d_Mod_end_78 rfl rfl ?_
        refine gf_Mod_firstFailed E wd_793 d_Mod_end_79 ?_
        refine pv_top (congrArg ps_ref (m_f h0 31 rfl)) ?_
        refine pv_iload_n E d_Mod_end_82 rfl rfl ?_
        refine pv_aload_n E d_Mod_end_83 rfl rfl ?_
        refine gf_Mod_firstFailed E wd_793 d_Mod_end_84 ?_
        refine pv_top (congrArg ps_ref (m_f h0 31 rfl)) ?_
        refine pv_iload_n E d_Mod_end_87 rfl rfl ?_
        refine pv_iaload (t0 := 6) E 14 _ (fun _ _ _ _ _ => rfl) rfl (m_ix h0 14 17 (by decide) (by decide) hc12) d_Mod_end_88 ?_
        refine pv_top (congrArg ps_int ((congrArg (ps_I _ 14 17) (nI_clamp (Nat.lt_trans hc12 (by decide)))).trans ((sI_ne (by omega)).trans ((sI_ne (by omega)).trans (hBa.1.2.1 (uO t j) hoj).2.1.2)))) ?_
        refine pv_if_ge (tgt := 96) E d_Mod_end_89 rfl (fun h89 => ?_) (fun h89 => ?_)
        · skip
          obtain ⟨b1, hff⟩ := m_opt_some (Int32.not_lt.mpr h89)
          refine pv_aload_n E d_Mod_end_96 rfl rfl ?_
          refine gf_Mod_firstFailed E wd_793 d_Mod_end_97 ?_
          refine pv_top (congrArg ps_ref (m_f h0 31 rfl)) ?_
          refine pv_iload_n E d_Mod_end_100 rfl rfl ?_
          refine pv_iaload (t0 := 6) E 14 _ (fun _ _ _ _ _ => rfl) rfl (m_ix h0 14 17 (by decide) (by decide) hc12) d_Mod_end_101 ?_
          refine pv_top (congrArg ps_int ((congrArg (ps_I _ 14 17) (nI_clamp (Nat.lt_trans hc12 (by decide)))).trans ((sI_ne (by omega)).trans ((sI_ne (by omega)).trans (hBa.1.2.1 (uO t j) hoj).2.1.2)))) ?_
          refine pv_iastore (t0 := 6) E 14 _ (fun _ _ _ _ _ => rfl) rfl (m_ix h0 14 17 (by decide) (by decide) hc12) d_Mod_end_102 ?_
          rw [nI_clamp (Nat.lt_trans hc12 (by decide))]
          have hE := hBa.en (i := 17) (s := 2) (v := (fn_thr (uK t j 1) (uK t j 2) (uK t j 3))) (w := m_opt (u_fst t (uO t j) 2 (uN t))) hW hj h0j hT (Or.inr ⟨rfl, rfl⟩) (by rw [hff]; rfl)
          have hWe : tW (u_en t j 2 (fn_thr (uK t j 1) (uK t j 2) (uK t j 3))) := hW.en hj h0j (by decide)
          refine pv_goto (tgt := 131) E d_Mod_end_103 rfl ?_
          refine pv_aload_n E d_Mod_end_131 rfl rfl ?_
          refine gf_Mod_policy E wd_786 d_Mod_end_132 ?_
          refine pv_top (congrArg ps_ref (m_f h0 24 rfl)) ?_
          refine pv_iload_n E d_Mod_end_135 rfl rfl ?_
          refine pv_iaload (t0 := 6) E 14 _ (fun _ _ _ _ _ => rfl) rfl (m_ix h0 14 12 (by decide) (by decide) hc12) d_Mod_end_136 ?_
          refine pv_top (congrArg ps_int ((congrArg (ps_I _ 14 12) (nI_clamp (Nat.lt_trans hc12 (by decide)))).trans (show _ = tS t (uO t j) 0 from (hE.1.2.1 (uO t j) hoj).1.2.1))) ?_
          refine pv_iconst (v := 1) E d_Mod_end_137 (by decide) ?_
          refine pv_icmp_ne (tgt := 148) E d_Mod_end_138 rfl (fun h138 => ?_) (fun h138 => ?_)
          · skip
            refine pv_aload_n E d_Mod_end_148 rfl rfl ?_
            refine gf_Mod_policy E wd_786 d_Mod_end_149 ?_
            refine pv_top (congrArg ps_ref (m_f h0 24 rfl)) ?_
            refine pv_iload_n E d_Mod_end_152 rfl rfl ?_
            refine pv_iaload (t0 := 6) E 14 _ (fun _ _ _ _ _ => rfl) rfl (m_ix h0 14 12 (by decide) (by decide) hc12) d_Mod_end_153 ?_
            refine pv_top (congrArg ps_int ((congrArg (ps_I _ 14 12) (nI_clamp (Nat.lt_trans hc12 (by decide)))).trans (show _ = tS t (uO t j) 0 from (hE.1.2.1 (uO t j) hoj).1.2.1))) ?_
            refine pv_iconst (v := 2) E d_Mod_end_154 (by decide) ?_
            refine pv_icmp_ne (tgt := 170) E d_Mod_end_155 rfl (fun h155 => ?_) (fun h155 => ?_)
            · skip
              exact pv_vret E hr hlk d_Mod_end_170 (by decide) (by decide) ⟨rfl, by have hs4 : u_s4 t j = 2 := if_neg (fun z => h38 (thr_le.mpr z)); have hs6 : u_s6 t j = (fn_thr (uK t j 1) (uK t j 2) (uK t j 3)) := if_neg (fun z => h38 (thr_le.mpr z)); unfold u_do; rw [if_neg (by rw [hs4, decide_eq_false h138, decide_eq_false h155]; decide), hs4, hs6]; exact hE, (FrB.app.tr (FrB.en (by decide)))⟩
            · skip
              refine pv_aload_n E d_Mod_end_158 rfl rfl ?_
              refine gf_Mod_threw E wd_783 d_Mod_end_159 ?_
              refine pv_top (congrArg ps_int ((sI_ne (by omega)).trans ((sI_ne (by omega)).trans ((sI_ne (by omega)).trans (app_21 _ _ _ _))))) ?_
              refine pv_if_ne (tgt := 170) E d_Mod_end_162 rfl (fun h162 => ?_) (fun h162 => ?_)
              · skip
                exact pv_vret E hr hlk d_Mod_end_170 (by decide) (by decide) ⟨rfl, by have hs4 : u_s4 t j = 2 := if_neg (fun z => h38 (thr_le.mpr z)); have hs6 : u_s6 t j = (fn_thr (uK t j 1) (uK t j 2) (uK t j 3)) := if_neg (fun z => h38 (thr_le.mpr z)); unfold u_do; rw [if_neg (by rw [hs4, h155]; decide), hs4, hs6]; exact hE, (FrB.app.tr (FrB.en (by decide)))⟩
              · skip
                exact absurd (thr_le.mpr h162) h38
          · skip
            refine pv_aload_n E d_Mod_end_141 rfl rfl ?_
            refine gf_Mod_threw E wd_783 d_Mod_end_142 ?_
            refine pv_top (congrArg ps_int ((sI_ne (by omega)).trans ((sI_ne (by omega)).trans ((sI_ne (by omega)).trans (app_21 _ _ _ _))))) ?_
            refine pv_if_gt (tgt := 165) E d_Mod_end_145 rfl (fun h145 => ?_) (fun h145 => ?_)
            · skip
              refine pv_aload_n E d_Mod_end_165 rfl rfl ?_
              refine pv_iload_n E d_Mod_end_166 rfl rfl ?_
              refine pv_callV E (fun adr => k_Mod_stop l D ca A _ (uO t j) (u_en t j 2 (fn_thr (uK t j 1) (uK t j 2) (uK t j 3))) (h0.B (FrB.app.tr (FrB.en (i := 17) (by decide)))) hE hWe hoj hop adr) yv_Mod_stop wd_1060 rfl rfl (fun _ => ⟨_, rfl⟩) rfl ⟨by decide, by decide⟩ (Nat.le_of_ble_eq_true rfl) d_Mod_end_167 ⟨by decide, by decide⟩ (fun r167 σ167 hq167 => ?_)
              obtain ⟨hr167, hB167, hf167⟩ := hq167
              subst r167
              exact pv_vret E hr hlk d_Mod_end_170 (by decide) (by decide) ⟨rfl, by have hs4 : u_s4 t j = 2 := if_neg (fun z => h38 (thr_le.mpr z)); have hs6 : u_s6 t j = (fn_thr (uK t j 1) (uK t j 2) (uK t j 3)) := if_neg (fun z => h38 (thr_le.mpr z)); unfold u_do; rw [if_pos (by rw [hs4, h138]; rfl), hs4, hs6]; exact hB167, (FrB.app.tr (FrB.en (by decide))).tr hf167⟩
            · skip
              exact absurd (Int32.not_lt.mp h145) h38
        · skip
          have hff : u_fst t (uO t j) 2 (uN t) = none := (m_opt_neg (fun z hz => by have := (fst_cnt t (uO t j) 2 (uN t)).2 z hz; omega)).mp (Int32.not_le.mp h89)
          refine pv_iload_n E d_Mod_end_92 rfl rfl ?_
          refine pv_goto (tgt := 102) E d_Mod_end_93 rfl ?_
          refine pv_iastore (t0 := 6) E 14 _ (fun _ _ _ _ _ => rfl) rfl (m_ix h0 14 17 (by decide) (by decide) hc12) d_Mod_end_102 ?_
          rw [nI_clamp (Nat.lt_trans hc12 (by decide))]
          have hE := hBa.en (i := 17) (s := 2) (v := (fn_thr (uK t j 1) (uK t j 2) (uK t j 3))) (w := nI j) hW hj h0j hT (Or.inr ⟨rfl, rfl⟩) (by rw [hff]; rfl)
          have hWe : tW (u_en t j 2 (fn_thr (uK t j 1) (uK t j 2) (uK t j 3))) := hW.en hj h0j (by decide)
          refine pv_goto (tgt := 131) E d_Mod_end_103 rfl ?_
          refine pv_aload_n E d_Mod_end_131 rfl rfl ?_
          refine gf_Mod_policy E wd_786 d_Mod_end_132 ?_
          refine pv_top (congrArg ps_ref (m_f h0 24 rfl)) ?_
          refine pv_iload_n E d_Mod_end_135 rfl rfl ?_
          refine pv_iaload (t0 := 6) E 14 _ (fun _ _ _ _ _ => rfl) rfl (m_ix h0 14 12 (by decide) (by decide) hc12) d_Mod_end_136 ?_
          refine pv_top (congrArg ps_int ((congrArg (ps_I _ 14 12) (nI_clamp (Nat.lt_trans hc12 (by decide)))).trans (show _ = tS t (uO t j) 0 from (hE.1.2.1 (uO t j) hoj).1.2.1))) ?_
          refine pv_iconst (v := 1) E d_Mod_end_137 (by decide) ?_
          refine pv_icmp_ne (tgt := 148) E d_Mod_end_138 rfl (fun h138 => ?_) (fun h138 => ?_)
          · skip
            refine pv_aload_n E d_Mod_end_148 rfl rfl ?_
            refine gf_Mod_policy E wd_786 d_Mod_end_149 ?_
            refine pv_top (congrArg ps_ref (m_f h0 24 rfl)) ?_
            refine pv_iload_n E d_Mod_end_152 rfl rfl ?_
            refine pv_iaload (t0 := 6) E 14 _ (fun _ _ _ _ _ => rfl) rfl (m_ix h0 14 12 (by decide) (by decide) hc12) d_Mod_end_153 ?_
            refine pv_top (congrArg ps_int ((congrArg (ps_I _ 14 12) (nI_clamp (Nat.lt_trans hc12 (by decide)))).trans (show _ = tS t (uO t j) 0 from (hE.1.2.1 (uO t j) hoj).1.2.1))) ?_
            refine pv_iconst (v := 2) E d_Mod_end_154 (by decide) ?_
            refine pv_icmp_ne (tgt := 170) E d_Mod_end_155 rfl (fun h155 => ?_) (fun h155 => ?_)
            · skip
              exact pv_vret E hr hlk d_Mod_end_170 (by decide) (by decide) ⟨rfl, by have hs4 : u_s4 t j = 2 := if_neg (fun z => h38 (thr_le.mpr z)); have hs6 : u_s6 t j = (fn_thr (uK t j 1) (uK t j 2) (uK t j 3)) := if_neg (fun z => h38 (thr_le.mpr z)); unfold u_do; rw [if_neg (by rw [hs4, decide_eq_false h138, decide_eq_false h155]; decide), hs4, hs6]; exact hE, (FrB.app.tr (FrB.en (by decide)))⟩
            · skip
              refine pv_aload_n E d_Mod_end_158 rfl rfl ?_
              refine gf_Mod_threw E wd_783 d_Mod_end_159 ?_
              refine pv_top (congrArg ps_int ((sI_ne (by omega)).trans ((sI_ne (by omega)).trans ((sI_ne (by omega)).trans (app_21 _ _ _ _))))) ?_
              refine pv_if_ne (tgt := 170) E d_Mod_end_162 rfl (fun h162 => ?_) (fun h162 => ?_)
              · skip
                exact pv_vret E hr hlk d_Mod_end_170 (by decide) (by decide) ⟨rfl, by have hs4 : u_s4 t j = 2 := if_neg (fun z => h38 (thr_le.mpr z)); have hs6 : u_s6 t j = (fn_thr (uK t j 1) (uK t j 2) (uK t j 3)) := if_neg (fun z => h38 (thr_le.mpr z)); unfold u_do; rw [if_neg (by rw [hs4, h155]; decide), hs4, hs6]; exact hE, (FrB.app.tr (FrB.en (by decide)))⟩
              · skip
                exact absurd (thr_le.mpr h162) h38
          · skip
            refine pv_aload_n E d_Mod_end_141 rfl rfl ?_
            refine gf_Mod_threw E wd_783 d_Mod_end_142 ?_
            refine pv_top (congrArg ps_int ((sI_ne (by omega)).trans ((sI_ne (by omega)).trans ((sI_ne (by omega)).trans (app_21 _ _ _ _))))) ?_
            refine pv_if_gt (tgt := 165) E d_Mod_end_145 rfl (fun h145 => ?_) (fun h145 => ?_)
            · skip
              refine pv_aload_n E d_Mod_end_165 rfl rfl ?_
              refine pv_iload_n E d_Mod_end_166 rfl rfl ?_
              refine pv_callV E (fun adr => k_Mod_stop l D ca A _ (uO t j) (u_en t j 2 (fn_thr (uK t j 1) (uK t j 2) (uK t j 3))) (h0.B (FrB.app.tr (FrB.en (i := 17) (by decide)))) hE hWe hoj hop adr) yv_Mod_stop wd_1060 rfl rfl (fun _ => ⟨_, rfl⟩) rfl ⟨by decide, by decide⟩ (Nat.le_of_ble_eq_true rfl) d_Mod_end_167 ⟨by decide, by decide⟩ (fun r167 σ167 hq167 => ?_)
              obtain ⟨hr167, hB167, hf167⟩ := hq167
              subst r167
              exact pv_vret E hr hlk d_Mod_end_170 (by decide) (by decide) ⟨rfl, by have hs4 : u_s4 t j = 2 := if_neg (fun z => h38 (thr_le.mpr z)); have hs6 : u_s6 t j = (fn_thr (uK t j 1) (uK t j 2) (uK t j 3)) := if_neg (fun z => h38 (thr_le.mpr z)); unfold u_do; rw [if_pos (by rw [hs4, h138]; rfl), hs4, hs6]; exact hB167, (FrB.app.tr (FrB.en (by decide))).tr hf167⟩
            · skip
              exact absurd (Int32.not_lt.mp h145) h38
