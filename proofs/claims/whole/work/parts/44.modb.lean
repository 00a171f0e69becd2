set_option maxHeartbeats 8000000 in
set_option maxRecDepth 100000 in
theorem k_Mod_scan (l : Launch) (D : va_G) (ca : Nat → ClassId) (A : Nat → Prop) (σ : ps_S)  (g : gT) (p : Nat) (h0 : RM0 σ) (hA : RMA σ g p) (hO : gOK g) (hp : p ≤ 150) : ∀ adr, ps_M l y_Mod_scan c_Mod_scan 2 (Option.none : Option Jvm.ClassFile.FieldType) { frames := 3, cells := 0, slots := 0, locals := 69 } D ca A adr σ [ps_ref (some (13, 0))] (fun rv σ' => rv = none ∧ RMA σ' (g_scan g) p ∧ FrA σ σ') := by
  intro adr
  refine ps_M.of (by decide +kernel) (Nat.le_of_ble_eq_true rfl) ?_
  intro p_ e_ s_ m_ args_ below_ meth_ c_ E hr hlk hnm
  have h48_ := hO.1.1
  refine pv_iconst (v := 0) E d_Mod_scan_0 (by decide) ?_
  refine pv_istore_n E d_Mod_scan_1 rfl (by decide) ?_
  refine pv_sub (L' := [(0, ps_ref (some (13, 0))), (1, ps_int (nI 0))]) ⟨rfl, rfl, trivial⟩ ?_
  refine pv_loop (ι := Nat × ps_S) (fun x => gN g - x.1) (fun x => [(0, ps_ref (some (13, 0))), (1, ps_int (nI x.1))]) (fun x => x.2) (fun x => x.1 ≤ gN g ∧ RMA x.2 (g_scN g x.1) p ∧ FrA σ x.2) (fun x hx_ ih => ?_) (0, σ) ⟨Nat.zero_le _, hA, FrA.rf σ⟩
  obtain ⟨i, τ⟩ := x
  obtain ⟨hi, hT, hFr⟩ := hx_
  dsimp only at hi hT hFr ih ⊢
  have h0t := h0.A hFr
  have hOi := hO.scN i hi
  refine pv_iload_n E d_Mod_scan_2 rfl rfl ?_
  refine pv_aload_n E d_Mod_scan_3 rfl rfl ?_
  refine gf_Mod_stages E wd_763 d_Mod_scan_4 ?_
  refine pv_top (congrArg ps_int (hT.1.1.trans (congrArg nI (gN_scN g i)))) ?_
  refine pv_icmp_ge (tgt := 109) E d_Mod_scan_7 rfl (fun h7 => ?_) (fun h7 => ?_)
  · skip
    have hi2 : gN g ≤ i := (nI_leI (by omega) (by omega)).mp h7
    have hi3 : i = gN g := by omega
    subst hi3
    exact pv_vret E hr hlk d_Mod_scan_109 (by decide) (by decide) ⟨rfl, hT, hFr⟩
  · skip
    have hi2 : i < gN g := Nat.lt_of_not_le (fun z => h7 ((nI_leI (by omega) (by omega)).mpr z))
    have hi48 : i < 48 := by omega
    have hiN : i < gN (g_scN g i) := by rw [gN_scN]; exact hi2
    refine pv_aload_n E d_Mod_scan_10 rfl rfl ?_
    refine pv_iload_n E d_Mod_scan_11 rfl rfl ?_
    refine pv_callV E (fun adr => k_Mod_settled l D ca A _ i (g_scN g i) h0t hT.1 hOi.1 hiN adr) yv_Mod_settled wd_912 rfl rfl (fun _ => ⟨_, rfl⟩) rfl ⟨by decide, by decide⟩ (Nat.le_of_ble_eq_true rfl) d_Mod_scan_12 ⟨by decide, by decide⟩ (fun r12 σ12 hq12 => ?_)
    obtain ⟨hr12, hs12⟩ := hq12
    subst r12
    subst σ12
    refine pv_if_ne (tgt := 103) E d_Mod_scan_15 rfl (fun h15 => ?_) (fun h15 => ?_)
    · skip
      refine pv_inc1 E d_Mod_scan_103 rfl (by decide) ?_
      refine pv_goto (tgt := 2) E d_Mod_scan_106 rfl ?_
      exact pv_back (ih (i + 1, τ) ⟨by show i + 1 ≤ gN g; omega, by show RMA τ (g_sc1 (g_scN g i) i) p; rw [g_sc1, if_neg (fun z => by rw [g_able_abl, if10t h15] at z; exact absurd z.2 (by simp))]; exact hT, hFr⟩ (by show gN g - (i + 1) < gN g - i; omega)) ⟨rfl, congrArg (fun z : Int32 => some (ps_int z)) (nI_1 i), trivial⟩
    · skip
      refine pv_aload_n E d_Mod_scan_18 rfl rfl ?_
      refine gf_Mod_queued E wd_776 d_Mod_scan_19 ?_
      refine pv_top (congrArg ps_ref (m_f h0t 14 rfl)) ?_
      refine pv_iload_n E d_Mod_scan_22 rfl rfl ?_
      refine pv_baload (t0 := 7) E 15 _ (fun _ _ _ _ _ => rfl) rfl (m_ix h0t 15 1 (by decide) (by decide) hi48) d_Mod_scan_23 ?_
      refine pv_top (congrArg ps_int ((congrArg (ps_I _ 15 1) (nI_clamp (Nat.lt_trans hi48 (by decide)))).trans (hT.1.2.2.1 i hiN).1.2.2.2.2.2.2)) ?_
      refine pv_if_ne (tgt := 103) E d_Mod_scan_24 rfl (fun h24 => ?_) (fun h24 => ?_)
      · skip
        refine pv_inc1 E d_Mod_scan_103 rfl (by decide) ?_
        refine pv_goto (tgt := 2) E d_Mod_scan_106 rfl ?_
        exact pv_back (ih (i + 1, τ) ⟨by show i + 1 ≤ gN g; omega, by show RMA τ (g_sc1 (g_scN g i) i) p; rw [g_sc1, if_neg (fun z => h24 z.1)]; exact hT, hFr⟩ (by show gN g - (i + 1) < gN g - i; omega)) ⟨rfl, congrArg (fun z : Int32 => some (ps_int z)) (nI_1 i), trivial⟩
      · skip
        refine pv_aload_n E d_Mod_scan_27 rfl rfl ?_
        refine pv_iload_n E d_Mod_scan_28 rfl rfl ?_
        refine pv_callV E (fun adr => k_Mod_isAble l D ca A _ i (g_scN g i) h0t hT.1 hOi.1 hiN adr) yv_Mod_isAble wd_916 rfl rfl (fun _ => ⟨_, rfl⟩) rfl ⟨by decide, by decide⟩ (Nat.le_of_ble_eq_true rfl) d_Mod_scan_29 ⟨by decide, by decide⟩ (fun r29 σ29 hq29 => ?_)
        obtain ⟨hr29, hs29⟩ := hq29
        subst r29
        subst σ29
        refine pv_if_eq (tgt := 103) E d_Mod_scan_32 rfl (fun h32 => ?_) (fun h32 => ?_)
        · skip
          refine pv_inc1 E d_Mod_scan_103 rfl (by decide) ?_
          refine pv_goto (tgt := 2) E d_Mod_scan_106 rfl ?_
          exact pv_back (ih (i + 1, τ) ⟨by show i + 1 ≤ gN g; omega, by show RMA τ (g_sc1 (g_scN g i) i) p; rw [g_sc1, if_neg (fun z => by rw [g_able_abl, if10b h32, Bool.and_false] at z; exact absurd z.2 (by decide))]; exact hT, hFr⟩ (by show gN g - (i + 1) < gN g - i; omega)) ⟨rfl, congrArg (fun z : Int32 => some (ps_int z)) (nI_1 i), trivial⟩
        · skip
          have hLP := hOi.2.2.lt hOi.1.1 hiN h24
          refine pv_aload_n E d_Mod_scan_35 rfl rfl ?_
          refine gf_Mod_queued E wd_776 d_Mod_scan_36 ?_
          refine pv_top (congrArg ps_ref (m_f h0t 14 rfl)) ?_
          refine pv_iload_n E d_Mod_scan_39 rfl rfl ?_
          refine pv_iconst (v := 1) E d_Mod_scan_40 (by decide) ?_
          refine pv_bastore (t0 := 7) E 15 _ (fun _ _ _ _ _ => rfl) rfl (m_ix h0t 15 1 (by decide) (by decide) hi48) (rfl) d_Mod_scan_41 ?_
          rw [nI_clamp (Nat.lt_trans hi48 (by decide))]
          have hT1 := hT.que 1 hiN
          refine pv_aload_n E d_Mod_scan_42 rfl rfl ?_
          refine gf_Mod_apart E wd_774 d_Mod_scan_43 ?_
          refine pv_top (congrArg ps_ref (m_f h0t 12 rfl)) ?_
          refine pv_iload_n E d_Mod_scan_46 rfl rfl ?_
          refine pv_baload (t0 := 7) E 15 _ (fun _ _ _ _ _ => rfl) rfl (m_ix h0t 15 0 (by decide) (by decide) hi48) d_Mod_scan_47 ?_
          refine pv_top (congrArg ps_int ((congrArg (ps_I _ 15 0) (nI_clamp (Nat.lt_trans hi48 (by decide)))).trans (hT1.1.2.2.1 i hiN).1.2.2.2.2.2.1)) ?_
          refine pv_if_eq (tgt := 83) E d_Mod_scan_48 rfl (fun h48 => ?_) (fun h48 => ?_)
          · skip
            refine pv_aload_n E d_Mod_scan_83 rfl rfl ?_
            refine gf_Mod_line E wd_779 d_Mod_scan_84 ?_
            refine pv_top (congrArg ps_ref (m_f h0t 17 rfl)) ?_
            refine pv_aload_n E d_Mod_scan_87 rfl rfl ?_
            refine gf_Mod_lineTo E wd_778 d_Mod_scan_88 ?_
            refine pv_top (congrArg ps_int hT1.2.1.2.1) ?_
            refine pv_iload_n E d_Mod_scan_91 rfl rfl ?_
            refine pv_iastore (t0 := 6) E 14 _ (fun _ _ _ _ _ => rfl) rfl (m_ix h0t 14 9 (by decide) (by decide) (show p + (gL (gsF (g_scN g i) i 6 1)).length < 200 by have := hLP.1; show p + (gL (g_scN g i)).length < 200; omega)) d_Mod_scan_92 ?_
            rw [nI_clamp (Nat.lt_trans (show p + (gL (gsF (g_scN g i) i 6 1)).length < 200 by have := hLP.1; show p + (gL (g_scN g i)).length < 200; omega) (by decide))]
            refine pv_aload_n E d_Mod_scan_93 rfl rfl ?_
            refine pv_dup E d_Mod_scan_94 rfl ?_
            refine gf_Mod_lineTo E wd_778 d_Mod_scan_95 ?_
            refine pv_top (congrArg ps_int ((sI_ne (by omega)).trans hT1.2.1.2.1)) ?_
            refine pv_iconst (v := 1) E d_Mod_scan_98 (by decide) ?_
            refine pv_iadd E d_Mod_scan_99 ?_
            refine pv_top (congrArg ps_int (nI_1 _)) ?_
            refine pf_Mod_lineTo E wd_778 d_Mod_scan_100 ?_
            refine pv_inc1 E d_Mod_scan_103 rfl (by decide) ?_
            refine pv_goto (tgt := 2) E d_Mod_scan_106 rfl ?_
            exact pv_back (ih (i + 1, _) ⟨by show i + 1 ≤ gN g; omega, by show RMA _ (g_sc1 (g_scN g i) i) p; rw [g_sc1, if_pos ⟨h24, by rw [g_able_abl, if10b h15, if10t h32]; rfl⟩, if_neg (fun z => z.1 ((gF_f _ _ (by decide)).symm.trans h48))]; exact hT1.addL, ((hFr.tr FrA.que).tr (FrA.a14 (by decide))).tr (FrA.a13 (by decide))⟩ (by show gN g - (i + 1) < gN g - i; omega)) ⟨rfl, congrArg (fun z : Int32 => some (ps_int z)) (nI_1 i), trivial⟩
          · skip
            refine pv_aload_n E d_Mod_scan_51 rfl rfl ?_
            refine gf_Mod_awaits E wd_775 d_Mod_scan_52 ?_
            refine pv_top (congrArg ps_ref (m_f h0t 13 rfl)) ?_
            refine pv_iload_n E d_Mod_scan_55 rfl rfl ?_
            refine pv_iaload (t0 := 6) E 14 _ (fun _ _ _ _ _ => rfl) rfl (m_ix h0t 14 8 (by decide) (by decide) hi48) d_Mod_scan_56 ?_
            refine pv_top (congrArg ps_int ((congrArg (ps_I _ 14 8) (nI_clamp (Nat.lt_trans hi48 (by decide)))).trans (hT1.1.2.2.1 i hiN).1.2.2.2.2.1)) ?_
            refine pv_if_ge (tgt := 83) E d_Mod_scan_57 rfl (fun h57 => ?_) (fun h57 => ?_)
            · skip
              have hAs : ¬ gA (g_scN g i) i = none := fun z => by
                have h57' : 0 ≤ m_opt (gA (g_scN g i) i) := h57
                rw [z] at h57'
                exact absurd h57' (by decide)
              refine pv_aload_n E d_Mod_scan_83 rfl rfl ?_
              refine gf_Mod_line E wd_779 d_Mod_scan_84 ?_
              refine pv_top (congrArg ps_ref (m_f h0t 17 rfl)) ?_
              refine pv_aload_n E d_Mod_scan_87 rfl rfl ?_
              refine gf_Mod_lineTo E wd_778 d_Mod_scan_88 ?_
              refine pv_top (congrArg ps_int hT1.2.1.2.1) ?_
              refine pv_iload_n E d_Mod_scan_91 rfl rfl ?_
              refine pv_iastore (t0 := 6) E 14 _ (fun _ _ _ _ _ => rfl) rfl (m_ix h0t 14 9 (by decide) (by decide) (show p + (gL (gsF (g_scN g i) i 6 1)).length < 200 by have := hLP.1; show p + (gL (g_scN g i)).length < 200; omega)) d_Mod_scan_92 ?_
              rw [nI_clamp (Nat.lt_trans (show p + (gL (gsF (g_scN g i) i 6 1)).length < 200 by have := hLP.1; show p + (gL (g_scN g i)).length < 200; omega) (by decide))]
              refine pv_aload_n E d_Mod_scan_93 rfl rfl ?_
              refine pv_dup E d_Mod_scan_94 rfl ?_
              refine gf_Mod_lineTo E wd_778 d_Mod_scan_95 ?_
              refine pv_top (congrArg ps_int ((sI_ne (by omega)).trans hT1.2.1.2.1)) ?_
              refine pv_iconst (v := 1) E d_Mod_scan_98 (by decide) ?_
              refine pv_iadd E d_Mod_scan_99 ?_
              refine pv_top (congrArg ps_int (nI_1 _)) ?_
              refine pf_Mod_lineTo E wd_778 d_Mod_scan_100 ?_
              refine pv_inc1 E d_Mod_scan_103 rfl (by decide) ?_
              refine pv_goto (tgt := 2) E d_Mod_scan_106 rfl ?_
              exact pv_back (ih (i + 1, _) ⟨by show i + 1 ≤ gN g; omega, by show RMA _ (g_sc1 (g_scN g i) i) p; rw [g_sc1, if_pos ⟨h24, by rw [g_able_abl, if10b h15, if10t h32]; rfl⟩, if_neg (fun z => hAs z.2)]; exact hT1.addL, ((hFr.tr FrA.que).tr (FrA.a14 (by decide))).tr (FrA.a13 (by decide))⟩ (by show gN g - (i + 1) < gN g - i; omega)) ⟨rfl, congrArg (fun z : Int32 => some (ps_int z)) (nI_1 i), trivial⟩
            · skip
              have hAn : gA (g_scN g i) i = none := (m_opt_neg (fun j hj => by have := (hOi.1.2.2 i hiN).2.2 j hj; have := hOi.1.1; omega)).mp (Int32.not_le.mp h57)
              refine pv_aload_n E d_Mod_scan_60 rfl rfl ?_
              refine gf_Mod_pool E wd_781 d_Mod_scan_61 ?_
              refine pv_top (congrArg ps_ref (m_f h0t 19 rfl)) ?_
              refine pv_aload_n E d_Mod_scan_64 rfl rfl ?_
              refine gf_Mod_pooled E wd_780 d_Mod_scan_65 ?_
              refine pv_top (congrArg ps_int hT1.2.2.1) ?_
              refine pv_iload_n E d_Mod_scan_68 rfl rfl ?_
              refine pv_iastore (t0 := 6) E 14 _ (fun _ _ _ _ _ => rfl) rfl (m_ix h0t 14 10 (by decide) (by decide) (show (gP (gsF (g_scN g i) i 6 1)).length < 48 from hLP.2)) d_Mod_scan_69 ?_
              rw [nI_clamp (Nat.lt_trans (show (gP (gsF (g_scN g i) i 6 1)).length < 48 from hLP.2) (by decide))]
              refine pv_aload_n E d_Mod_scan_70 rfl rfl ?_
              refine pv_dup E d_Mod_scan_71 rfl ?_
              refine gf_Mod_pooled E wd_780 d_Mod_scan_72 ?_
              refine pv_top (congrArg ps_int ((sI_ne (by omega)).trans hT1.2.2.1)) ?_
              refine pv_iconst (v := 1) E d_Mod_scan_75 (by decide) ?_
              refine pv_iadd E d_Mod_scan_76 ?_
              refine pv_top (congrArg ps_int (nI_1 _)) ?_
              refine pf_Mod_pooled E wd_780 d_Mod_scan_77 ?_
              refine pv_goto (tgt := 103) E d_Mod_scan_80 rfl ?_
              refine pv_inc1 E d_Mod_scan_103 rfl (by decide) ?_
              refine pv_goto (tgt := 2) E d_Mod_scan_106 rfl ?_
              exact pv_back (ih (i + 1, _) ⟨by show i + 1 ≤ gN g; omega, by show RMA _ (g_sc1 (g_scN g i) i) p; rw [g_sc1, if_pos ⟨h24, by rw [g_able_abl, if10b h15, if10t h32]; rfl⟩, if_pos ⟨fun z => h48 ((gF_f _ _ (by decide)).trans z), hAn⟩]; exact hT1.addP, ((hFr.tr FrA.que).tr (FrA.a14 (by decide))).tr (FrA.a13 (by decide))⟩ (by show gN g - (i + 1) < gN g - i; omega)) ⟨rfl, congrArg (fun z : Int32 => some (ps_int z)) (nI_1 i), trivial⟩
set_option maxHeartbeats 8000000 in
set_option maxRecDepth 100000 in
theorem k_Mod_give (l : Launch) (D : va_G) (ca : Nat → ClassId) (A : Nat → Prop) (σ : ps_S) (k : Nat) (u v : Int32) (g : gT) (p : Nat) (h0 : RM0 σ) (hA : RMA σ g p) (hO : gOK g) (hp : p ≤ 150) (hk : k < gN g) (hz : gF g k 0 = 0) (hu : ¬ u = 0) : ∀ adr, ps_M l y_Mod_give c_Mod_give 4 (Option.none : Option Jvm.ClassFile.FieldType) { frames := 4, cells := 0, slots := 0, locals := 90 } D ca A adr σ [ps_ref (some (13, 0)), ps_int (nI k), ps_int u, ps_int v] (fun rv σ' => rv = none ∧ RMA σ' (g_give g k u v) p ∧ FrA σ σ') := by
  intro adr
  refine ps_M.of (by decide +kernel) (Nat.le_of_ble_eq_true rfl) ?_
  intro p_ e_ s_ m_ args_ below_ meth_ c_ E hr hlk hnm
  have hk48 : k < 48 := Nat.lt_of_lt_of_le hk hO.1.1
  refine pv_aload_n E d_Mod_give_0 rfl rfl ?_
  refine gf_Mod_state E wd_764 d_Mod_give_1 ?_
  refine pv_top (congrArg ps_ref (m_f h0 2 rfl)) ?_
  refine pv_iload_n E d_Mod_give_4 rfl rfl ?_
  refine pv_iload_n E d_Mod_give_5 rfl rfl ?_
  refine pv_iastore (t0 := 6) E 14 _ (fun _ _ _ _ _ => rfl) rfl (m_ix h0 14 0 (by decide) (by decide) hk48) d_Mod_give_6 ?_
  rw [nI_clamp (Nat.lt_trans hk48 (by decide))]
  refine pv_aload_n E d_Mod_give_7 rfl rfl ?_
  refine gf_Mod_value E wd_765 d_Mod_give_8 ?_
  refine pv_top (congrArg ps_ref (m_f h0 3 rfl)) ?_
  refine pv_iload_n E d_Mod_give_11 rfl rfl ?_
  refine pv_iload_n E d_Mod_give_12 rfl rfl ?_
  refine pv_iastore (t0 := 6) E 14 _ (fun _ _ _ _ _ => rfl) rfl (m_ix h0 14 1 (by decide) (by decide) hk48) d_Mod_give_13 ?_
  rw [nI_clamp (Nat.lt_trans hk48 (by decide))]
  refine pv_aload_n E d_Mod_give_14 rfl rfl ?_
  refine pv_dup E d_Mod_give_15 rfl ?_
  refine gf_Mod_clock E wd_767 d_Mod_give_16 ?_
  refine pv_top (congrArg ps_int ((sI_ne (by omega)).trans ((sI_ne (by omega)).trans hA.1.2.1))) ?_
  refine pv_iconst (v := 1) E d_Mod_give_19 (by decide) ?_
  refine pv_iadd E d_Mod_give_20 ?_
  refine pv_top (congrArg ps_int (nI_1 _)) ?_
  refine pf_Mod_clock E wd_767 d_Mod_give_21 ?_
  refine pv_aload_n E d_Mod_give_24 rfl rfl ?_
  refine gf_Mod_came E wd_766 d_Mod_give_25 ?_
  refine pv_top (congrArg ps_ref (m_f h0 4 rfl)) ?_
  refine pv_iload_n E d_Mod_give_28 rfl rfl ?_
  refine pv_aload_n E d_Mod_give_29 rfl rfl ?_
  refine gf_Mod_clock E wd_767 d_Mod_give_30 ?_
  refine pv_top (congrArg ps_int (ps_I_eq _ _ _ _ _)) ?_
  refine pv_iastore (t0 := 6) E 14 _ (fun _ _ _ _ _ => rfl) rfl (m_ix h0 14 2 (by decide) (by decide) hk48) d_Mod_give_33 ?_
  rw [nI_clamp (Nat.lt_trans hk48 (by decide))]
  refine pv_aload_n E d_Mod_give_34 rfl rfl ?_
  refine pv_callV E (fun adr => k_Mod_scan l D ca A _ (gsU (gsS g k u v) k) p (h0.A FrA.set) (hA.set u v hk) (hO.set hk hz hu) hp adr) yv_Mod_scan wd_908 rfl rfl (fun _ => ⟨_, rfl⟩) rfl ⟨by decide, by decide⟩ (Nat.le_of_ble_eq_true rfl) d_Mod_give_35 ⟨by decide, by decide⟩ (fun r35 σ35 hq35 => ?_)
  obtain ⟨hr35, hA35, hf35⟩ := hq35
  subst r35
  exact pv_vret E hr hlk d_Mod_give_38 (by decide) (by decide) ⟨rfl, hA35, FrA.set.tr hf35⟩
set_option maxHeartbeats 8000000 in
set_option maxRecDepth 100000 in
theorem k_Mod_giveMade (l : Launch) (D : va_G) (ca : Nat → ClassId) (A : Nat → Prop) (σ : ps_S) (k : Nat) (th mk : Int32) (g : gT) (p : Nat) (h0 : RM0 σ) (hA : RMA σ g p) (hO : gOK g) (hp : p ≤ 150) (hk : k < gN g) (hz : gF g k 0 = 0) (ht : ps_I σ 13 0 21 = th) (hm : ps_I σ 13 0 20 = mk) (hth : 0 < th ↔ ¬ th = 0) : ∀ adr, ps_M l y_Mod_giveMade c_Mod_giveMade 2 (Option.none : Option Jvm.ClassFile.FieldType) { frames := 5, cells := 0, slots := 0, locals := 113 } D ca A adr σ [ps_ref (some (13, 0)), ps_int (nI k)] (fun rv σ' => rv = none ∧ RMA σ' (g_give g k (if th = 0 then 1 else 3) (if th = 0 then mk else th)) p ∧ FrA σ σ') := by
  intro adr
  refine ps_M.of (by decide +kernel) (Nat.le_of_ble_eq_true rfl) ?_
  intro p_ e_ s_ m_ args_ below_ meth_ c_ E hr hlk hnm
  refine pv_aload_n E d_Mod_giveMade_0 rfl rfl ?_
  refine pv_iload_n E d_Mod_giveMade_1 rfl rfl ?_
  refine pv_aload_n E d_Mod_giveMade_2 rfl rfl ?_
  refine gf_Mod_threw E wd_783 d_Mod_giveMade_3 ?_
  refine pv_top (congrArg ps_int ht) ?_
  refine pv_if_le (tgt := 13) E d_Mod_giveMade_6 rfl (fun h6 => ?_) (fun h6 => ?_)
  · skip
    refine pv_iconst (v := 1) E d_Mod_giveMade_13 (by decide) ?_
    refine pv_aload_n E d_Mod_giveMade_14 rfl rfl ?_
    refine gf_Mod_threw E wd_783 d_Mod_giveMade_15 ?_
    refine pv_top (congrArg ps_int ht) ?_
    refine pv_if_le (tgt := 28) E d_Mod_giveMade_18 rfl (fun h18 => ?_) (fun h18 => ?_)
    · skip
      have hw : th = 0 := Decidable.not_not.mp (fun z => absurd (hth.mpr z) (Int32.not_lt.mpr h6))
      refine pv_aload_n E d_Mod_giveMade_28 rfl rfl ?_
      refine gf_Mod_made E wd_782 d_Mod_giveMade_29 ?_
      refine pv_top (congrArg ps_int hm) ?_
      refine pv_callV E (fun adr => k_Mod_give l D ca A _ k 1 mk g p h0 hA hO hp hk hz (by decide) adr) yv_Mod_give wd_944 rfl rfl (fun _ => ⟨_, rfl⟩) rfl ⟨by decide, by decide⟩ (Nat.le_of_ble_eq_true rfl) d_Mod_giveMade_32 ⟨by decide, by decide⟩ (fun r32 σ32 hq32 => ?_)
      obtain ⟨hr32, hA32, hf32⟩ := hq32
      subst r32
      exact pv_vret E hr hlk d_Mod_giveMade_35 (by decide) (by decide) ⟨rfl, by rw [if_pos hw, if_pos hw]; exact hA32, hf32⟩
    · skip
      exact absurd h6 h18
  · skip
    refine pv_iconst (v := 3) E d_Mod_giveMade_9 (by decide) ?_
    refine pv_goto (tgt := 14) E d_Mod_giveMade_10 rfl ?_
    refine pv_aload_n E d_Mod_giveMade_14 rfl rfl ?_
    refine gf_Mod_threw E wd_783 d_Mod_giveMade_15 ?_
    refine pv_top (congrArg ps_int ht) ?_
    refine pv_if_le (tgt := 28) E d_Mod_giveMade_18 rfl (fun h18 => ?_) (fun h18 => ?_)
    · skip
      exact absurd h18 h6
    · skip
      have hw : ¬ th = 0 := hth.mp (Int32.not_le.mp h6)
      refine pv_aload_n E d_Mod_giveMade_21 rfl rfl ?_
      refine gf_Mod_threw E wd_783 d_Mod_giveMade_22 ?_
      refine pv_top (congrArg ps_int ht) ?_
      refine pv_goto (tgt := 32) E d_Mod_giveMade_25 rfl ?_
      refine pv_callV E (fun adr => k_Mod_give l D ca A _ k 3 th g p h0 hA hO hp hk hz (by decide) adr) yv_Mod_give wd_944 rfl rfl (fun _ => ⟨_, rfl⟩) rfl ⟨by decide, by decide⟩ (Nat.le_of_ble_eq_true rfl) d_Mod_giveMade_32 ⟨by decide, by decide⟩ (fun r32 σ32 hq32 => ?_)
      obtain ⟨hr32, hA32, hf32⟩ := hq32
      subst r32
      exact pv_vret E hr hlk d_Mod_giveMade_35 (by decide) (by decide) ⟨rfl, by rw [if_neg hw, if_neg hw]; exact hA32, hf32⟩
set_option maxHeartbeats 8000000 in
set_option maxRecDepth 100000 in
theorem k_Mod_copy (l : Launch) (D : va_G) (ca : Nat → ClassId) (A : Nat → Prop) (σ : ps_S) (k j : Nat) (g : gT) (p : Nat) (h0 : RM0 σ) (hA : RMA σ g p) (hO : gOK g) (hp : p ≤ 150) (hk : k < gN g) (hz : gF g k 0 = 0) (hj : j < gN g) : ∀ adr, ps_M l y_Mod_copy c_Mod_copy 3 (Option.none : Option Jvm.ClassFile.FieldType) { frames := 5, cells := 0, slots := 0, locals := 113 } D ca A adr σ [ps_ref (some (13, 0)), ps_int (nI k), ps_int (nI j)] (fun rv σ' => rv = none ∧ RMA σ' (g_give g k (g_fol g j).1 (g_fol g j).2) p ∧ FrA σ σ') := by
  intro adr
  refine ps_M.of (by decide +kernel) (Nat.le_of_ble_eq_true rfl) ?_
  intro p_ e_ s_ m_ args_ below_ meth_ c_ E hr hlk hnm
  have hj48 : j < 48 := Nat.lt_of_lt_of_le hj hO.1.1
  refine pv_aload_n E d_Mod_copy_0 rfl rfl ?_
  refine pv_iload_n E d_Mod_copy_1 rfl rfl ?_
  refine pv_aload_n E d_Mod_copy_2 rfl rfl ?_
  refine gf_Mod_state E wd_764 d_Mod_copy_3 ?_
  refine pv_top (congrArg ps_ref (m_f h0 2 rfl)) ?_
  refine pv_iload_n E d_Mod_copy_6 rfl rfl ?_
  refine pv_iaload (t0 := 6) E 14 _ (fun _ _ _ _ _ => rfl) rfl (m_ix h0 14 0 (by decide) (by decide) hj48) d_Mod_copy_7 ?_
  refine pv_top (congrArg ps_int ((congrArg (ps_I _ 14 0) (nI_clamp (Nat.lt_trans hj48 (by decide)))).trans (hA.1.2.2.1 j hj).1.1)) ?_
  refine pv_iconst (v := 1) E d_Mod_copy_8 (by decide) ?_
  refine pv_icmp_ne (tgt := 16) E d_Mod_copy_9 rfl (fun h9 => ?_) (fun h9 => ?_)
  · skip
    refine pv_iconst (v := 3) E d_Mod_copy_16 (by decide) ?_
    refine pv_aload_n E d_Mod_copy_17 rfl rfl ?_
    refine gf_Mod_value E wd_765 d_Mod_copy_18 ?_
    refine pv_top (congrArg ps_ref (m_f h0 3 rfl)) ?_
    refine pv_iload_n E d_Mod_copy_21 rfl rfl ?_
    refine pv_iaload (t0 := 6) E 14 _ (fun _ _ _ _ _ => rfl) rfl (m_ix h0 14 1 (by decide) (by decide) hj48) d_Mod_copy_22 ?_
    refine pv_top (congrArg ps_int ((congrArg (ps_I _ 14 1) (nI_clamp (Nat.lt_trans hj48 (by decide)))).trans (hA.1.2.2.1 j hj).1.2.1)) ?_
    refine pv_callV E (fun adr => k_Mod_give l D ca A _ k 3 (gF g j 1) g p h0 hA hO hp hk hz (by decide) adr) yv_Mod_give wd_944 rfl rfl (fun _ => ⟨_, rfl⟩) rfl ⟨by decide, by decide⟩ (Nat.le_of_ble_eq_true rfl) d_Mod_copy_23 ⟨by decide, by decide⟩ (fun r23 σ23 hq23 => ?_)
    obtain ⟨hr23, hA23, hf23⟩ := hq23
    subst r23
    exact pv_vret E hr hlk d_Mod_copy_26 (by decide) (by decide) ⟨rfl, by unfold g_fol; rw [if_neg h9]; exact hA23, hf23⟩
  · skip
    refine pv_iconst (v := 1) E d_Mod_copy_12 (by decide) ?_
    refine pv_goto (tgt := 17) E d_Mod_copy_13 rfl ?_
    refine pv_aload_n E d_Mod_copy_17 rfl rfl ?_
    refine gf_Mod_value E wd_765 d_Mod_copy_18 ?_
    refine pv_top (congrArg ps_ref (m_f h0 3 rfl)) ?_
    refine pv_iload_n E d_Mod_copy_21 rfl rfl ?_
    refine pv_iaload (t0 := 6) E 14 _ (fun _ _ _ _ _ => rfl) rfl (m_ix h0 14 1 (by decide) (by decide) hj48) d_Mod_copy_22 ?_
    refine pv_top (congrArg ps_int ((congrArg (ps_I _ 14 1) (nI_clamp (Nat.lt_trans hj48 (by decide)))).trans (hA.1.2.2.1 j hj).1.2.1)) ?_
    refine pv_callV E (fun adr => k_Mod_give l D ca A _ k 1 (gF g j 1) g p h0 hA hO hp hk hz (by decide) adr) yv_Mod_give wd_944 rfl rfl (fun _ => ⟨_, rfl⟩) rfl ⟨by decide, by decide⟩ (Nat.le_of_ble_eq_true rfl) d_Mod_copy_23 ⟨by decide, by decide⟩ (fun r23 σ23 hq23 => ?_)
    obtain ⟨hr23, hA23, hf23⟩ := hq23
    subst r23
    exact pv_vret E hr hlk d_Mod_copy_26 (by decide) (by decide) ⟨rfl, by unfold g_fol; rw [if_pos h9]; exact hA23, hf23⟩
