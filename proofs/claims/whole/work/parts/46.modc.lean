set_option maxHeartbeats 8000000 in
set_option maxRecDepth 100000 in
theorem k_Mod_earliest (l : Launch) (D : va_G) (ca : Nat → ClassId) (A : Nat → Prop) (σ : ps_S) (s : Nat) (g : gT) (h0 : RM0 σ) (hG : RMG σ g) (hW : gW g) (hs : s < gN g) (hx : l_N (ps_J σ 16 0 s) < 2 ^ gN g) : ∀ adr, ps_M l y_Mod_earliest c_Mod_earliest 4 (Option.some Jvm.ClassFile.FieldType.int) { frames := 1, cells := 0, slots := 0, locals := 21 } D ca A adr σ [ps_ref (some (13, 0)), ps_int (nI s)] (fun rv σ' => rv = some (ps_int (m_opt (m_e g (l_N (ps_J σ 16 0 s)) (gN g)))) ∧ σ' = σ) := by
  intro adr
  refine ps_M.of (by decide +kernel) (Nat.le_of_ble_eq_true rfl) ?_
  intro p_ e_ s_ m_ args_ below_ meth_ c_ E hr hlk hnm
  have hs48 : s < 48 := Nat.lt_of_lt_of_le hs hW.1
  have hw48 := hW.1
  have hx63 : l_N (ps_J σ 16 0 s) < 2 ^ 63 := Nat.lt_of_lt_of_le hx (Nat.pow_le_pow_right (by decide) (by omega))
  have hu96 := hW.2.1.2
  refine pv_iconst (v := -1) E d_Mod_earliest_0 (by decide) ?_
  refine pv_istore_n E d_Mod_earliest_1 rfl (by decide) ?_
  refine pv_iconst (v := 0) E d_Mod_earliest_2 (by decide) ?_
  refine pv_istore_n E d_Mod_earliest_3 rfl (by decide) ?_
  refine pv_sub (L' := [(0, ps_ref (some (13, 0))), (1, ps_int (nI s)), (2, ps_int (m_opt (m_e g (l_N (ps_J σ 16 0 s)) 0))), (3, ps_int (nI 0))]) ⟨rfl, rfl, rfl, rfl, trivial⟩ ?_
  refine pv_loop (ι := Nat) (fun i => gN g - i) (fun i => [(0, ps_ref (some (13, 0))), (1, ps_int (nI s)), (2, ps_int (m_opt (m_e g (l_N (ps_J σ 16 0 s)) i))), (3, ps_int (nI i))]) (fun _ => σ) (fun i => i ≤ gN g) (fun i hi ih => ?_) 0 (Nat.zero_le _)
  dsimp only at ih ⊢
  refine pv_iload_n E d_Mod_earliest_4 rfl rfl ?_
  refine pv_aload_n E d_Mod_earliest_5 rfl rfl ?_
  refine gf_Mod_stages E wd_763 d_Mod_earliest_6 ?_
  refine pv_top (congrArg ps_int hG.1) ?_
  refine pv_icmp_ge (tgt := 70) E d_Mod_earliest_9 rfl (fun h9 => ?_) (fun h9 => ?_)
  · skip
    have hi2 : gN g ≤ i := (nI_leI (by omega) (by omega)).mp h9
    have hi3 : i = gN g := by omega
    subst hi3
    refine pv_iload_n E d_Mod_earliest_70 rfl rfl ?_
    exact pv_iret E hr hlk d_Mod_earliest_71 (by decide) (by decide) ⟨rfl, rfl⟩
  · skip
    have hi2 : i < gN g := Nat.lt_of_not_le (fun z => h9 ((nI_leI (by omega) (by omega)).mpr z))
    have hi48 : i < 48 := by omega
    refine pv_aload_n E d_Mod_earliest_12 rfl rfl ?_
    refine gf_Mod_inputs E wd_773 d_Mod_earliest_13 ?_
    refine pv_top (congrArg ps_ref (m_f h0 11 rfl)) ?_
    refine pv_iload_n E d_Mod_earliest_16 rfl rfl ?_
    refine pv_laload (t0 := 8) E 16 _ (fun _ _ _ _ _ => rfl) rfl (m_ix h0 16 0 (by decide) (by decide) hs48) d_Mod_earliest_17 ?_
    refine pv_top (congrArg ps_lng ((congrArg (ps_J _ 16 0) (nI_clamp (Nat.lt_trans hs48 (by decide)))))) ?_
    refine pv_iload_n E d_Mod_earliest_18 rfl rfl ?_
    refine pv_lshr E d_Mod_earliest_19 ?_
    refine pv_lconst (v := 1) E d_Mod_earliest_20 (by decide) ?_
    refine pv_land E d_Mod_earliest_21 ?_
    refine pv_lconst (v := 1) E d_Mod_earliest_22 (by decide) ?_
    refine pv_lcmp E d_Mod_earliest_23 ?_
    refine pv_if_ne (tgt := 64) E d_Mod_earliest_24 rfl (fun h24 => ?_) (fun h24 => ?_)
    · skip
      have hb : (l_N (ps_J σ 16 0 s)).testBit i = false := by
        cases z : (l_N (ps_J σ 16 0 s)).testBit i
        · rfl
        · exact absurd (lg_cmpe.mpr ((l_bita (by omega) hx63).mpr z)) h24
      refine pv_inc1 E d_Mod_earliest_64 rfl (by decide) ?_
      refine pv_goto (tgt := 4) E d_Mod_earliest_67 rfl ?_
      exact pv_back (ih (i + 1) (by omega) (by omega)) ⟨rfl, rfl, congrArg (fun z : Option Nat => some (ps_int (m_opt z))) ((m_e_no (fun z => absurd (hb.symm.trans z.1) (by decide))).symm : _ = m_e g (l_N (ps_J σ 16 0 s)) (i + 1)), congrArg (fun z : Int32 => some (ps_int z)) (nI_1 i), trivial⟩
    · skip
      have hb : (l_N (ps_J σ 16 0 s)).testBit i = true := (l_bita (by omega) hx63).mp (lg_cmpe.mp h24)
      refine pv_aload_n E d_Mod_earliest_27 rfl rfl ?_
      refine pv_iload_n E d_Mod_earliest_28 rfl rfl ?_
      refine pv_callV E (fun adr => k_Mod_settled l D ca A _ i g h0 hG hW hi2 adr) yv_Mod_settled wd_912 rfl rfl (fun _ => ⟨_, rfl⟩) rfl ⟨by decide, by decide⟩ (Nat.le_of_ble_eq_true rfl) d_Mod_earliest_29 ⟨by decide, by decide⟩ (fun r29 σ29 hq29 => ?_)
      obtain ⟨hr29, hs29⟩ := hq29
      subst r29
      subst σ29
      refine pv_if_eq (tgt := 64) E d_Mod_earliest_32 rfl (fun h32 => ?_) (fun h32 => ?_)
      · skip
        refine pv_inc1 E d_Mod_earliest_64 rfl (by decide) ?_
        refine pv_goto (tgt := 4) E d_Mod_earliest_67 rfl ?_
        exact pv_back (ih (i + 1) (by omega) (by omega)) ⟨rfl, rfl, congrArg (fun z : Option Nat => some (ps_int (m_opt z))) ((m_e_no (fun z => absurd ((if10b h32).symm.trans z.2) (by decide))).symm : _ = m_e g (l_N (ps_J σ 16 0 s)) (i + 1)), congrArg (fun z : Int32 => some (ps_int z)) (nI_1 i), trivial⟩
      · skip
        refine pv_iload_n E d_Mod_earliest_35 rfl rfl ?_
        refine pv_if_lt (tgt := 62) E d_Mod_earliest_36 rfl (fun h36 => ?_) (fun h36 => ?_)
        · skip
          have hen : m_e g (l_N (ps_J σ 16 0 s)) i = none := (m_opt_neg (fun j hj => by have := (m_e_lt g _ i j hj).1; omega)).mp h36
          refine pv_iload_n E d_Mod_earliest_62 rfl rfl ?_
          refine pv_istore_n E d_Mod_earliest_63 rfl (by decide) ?_
          refine pv_inc1 E d_Mod_earliest_64 rfl (by decide) ?_
          refine pv_goto (tgt := 4) E d_Mod_earliest_67 rfl ?_
          exact pv_back (ih (i + 1) (by omega) (by omega)) ⟨rfl, rfl, congrArg (fun z : Option Nat => some (ps_int (m_opt z))) ((m_e_none ⟨hb, if10t h32⟩ hen).symm : _ = m_e g (l_N (ps_J σ 16 0 s)) (i + 1)), congrArg (fun z : Int32 => some (ps_int z)) (nI_1 i), trivial⟩
        · skip
          obtain ⟨b, he⟩ : ∃ b, m_e g (l_N (ps_J σ 16 0 s)) i = some b := by
            cases z : m_e g (l_N (ps_J σ 16 0 s)) i with
            | none => rw [z] at h36; exact absurd (by decide) h36
            | some b => exact ⟨b, rfl⟩
          have hbl := m_e_lt g _ i b he
          have hbN : b < gN g := by omega
          have hb48 : b < 48 := by omega
          refine pv_aload_n E d_Mod_earliest_39 rfl rfl ?_
          refine gf_Mod_came E wd_766 d_Mod_earliest_40 ?_
          refine pv_top (congrArg ps_ref (m_f h0 4 rfl)) ?_
          refine pv_iload_n E d_Mod_earliest_43 rfl rfl ?_
          refine pv_iaload (t0 := 6) E 14 _ (fun _ _ _ _ _ => rfl) rfl (m_ix h0 14 2 (by decide) (by decide) hi48) d_Mod_earliest_44 ?_
          refine pv_top (congrArg ps_int ((congrArg (ps_I _ 14 2) (nI_clamp (Nat.lt_trans hi48 (by decide)))).trans ((hG.2.2.1 i hi2).1.2.2.1 ((g_on_eq g i).mp (if10t h32))))) ?_
          refine pv_aload_n E d_Mod_earliest_45 rfl rfl ?_
          refine gf_Mod_came E wd_766 d_Mod_earliest_46 ?_
          refine pv_top (congrArg ps_ref (m_f h0 4 rfl)) ?_
          refine pv_iload_n E d_Mod_earliest_49 rfl rfl ?_
          refine pv_if_ge (tgt := 57) E d_Mod_earliest_50 rfl (fun h50 => ?_) (fun h50 => ?_)
          · skip
            refine pv_iload_n E d_Mod_earliest_57 rfl rfl ?_
            refine pv_top (congrArg ps_int (show m_opt (m_e g (l_N (ps_J σ 16 0 s)) i) = nI b from congrArg m_opt he)) ?_
            refine pv_iaload (t0 := 6) E 14 _ (fun _ _ _ _ _ => rfl) rfl (m_ix h0 14 2 (by decide) (by decide) hb48) d_Mod_earliest_58 ?_
            refine pv_top (congrArg ps_int ((congrArg (ps_I _ 14 2) (nI_clamp (Nat.lt_trans hb48 (by decide)))).trans ((hG.2.2.1 b hbN).1.2.2.1 ((g_on_eq g b).mp hbl.2)))) ?_
            refine pv_icmp_ge (tgt := 64) E d_Mod_earliest_59 rfl (fun h59 => ?_) (fun h59 => ?_)
            · skip
              have hlt : ¬ gU g i < gU g b := fun z => absurd ((nI_leI (by have := hu96 b; omega) (by have := hu96 i; omega)).mp h59) (by omega)
              refine pv_inc1 E d_Mod_earliest_64 rfl (by decide) ?_
              refine pv_goto (tgt := 4) E d_Mod_earliest_67 rfl ?_
              exact pv_back (ih (i + 1) (by omega) (by omega)) ⟨rfl, rfl, congrArg (fun z : Option Nat => some (ps_int (m_opt z))) (((m_e_hi ⟨hb, if10t h32⟩ he hlt).trans he.symm).symm : _ = m_e g (l_N (ps_J σ 16 0 s)) (i + 1)), congrArg (fun z : Int32 => some (ps_int z)) (nI_1 i), trivial⟩
            · skip
              have hlt : gU g i < gU g b := by have := Nat.lt_of_not_le (fun z => h59 ((nI_leI (by have := hu96 b; omega) (by have := hu96 i; omega)).mpr z)); omega
              refine pv_iload_n E d_Mod_earliest_62 rfl rfl ?_
              refine pv_istore_n E d_Mod_earliest_63 rfl (by decide) ?_
              refine pv_inc1 E d_Mod_earliest_64 rfl (by decide) ?_
              refine pv_goto (tgt := 4) E d_Mod_earliest_67 rfl ?_
              exact pv_back (ih (i + 1) (by omega) (by omega)) ⟨rfl, rfl, congrArg (fun z : Option Nat => some (ps_int (m_opt z))) ((m_e_lo ⟨hb, if10t h32⟩ he hlt).symm : _ = m_e g (l_N (ps_J σ 16 0 s)) (i + 1)), congrArg (fun z : Int32 => some (ps_int z)) (nI_1 i), trivial⟩
          · skip
            exact absurd (Int32.not_lt.mp h36) h50
set_option maxHeartbeats 8000000 in
set_option maxRecDepth 100000 in
theorem k_Mod_all (l : Launch) (D : va_G) (ca : Nat → ClassId) (A : Nat → Prop) (σ : ps_S) (s : Nat) (g : gT) (p : Nat) (h0 : RM0 σ) (hA : RMA σ g p) (hO : gOK g) (hp : p ≤ 150) (hs : s < gN g) (hz : gF g s 0 = 0) (hx : l_N (ps_J σ 16 0 s) < 2 ^ gN g) : ∀ adr, ps_M l y_Mod_all c_Mod_all 4 (Option.none : Option Jvm.ClassFile.FieldType) { frames := 6, cells := 0, slots := 0, locals := 135 } D ca A adr σ [ps_ref (some (13, 0)), ps_int (nI s)] (fun rv σ' => rv = none ∧ RMA σ' (g_give g s (g_sum g 0 (l_set (l_N (ps_J σ 16 0 s)) (gN g))).1 (g_sum g 0 (l_set (l_N (ps_J σ 16 0 s)) (gN g))).2) p ∧ FrA σ σ') := by
  intro adr
  refine ps_M.of (by decide +kernel) (Nat.le_of_ble_eq_true rfl) ?_
  intro p_ e_ s_ m_ args_ below_ meth_ c_ E hr hlk hnm
  have hW := hO.1
  have hs48 : s < 48 := Nat.lt_of_lt_of_le hs hW.1
  have hw48 := hW.1
  have hx63 : l_N (ps_J σ 16 0 s) < 2 ^ 63 := Nat.lt_of_lt_of_le hx (Nat.pow_le_pow_right (by decide) (by omega))
  refine pv_iconst (v := 0) E d_Mod_all_0 (by decide) ?_
  refine pv_istore_n E d_Mod_all_1 rfl (by decide) ?_
  refine pv_iconst (v := 0) E d_Mod_all_2 (by decide) ?_
  refine pv_istore_n E d_Mod_all_3 rfl (by decide) ?_
  refine pv_sub (L' := [(0, ps_ref (some (13, 0))), (1, ps_int (nI s)), (2, ps_int 0), (3, ps_int (nI 0))]) ⟨rfl, rfl, rfl, rfl, trivial⟩ ?_
  refine pv_loop (ι := Nat × Int32) (fun x => gN g - x.1) (fun x => [(0, ps_ref (some (13, 0))), (1, ps_int (nI s)), (2, ps_int x.2), (3, ps_int (nI x.1))]) (fun _ => σ) (fun x => x.1 ≤ gN g ∧ g_sum g 0 (l_set (l_N (ps_J σ 16 0 s)) x.1) = (1, x.2)) (fun x hx_ ih => ?_) (0, 0) ⟨Nat.zero_le _, rfl⟩
  obtain ⟨i, acc⟩ := x
  obtain ⟨hi, hsum⟩ := hx_
  dsimp only at hi hsum ih ⊢
  refine pv_iload_n E d_Mod_all_4 rfl rfl ?_
  refine pv_aload_n E d_Mod_all_5 rfl rfl ?_
  refine gf_Mod_stages E wd_763 d_Mod_all_6 ?_
  refine pv_top (congrArg ps_int hA.1.1) ?_
  refine pv_icmp_ge (tgt := 59) E d_Mod_all_9 rfl (fun h9 => ?_) (fun h9 => ?_)
  · skip
    have hi2 : gN g ≤ i := (nI_leI (by omega) (by omega)).mp h9
    have hi3 : i = gN g := by omega
    subst hi3
    refine pv_aload_n E d_Mod_all_59 rfl rfl ?_
    refine pv_iload_n E d_Mod_all_60 rfl rfl ?_
    refine pv_iconst (v := 1) E d_Mod_all_61 (by decide) ?_
    refine pv_iload_n E d_Mod_all_62 rfl rfl ?_
    refine pv_callV E (fun adr => k_Mod_give l D ca A _ s 1 acc g p h0 hA hO hp hs hz (by decide) adr) yv_Mod_give wd_944 rfl rfl (fun _ => ⟨_, rfl⟩) rfl ⟨by decide, by decide⟩ (Nat.le_of_ble_eq_true rfl) d_Mod_all_63 ⟨by decide, by decide⟩ (fun r63 σ63 hq63 => ?_)
    obtain ⟨hr63, hA63, hf63⟩ := hq63
    subst r63
    exact pv_vret E hr hlk d_Mod_all_66 (by decide) (by decide) ⟨rfl, by rw [hsum]; exact hA63, hf63⟩
  · skip
    have hi2 : i < gN g := Nat.lt_of_not_le (fun z => h9 ((nI_leI (by omega) (by omega)).mpr z))
    have hi48 : i < 48 := by omega
    refine pv_aload_n E d_Mod_all_12 rfl rfl ?_
    refine gf_Mod_inputs E wd_773 d_Mod_all_13 ?_
    refine pv_top (congrArg ps_ref (m_f h0 11 rfl)) ?_
    refine pv_iload_n E d_Mod_all_16 rfl rfl ?_
    refine pv_laload (t0 := 8) E 16 _ (fun _ _ _ _ _ => rfl) rfl (m_ix h0 16 0 (by decide) (by decide) hs48) d_Mod_all_17 ?_
    refine pv_top (congrArg ps_lng ((congrArg (ps_J _ 16 0) (nI_clamp (Nat.lt_trans hs48 (by decide)))))) ?_
    refine pv_iload_n E d_Mod_all_18 rfl rfl ?_
    refine pv_lshr E d_Mod_all_19 ?_
    refine pv_lconst (v := 1) E d_Mod_all_20 (by decide) ?_
    refine pv_land E d_Mod_all_21 ?_
    refine pv_lconst (v := 1) E d_Mod_all_22 (by decide) ?_
    refine pv_lcmp E d_Mod_all_23 ?_
    refine pv_if_ne (tgt := 53) E d_Mod_all_24 rfl (fun h24 => ?_) (fun h24 => ?_)
    · skip
      have hb : (l_N (ps_J σ 16 0 s)).testBit i = false := by
        cases z : (l_N (ps_J σ 16 0 s)).testBit i
        · rfl
        · exact absurd (lg_cmpe.mpr ((l_bita (by omega) hx63).mpr z)) h24
      refine pv_inc1 E d_Mod_all_53 rfl (by decide) ?_
      refine pv_goto (tgt := 4) E d_Mod_all_56 rfl ?_
      exact pv_back (ih (i + 1, acc) ⟨by show i + 1 ≤ gN g; omega, g_sum_no hsum hb⟩ (by show gN g - (i + 1) < gN g - i; omega)) ⟨rfl, rfl, rfl, congrArg (fun z : Int32 => some (ps_int z)) (nI_1 i), trivial⟩
    · skip
      have hb : (l_N (ps_J σ 16 0 s)).testBit i = true := (l_bita (by omega) hx63).mp (lg_cmpe.mp h24)
      refine pv_aload_n E d_Mod_all_27 rfl rfl ?_
      refine gf_Mod_state E wd_764 d_Mod_all_28 ?_
      refine pv_top (congrArg ps_ref (m_f h0 2 rfl)) ?_
      refine pv_iload_n E d_Mod_all_31 rfl rfl ?_
      refine pv_iaload (t0 := 6) E 14 _ (fun _ _ _ _ _ => rfl) rfl (m_ix h0 14 0 (by decide) (by decide) hi48) d_Mod_all_32 ?_
      refine pv_top (congrArg ps_int ((congrArg (ps_I _ 14 0) (nI_clamp (Nat.lt_trans hi48 (by decide)))).trans (hA.1.2.2.1 i hi2).1.1)) ?_
      refine pv_iconst (v := 1) E d_Mod_all_33 (by decide) ?_
      refine pv_icmp_eq (tgt := 44) E d_Mod_all_34 rfl (fun h34 => ?_) (fun h34 => ?_)
      · skip
        refine pv_iload_n E d_Mod_all_44 rfl rfl ?_
        refine pv_aload_n E d_Mod_all_45 rfl rfl ?_
        refine gf_Mod_value E wd_765 d_Mod_all_46 ?_
        refine pv_top (congrArg ps_ref (m_f h0 3 rfl)) ?_
        refine pv_iload_n E d_Mod_all_49 rfl rfl ?_
        refine pv_iaload (t0 := 6) E 14 _ (fun _ _ _ _ _ => rfl) rfl (m_ix h0 14 1 (by decide) (by decide) hi48) d_Mod_all_50 ?_
        refine pv_top (congrArg ps_int ((congrArg (ps_I _ 14 1) (nI_clamp (Nat.lt_trans hi48 (by decide)))).trans (hA.1.2.2.1 i hi2).1.2.1)) ?_
        refine pv_iadd E d_Mod_all_51 ?_
        refine pv_istore_n E d_Mod_all_52 rfl (by decide) ?_
        refine pv_inc1 E d_Mod_all_53 rfl (by decide) ?_
        refine pv_goto (tgt := 4) E d_Mod_all_56 rfl ?_
        exact pv_back (ih (i + 1, acc + gF g i 1) ⟨by show i + 1 ≤ gN g; omega, g_sum_one hsum hb h34⟩ (by show gN g - (i + 1) < gN g - i; omega)) ⟨rfl, rfl, rfl, congrArg (fun z : Int32 => some (ps_int z)) (nI_1 i), trivial⟩
      · skip
        refine pv_aload_n E d_Mod_all_37 rfl rfl ?_
        refine pv_iload_n E d_Mod_all_38 rfl rfl ?_
        refine pv_iload_n E d_Mod_all_39 rfl rfl ?_
        refine pv_callV E (fun adr => k_Mod_copy l D ca A _ s i g p h0 hA hO hp hs hz hi2 adr) yv_Mod_copy wd_940 rfl rfl (fun _ => ⟨_, rfl⟩) rfl ⟨by decide, by decide⟩ (Nat.le_of_ble_eq_true rfl) d_Mod_all_40 ⟨by decide, by decide⟩ (fun r40 σ40 hq40 => ?_)
        obtain ⟨hr40, hA40, hf40⟩ := hq40
        subst r40
        exact pv_vret E hr hlk d_Mod_all_43 (by decide) (by decide) ⟨rfl, by rw [g_sum_stop hsum hb h34 hi2]; exact hA40, hf40⟩
set_option maxHeartbeats 8000000 in
set_option maxRecDepth 100000 in
theorem k_Mod_one (l : Launch) (D : va_G) (ca : Nat → ClassId) (A : Nat → Prop) (σ : ps_S) (k j : Nat) (g : gT) (p : Nat) (h0 : RM0 σ) (hA : RMA σ g p) (hO : gOK g) (hp : p ≤ 150) (hk : k < gN g) (hz : gF g k 0 = 0) (hj : j < gN g) (hkd : gF g k 2 < 5 ∨ gF g k 2 = 6) (hAn : gA g k = none) : ∀ adr, ps_M l y_Mod_one c_Mod_one 6 (Option.none : Option Jvm.ClassFile.FieldType) { frames := 6, cells := 0, slots := 0, locals := 135 } D ca A adr σ [ps_ref (some (13, 0)), ps_int (nI k), ps_int (nI j)] (fun rv σ' => rv = none ∧ RMA σ' (g_put g k (m_one g k j)) p ∧ FrA σ σ') := by
  intro adr
  refine ps_M.of (by decide +kernel) (Nat.le_of_ble_eq_true rfl) ?_
  intro p_ e_ s_ m_ args_ below_ meth_ c_ E hr hlk hnm
  have hk48 : k < 48 := Nat.lt_of_lt_of_le hk hO.1.1
  have hj48 : j < 48 := Nat.lt_of_lt_of_le hj hO.1.1
  obtain ⟨⟨r1, r2, r3, r4, r5, r6, r7⟩, r8, r9⟩ := hA.1.2.2.1 k hk
  obtain ⟨q1, q2, q3⟩ := r8 (lt7 hkd)
  refine pv_aload_n E d_Mod_one_0 rfl rfl ?_
  refine gf_Mod_state E wd_764 d_Mod_one_1 ?_
  refine pv_top (congrArg ps_ref (m_f h0 2 rfl)) ?_
  refine pv_iload_n E d_Mod_one_4 rfl rfl ?_
  refine pv_iaload (t0 := 6) E 14 _ (fun _ _ _ _ _ => rfl) rfl (m_ix h0 14 0 (by decide) (by decide) hj48) d_Mod_one_5 ?_
  refine pv_top (congrArg ps_int ((congrArg (ps_I _ 14 0) (nI_clamp (Nat.lt_trans hj48 (by decide)))).trans (hA.1.2.2.1 j hj).1.1)) ?_
  refine pv_iconst (v := 1) E d_Mod_one_6 (by decide) ?_
  refine pv_icmp_eq (tgt := 14) E d_Mod_one_7 rfl (fun h7 => ?_) (fun h7 => ?_)
  · skip
    refine pv_iconst (v := 0) E d_Mod_one_14 (by decide) ?_
    refine pv_istore_n E d_Mod_one_15 rfl (by decide) ?_
    refine pv_aload_n E d_Mod_one_16 rfl rfl ?_
    refine gf_Mod_value E wd_765 d_Mod_one_17 ?_
    refine pv_top (congrArg ps_ref (m_f h0 3 rfl)) ?_
    refine pv_iload_n E d_Mod_one_20 rfl rfl ?_
    refine pv_iaload (t0 := 6) E 14 _ (fun _ _ _ _ _ => rfl) rfl (m_ix h0 14 1 (by decide) (by decide) hj48) d_Mod_one_21 ?_
    refine pv_top (congrArg ps_int ((congrArg (ps_I _ 14 1) (nI_clamp (Nat.lt_trans hj48 (by decide)))).trans (hA.1.2.2.1 j hj).1.2.1)) ?_
    refine pv_istore E d_Mod_one_22 (by decide) ?_
    refine pv_aload_n E d_Mod_one_24 rfl rfl ?_
    refine gf_Mod_kind E wd_768 d_Mod_one_25 ?_
    refine pv_top (congrArg ps_ref (m_f h0 6 rfl)) ?_
    refine pv_iload_n E d_Mod_one_28 rfl rfl ?_
    refine pv_iaload (t0 := 6) E 14 _ (fun _ _ _ _ _ => rfl) rfl (m_ix h0 14 3 (by decide) (by decide) hk48) d_Mod_one_29 ?_
    refine pv_top (congrArg ps_int ((congrArg (ps_I _ 14 3) (nI_clamp (Nat.lt_trans hk48 (by decide)))).trans r4)) ?_
    refine pv_istore E d_Mod_one_30 (by decide) ?_
    refine pv_iload E d_Mod_one_32 rfl ?_
    refine pv_iconst (v := 1) E d_Mod_one_34 (by decide) ?_
    refine pv_icmp_ne (tgt := 45) E d_Mod_one_35 rfl (fun h35 => ?_) (fun h35 => ?_)
    · skip
      refine pv_iload_n E d_Mod_one_45 rfl rfl ?_
      refine pv_if_eq (tgt := 62) E d_Mod_one_46 rfl (fun h46 => ?_) (fun h46 => ?_)
      · skip
        refine pv_aload_n E d_Mod_one_62 rfl rfl ?_
        refine pv_aload_n E d_Mod_one_63 rfl rfl ?_
        refine gf_Mod_function E wd_769 d_Mod_one_64 ?_
        refine pv_top (congrArg ps_ref (m_f h0 7 rfl)) ?_
        refine pv_iload_n E d_Mod_one_67 rfl rfl ?_
        refine pv_iaload (t0 := 6) E 14 _ (fun _ _ _ _ _ => rfl) rfl (m_ix h0 14 4 (by decide) (by decide) hk48) d_Mod_one_68 ?_
        refine pv_top (congrArg ps_int ((congrArg (ps_I _ 14 4) (nI_clamp (Nat.lt_trans hk48 (by decide)))).trans q1)) ?_
        refine pv_aload_n E d_Mod_one_69 rfl rfl ?_
        refine gf_Mod_number E wd_770 d_Mod_one_70 ?_
        refine pv_top (congrArg ps_ref (m_f h0 8 rfl)) ?_
        refine pv_iload_n E d_Mod_one_73 rfl rfl ?_
        refine pv_iaload (t0 := 6) E 14 _ (fun _ _ _ _ _ => rfl) rfl (m_ix h0 14 5 (by decide) (by decide) hk48) d_Mod_one_74 ?_
        refine pv_top (congrArg ps_int ((congrArg (ps_I _ 14 5) (nI_clamp (Nat.lt_trans hk48 (by decide)))).trans q2)) ?_
        refine pv_iload E d_Mod_one_75 rfl ?_
        refine pv_iconst (v := 2) E d_Mod_one_77 (by decide) ?_
        refine pv_icmp_ne (tgt := 92) E d_Mod_one_78 rfl (fun h78 => ?_) (fun h78 => ?_)
        · skip
          refine pv_iload E d_Mod_one_92 rfl ?_
          refine pv_callV E (fun adr => k_Mod_apply l D ca A _ (gF g k 3) (gF g k 4) (gF g j 1) adr) yv_Mod_apply wd_952 rfl rfl (fun _ => ⟨_, rfl⟩) rfl ⟨by decide, by decide⟩ (Nat.le_of_ble_eq_true rfl) d_Mod_one_94 ⟨by decide, by decide⟩ (fun r94 σ94 hq94 => ?_)
          obtain ⟨hr94, hs94⟩ := hq94
          subst r94
          subst σ94
          have h0a := h0.A (FrA.app (σ := σ) (f := gF g k 3) (a := gF g k 4) (x := (gF g j 1)))
          have hAa := hA.app (f := gF g k 3) (a := gF g k 4) (x := (gF g j 1))
          refine pv_iload E d_Mod_one_97 rfl ?_
          refine pv_iconst (v := 3) E d_Mod_one_99 (by decide) ?_
          refine pv_icmp_ne (tgt := 139) E d_Mod_one_100 rfl (fun h100 => ?_) (fun h100 => ?_)
          · skip
            refine pv_iload E d_Mod_one_139 rfl ?_
            refine pv_iconst (v := 4) E d_Mod_one_141 (by decide) ?_
            refine pv_icmp_ne (tgt := 152) E d_Mod_one_142 rfl (fun h142 => ?_) (fun h142 => ?_)
            · skip
              refine pv_aload_n E d_Mod_one_152 rfl rfl ?_
              refine pv_iload_n E d_Mod_one_153 rfl rfl ?_
              refine pv_callV E (fun adr => k_Mod_giveMade l D ca A _ k (fn_thr (gF g k 3) (gF g k 4) (gF g j 1)) (m_mk (gF g k 3) (gF g k 4) (gF g j 1)) g p h0a hAa hO hp hk hz (app_21 _ _ _ _) (app_20 _ _ _ _) fn_thr_pos adr) yv_Mod_giveMade wd_956 rfl rfl (fun _ => ⟨_, rfl⟩) rfl ⟨by decide, by decide⟩ (Nat.le_of_ble_eq_true rfl) d_Mod_one_154 ⟨by decide, by decide⟩ (fun r154 σ154 hq154 => ?_)
              obtain ⟨hr154, hA154, hf154⟩ := hq154
              subst r154
              refine pv_goto (tgt := 196) E d_Mod_one_157 rfl ?_
              exact pv_vret E hr hlk d_Mod_one_196 (by decide) (by decide) ⟨rfl, by rw [one_0 h35 h78 h100 h142 h7]; show RMA _ (g_give g k (g_use g k (gF g j 1)).1 (g_use g k (gF g j 1)).2) p; rw [← use_mk q3]; exact hA154, FrA.app.tr hf154⟩
            · skip
              refine pv_aload_n E d_Mod_one_145 rfl rfl ?_
              refine gf_Mod_threw E wd_783 d_Mod_one_146 ?_
              refine pv_top (congrArg ps_int (app_21 _ _ _ _)) ?_
              refine pv_if_le (tgt := 160) E d_Mod_one_149 rfl (fun h149 => ?_) (fun h149 => ?_)
              · skip
                have ht0 : fn_thr (gF g k 3) (gF g k 4) (gF g j 1) = 0 := Decidable.not_not.mp (fun z => absurd (fn_thr_pos.mpr z) (Int32.not_lt.mpr h149))
                refine pv_aload_n E d_Mod_one_160 rfl rfl ?_
                refine pv_aload_n E d_Mod_one_161 rfl rfl ?_
                refine gf_Mod_made E wd_782 d_Mod_one_162 ?_
                refine pv_top (congrArg ps_int (app_20 _ _ _ _)) ?_
                refine pv_callV E (fun adr => k_Mod_isStage l D ca A _ (m_mk (gF g k 3) (gF g k 4) (gF g j 1)) g hAa.1.1 hO.1.1 adr) yv_Mod_isStage wd_928 rfl rfl (fun _ => ⟨_, rfl⟩) rfl ⟨by decide, by decide⟩ (Nat.le_of_ble_eq_true rfl) d_Mod_one_165 ⟨by decide, by decide⟩ (fun r165 σ165 hq165 => ?_)
                obtain ⟨hr165, hs165⟩ := hq165
                subst r165
                subst σ165
                refine pv_if_ne (tgt := 182) E d_Mod_one_168 rfl (fun h168 => ?_) (fun h168 => ?_)
                · skip
                  have hmade : m_mk (gF g k 3) (gF g k 4) (gF g j 1) = nI (m_mk (gF g k 3) (gF g k 4) (gF g j 1)).toNatClampNeg := by
                    obtain ⟨z, hz1, hz2⟩ := nI_of (if10n h168).1
                    rw [hz2, nI_clamp hz1]
                  refine pv_aload_n E d_Mod_one_182 rfl rfl ?_
                  refine gf_Mod_awaits E wd_775 d_Mod_one_183 ?_
                  refine pv_top (congrArg ps_ref (m_f h0a 13 rfl)) ?_
                  refine pv_iload_n E d_Mod_one_186 rfl rfl ?_
                  refine pv_aload_n E d_Mod_one_187 rfl rfl ?_
                  refine gf_Mod_made E wd_782 d_Mod_one_188 ?_
                  refine pv_top (congrArg ps_int (app_20 _ _ _ _)) ?_
                  refine pv_top (congrArg ps_int hmade) ?_
                  refine pv_iastore (t0 := 6) E 14 _ (fun _ _ _ _ _ => rfl) rfl (m_ix h0a 14 8 (by decide) (by decide) hk48) d_Mod_one_191 ?_
                  rw [nI_clamp (Nat.lt_trans hk48 (by decide))]
                  refine pv_aload_n E d_Mod_one_192 rfl rfl ?_
                  refine pv_callV E (fun adr => k_Mod_scan l D ca A _ (gsA g k (some (m_mk (gF g k 3) (gF g k 4) (gF g j 1)).toNatClampNeg)) p (h0a.A (FrA.a14 (by decide))) hAa.awt (hO.awa (if10n h168).2 hAn) hp adr) yv_Mod_scan wd_908 rfl rfl (fun _ => ⟨_, rfl⟩) rfl ⟨by decide, by decide⟩ (Nat.le_of_ble_eq_true rfl) d_Mod_one_193 ⟨by decide, by decide⟩ (fun r193 σ193 hq193 => ?_)
                  obtain ⟨hr193, hA193, hf193⟩ := hq193
                  subst r193
                  exact pv_vret E hr hlk d_Mod_one_196 (by decide) (by decide) ⟨rfl, by rw [one_4s h142 h7 hAn q3 ht0 (if10n h168)]; exact hA193, (FrA.app.tr (FrA.a14 (by decide))).tr hf193⟩
                · skip
                  refine pv_aload_n E d_Mod_one_171 rfl rfl ?_
                  refine pv_iload_n E d_Mod_one_172 rfl rfl ?_
                  refine pv_iconst (v := 3) E d_Mod_one_173 (by decide) ?_
                  refine pv_bipush (v := 8) E d_Mod_one_174 (by decide) ?_
                  refine pv_callV E (fun adr => k_Mod_give l D ca A _ k 3 8 g p h0a hAa hO hp hk hz (by decide) adr) yv_Mod_give wd_944 rfl rfl (fun _ => ⟨_, rfl⟩) rfl ⟨by decide, by decide⟩ (Nat.le_of_ble_eq_true rfl) d_Mod_one_176 ⟨by decide, by decide⟩ (fun r176 σ176 hq176 => ?_)
                  obtain ⟨hr176, hA176, hf176⟩ := hq176
                  subst r176
                  refine pv_goto (tgt := 196) E d_Mod_one_179 rfl ?_
                  exact pv_vret E hr hlk d_Mod_one_196 (by decide) (by decide) ⟨rfl, by rw [one_4n h142 h7 hAn q3 ht0 (if10 h168)]; exact hA176, FrA.app.tr hf176⟩
              · skip
                refine pv_aload_n E d_Mod_one_152 rfl rfl ?_
                refine pv_iload_n E d_Mod_one_153 rfl rfl ?_
                refine pv_callV E (fun adr => k_Mod_giveMade l D ca A _ k (fn_thr (gF g k 3) (gF g k 4) (gF g j 1)) (m_mk (gF g k 3) (gF g k 4) (gF g j 1)) g p h0a hAa hO hp hk hz (app_21 _ _ _ _) (app_20 _ _ _ _) fn_thr_pos adr) yv_Mod_giveMade wd_956 rfl rfl (fun _ => ⟨_, rfl⟩) rfl ⟨by decide, by decide⟩ (Nat.le_of_ble_eq_true rfl) d_Mod_one_154 ⟨by decide, by decide⟩ (fun r154 σ154 hq154 => ?_)
                obtain ⟨hr154, hA154, hf154⟩ := hq154
                subst r154
                refine pv_goto (tgt := 196) E d_Mod_one_157 rfl ?_
                exact pv_vret E hr hlk d_Mod_one_196 (by decide) (by decide) ⟨rfl, by rw [one_4t h142 h7 hAn (fn_thr_pos.mp (Int32.not_le.mp h149))]; show RMA _ (g_give g k (g_use g k (gF g j 1)).1 (g_use g k (gF g j 1)).2) p; rw [← use_mk q3]; exact hA154, FrA.app.tr hf154⟩
          · skip
            refine pv_aload_n E d_Mod_one_103 rfl rfl ?_
            refine pv_iload_n E d_Mod_one_104 rfl rfl ?_
            refine pv_aload_n E d_Mod_one_105 rfl rfl ?_
            refine gf_Mod_threw E wd_783 d_Mod_one_106 ?_
            refine pv_top (congrArg ps_int (app_21 _ _ _ _)) ?_
            refine pv_if_le (tgt := 116) E d_Mod_one_109 rfl (fun h109 => ?_) (fun h109 => ?_)
            · skip
              refine pv_iconst (v := 1) E d_Mod_one_116 (by decide) ?_
              refine pv_aload_n E d_Mod_one_117 rfl rfl ?_
              refine gf_Mod_threw E wd_783 d_Mod_one_118 ?_
              refine pv_top (congrArg ps_int (app_21 _ _ _ _)) ?_
              refine pv_if_le (tgt := 131) E d_Mod_one_121 rfl (fun h121 => ?_) (fun h121 => ?_)
              · skip
                refine pv_iload E d_Mod_one_131 rfl ?_
                refine pv_callV E (fun adr => k_Mod_give l D ca A _ k 1 (gF g j 1) g p h0a hAa hO hp hk hz (by decide) adr) yv_Mod_give wd_944 rfl rfl (fun _ => ⟨_, rfl⟩) rfl ⟨by decide, by decide⟩ (Nat.le_of_ble_eq_true rfl) d_Mod_one_133 ⟨by decide, by decide⟩ (fun r133 σ133 hq133 => ?_)
                obtain ⟨hr133, hA133, hf133⟩ := hq133
                subst r133
                refine pv_goto (tgt := 196) E d_Mod_one_136 rfl ?_
                exact pv_vret E hr hlk d_Mod_one_196 (by decide) (by decide) ⟨rfl, by rw [one_3 h100 h7, if_pos (Decidable.not_not.mp (fun z => absurd (fn_thr_pos.mpr z) (Int32.not_lt.mpr h109)))]; exact hA133, FrA.app.tr hf133⟩
              · skip
                exact absurd h109 h121
            · skip
              refine pv_iconst (v := 3) E d_Mod_one_112 (by decide) ?_
              refine pv_goto (tgt := 117) E d_Mod_one_113 rfl ?_
              refine pv_aload_n E d_Mod_one_117 rfl rfl ?_
              refine gf_Mod_threw E wd_783 d_Mod_one_118 ?_
              refine pv_top (congrArg ps_int (app_21 _ _ _ _)) ?_
              refine pv_if_le (tgt := 131) E d_Mod_one_121 rfl (fun h121 => ?_) (fun h121 => ?_)
              · skip
                exact absurd h121 h109
              · skip
                refine pv_aload_n E d_Mod_one_124 rfl rfl ?_
                refine gf_Mod_threw E wd_783 d_Mod_one_125 ?_
                refine pv_top (congrArg ps_int (app_21 _ _ _ _)) ?_
                refine pv_goto (tgt := 133) E d_Mod_one_128 rfl ?_
                refine pv_callV E (fun adr => k_Mod_give l D ca A _ k 3 (fn_thr (gF g k 3) (gF g k 4) (gF g j 1)) g p h0a hAa hO hp hk hz (by decide) adr) yv_Mod_give wd_944 rfl rfl (fun _ => ⟨_, rfl⟩) rfl ⟨by decide, by decide⟩ (Nat.le_of_ble_eq_true rfl) d_Mod_one_133 ⟨by decide, by decide⟩ (fun r133 σ133 hq133 => ?_)
                obtain ⟨hr133, hA133, hf133⟩ := hq133
                subst r133
                refine pv_goto (tgt := 196) E d_Mod_one_136 rfl ?_
                exact pv_vret E hr hlk d_Mod_one_196 (by decide) (by decide) ⟨rfl, by rw [one_3 h100 h7, if_neg (fn_thr_pos.mp (Int32.not_le.mp h109))]; exact hA133, FrA.app.tr hf133⟩
        · skip
          refine pv_iload_n E d_Mod_one_81 rfl rfl ?_
          refine pv_if_eq (tgt := 92) E d_Mod_one_82 rfl (fun h82 => ?_) (fun h82 => ?_)
          · skip
            refine pv_iload E d_Mod_one_92 rfl ?_
            refine pv_callV E (fun adr => k_Mod_apply l D ca A _ (gF g k 3) (gF g k 4) (gF g j 1) adr) yv_Mod_apply wd_952 rfl rfl (fun _ => ⟨_, rfl⟩) rfl ⟨by decide, by decide⟩ (Nat.le_of_ble_eq_true rfl) d_Mod_one_94 ⟨by decide, by decide⟩ (fun r94 σ94 hq94 => ?_)
            obtain ⟨hr94, hs94⟩ := hq94
            subst r94
            subst σ94
            have h0a := h0.A (FrA.app (σ := σ) (f := gF g k 3) (a := gF g k 4) (x := (gF g j 1)))
            have hAa := hA.app (f := gF g k 3) (a := gF g k 4) (x := (gF g j 1))
            refine pv_iload E d_Mod_one_97 rfl ?_
            refine pv_iconst (v := 3) E d_Mod_one_99 (by decide) ?_
            refine pv_icmp_ne (tgt := 139) E d_Mod_one_100 rfl (fun h100 => ?_) (fun h100 => ?_)
            · skip
              refine pv_iload E d_Mod_one_139 rfl ?_
              refine pv_iconst (v := 4) E d_Mod_one_141 (by decide) ?_
              refine pv_icmp_ne (tgt := 152) E d_Mod_one_142 rfl (fun h142 => ?_) (fun h142 => ?_)
              · skip
                refine pv_aload_n E d_Mod_one_152 rfl rfl ?_
                refine pv_iload_n E d_Mod_one_153 rfl rfl ?_
                refine pv_callV E (fun adr => k_Mod_giveMade l D ca A _ k (fn_thr (gF g k 3) (gF g k 4) (gF g j 1)) (m_mk (gF g k 3) (gF g k 4) (gF g j 1)) g p h0a hAa hO hp hk hz (app_21 _ _ _ _) (app_20 _ _ _ _) fn_thr_pos adr) yv_Mod_giveMade wd_956 rfl rfl (fun _ => ⟨_, rfl⟩) rfl ⟨by decide, by decide⟩ (Nat.le_of_ble_eq_true rfl) d_Mod_one_154 ⟨by decide, by decide⟩ (fun r154 σ154 hq154 => ?_)
                obtain ⟨hr154, hA154, hf154⟩ := hq154
                subst r154
                refine pv_goto (tgt := 196) E d_Mod_one_157 rfl ?_
                exact pv_vret E hr hlk d_Mod_one_196 (by decide) (by decide) ⟨rfl, by rw [one_2o h78 h7]; show RMA _ (g_give g k (g_use g k (gF g j 1)).1 (g_use g k (gF g j 1)).2) p; rw [← use_mk q3]; exact hA154, FrA.app.tr hf154⟩
              · skip
                exact absurd (h78.symm.trans h142) (by decide)
            · skip
              exact absurd (h78.symm.trans h100) (by decide)
          · skip
            exact absurd rfl h82
      · skip
        exact absurd rfl h46
    · skip
      refine pv_iload_n E d_Mod_one_38 rfl rfl ?_
      refine pv_if_ne (tgt := 62) E d_Mod_one_39 rfl (fun h39 => ?_) (fun h39 => ?_)
      · skip
        exact absurd rfl h39
      · skip
        refine pv_goto (tgt := 55) E d_Mod_one_42 rfl ?_
        refine pv_aload_n E d_Mod_one_55 rfl rfl ?_
        refine pv_iload_n E d_Mod_one_56 rfl rfl ?_
        refine pv_iload_n E d_Mod_one_57 rfl rfl ?_
        refine pv_callV E (fun adr => k_Mod_copy l D ca A _ k j g p h0 hA hO hp hk hz hj adr) yv_Mod_copy wd_940 rfl rfl (fun _ => ⟨_, rfl⟩) rfl ⟨by decide, by decide⟩ (Nat.le_of_ble_eq_true rfl) d_Mod_one_58 ⟨by decide, by decide⟩ (fun r58 σ58 hq58 => ?_)
        obtain ⟨hr58, hA58, hf58⟩ := hq58
        subst r58
        exact pv_vret E hr hlk d_Mod_one_61 (by decide) (by decide) ⟨rfl, by rw [one_c1 h35 h7]; exact hA58, hf58⟩
  · skip
    refine pv_iconst (v := 1) E d_Mod_one_10 (by decide) ?_
    refine pv_goto (tgt := 15) E d_Mod_one_11 rfl ?_
    refine pv_istore_n E d_Mod_one_15 rfl (by decide) ?_
    refine pv_aload_n E d_Mod_one_16 rfl rfl ?_
    refine gf_Mod_value E wd_765 d_Mod_one_17 ?_
    refine pv_top (congrArg ps_ref (m_f h0 3 rfl)) ?_
    refine pv_iload_n E d_Mod_one_20 rfl rfl ?_
    refine pv_iaload (t0 := 6) E 14 _ (fun _ _ _ _ _ => rfl) rfl (m_ix h0 14 1 (by decide) (by decide) hj48) d_Mod_one_21 ?_
    refine pv_top (congrArg ps_int ((congrArg (ps_I _ 14 1) (nI_clamp (Nat.lt_trans hj48 (by decide)))).trans (hA.1.2.2.1 j hj).1.2.1)) ?_
    refine pv_istore E d_Mod_one_22 (by decide) ?_
    refine pv_aload_n E d_Mod_one_24 rfl rfl ?_
    refine gf_Mod_kind E wd_768 d_Mod_one_25 ?_
    refine pv_top (congrArg ps_ref (m_f h0 6 rfl)) ?_
    refine pv_iload_n E d_Mod_one_28 rfl rfl ?_
    refine pv_iaload (t0 := 6) E 14 _ (fun _ _ _ _ _ => rfl) rfl (m_ix h0 14 3 (by decide) (by decide) hk48) d_Mod_one_29 ?_
    refine pv_top (congrArg ps_int ((congrArg (ps_I _ 14 3) (nI_clamp (Nat.lt_trans hk48 (by decide)))).trans r4)) ?_
    refine pv_istore E d_Mod_one_30 (by decide) ?_
    refine pv_iload E d_Mod_one_32 rfl ?_
    refine pv_iconst (v := 1) E d_Mod_one_34 (by decide) ?_
    refine pv_icmp_ne (tgt := 45) E d_Mod_one_35 rfl (fun h35 => ?_) (fun h35 => ?_)
    · skip
      refine pv_iload_n E d_Mod_one_45 rfl rfl ?_
      refine pv_if_eq (tgt := 62) E d_Mod_one_46 rfl (fun h46 => ?_) (fun h46 => ?_)
      · skip
        exact absurd h46 (by decide)
      · skip
        refine pv_iload E d_Mod_one_49 rfl ?_
        refine pv_iconst (v := 2) E d_Mod_one_51 (by decide) ?_
        refine pv_icmp_eq (tgt := 62) E d_Mod_one_52 rfl (fun h52 => ?_) (fun h52 => ?_)
        · skip
          refine pv_aload_n E d_Mod_one_62 rfl rfl ?_
          refine pv_aload_n E d_Mod_one_63 rfl rfl ?_
          refine gf_Mod_function E wd_769 d_Mod_one_64 ?_
          refine pv_top (congrArg ps_ref (m_f h0 7 rfl)) ?_
          refine pv_iload_n E d_Mod_one_67 rfl rfl ?_
          refine pv_iaload (t0 := 6) E 14 _ (fun _ _ _ _ _ => rfl) rfl (m_ix h0 14 4 (by decide) (by decide) hk48) d_Mod_one_68 ?_
          refine pv_top (congrArg ps_int ((congrArg (ps_I _ 14 4) (nI_clamp (Nat.lt_trans hk48 (by decide)))).trans q1)) ?_
          refine pv_aload_n E d_Mod_one_69 rfl rfl ?_
          refine gf_Mod_number E wd_770 d_Mod_one_70 ?_
          refine pv_top (congrArg ps_ref (m_f h0 8 rfl)) ?_
          refine pv_iload_n E d_Mod_one_73 rfl rfl ?_
          refine pv_iaload (t0 := 6) E 14 _ (fun _ _ _ _ _ => rfl) rfl (m_ix h0 14 5 (by decide) (by decide) hk48) d_Mod_one_74 ?_
          refine pv_top (congrArg ps_int ((congrArg (ps_I _ 14 5) (nI_clamp (Nat.lt_trans hk48 (by decide)))).trans q2)) ?_
          refine pv_iload E d_Mod_one_75 rfl ?_
          refine pv_iconst (v := 2) E d_Mod_one_77 (by decide) ?_
          refine pv_icmp_ne (tgt := 92) E d_Mod_one_78 rfl (fun h78 => ?_) (fun h78 => ?_)
          · skip
            exact absurd h52 h78
          · skip
            refine pv_iload_n E d_Mod_one_81 rfl rfl ?_
            refine pv_if_eq (tgt := 92) E d_Mod_one_82 rfl (fun h82 => ?_) (fun h82 => ?_)
            · skip
              exact absurd h82 (by decide)
            · skip
              refine pv_iconst (v := -1) E d_Mod_one_85 (by decide) ?_
              refine pv_iload E d_Mod_one_86 rfl ?_
              refine pv_isub E d_Mod_one_88 ?_
              refine pv_goto (tgt := 94) E d_Mod_one_89 rfl ?_
              refine pv_callV E (fun adr => k_Mod_apply l D ca A _ (gF g k 3) (gF g k 4) (-1 - gF g j 1) adr) yv_Mod_apply wd_952 rfl rfl (fun _ => ⟨_, rfl⟩) rfl ⟨by decide, by decide⟩ (Nat.le_of_ble_eq_true rfl) d_Mod_one_94 ⟨by decide, by decide⟩ (fun r94 σ94 hq94 => ?_)
              obtain ⟨hr94, hs94⟩ := hq94
              subst r94
              subst σ94
              have h0a := h0.A (FrA.app (σ := σ) (f := gF g k 3) (a := gF g k 4) (x := (-1 - gF g j 1)))
              have hAa := hA.app (f := gF g k 3) (a := gF g k 4) (x := (-1 - gF g j 1))
              refine pv_iload E d_Mod_one_97 rfl ?_
              refine pv_iconst (v := 3) E d_Mod_one_99 (by decide) ?_
              refine pv_icmp_ne (tgt := 139) E d_Mod_one_100 rfl (fun h100 => ?_) (fun h100 => ?_)
              · skip
                refine pv_iload E d_Mod_one_139 rfl ?_
                refine pv_iconst (v := 4) E d_Mod_one_141 (by decide) ?_
                refine pv_icmp_ne (tgt := 152) E d_Mod_one_142 rfl (fun h142 => ?_) (fun h142 => ?_)
                · skip
                  refine pv_aload_n E d_Mod_one_152 rfl rfl ?_
                  refine pv_iload_n E d_Mod_one_153 rfl rfl ?_
                  refine pv_callV E (fun adr => k_Mod_giveMade l D ca A _ k (fn_thr (gF g k 3) (gF g k 4) (-1 - gF g j 1)) (m_mk (gF g k 3) (gF g k 4) (-1 - gF g j 1)) g p h0a hAa hO hp hk hz (app_21 _ _ _ _) (app_20 _ _ _ _) fn_thr_pos adr) yv_Mod_giveMade wd_956 rfl rfl (fun _ => ⟨_, rfl⟩) rfl ⟨by decide, by decide⟩ (Nat.le_of_ble_eq_true rfl) d_Mod_one_154 ⟨by decide, by decide⟩ (fun r154 σ154 hq154 => ?_)
                  obtain ⟨hr154, hA154, hf154⟩ := hq154
                  subst r154
                  refine pv_goto (tgt := 196) E d_Mod_one_157 rfl ?_
                  exact pv_vret E hr hlk d_Mod_one_196 (by decide) (by decide) ⟨rfl, by rw [one_2f h78 h7]; show RMA _ (g_give g k (g_use g k (-1 - gF g j 1)).1 (g_use g k (-1 - gF g j 1)).2) p; rw [← use_mk q3]; exact hA154, FrA.app.tr hf154⟩
                · skip
                  exact absurd (h52.symm.trans h142) (by decide)
              · skip
                exact absurd (h52.symm.trans h100) (by decide)
        · skip
          refine pv_aload_n E d_Mod_one_55 rfl rfl ?_
          refine pv_iload_n E d_Mod_one_56 rfl rfl ?_
          refine pv_iload_n E d_Mod_one_57 rfl rfl ?_
          refine pv_callV E (fun adr => k_Mod_copy l D ca A _ k j g p h0 hA hO hp hk hz hj adr) yv_Mod_copy wd_940 rfl rfl (fun _ => ⟨_, rfl⟩) rfl ⟨by decide, by decide⟩ (Nat.le_of_ble_eq_true rfl) d_Mod_one_58 ⟨by decide, by decide⟩ (fun r58 σ58 hq58 => ?_)
          obtain ⟨hr58, hA58, hf58⟩ := hq58
          subst r58
          exact pv_vret E hr hlk d_Mod_one_61 (by decide) (by decide) ⟨rfl, by rw [one_c2 h35 h52 h7 hAn]; exact hA58, hf58⟩
    · skip
      refine pv_iload_n E d_Mod_one_38 rfl rfl ?_
      refine pv_if_ne (tgt := 62) E d_Mod_one_39 rfl (fun h39 => ?_) (fun h39 => ?_)
      · skip
        refine pv_aload_n E d_Mod_one_62 rfl rfl ?_
        refine pv_aload_n E d_Mod_one_63 rfl rfl ?_
        refine gf_Mod_function E wd_769 d_Mod_one_64 ?_
        refine pv_top (congrArg ps_ref (m_f h0 7 rfl)) ?_
        refine pv_iload_n E d_Mod_one_67 rfl rfl ?_
        refine pv_iaload (t0 := 6) E 14 _ (fun _ _ _ _ _ => rfl) rfl (m_ix h0 14 4 (by decide) (by decide) hk48) d_Mod_one_68 ?_
        refine pv_top (congrArg ps_int ((congrArg (ps_I _ 14 4) (nI_clamp (Nat.lt_trans hk48 (by decide)))).trans q1)) ?_
        refine pv_aload_n E d_Mod_one_69 rfl rfl ?_
        refine gf_Mod_number E wd_770 d_Mod_one_70 ?_
        refine pv_top (congrArg ps_ref (m_f h0 8 rfl)) ?_
        refine pv_iload_n E d_Mod_one_73 rfl rfl ?_
        refine pv_iaload (t0 := 6) E 14 _ (fun _ _ _ _ _ => rfl) rfl (m_ix h0 14 5 (by decide) (by decide) hk48) d_Mod_one_74 ?_
        refine pv_top (congrArg ps_int ((congrArg (ps_I _ 14 5) (nI_clamp (Nat.lt_trans hk48 (by decide)))).trans q2)) ?_
        refine pv_iload E d_Mod_one_75 rfl ?_
        refine pv_iconst (v := 2) E d_Mod_one_77 (by decide) ?_
        refine pv_icmp_ne (tgt := 92) E d_Mod_one_78 rfl (fun h78 => ?_) (fun h78 => ?_)
        · skip
          refine pv_iload E d_Mod_one_92 rfl ?_
          refine pv_callV E (fun adr => k_Mod_apply l D ca A _ (gF g k 3) (gF g k 4) (gF g j 1) adr) yv_Mod_apply wd_952 rfl rfl (fun _ => ⟨_, rfl⟩) rfl ⟨by decide, by decide⟩ (Nat.le_of_ble_eq_true rfl) d_Mod_one_94 ⟨by decide, by decide⟩ (fun r94 σ94 hq94 => ?_)
          obtain ⟨hr94, hs94⟩ := hq94
          subst r94
          subst σ94
          have h0a := h0.A (FrA.app (σ := σ) (f := gF g k 3) (a := gF g k 4) (x := (gF g j 1)))
          have hAa := hA.app (f := gF g k 3) (a := gF g k 4) (x := (gF g j 1))
          refine pv_iload E d_Mod_one_97 rfl ?_
          refine pv_iconst (v := 3) E d_Mod_one_99 (by decide) ?_
          refine pv_icmp_ne (tgt := 139) E d_Mod_one_100 rfl (fun h100 => ?_) (fun h100 => ?_)
          · skip
            refine pv_iload E d_Mod_one_139 rfl ?_
            refine pv_iconst (v := 4) E d_Mod_one_141 (by decide) ?_
            refine pv_icmp_ne (tgt := 152) E d_Mod_one_142 rfl (fun h142 => ?_) (fun h142 => ?_)
            · skip
              refine pv_aload_n E d_Mod_one_152 rfl rfl ?_
              refine pv_iload_n E d_Mod_one_153 rfl rfl ?_
              refine pv_callV E (fun adr => k_Mod_giveMade l D ca A _ k (fn_thr (gF g k 3) (gF g k 4) (gF g j 1)) (m_mk (gF g k 3) (gF g k 4) (gF g j 1)) g p h0a hAa hO hp hk hz (app_21 _ _ _ _) (app_20 _ _ _ _) fn_thr_pos adr) yv_Mod_giveMade wd_956 rfl rfl (fun _ => ⟨_, rfl⟩) rfl ⟨by decide, by decide⟩ (Nat.le_of_ble_eq_true rfl) d_Mod_one_154 ⟨by decide, by decide⟩ (fun r154 σ154 hq154 => ?_)
              obtain ⟨hr154, hA154, hf154⟩ := hq154
              subst r154
              refine pv_goto (tgt := 196) E d_Mod_one_157 rfl ?_
              exact pv_vret E hr hlk d_Mod_one_196 (by decide) (by decide) ⟨rfl, by rw [one_1 h35 h7]; show RMA _ (g_give g k (g_use g k (gF g j 1)).1 (g_use g k (gF g j 1)).2) p; rw [← use_mk q3]; exact hA154, FrA.app.tr hf154⟩
            · skip
              exact absurd (h35.symm.trans h142) (by decide)
          · skip
            exact absurd (h35.symm.trans h100) (by decide)
        · skip
          exact absurd (h35.symm.trans h78) (by decide)
      · skip
        exact absurd h39 (by decide)
