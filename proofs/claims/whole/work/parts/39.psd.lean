theorem d_Long_bitCount_0 : decode c_Long_bitCount 0 = .ok (.lload_n 0, 1) := by decide +kernel
theorem d_Long_bitCount_1 : decode c_Long_bitCount 1 = .ok (.lload_n 0, 1) := by decide +kernel
theorem d_Long_bitCount_2 : decode c_Long_bitCount 2 = .ok (.iconst 1, 1) := by decide +kernel
theorem d_Long_bitCount_3 : decode c_Long_bitCount 3 = .ok (.lushr, 1) := by decide +kernel
theorem d_Long_bitCount_4 : decode c_Long_bitCount 4 = .ok (.ldc2_w 314, 3) := by decide +kernel
theorem d_Long_bitCount_7 : decode c_Long_bitCount 7 = .ok (.land, 1) := by decide +kernel
theorem d_Long_bitCount_8 : decode c_Long_bitCount 8 = .ok (.lsub, 1) := by decide +kernel
theorem d_Long_bitCount_9 : decode c_Long_bitCount 9 = .ok (.lstore_n 0, 1) := by decide +kernel
theorem d_Long_bitCount_10 : decode c_Long_bitCount 10 = .ok (.lload_n 0, 1) := by decide +kernel
theorem d_Long_bitCount_11 : decode c_Long_bitCount 11 = .ok (.ldc2_w 316, 3) := by decide +kernel
theorem d_Long_bitCount_14 : decode c_Long_bitCount 14 = .ok (.land, 1) := by decide +kernel
theorem d_Long_bitCount_15 : decode c_Long_bitCount 15 = .ok (.lload_n 0, 1) := by decide +kernel
theorem d_Long_bitCount_16 : decode c_Long_bitCount 16 = .ok (.iconst 2, 1) := by decide +kernel
theorem d_Long_bitCount_17 : decode c_Long_bitCount 17 = .ok (.lushr, 1) := by decide +kernel
theorem d_Long_bitCount_18 : decode c_Long_bitCount 18 = .ok (.ldc2_w 316, 3) := by decide +kernel
theorem d_Long_bitCount_21 : decode c_Long_bitCount 21 = .ok (.land, 1) := by decide +kernel
theorem d_Long_bitCount_22 : decode c_Long_bitCount 22 = .ok (.ladd, 1) := by decide +kernel
theorem d_Long_bitCount_23 : decode c_Long_bitCount 23 = .ok (.lstore_n 0, 1) := by decide +kernel
theorem d_Long_bitCount_24 : decode c_Long_bitCount 24 = .ok (.lload_n 0, 1) := by decide +kernel
theorem d_Long_bitCount_25 : decode c_Long_bitCount 25 = .ok (.lload_n 0, 1) := by decide +kernel
theorem d_Long_bitCount_26 : decode c_Long_bitCount 26 = .ok (.iconst 4, 1) := by decide +kernel
theorem d_Long_bitCount_27 : decode c_Long_bitCount 27 = .ok (.lushr, 1) := by decide +kernel
theorem d_Long_bitCount_28 : decode c_Long_bitCount 28 = .ok (.ladd, 1) := by decide +kernel
theorem d_Long_bitCount_29 : decode c_Long_bitCount 29 = .ok (.ldc2_w 318, 3) := by decide +kernel
theorem d_Long_bitCount_32 : decode c_Long_bitCount 32 = .ok (.land, 1) := by decide +kernel
theorem d_Long_bitCount_33 : decode c_Long_bitCount 33 = .ok (.lstore_n 0, 1) := by decide +kernel
theorem d_Long_bitCount_34 : decode c_Long_bitCount 34 = .ok (.lload_n 0, 1) := by decide +kernel
theorem d_Long_bitCount_35 : decode c_Long_bitCount 35 = .ok (.lload_n 0, 1) := by decide +kernel
theorem d_Long_bitCount_36 : decode c_Long_bitCount 36 = .ok (.bipush 8, 2) := by decide +kernel
theorem d_Long_bitCount_38 : decode c_Long_bitCount 38 = .ok (.lushr, 1) := by decide +kernel
theorem d_Long_bitCount_39 : decode c_Long_bitCount 39 = .ok (.ladd, 1) := by decide +kernel
theorem d_Long_bitCount_40 : decode c_Long_bitCount 40 = .ok (.lstore_n 0, 1) := by decide +kernel
theorem d_Long_bitCount_41 : decode c_Long_bitCount 41 = .ok (.lload_n 0, 1) := by decide +kernel
theorem d_Long_bitCount_42 : decode c_Long_bitCount 42 = .ok (.lload_n 0, 1) := by decide +kernel
theorem d_Long_bitCount_43 : decode c_Long_bitCount 43 = .ok (.bipush 16, 2) := by decide +kernel
theorem d_Long_bitCount_45 : decode c_Long_bitCount 45 = .ok (.lushr, 1) := by decide +kernel
theorem d_Long_bitCount_46 : decode c_Long_bitCount 46 = .ok (.ladd, 1) := by decide +kernel
theorem d_Long_bitCount_47 : decode c_Long_bitCount 47 = .ok (.lstore_n 0, 1) := by decide +kernel
theorem d_Long_bitCount_48 : decode c_Long_bitCount 48 = .ok (.lload_n 0, 1) := by decide +kernel
theorem d_Long_bitCount_49 : decode c_Long_bitCount 49 = .ok (.lload_n 0, 1) := by decide +kernel
theorem d_Long_bitCount_50 : decode c_Long_bitCount 50 = .ok (.bipush 32, 2) := by decide +kernel
theorem d_Long_bitCount_52 : decode c_Long_bitCount 52 = .ok (.lushr, 1) := by decide +kernel
theorem d_Long_bitCount_53 : decode c_Long_bitCount 53 = .ok (.ladd, 1) := by decide +kernel
theorem d_Long_bitCount_54 : decode c_Long_bitCount 54 = .ok (.lstore_n 0, 1) := by decide +kernel
theorem d_Long_bitCount_55 : decode c_Long_bitCount 55 = .ok (.lload_n 0, 1) := by decide +kernel
theorem d_Long_bitCount_56 : decode c_Long_bitCount 56 = .ok (.l2i, 1) := by decide +kernel
theorem d_Long_bitCount_57 : decode c_Long_bitCount 57 = .ok (.bipush 127, 2) := by decide +kernel
theorem d_Long_bitCount_59 : decode c_Long_bitCount 59 = .ok (.iand, 1) := by decide +kernel
theorem d_Long_bitCount_60 : decode c_Long_bitCount 60 = .ok (.ireturn, 1) := by decide +kernel
theorem ys_Long_bitCount : ps_YS y_Long_bitCount c_Long_bitCount 2 (Option.some Jvm.ClassFile.FieldType.int) 1 := ⟨wd_581, wd_13, wd_580, by decide +kernel, by decide +kernel, by decide +kernel⟩
set_option maxHeartbeats 8000000 in
set_option maxRecDepth 100000 in
theorem k_Long_bitCount (l : Launch) (D : va_G) (ca : Nat → ClassId) (A : Nat → Prop) (σ : ps_S) (x : Int64)  : ∀ adr, ps_M l y_Long_bitCount c_Long_bitCount 2 (Option.some Jvm.ClassFile.FieldType.int) { frames := 0, cells := 0, slots := 0, locals := 0 } D ca A adr σ [ps_lng x] (fun rv σ' => rv = some (ps_int (l_bc x)) ∧ σ' = σ) := by
  intro adr
  refine ps_M.of (by decide +kernel) (Nat.le_of_ble_eq_true rfl) ?_
  intro p_ e_ s_ m_ args_ below_ meth_ c_ E hr hlk hnm
  refine pv_lload_n E d_Long_bitCount_0 rfl rfl ?_
  refine pv_lload_n E d_Long_bitCount_1 rfl rfl ?_
  refine pv_iconst (v := 1) E d_Long_bitCount_2 (by decide) ?_
  refine pv_lushr E d_Long_bitCount_3 ?_
  refine pv_ldc2 (v := 6148914691236517205) E wd_582 d_Long_bitCount_4 ?_
  refine pv_land E d_Long_bitCount_7 ?_
  refine pv_lsub E d_Long_bitCount_8 ?_
  refine pv_lstore_n E d_Long_bitCount_9 rfl (by decide) ?_
  refine pv_lload_n E d_Long_bitCount_10 rfl rfl ?_
  refine pv_ldc2 (v := 3689348814741910323) E wd_583 d_Long_bitCount_11 ?_
  refine pv_land E d_Long_bitCount_14 ?_
  refine pv_lload_n E d_Long_bitCount_15 rfl rfl ?_
  refine pv_iconst (v := 2) E d_Long_bitCount_16 (by decide) ?_
  refine pv_lushr E d_Long_bitCount_17 ?_
  refine pv_ldc2 (v := 3689348814741910323) E wd_583 d_Long_bitCount_18 ?_
  refine pv_land E d_Long_bitCount_21 ?_
  refine pv_ladd E d_Long_bitCount_22 ?_
  refine pv_lstore_n E d_Long_bitCount_23 rfl (by decide) ?_
  refine pv_lload_n E d_Long_bitCount_24 rfl rfl ?_
  refine pv_lload_n E d_Long_bitCount_25 rfl rfl ?_
  refine pv_iconst (v := 4) E d_Long_bitCount_26 (by decide) ?_
  refine pv_lushr E d_Long_bitCount_27 ?_
  refine pv_ladd E d_Long_bitCount_28 ?_
  refine pv_ldc2 (v := 1085102592571150095) E wd_584 d_Long_bitCount_29 ?_
  refine pv_land E d_Long_bitCount_32 ?_
  refine pv_lstore_n E d_Long_bitCount_33 rfl (by decide) ?_
  refine pv_lload_n E d_Long_bitCount_34 rfl rfl ?_
  refine pv_lload_n E d_Long_bitCount_35 rfl rfl ?_
  refine pv_bipush (v := 8) E d_Long_bitCount_36 (by decide) ?_
  refine pv_lushr E d_Long_bitCount_38 ?_
  refine pv_ladd E d_Long_bitCount_39 ?_
  refine pv_lstore_n E d_Long_bitCount_40 rfl (by decide) ?_
  refine pv_lload_n E d_Long_bitCount_41 rfl rfl ?_
  refine pv_lload_n E d_Long_bitCount_42 rfl rfl ?_
  refine pv_bipush (v := 16) E d_Long_bitCount_43 (by decide) ?_
  refine pv_lushr E d_Long_bitCount_45 ?_
  refine pv_ladd E d_Long_bitCount_46 ?_
  refine pv_lstore_n E d_Long_bitCount_47 rfl (by decide) ?_
  refine pv_lload_n E d_Long_bitCount_48 rfl rfl ?_
  refine pv_lload_n E d_Long_bitCount_49 rfl rfl ?_
  refine pv_bipush (v := 32) E d_Long_bitCount_50 (by decide) ?_
  refine pv_lushr E d_Long_bitCount_52 ?_
  refine pv_ladd E d_Long_bitCount_53 ?_
  refine pv_lstore_n E d_Long_bitCount_54 rfl (by decide) ?_
  refine pv_lload_n E d_Long_bitCount_55 rfl rfl ?_
  refine pv_l2i E d_Long_bitCount_56 ?_
  refine pv_bipush (v := 127) E d_Long_bitCount_57 (by decide) ?_
  refine pv_iand E d_Long_bitCount_59 ?_
  exact pv_iret E hr hlk d_Long_bitCount_60 (by decide) (by decide) ⟨rfl, rfl⟩
set_option maxHeartbeats 8000000 in
set_option maxRecDepth 100000 in
theorem k_Graph_inputsOfSet (l : Launch) (D : va_G) (ca : Nat → ClassId) (A : Nat → Prop) (σ : ps_S) (set : Int64) (g : gT) (hR : RC σ g) (hO : gOK g) (hN4 : ps_N σ 4 = 3 + gN g) (hs : ¬ g_hasAll g set = 0) : ∀ adr, ps_M l y_Graph_inputsOfSet c_Graph_inputsOfSet 6 (Option.some (Jvm.ClassFile.FieldType.array (Jvm.ClassFile.FieldType.object "PromiseScopes$Stage"))) { frames := 1, cells := 1, slots := 48, locals := 21 } D ca A adr σ [ps_ref (some (1, 0)), ps_lng set] (fun rv σ' => rv = some (ps_ref (some (4, 3 + gN g))) ∧ sameG (gN g) σ σ' ∧ FrG σ σ' ∧ ps_N σ' = ps_N (ps_mk σ 4 0) ∧ ps_L σ' 4 (3 + gN g) = (l_set (l_N set) (gN g)).length ∧ ∀ j i, (l_set (l_N set) (gN g))[j]? = some i → ps_R σ' 4 (3 + gN g) j = some (3, i)) := by
  intro adr
  refine ps_M.of (by decide +kernel) (Nat.le_of_ble_eq_true rfl) ?_
  intro p_ e_ s_ m_ args_ below_ meth_ c_ E hr hlk hnm
  have h48 := hO.1.1
  obtain ⟨hx0, hx1⟩ := hasAll_N hs h48
  have hlen : l_bc set = nI (l_set (l_N set) (gN g)).length := by rw [l_bc_eq, l_cnt64 hx1 (by omega), l_set_len]
  have hl48 : (l_set (l_N set) (gN g)).length ≤ 48 := by rw [l_set_len]; exact Nat.le_trans (cnt_le _ _) h48
  refine pv_lload_n E d_Graph_inputsOfSet_0 rfl rfl ?_
  refine pv_callS E (fun adr => k_Long_bitCount l D ca A _ set adr) ys_Long_bitCount wd_579 rfl rfl ⟨by decide, by decide⟩ (Nat.le_of_ble_eq_true rfl) d_Graph_inputsOfSet_1 ⟨by decide, by decide⟩ (fun r1 σ1 hq1 => ?_)
  obtain ⟨hr1, hs1⟩ := hq1
  subst r1
  subst σ1
  refine pv_top (congrArg ps_int hlen) ?_
  refine pv_anew (t0 := 0) (N := (l_set (l_N set) (gN g)).length) E 4 (by decide) (fun _ _ _ _ _ => rfl) rfl wd_32 wd_33 (nI_nlt (b := 0) (Nat.zero_le _) (show (l_set (l_N set) (gN g)).length < 2 ^ 31 by omega)) (nI_clamp (by omega)) (by omega) (by decide) (by show 0 + (l_set (l_N set) (gN g)).length ≤ 48; omega) d_Graph_inputsOfSet_4 ?_
  rw [hN4]
  refine pv_astore_n E d_Graph_inputsOfSet_7 rfl (by decide) ?_
  refine pv_iconst (v := 0) E d_Graph_inputsOfSet_8 (by decide) ?_
  refine pv_istore E d_Graph_inputsOfSet_9 (by decide) ?_
  refine pv_iconst (v := 0) E d_Graph_inputsOfSet_11 (by decide) ?_
  refine pv_istore E d_Graph_inputsOfSet_12 (by decide) ?_
  refine pv_sub (L' := [(0, ps_ref (some (1, 0))), (1, ps_lng set), (3, ps_ref (some (4, 3 + gN g))), (4, ps_int (nI (l_cnt (l_N set) 0))), (5, ps_int (nI 0))]) ⟨rfl, rfl, rfl, rfl, rfl, trivial⟩ ?_
  refine pv_loop (ι := Nat × ps_S) (fun x => gN g - x.1) (fun x => [(0, ps_ref (some (1, 0))), (1, ps_lng set), (3, ps_ref (some (4, 3 + gN g))), (4, ps_int (nI (l_cnt (l_N set) x.1))), (5, ps_int (nI x.1))]) (fun x => x.2) (fun x => x.1 ≤ gN g ∧ sameG (gN g) σ x.2 ∧ FrG σ x.2 ∧ ps_N x.2 = ps_N (ps_mk σ 4 0) ∧ ps_L x.2 4 (3 + gN g) = (l_set (l_N set) (gN g)).length ∧ ∀ j i, (l_set (l_N set) x.1)[j]? = some i → ps_R x.2 4 (3 + gN g) j = some (3, i)) (fun x hx_ ih => ?_) (0, ps_mk σ 4 (l_set (l_N set) (gN g)).length) ⟨Nat.zero_le _, sameG.arr hN4, FrG.mk (by decide), rfl, by rw [← hN4, mk_L1], fun j i h => by cases h⟩
  obtain ⟨i, τ⟩ := x
  obtain ⟨hi, hsG, hFr, hN, hL, hI⟩ := hx_
  dsimp only at hi hsG hFr hN hL hI ih ⊢
  have hT := hR.same hsG
  have hci : l_cnt (l_N set) i ≤ i := cnt_le _ _
  refine pv_iload E d_Graph_inputsOfSet_14 rfl ?_
  refine pv_aload_n E d_Graph_inputsOfSet_16 rfl rfl ?_
  refine gf_Graph_made E wd_54 d_Graph_inputsOfSet_17 ?_
  refine pv_top (congrArg ps_int hT.1.2.2.2.1) ?_
  refine pv_icmp_ge (tgt := 54) E d_Graph_inputsOfSet_20 rfl (fun h20 => ?_) (fun h20 => ?_)
  · skip
    have hi2 : gN g ≤ i := (nI_leI (by omega) (by omega)).mp h20
    have hi3 : i = gN g := by omega
    subst hi3
    refine pv_aload_n E d_Graph_inputsOfSet_54 rfl rfl ?_
    exact pv_aret E hr (Or.inr ⟨_, rfl⟩) hlk d_Graph_inputsOfSet_55 (by decide) (by show 0 + (l_set (l_N set) (gN g)).length ≤ 48; omega) ⟨rfl, hsG, hFr, hN, hL, hI⟩
  · skip
    have hi2 : i < gN g := Nat.lt_of_not_le (fun z => h20 ((nI_leI (by omega) (by omega)).mpr z))
    refine pv_lload_n E d_Graph_inputsOfSet_23 rfl rfl ?_
    refine pv_iload E d_Graph_inputsOfSet_24 rfl ?_
    refine pv_lushr E d_Graph_inputsOfSet_26 ?_
    refine pv_lconst (v := 1) E d_Graph_inputsOfSet_27 (by decide) ?_
    refine pv_land E d_Graph_inputsOfSet_28 ?_
    refine pv_lconst (v := 0) E d_Graph_inputsOfSet_29 (by decide) ?_
    refine pv_lcmp E d_Graph_inputsOfSet_30 ?_
    refine pv_if_eq (tgt := 48) E d_Graph_inputsOfSet_31 rfl (fun h31 => ?_) (fun h31 => ?_)
    · skip
      have hb : (l_N set).testBit i = false := (l_bit set (by omega)).mp (lg_cmp0.mp h31)
      refine pv_inc1 E d_Graph_inputsOfSet_48 rfl (by decide) ?_
      refine pv_goto (tgt := 14) E d_Graph_inputsOfSet_51 rfl ?_
      exact pv_back (ih (i + 1, τ) ⟨by show i + 1 ≤ gN g; omega, hsG, hFr, hN, hL, fun j k hj => hI j k (by rw [l_set, hb, if_neg (by decide)] at hj; exact hj)⟩ (by show gN g - (i + 1) < gN g - i; omega)) ⟨rfl, rfl, rfl, congrArg (fun z : Nat => some (ps_int (nI z))) (by rw [l_cnt, hb]; rfl), congrArg (fun z : Int32 => some (ps_int z)) (nI_1 i), trivial⟩
    · skip
      have hb : (l_N set).testBit i = true := by
        cases z : (l_N set).testBit i
        · exact absurd (lg_cmp0.mpr ((l_bit set (by omega)).mpr z)) h31
        · rfl
      have hc1 : l_cnt (l_N set) (i + 1) = l_cnt (l_N set) i + 1 := by rw [l_cnt, hb]; rfl
      have hcl : l_cnt (l_N set) i < (l_set (l_N set) (gN g)).length := by rw [l_set_len]; exact Nat.lt_of_lt_of_le (by rw [hc1]; omega) (l_cnt_mono _ (show i + 1 ≤ gN g by omega))
      refine pv_aload_n E d_Graph_inputsOfSet_34 rfl rfl ?_
      refine pv_iload E d_Graph_inputsOfSet_35 rfl ?_
      refine pv_aload_n E d_Graph_inputsOfSet_37 rfl rfl ?_
      refine gf_Graph_stages E wd_51 d_Graph_inputsOfSet_38 ?_
      refine pv_top (congrArg ps_ref hT.1.1) ?_
      refine pv_iload E d_Graph_inputsOfSet_41 rfl ?_
      refine pv_aaload (t0 := 0) E 4 _ (fun _ _ _ _ _ => rfl) rfl (by rw [hT.1.2.2.2.2.2.1]; exact vp_in_nI (by omega) (by decide)) d_Graph_inputsOfSet_43 ?_
      rw [nI_clamp (show i < 2 ^ 31 by omega)]
      refine pv_top (congrArg ps_ref (hT.2.1 _ hi2).1.1) ?_
      refine pv_aastore (t0 := 0) (ci := 3) E 4 _ 3 _ (fun _ _ _ _ _ => rfl) rfl rfl (fun _ => ⟨_, rfl⟩) (by rw [hL]; exact vp_in_nI hcl (by omega)) d_Graph_inputsOfSet_44 ?_
      rw [nI_clamp (show l_cnt (l_N set) i < 2 ^ 31 by omega)]
      refine pv_inc1 E d_Graph_inputsOfSet_45 rfl (by decide) ?_
      refine pv_inc1 E d_Graph_inputsOfSet_48 rfl (by decide) ?_
      refine pv_goto (tgt := 14) E d_Graph_inputsOfSet_51 rfl ?_
      exact pv_back (ih (i + 1, ps_sR τ 4 (3 + gN g) (l_cnt (l_N set) i) (some (3, i))) ⟨by show i + 1 ≤ gN g; omega, hsG.tr (sameG.fill (Nat.le_refl _)), hFr.tr FrG.fill, hN, hL, fun j k hj => set_put hb hI hj⟩ (by show gN g - (i + 1) < gN g - i; omega)) ⟨rfl, rfl, rfl, congrArg (fun z : Int32 => some (ps_int z)) (by rw [hc1, nI_1]), congrArg (fun z : Int32 => some (ps_int z)) (nI_1 i), trivial⟩
set_option maxHeartbeats 8000000 in
set_option maxRecDepth 100000 in
theorem k_Ps_several_0 (l : Launch) (D : va_G) (ca : Nat → ClassId) (A : Nat → Prop) (σ : ps_S) (set : Int64) (k : Int32) (t : tT) (g : gT) (hP : RP σ t g) (hC : cOK t g) (hb : a_sev g set k) (hn : gN g < 48) : ∀ adr, ps_M l y_Ps_several c_Ps_several 5 (Option.some Jvm.ClassFile.FieldType.int) { frames := 6, cells := 2, slots := 59, locals := 131 } D ca A adr σ [ps_ref (some (0, 0)), ps_lng set, ps_int k] (fun rv σ' => rv = some (ps_int (nI (gN g))) ∧ RP σ' t (g_work 96 (g_new g k (-1) 0 0 (l_set (l_N set) (gN g)))) ∧ FrC σ σ') := by
  intro adr
  refine ps_M.of (by decide +kernel) (Nat.le_of_ble_eq_true rfl) ?_
  intro p_ e_ s_ m_ args_ below_ meth_ c_ E hr hlk hnm
  obtain ⟨hx0, hx1⟩ := hasAll_N hb.1 hC.1.1.1
  have hl48 : (l_set (l_N set) (gN g)).length ≤ 48 := by rw [l_set_len]; exact Nat.le_trans (cnt_le _ _) hC.1.1.1
  have hkd : (k = 9 ∨ 0 < (l_set (l_N set) (gN g)).length) ∧ (k = 5 → 1 < (l_set (l_N set) (gN g)).length) := ⟨Or.inr (by rw [l_set_len]; exact l_cnt_pos hx1 hx0), fun z => absurd (by rw [z]; decide) hb.2.1⟩
  refine pv_aload_n E d_Ps_several_0 rfl rfl ?_
  refine gf_Ps_graph E wd_100 d_Ps_several_1 ?_
  refine pv_top (congrArg ps_ref hP.1.1) ?_
  refine pv_lload_n E d_Ps_several_4 rfl rfl ?_
  refine pv_callV E (fun adr => k_Graph_hasAll l D ca A _ set g hP.2.1 adr) yv_Graph_hasAll wd_570 rfl rfl (fun _ => ⟨_, rfl⟩) rfl ⟨by decide, by decide⟩ (Nat.le_of_ble_eq_true rfl) d_Ps_several_5 ⟨by decide, by decide⟩ (fun r5 σ5 hq5 => ?_)
  obtain ⟨hr5, hs5⟩ := hq5
  subst r5
  subst σ5
  refine pv_if_eq (tgt := 23) E d_Ps_several_8 rfl (fun h8 => ?_) (fun h8 => ?_)
  · skip
    exact absurd h8 hb.1
  · skip
    refine pv_iload_n E d_Ps_several_11 rfl rfl ?_
    refine pv_bipush (v := 7) E d_Ps_several_12 (by decide) ?_
    refine pv_icmp_lt (tgt := 23) E d_Ps_several_14 rfl (fun h14 => ?_) (fun h14 => ?_)
    · skip
      exact absurd h14 hb.2.1
    · skip
      refine pv_iload_n E d_Ps_several_17 rfl rfl ?_
      refine pv_bipush (v := 8) E d_Ps_several_18 (by decide) ?_
      refine pv_icmp_le (tgt := 33) E d_Ps_several_20 rfl (fun h20 => ?_) (fun h20 => ?_)
      · skip
        refine pv_aload_n E d_Ps_several_33 rfl rfl ?_
        refine gf_Ps_graph E wd_100 d_Ps_several_34 ?_
        refine pv_top (congrArg ps_ref hP.1.1) ?_
        refine pv_callV E (fun adr => k_Graph_isFull l D ca A _ g hP.2.1 hC.1.1.1 adr) yv_Graph_isFull wd_386 rfl rfl (fun _ => ⟨_, rfl⟩) rfl ⟨by decide, by decide⟩ (Nat.le_of_ble_eq_true rfl) d_Ps_several_37 ⟨by decide, by decide⟩ (fun r37 σ37 hq37 => ?_)
        obtain ⟨hr37, hs37⟩ := hq37
        subst r37
        subst σ37
        refine pv_if_eq (tgt := 53) E d_Ps_several_40 rfl (fun h40 => ?_) (fun h40 => ?_)
        · skip
          refine pv_aload_n E d_Ps_several_53 rfl rfl ?_
          refine gf_Ps_graph E wd_100 d_Ps_several_54 ?_
          refine pv_top (congrArg ps_ref hP.1.1) ?_
          refine pv_aload_n E d_Ps_several_57 rfl rfl ?_
          refine gf_Ps_graph E wd_100 d_Ps_several_58 ?_
          refine pv_top (congrArg ps_ref hP.1.1) ?_
          refine pv_lload_n E d_Ps_several_61 rfl rfl ?_
          refine pv_callV E (fun adr => k_Graph_inputsOfSet l D ca A _ set g hP.2.1 hC.1 hP.2.2.2 hb.1 adr) yv_Graph_inputsOfSet wd_575 rfl rfl (fun _ => ⟨_, rfl⟩) rfl ⟨by decide, by decide⟩ (Nat.le_of_ble_eq_true rfl) d_Ps_several_62 ⟨by decide, by decide⟩ (fun r62 σ62 hq62 => ?_)
          obtain ⟨hr62, hs62, hf62, hn62, hL62, hI62⟩ := hq62
          subst r62
          refine pv_iload_n E d_Ps_several_65 rfl rfl ?_
          refine pv_iconst (v := -1) E d_Ps_several_66 (by decide) ?_
          refine pv_iconst (v := 0) E d_Ps_several_67 (by decide) ?_
          refine pv_iconst (v := 0) E d_Ps_several_68 (by decide) ?_
          refine pv_callV E (fun adr => k_Graph_addStage l D ca A _ k (-1) 0 0 (l_set (l_N set) (gN g)) g (hP.2.1.same hs62) hC.1 hn hL62 hI62 hl48 (l_set_lt _ _) hkd (Or.inl rfl) adr) yv_Graph_addStage wd_551 rfl rfl (fun _ => ⟨_, rfl⟩) rfl ⟨by decide, by decide⟩ (Nat.le_of_ble_eq_true rfl) d_Ps_several_69 ⟨by decide, by decide⟩ (fun r69 σ69 hq69 => ?_)
          obtain ⟨hr69, hR69, hf69, hn69⟩ := hq69
          subst r69
          have hf69 := hf62.tr hf69
          have hP1 : RP σ69 t (g_new g k (-1) 0 0 (l_set (l_N set) (gN g))) := hP.gm hR69 hf69 (by rw [hn69, mk_N _ (by decide), hn62, mk_N1]) (gN_new _ _ _ _ _ _)
          have hO1 : gOK (g_new g k (-1) 0 0 (l_set (l_N set) (gN g))) := (hC.1.mk hn hl48 (l_set_lt _ _) hkd).scan
          refine pv_astore E d_Ps_several_72 (by decide) ?_
          refine pv_aload_n E d_Ps_several_74 rfl rfl ?_
          refine gf_Ps_graph E wd_100 d_Ps_several_75 ?_
          refine pv_top (congrArg ps_ref hP1.1.1) ?_
          refine pv_callV E (fun adr => k_Graph_workOffLine l D ca A _ (g_new g k (-1) 0 0 (l_set (l_N set) (gN g))) hP1.2.1 hO1 adr) yv_Graph_workOffLine wd_151 rfl rfl (fun _ => ⟨_, rfl⟩) rfl ⟨by decide, by decide⟩ (Nat.le_of_ble_eq_true rfl) d_Ps_several_78 ⟨by decide, by decide⟩ (fun r78 σ78 hq78 => ?_)
          obtain ⟨hr78, hR78, hf78, hn78⟩ := hq78
          subst r78
          have hP2 := hP1.gf hR78 hf78 hn78 (gN_work _ _)
          refine pv_aload E d_Ps_several_81 rfl ?_
          refine gf_Stage_number E wd_473 d_Ps_several_83 ?_
          refine pv_top (congrArg ps_int (hP2.2.1.2.1 _ (by rw [gN_work]; exact gN_lt1 _ _ _ _ _ _)).1.2.1) ?_
          exact pv_iret E hr hlk d_Ps_several_86 (by decide) (by decide) ⟨rfl, hP2, (FrC.ofG hf69).tr (FrC.ofG hf78)⟩
        · skip
          exact absurd hn (if01n h40)
      · skip
        exact absurd hb.2.2 h20
set_option maxHeartbeats 8000000 in
set_option maxRecDepth 100000 in
theorem k_Ps_several_S (l : Launch) (htr : l.stackTraces = false) (D : va_G) (ca : Nat → ClassId) (A : Nat → Prop) (σ : ps_S) (set : Int64) (k : Int32) (t : tT) (g : gT) (hP : RP σ t g) (hC : cOK t g) (hb : a_sev g set k) (hn : ¬ gN g < 48) : ∀ adr, ps_MT l y_Ps_several c_Ps_several 5 (Option.some Jvm.ClassFile.FieldType.int) { frames := 6, cells := 2, slots := 59, locals := 131 } D ca A adr σ [ps_ref (some (0, 0)), ps_lng set, ps_int k] "java/lang/IllegalStateException" := by
  intro adr
  refine ps_MT.of (by decide +kernel) (Nat.le_of_ble_eq_true rfl) ?_
  intro p_ e_ s_ m_ args_ below_ meth_ c_ A E hr hlk hex hZ hA_ hW_
  refine pv_aload_n E d_Ps_several_0 rfl rfl ?_
  refine gf_Ps_graph E wd_100 d_Ps_several_1 ?_
  refine pv_top (congrArg ps_ref hP.1.1) ?_
  refine pv_lload_n E d_Ps_several_4 rfl rfl ?_
  refine pv_callV E (fun adr => k_Graph_hasAll l D ca A _ set g hP.2.1 adr) yv_Graph_hasAll wd_570 rfl rfl (fun _ => ⟨_, rfl⟩) rfl ⟨by decide, by decide⟩ (Nat.le_of_ble_eq_true rfl) d_Ps_several_5 ⟨by decide, by decide⟩ (fun r5 σ5 hq5 => ?_)
  obtain ⟨hr5, hs5⟩ := hq5
  subst r5
  subst σ5
  refine pv_if_eq (tgt := 23) E d_Ps_several_8 rfl (fun h8 => ?_) (fun h8 => ?_)
  · skip
    exact absurd h8 hb.1
  · skip
    refine pv_iload_n E d_Ps_several_11 rfl rfl ?_
    refine pv_bipush (v := 7) E d_Ps_several_12 (by decide) ?_
    refine pv_icmp_lt (tgt := 23) E d_Ps_several_14 rfl (fun h14 => ?_) (fun h14 => ?_)
    · skip
      exact absurd h14 hb.2.1
    · skip
      refine pv_iload_n E d_Ps_several_17 rfl rfl ?_
      refine pv_bipush (v := 8) E d_Ps_several_18 (by decide) ?_
      refine pv_icmp_le (tgt := 33) E d_Ps_several_20 rfl (fun h20 => ?_) (fun h20 => ?_)
      · skip
        refine pv_aload_n E d_Ps_several_33 rfl rfl ?_
        refine gf_Ps_graph E wd_100 d_Ps_several_34 ?_
        refine pv_top (congrArg ps_ref hP.1.1) ?_
        refine pv_callV E (fun adr => k_Graph_isFull l D ca A _ g hP.2.1 hC.1.1.1 adr) yv_Graph_isFull wd_386 rfl rfl (fun _ => ⟨_, rfl⟩) rfl ⟨by decide, by decide⟩ (Nat.le_of_ble_eq_true rfl) d_Ps_several_37 ⟨by decide, by decide⟩ (fun r37 σ37 hq37 => ?_)
        obtain ⟨hr37, hs37⟩ := hq37
        subst r37
        subst σ37
        refine pv_if_eq (tgt := 53) E d_Ps_several_40 rfl (fun h40 => ?_) (fun h40 => ?_)
        · skip
          exact absurd (if01 h40) hn
        · skip
          exact pv_throw E htr (by decide +kernel) (by decide +kernel) (th_ownS E.2.2.2.2 hZ _) (hZ _ _ (State.WarmedH.refl _) (Nat.le_refl _) (fun _ _ _ => rfl) _ zx_9) wd_390 wd_391 wd_9 hA_ hW_ hlk hex d_Ps_several_43 d_Ps_several_46 d_Ps_several_47 d_Ps_several_49 d_Ps_several_52 (by decide) (by decide) (by decide) (by decide) (by decide) (by decide)
      · skip
        exact absurd hb.2.2 h20
set_option maxHeartbeats 8000000 in
set_option maxRecDepth 100000 in
theorem k_Ps_several_A (l : Launch) (htr : l.stackTraces = false) (D : va_G) (ca : Nat → ClassId) (A : Nat → Prop) (σ : ps_S) (set : Int64) (k : Int32) (t : tT) (g : gT) (hP : RP σ t g) (hC : cOK t g) (hb : ¬ a_sev g set k) : ∀ adr, ps_MT l y_Ps_several c_Ps_several 5 (Option.some Jvm.ClassFile.FieldType.int) { frames := 6, cells := 2, slots := 59, locals := 131 } D ca A adr σ [ps_ref (some (0, 0)), ps_lng set, ps_int k] "java/lang/IllegalArgumentException" := by
  intro adr
  refine ps_MT.of (by decide +kernel) (Nat.le_of_ble_eq_true rfl) ?_
  intro p_ e_ s_ m_ args_ below_ meth_ c_ A E hr hlk hex hZ hA_ hW_
  refine pv_aload_n E d_Ps_several_0 rfl rfl ?_
  refine gf_Ps_graph E wd_100 d_Ps_several_1 ?_
  refine pv_top (congrArg ps_ref hP.1.1) ?_
  refine pv_lload_n E d_Ps_several_4 rfl rfl ?_
  refine pv_callV E (fun adr => k_Graph_hasAll l D ca A _ set g hP.2.1 adr) yv_Graph_hasAll wd_570 rfl rfl (fun _ => ⟨_, rfl⟩) rfl ⟨by decide, by decide⟩ (Nat.le_of_ble_eq_true rfl) d_Ps_several_5 ⟨by decide, by decide⟩ (fun r5 σ5 hq5 => ?_)
  obtain ⟨hr5, hs5⟩ := hq5
  subst r5
  subst σ5
  refine pv_if_eq (tgt := 23) E d_Ps_several_8 rfl (fun h8 => ?_) (fun h8 => ?_)
  · skip
    exact pv_throw E htr (by decide +kernel) (by decide +kernel) (th_ownA E.2.2.2.2 hZ _) (hZ _ _ (State.WarmedH.refl _) (Nat.le_refl _) (fun _ _ _ => rfl) _ zx_12) wd_531 wd_532 wd_12 hA_ hW_ hlk hex d_Ps_several_23 d_Ps_several_26 d_Ps_several_27 d_Ps_several_29 d_Ps_several_32 (by decide) (by decide) (by decide) (by decide) (by decide) (by decide)
  · skip
    refine pv_iload_n E d_Ps_several_11 rfl rfl ?_
    refine pv_bipush (v := 7) E d_Ps_several_12 (by decide) ?_
    refine pv_icmp_lt (tgt := 23) E d_Ps_several_14 rfl (fun h14 => ?_) (fun h14 => ?_)
    · skip
      exact pv_throw E htr (by decide +kernel) (by decide +kernel) (th_ownA E.2.2.2.2 hZ _) (hZ _ _ (State.WarmedH.refl _) (Nat.le_refl _) (fun _ _ _ => rfl) _ zx_12) wd_531 wd_532 wd_12 hA_ hW_ hlk hex d_Ps_several_23 d_Ps_several_26 d_Ps_several_27 d_Ps_several_29 d_Ps_several_32 (by decide) (by decide) (by decide) (by decide) (by decide) (by decide)
    · skip
      refine pv_iload_n E d_Ps_several_17 rfl rfl ?_
      refine pv_bipush (v := 8) E d_Ps_several_18 (by decide) ?_
      refine pv_icmp_le (tgt := 33) E d_Ps_several_20 rfl (fun h20 => ?_) (fun h20 => ?_)
      · skip
        exact absurd ⟨h8, h14, h20⟩ hb
      · skip
        exact pv_throw E htr (by decide +kernel) (by decide +kernel) (th_ownA E.2.2.2.2 hZ _) (hZ _ _ (State.WarmedH.refl _) (Nat.le_refl _) (fun _ _ _ => rfl) _ zx_12) wd_531 wd_532 wd_12 hA_ hW_ hlk hex d_Ps_several_23 d_Ps_several_26 d_Ps_several_27 d_Ps_several_29 d_Ps_several_32 (by decide) (by decide) (by decide) (by decide) (by decide) (by decide)
