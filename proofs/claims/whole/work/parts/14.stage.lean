set_option maxHeartbeats 8000000 in
set_option maxRecDepth 100000 in
theorem k_Stage_isAble (l : Launch) (D : va_G) (ca : Nat → ClassId) (A : Nat → Prop) (σ : ps_S) (k : Nat) (g : gT) (hR : RC σ g) (hW : gW g) (hk : k < gN g) : ∀ adr, ps_M l y_Stage_isAble c_Stage_isAble 3 (Option.some Jvm.ClassFile.FieldType.boolean) { frames := 0, cells := 0, slots := 0, locals := 0 } D ca A adr σ [ps_ref (some (3, k))] (fun rv σ' => rv = some (ps_int (if g_able g k = true then 1 else 0)) ∧ σ' = σ) := by
  intro adr
  refine ps_M.of (by decide +kernel) (Nat.le_of_ble_eq_true rfl) ?_
  intro p_ e_ s_ m_ args_ below_ meth_ c_ E hr hlk hnm
  obtain ⟨⟨e0, e1, e2, e3, e4, e5, e6, e7, e8⟩, e9, e10, e11, e12, e13⟩ := hR.2.1 k hk
  have hlen := (hW.2.2 k hk).1
  refine pv_aload_n E d_Stage_isAble_0 rfl rfl ?_
  refine gf_Stage_state E wd_484 d_Stage_isAble_1 ?_
  refine pv_top (congrArg ps_int e9) ?_
  refine pv_if_ne (tgt := 16) E d_Stage_isAble_4 rfl (fun h4 => ?_) (fun h4 => ?_)
  · skip
    have hres : g_able g k = false := by simp [g_able, g_on, h4]
    refine pv_iconst (v := 0) E d_Stage_isAble_16 (by decide) ?_
    exact pv_zret E hr hlk d_Stage_isAble_17 (by first | rfl | (apply ps_zb; assumption)) (by decide) (by decide) ⟨by rw [hres]; rfl, rfl⟩
  · skip
    refine pv_aload_n E d_Stage_isAble_7 rfl rfl ?_
    refine gf_Stage_kind E wd_474 d_Stage_isAble_8 ?_
    refine pv_top (congrArg ps_int e2) ?_
    refine pv_bipush (v := 9) E d_Stage_isAble_11 (by decide) ?_
    refine pv_icmp_ne (tgt := 18) E d_Stage_isAble_13 rfl (fun h13 => ?_) (fun h13 => ?_)
    · skip
      refine pv_aload_n E d_Stage_isAble_18 rfl rfl ?_
      refine gf_Stage_awaited E wd_493 d_Stage_isAble_19 ?_
      refine pv_top (congrArg ps_ref e12) ?_
      refine pv_ifnull (tgt := 41) E d_Stage_isAble_22 rfl (fun h22 => ?_) (fun q22 h22 => ?_)
      · skip
        have hA : gA g k = none := by
          cases z : gA g k with
          | none => rfl
          | some j => rw [z] at h22; cases h22
        refine pv_iconst (v := 0) E d_Stage_isAble_41 (by decide) ?_
        refine pv_istore_n E d_Stage_isAble_42 rfl (by decide) ?_
        refine pv_iconst (v := 0) E d_Stage_isAble_43 (by decide) ?_
        refine pv_istore_n E d_Stage_isAble_44 rfl (by decide) ?_
        refine pv_sub (L' := [(0, ps_ref (some (3, k))), (1, ps_int (nI 0)), (2, ps_int (nI 0))]) ⟨rfl, rfl, rfl, trivial⟩ ?_
        refine pv_loop (ι := Nat × Nat) (fun x => (gI g k).length - x.1) (fun x => [(0, ps_ref (some (3, k))), (1, ps_int (nI x.2)), (2, ps_int (nI x.1))]) (fun _ => σ) (fun x => x.1 ≤ (gI g k).length ∧ x.2 ≤ x.1 ∧ g_cnt g 0 (gI g k) = g_cnt g x.2 ((gI g k).drop x.1)) (fun x hx ih => ?_) (0, 0) ⟨Nat.zero_le _, Nat.le_refl _, rfl⟩
        obtain ⟨i, cn⟩ := x
        obtain ⟨hi, hcn, hcnt⟩ := hx
        dsimp only at hi hcn hcnt ih ⊢
        refine pv_iload_n E d_Stage_isAble_45 rfl rfl ?_
        refine pv_aload_n E d_Stage_isAble_46 rfl rfl ?_
        refine gf_Stage_inputs E wd_482 d_Stage_isAble_47 ?_
        refine pv_top (congrArg ps_ref e6) ?_
        refine pv_alenR (t0 := 0) E 4 _ (fun _ _ _ _ _ => rfl) rfl rfl d_Stage_isAble_50 ?_
        refine pv_top (congrArg ps_int (show Int32.ofNat (ps_L σ 4 (3 + k)) = nI (gI g k).length by rw [e7]; rfl)) ?_
        refine pv_icmp_ge (tgt := 75) E d_Stage_isAble_51 rfl (fun h51 => ?_) (fun h51 => ?_)
        · skip
          have hi2 : (gI g k).length ≤ i := (nI_leI (by omega) (by omega)).mp h51
          have hcc : g_cnt g 0 (gI g k) = cn := by rw [hcnt, List.drop_of_length_le hi2, g_cnt]
          refine pv_aload_n E d_Stage_isAble_75 rfl rfl ?_
          refine gf_Stage_kind E wd_474 d_Stage_isAble_76 ?_
          refine pv_top (congrArg ps_int e2) ?_
          refine pv_bipush (v := 6) E d_Stage_isAble_79 (by decide) ?_
          refine pv_icmp_eq (tgt := 93) E d_Stage_isAble_81 rfl (fun h81 => ?_) (fun h81 => ?_)
          · skip
            have hk6 : gF g k 2 = 6 ∨ gF g k 2 = 8 := Or.inl h81
            refine pv_iload_n E d_Stage_isAble_93 rfl rfl ?_
            refine pv_if_le (tgt := 101) E d_Stage_isAble_94 rfl (fun h94 => ?_) (fun h94 => ?_)
            · skip
              have hres : g_able g k = false := by rw [g_able_none h4 h13 hA, if_pos hk6]; exact g_any_f (by have := nI_le0 (by omega) h94; omega)
              refine pv_iconst (v := 0) E d_Stage_isAble_101 (by decide) ?_
              refine pv_goto (tgt := 119) E d_Stage_isAble_102 rfl ?_
              exact pv_zret E hr hlk d_Stage_isAble_119 (by first | rfl | (apply ps_zb; assumption)) (by decide) (by decide) ⟨by rw [hres]; rfl, rfl⟩
            · skip
              have hres : g_able g k = true := by rw [g_able_none h4 h13 hA, if_pos hk6]; exact g_any_t (by rw [hcc]; exact nI_gt0 h94)
              refine pv_iconst (v := 1) E d_Stage_isAble_97 (by decide) ?_
              refine pv_goto (tgt := 119) E d_Stage_isAble_98 rfl ?_
              exact pv_zret E hr hlk d_Stage_isAble_119 (by first | rfl | (apply ps_zb; assumption)) (by decide) (by decide) ⟨by rw [hres]; rfl, rfl⟩
          · skip
            refine pv_aload_n E d_Stage_isAble_84 rfl rfl ?_
            refine gf_Stage_kind E wd_474 d_Stage_isAble_85 ?_
            refine pv_top (congrArg ps_int e2) ?_
            refine pv_bipush (v := 8) E d_Stage_isAble_88 (by decide) ?_
            refine pv_icmp_ne (tgt := 105) E d_Stage_isAble_90 rfl (fun h90 => ?_) (fun h90 => ?_)
            · skip
              have hk6 : ¬ (gF g k 2 = 6 ∨ gF g k 2 = 8) := fun z => z.elim h81 h90
              refine pv_iload_n E d_Stage_isAble_105 rfl rfl ?_
              refine pv_aload_n E d_Stage_isAble_106 rfl rfl ?_
              refine gf_Stage_inputs E wd_482 d_Stage_isAble_107 ?_
              refine pv_top (congrArg ps_ref e6) ?_
              refine pv_alenR (t0 := 0) E 4 _ (fun _ _ _ _ _ => rfl) rfl rfl d_Stage_isAble_110 ?_
              refine pv_top (congrArg ps_int (show Int32.ofNat (ps_L σ 4 (3 + k)) = nI (gI g k).length by rw [e7]; rfl)) ?_
              refine pv_icmp_ne (tgt := 118) E d_Stage_isAble_111 rfl (fun h111 => ?_) (fun h111 => ?_)
              · skip
                have hres : g_able g k = false := by rw [g_able_none h4 h13 hA, if_neg hk6]; exact g_all_f (fun z => h111 (by rw [← hcc, z]))
                refine pv_iconst (v := 0) E d_Stage_isAble_118 (by decide) ?_
                exact pv_zret E hr hlk d_Stage_isAble_119 (by first | rfl | (apply ps_zb; assumption)) (by decide) (by decide) ⟨by rw [hres]; rfl, rfl⟩
              · skip
                have hres : g_able g k = true := by rw [g_able_none h4 h13 hA, if_neg hk6]; exact g_all_t (by rw [hcc]; exact (nI_eq (by omega) (by omega)).mp h111)
                refine pv_iconst (v := 1) E d_Stage_isAble_114 (by decide) ?_
                refine pv_goto (tgt := 119) E d_Stage_isAble_115 rfl ?_
                exact pv_zret E hr hlk d_Stage_isAble_119 (by first | rfl | (apply ps_zb; assumption)) (by decide) (by decide) ⟨by rw [hres]; rfl, rfl⟩
            · skip
              have hk6 : gF g k 2 = 6 ∨ gF g k 2 = 8 := Or.inr h90
              refine pv_iload_n E d_Stage_isAble_93 rfl rfl ?_
              refine pv_if_le (tgt := 101) E d_Stage_isAble_94 rfl (fun h94 => ?_) (fun h94 => ?_)
              · skip
                have hres : g_able g k = false := by rw [g_able_none h4 h13 hA, if_pos hk6]; exact g_any_f (by have := nI_le0 (by omega) h94; omega)
                refine pv_iconst (v := 0) E d_Stage_isAble_101 (by decide) ?_
                refine pv_goto (tgt := 119) E d_Stage_isAble_102 rfl ?_
                exact pv_zret E hr hlk d_Stage_isAble_119 (by first | rfl | (apply ps_zb; assumption)) (by decide) (by decide) ⟨by rw [hres]; rfl, rfl⟩
              · skip
                have hres : g_able g k = true := by rw [g_able_none h4 h13 hA, if_pos hk6]; exact g_any_t (by rw [hcc]; exact nI_gt0 h94)
                refine pv_iconst (v := 1) E d_Stage_isAble_97 (by decide) ?_
                refine pv_goto (tgt := 119) E d_Stage_isAble_98 rfl ?_
                exact pv_zret E hr hlk d_Stage_isAble_119 (by first | rfl | (apply ps_zb; assumption)) (by decide) (by decide) ⟨by rw [hres]; rfl, rfl⟩
        · skip
          have hlt : i < (gI g k).length := Nat.lt_of_not_le (fun z => h51 ((nI_leI (by omega) (by omega)).mpr z))
          obtain ⟨x1, hx1, hm1⟩ := lget hlt
          have hs1 := hR.2.1 x1 ((hW.2.2 k hk).2.1 x1 hm1)
          refine pv_aload_n E d_Stage_isAble_54 rfl rfl ?_
          refine gf_Stage_inputs E wd_482 d_Stage_isAble_55 ?_
          refine pv_top (congrArg ps_ref e6) ?_
          refine pv_iload_n E d_Stage_isAble_58 rfl rfl ?_
          refine pv_aaload (t0 := 0) E 4 _ (fun _ _ _ _ _ => rfl) rfl (by rw [e7]; exact vp_in_nI hlt (by omega)) d_Stage_isAble_59 ?_
          rw [nI_clamp (show i < 2 ^ 31 by omega)]
          refine pv_top (congrArg ps_ref (e8 i x1 hx1)) ?_
          refine gf_Stage_state E wd_484 d_Stage_isAble_60 ?_
          refine pv_top (congrArg ps_int hs1.2.1) ?_
          refine pv_if_eq (tgt := 69) E d_Stage_isAble_63 rfl (fun h63 => ?_) (fun h63 => ?_)
          · skip
            refine pv_inc1 E d_Stage_isAble_69 rfl (by decide) ?_
            refine pv_goto (tgt := 45) E d_Stage_isAble_72 rfl ?_
            exact pv_back (ih (i + 1, cn) ⟨by omega, by omega, hcnt.trans (by rw [ldrop hx1, g_cnt, if_pos h63])⟩ (by show _ - (i + 1) < _ - i; omega)) ⟨rfl, rfl, congrArg (fun z : Int32 => some (ps_int z)) (nI_1 i), trivial⟩
          · skip
            refine pv_inc1 E d_Stage_isAble_66 rfl (by decide) ?_
            refine pv_inc1 E d_Stage_isAble_69 rfl (by decide) ?_
            refine pv_goto (tgt := 45) E d_Stage_isAble_72 rfl ?_
            exact pv_back (ih (i + 1, cn + 1) ⟨by omega, by omega, hcnt.trans (by rw [ldrop hx1, g_cnt, if_neg h63])⟩ (by show _ - (i + 1) < _ - i; omega)) ⟨rfl, congrArg (fun z : Int32 => some (ps_int z)) (nI_1 cn), congrArg (fun z : Int32 => some (ps_int z)) (nI_1 i), trivial⟩
      · skip
        obtain ⟨aj, hA⟩ : ∃ aj, gA g k = some aj := by
          cases z : gA g k with
          | none => rw [z] at h22; cases h22
          | some j => exact ⟨j, rfl⟩
        refine pv_aload_n E d_Stage_isAble_25 rfl rfl ?_
        refine gf_Stage_awaited E wd_493 d_Stage_isAble_26 ?_
        refine pv_top (congrArg ps_ref (show ps_R σ 3 k 9 = some (3, aj) by rw [e12, hA]; rfl)) ?_
        refine gf_Stage_state E wd_484 d_Stage_isAble_29 ?_
        refine pv_top (congrArg ps_int (hR.2.1 aj ((hW.2.2 k hk).2.2 aj hA)).2.1) ?_
        refine pv_if_eq (tgt := 39) E d_Stage_isAble_32 rfl (fun h32 => ?_) (fun h32 => ?_)
        · skip
          have hres : g_able g k = false := by simp [g_able, g_on, h4, h13, hA, h32]
          refine pv_iconst (v := 0) E d_Stage_isAble_39 (by decide) ?_
          exact pv_zret E hr hlk d_Stage_isAble_40 (by first | rfl | (apply ps_zb; assumption)) (by decide) (by decide) ⟨by rw [hres]; rfl, rfl⟩
        · skip
          have hres : g_able g k = true := by simp [g_able, g_on, h4, h13, hA, h32]
          refine pv_iconst (v := 1) E d_Stage_isAble_35 (by decide) ?_
          refine pv_goto (tgt := 40) E d_Stage_isAble_36 rfl ?_
          exact pv_zret E hr hlk d_Stage_isAble_40 (by first | rfl | (apply ps_zb; assumption)) (by decide) (by decide) ⟨by rw [hres]; rfl, rfl⟩
    · skip
      have hres : g_able g k = false := by simp [g_able, h13]
      refine pv_iconst (v := 0) E d_Stage_isAble_16 (by decide) ?_
      exact pv_zret E hr hlk d_Stage_isAble_17 (by first | rfl | (apply ps_zb; assumption)) (by decide) (by decide) ⟨by rw [hres]; rfl, rfl⟩
set_option maxHeartbeats 8000000 in
set_option maxRecDepth 100000 in
theorem k_Stage_sumUp (l : Launch) (D : va_G) (ca : Nat → ClassId) (A : Nat → Prop) (σ : ps_S) (k : Nat) (g : gT) (hR : RC σ g) (hW : gW g) (hk : k < gN g) : ∀ adr, ps_M l y_Stage_sumUp c_Stage_sumUp 3 (Option.none : Option Jvm.ClassFile.FieldType) { frames := 2, cells := 0, slots := 0, locals := 43 } D ca A adr σ [ps_ref (some (3, k))] (fun rv σ' => rv = none ∧ σ' = st_become σ k (g_sum g 0 (gI g k)).1 (g_sum g 0 (gI g k)).2) := by
  intro adr
  refine ps_M.of (by decide +kernel) (Nat.le_of_ble_eq_true rfl) ?_
  intro p_ e_ s_ m_ args_ below_ meth_ c_ E hr hlk hnm
  obtain ⟨⟨e0, e1, e2, e3, e4, e5, e6, e7, e8⟩, e9, e10, e11, e12, e13⟩ := hR.2.1 k hk
  have hlen := (hW.2.2 k hk).1
  refine pv_iconst (v := 0) E d_Stage_sumUp_0 (by decide) ?_
  refine pv_istore_n E d_Stage_sumUp_1 rfl (by decide) ?_
  refine pv_iconst (v := 0) E d_Stage_sumUp_2 (by decide) ?_
  refine pv_istore_n E d_Stage_sumUp_3 rfl (by decide) ?_
  refine pv_sub (L' := [(0, ps_ref (some (3, k))), (1, ps_int 0), (2, ps_int (nI 0))]) ⟨rfl, rfl, rfl, trivial⟩ ?_
  refine pv_loop (ι := Nat × Int32) (fun x => (gI g k).length - x.1) (fun x => [(0, ps_ref (some (3, k))), (1, ps_int x.2), (2, ps_int (nI x.1))]) (fun _ => σ) (fun x => x.1 ≤ (gI g k).length ∧ g_sum g 0 (gI g k) = g_sum g x.2 ((gI g k).drop x.1)) (fun x hx ih => ?_) (0, 0) ⟨Nat.zero_le _, rfl⟩
  obtain ⟨i, su⟩ := x
  obtain ⟨hi, hsu⟩ := hx
  dsimp only at hi hsu ih ⊢
  refine pv_iload_n E d_Stage_sumUp_4 rfl rfl ?_
  refine pv_aload_n E d_Stage_sumUp_5 rfl rfl ?_
  refine gf_Stage_inputs E wd_482 d_Stage_sumUp_6 ?_
  refine pv_top (congrArg ps_ref e6) ?_
  refine pv_alenR (t0 := 0) E 4 _ (fun _ _ _ _ _ => rfl) rfl rfl d_Stage_sumUp_9 ?_
  refine pv_top (congrArg ps_int (show Int32.ofNat (ps_L σ 4 (3 + k)) = nI (gI g k).length by rw [e7]; rfl)) ?_
  refine pv_icmp_ge (tgt := 55) E d_Stage_sumUp_10 rfl (fun h10 => ?_) (fun h10 => ?_)
  · skip
    have hi2 : (gI g k).length ≤ i := (nI_leI (by omega) (by omega)).mp h10
    have hcc : g_sum g 0 (gI g k) = (1, su) := by rw [hsu, List.drop_of_length_le hi2, g_sum]
    refine pv_aload_n E d_Stage_sumUp_55 rfl rfl ?_
    refine pv_iconst (v := 1) E d_Stage_sumUp_56 (by decide) ?_
    refine pv_iload_n E d_Stage_sumUp_57 rfl rfl ?_
    refine pv_callV E (fun adr => k_Stage_become l D ca A _ _ _ _ adr) yv_Stage_become wd_178 rfl rfl (fun _ => ⟨_, rfl⟩) rfl ⟨by decide, by decide⟩ (Nat.le_of_ble_eq_true rfl) d_Stage_sumUp_58 ⟨by decide, by decide⟩ (fun r58 σ58 hq58 => ?_)
    obtain ⟨rfl, rfl⟩ := hq58
    exact pv_vret E hr hlk d_Stage_sumUp_61 (by decide) (by decide) ⟨rfl, by rw [hcc]⟩
  · skip
    have hlt : i < (gI g k).length := Nat.lt_of_not_le (fun z => h10 ((nI_leI (by omega) (by omega)).mpr z))
    obtain ⟨x1, hx1, hm1⟩ := lget hlt
    have hs1 := hR.2.1 x1 ((hW.2.2 k hk).2.1 x1 hm1)
    refine pv_aload_n E d_Stage_sumUp_13 rfl rfl ?_
    refine gf_Stage_inputs E wd_482 d_Stage_sumUp_14 ?_
    refine pv_top (congrArg ps_ref e6) ?_
    refine pv_iload_n E d_Stage_sumUp_17 rfl rfl ?_
    refine pv_aaload (t0 := 0) E 4 _ (fun _ _ _ _ _ => rfl) rfl (by rw [e7]; exact vp_in_nI hlt (by omega)) d_Stage_sumUp_18 ?_
    rw [nI_clamp (show i < 2 ^ 31 by omega)]
    refine pv_top (congrArg ps_ref (e8 i x1 hx1)) ?_
    refine gf_Stage_state E wd_484 d_Stage_sumUp_19 ?_
    refine pv_top (congrArg ps_int hs1.2.1) ?_
    refine pv_iconst (v := 1) E d_Stage_sumUp_22 (by decide) ?_
    refine pv_icmp_eq (tgt := 37) E d_Stage_sumUp_23 rfl (fun h23 => ?_) (fun h23 => ?_)
    · skip
      refine pv_iload_n E d_Stage_sumUp_37 rfl rfl ?_
      refine pv_aload_n E d_Stage_sumUp_38 rfl rfl ?_
      refine gf_Stage_inputs E wd_482 d_Stage_sumUp_39 ?_
      refine pv_top (congrArg ps_ref e6) ?_
      refine pv_iload_n E d_Stage_sumUp_42 rfl rfl ?_
      refine pv_aaload (t0 := 0) E 4 _ (fun _ _ _ _ _ => rfl) rfl (by rw [e7]; exact vp_in_nI hlt (by omega)) d_Stage_sumUp_43 ?_
      rw [nI_clamp (show i < 2 ^ 31 by omega)]
      refine pv_top (congrArg ps_ref (e8 i x1 hx1)) ?_
      refine gf_Stage_content E wd_488 d_Stage_sumUp_44 ?_
      refine pv_top (congrArg ps_int hs1.2.2.1) ?_
      refine pv_iadd E d_Stage_sumUp_47 ?_
      refine pv_istore_n E d_Stage_sumUp_48 rfl (by decide) ?_
      refine pv_inc1 E d_Stage_sumUp_49 rfl (by decide) ?_
      refine pv_goto (tgt := 4) E d_Stage_sumUp_52 rfl ?_
      exact pv_back (ih (i + 1, su + gF g x1 1) ⟨by omega, hsu.trans (by rw [ldrop hx1, g_sum, if_pos h23])⟩ (by show _ - (i + 1) < _ - i; omega)) ⟨rfl, rfl, congrArg (fun z : Int32 => some (ps_int z)) (nI_1 i), trivial⟩
    · skip
      refine pv_aload_n E d_Stage_sumUp_26 rfl rfl ?_
      refine pv_aload_n E d_Stage_sumUp_27 rfl rfl ?_
      refine gf_Stage_inputs E wd_482 d_Stage_sumUp_28 ?_
      refine pv_top (congrArg ps_ref e6) ?_
      refine pv_iload_n E d_Stage_sumUp_31 rfl rfl ?_
      refine pv_aaload (t0 := 0) E 4 _ (fun _ _ _ _ _ => rfl) rfl (by rw [e7]; exact vp_in_nI hlt (by omega)) d_Stage_sumUp_32 ?_
      rw [nI_clamp (show i < 2 ^ 31 by omega)]
      refine pv_top (congrArg ps_ref (e8 i x1 hx1)) ?_
      refine pv_callV E (fun adr => k_Stage_follow l D ca A _ _ _ adr) yv_Stage_follow wd_182 rfl rfl (fun _ => ⟨_, rfl⟩) rfl ⟨by decide, by decide⟩ (Nat.le_of_ble_eq_true rfl) d_Stage_sumUp_33 ⟨by decide, by decide⟩ (fun r33 σ33 hq33 => ?_)
      obtain ⟨rfl, rfl⟩ := hq33
      exact pv_vret E hr hlk d_Stage_sumUp_36 (by decide) (by decide) ⟨rfl, by rw [g_fol_st k hs1, hsu, ldrop hx1, g_sum, if_neg h23]⟩
set_option maxHeartbeats 8000000 in
set_option maxRecDepth 100000 in
theorem k_Stage_firstSettledInput (l : Launch) (D : va_G) (ca : Nat → ClassId) (A : Nat → Prop) (σ : ps_S) (k : Nat) (g : gT) (hR : RC σ g) (hW : gW g) (hk : k < gN g) (hne : 0 < (gI g k).length) (hT : ∀ j, j < gN g → g_tv g j < 2 ^ 31) : ∀ adr, ps_M l y_Stage_firstSettledInput c_Stage_firstSettledInput 3 (Option.some (Jvm.ClassFile.FieldType.object "PromiseScopes$Stage")) { frames := 0, cells := 0, slots := 0, locals := 0 } D ca A adr σ [ps_ref (some (3, k))] (fun rv σ' => rv = some (ps_ref (some (3, g_first g k))) ∧ σ' = σ) := by
  intro adr
  refine ps_M.of (by decide +kernel) (Nat.le_of_ble_eq_true rfl) ?_
  intro p_ e_ s_ m_ args_ below_ meth_ c_ E hr hlk hnm
  obtain ⟨⟨e0, e1, e2, e3, e4, e5, e6, e7, e8⟩, e9, e10, e11, e12, e13⟩ := hR.2.1 k hk
  have hlen := (hW.2.2 k hk).1
  obtain ⟨x0, hx0, hm0⟩ := lget hne
  have hn0 := (hW.2.2 k hk).2.1 x0 hm0
  refine pv_aload_n E d_Stage_firstSettledInput_0 rfl rfl ?_
  refine gf_Stage_inputs E wd_482 d_Stage_firstSettledInput_1 ?_
  refine pv_top (congrArg ps_ref e6) ?_
  refine pv_iconst (v := 0) E d_Stage_firstSettledInput_4 (by decide) ?_
  refine pv_aaload (t0 := 0) E 4 _ (fun _ _ _ _ _ => rfl) rfl (by rw [e7]; exact vp_in_nI (n := 0) hne (by omega)) d_Stage_firstSettledInput_5 ?_
  rw [show (0 : Int32).toNatClampNeg = 0 from rfl]
  refine pv_top (congrArg ps_ref (e8 0 x0 hx0)) ?_
  refine pv_astore_n E d_Stage_firstSettledInput_6 rfl (by decide) ?_
  refine pv_iconst (v := 1) E d_Stage_firstSettledInput_7 (by decide) ?_
  refine pv_istore_n E d_Stage_firstSettledInput_8 rfl (by decide) ?_
  refine pv_sub (L' := [(0, ps_ref (some (3, k))), (1, ps_ref (some (3, x0))), (2, ps_int (nI 1))]) ⟨rfl, rfl, rfl, trivial⟩ ?_
  refine pv_loop (ι := Nat × Nat) (fun x => (gI g k).length - x.1) (fun x => [(0, ps_ref (some (3, k))), (1, ps_ref (some (3, x.2))), (2, ps_int (nI x.1))]) (fun _ => σ) (fun x => x.1 ≤ (gI g k).length ∧ x.2 < gN g ∧ g_first g k = g_ft g x.2 ((gI g k).drop x.1)) (fun x hx ih => ?_) (1, x0) ⟨hne, hn0, g_first_0 hx0⟩
  obtain ⟨i, b⟩ := x
  obtain ⟨hi, hbn, hb⟩ := hx
  dsimp only at hi hbn hb ih ⊢
  refine pv_iload_n E d_Stage_firstSettledInput_9 rfl rfl ?_
  refine pv_aload_n E d_Stage_firstSettledInput_10 rfl rfl ?_
  refine gf_Stage_inputs E wd_482 d_Stage_firstSettledInput_11 ?_
  refine pv_top (congrArg ps_ref e6) ?_
  refine pv_alenR (t0 := 0) E 4 _ (fun _ _ _ _ _ => rfl) rfl rfl d_Stage_firstSettledInput_14 ?_
  refine pv_top (congrArg ps_int (show Int32.ofNat (ps_L σ 4 (3 + k)) = nI (gI g k).length by rw [e7]; rfl)) ?_
  refine pv_icmp_ge (tgt := 47) E d_Stage_firstSettledInput_15 rfl (fun h15 => ?_) (fun h15 => ?_)
  · skip
    have hi2 : (gI g k).length ≤ i := (nI_leI (by omega) (by omega)).mp h15
    have hcc : g_first g k = b := by rw [hb, List.drop_of_length_le hi2, g_ft]
    refine pv_aload_n E d_Stage_firstSettledInput_47 rfl rfl ?_
    exact pv_aret E hr (Or.inl ⟨_, rfl⟩) hlk d_Stage_firstSettledInput_48 (by decide) (by decide) ⟨by rw [hcc], rfl⟩
  · skip
    have hlt : i < (gI g k).length := Nat.lt_of_not_le (fun z => h15 ((nI_leI (by omega) (by omega)).mpr z))
    obtain ⟨x1, hx1, hm1⟩ := lget hlt
    have hn1 := (hW.2.2 k hk).2.1 x1 hm1
    have hs1 := hR.2.1 x1 hn1
    refine pv_aload_n E d_Stage_firstSettledInput_18 rfl rfl ?_
    refine gf_Stage_inputs E wd_482 d_Stage_firstSettledInput_19 ?_
    refine pv_top (congrArg ps_ref e6) ?_
    refine pv_iload_n E d_Stage_firstSettledInput_22 rfl rfl ?_
    refine pv_aaload (t0 := 0) E 4 _ (fun _ _ _ _ _ => rfl) rfl (by rw [e7]; exact vp_in_nI hlt (by omega)) d_Stage_firstSettledInput_23 ?_
    rw [nI_clamp (show i < 2 ^ 31 by omega)]
    refine pv_top (congrArg ps_ref (e8 i x1 hx1)) ?_
    refine gf_Stage_turn E wd_491 d_Stage_firstSettledInput_24 ?_
    refine pv_top (congrArg ps_int hs1.2.2.2.1) ?_
    refine pv_aload_n E d_Stage_firstSettledInput_27 rfl rfl ?_
    refine gf_Stage_turn E wd_491 d_Stage_firstSettledInput_28 ?_
    refine pv_top (congrArg ps_int (hR.2.1 b hbn).2.2.2.1) ?_
    refine pv_icmp_ge (tgt := 41) E d_Stage_firstSettledInput_31 rfl (fun h31 => ?_) (fun h31 => ?_)
    · skip
      refine pv_inc1 E d_Stage_firstSettledInput_41 rfl (by decide) ?_
      refine pv_goto (tgt := 9) E d_Stage_firstSettledInput_44 rfl ?_
      exact pv_back (ih (i + 1, b) ⟨by omega, hbn, hb.trans (by rw [ldrop hx1, g_ft, if_neg (Nat.not_lt.mpr ((nI_leI (hT b hbn) (hT x1 hn1)).mp h31))])⟩ (by show _ - (i + 1) < _ - i; omega)) ⟨rfl, rfl, congrArg (fun z : Int32 => some (ps_int z)) (nI_1 i), trivial⟩
    · skip
      refine pv_aload_n E d_Stage_firstSettledInput_34 rfl rfl ?_
      refine gf_Stage_inputs E wd_482 d_Stage_firstSettledInput_35 ?_
      refine pv_top (congrArg ps_ref e6) ?_
      refine pv_iload_n E d_Stage_firstSettledInput_38 rfl rfl ?_
      refine pv_aaload (t0 := 0) E 4 _ (fun _ _ _ _ _ => rfl) rfl (by rw [e7]; exact vp_in_nI hlt (by omega)) d_Stage_firstSettledInput_39 ?_
      rw [nI_clamp (show i < 2 ^ 31 by omega)]
      refine pv_top (congrArg ps_ref (e8 i x1 hx1)) ?_
      refine pv_astore_n E d_Stage_firstSettledInput_40 rfl (by decide) ?_
      refine pv_inc1 E d_Stage_firstSettledInput_41 rfl (by decide) ?_
      refine pv_goto (tgt := 9) E d_Stage_firstSettledInput_44 rfl ?_
      exact pv_back (ih (i + 1, x1) ⟨by omega, hn1, hb.trans (by rw [ldrop hx1, g_ft, if_pos (Nat.lt_of_not_le (fun z => h31 ((nI_leI (hT b hbn) (hT x1 hn1)).mpr z)))])⟩ (by show _ - (i + 1) < _ - i; omega)) ⟨rfl, rfl, congrArg (fun z : Int32 => some (ps_int z)) (nI_1 i), trivial⟩
