set_option maxHeartbeats 8000000 in
set_option maxRecDepth 100000 in
theorem k_Graph_has (l : Launch) (D : va_G) (ca : Nat → ClassId) (A : Nat → Prop) (σ : ps_S) (s : Int32) (g : gT) (hR : RC σ g) (hn : gN g ≤ 48) : ∀ adr, ps_M l y_Graph_has c_Graph_has 2 (Option.some Jvm.ClassFile.FieldType.boolean) { frames := 0, cells := 0, slots := 0, locals := 0 } D ca A adr σ [ps_ref (some (1, 0)), ps_int s] (fun rv σ' => rv = some (ps_int (if ¬ s < 0 ∧ s.toNatClampNeg < gN g then 1 else 0)) ∧ σ' = σ) := by
  intro adr
  refine ps_M.of (by decide +kernel) (Nat.le_of_ble_eq_true rfl) ?_
  intro p_ e_ s_ m_ args_ below_ meth_ c_ E hr hlk hnm
  refine pv_iload_n E d_Graph_has_0 rfl rfl ?_
  refine pv_if_lt (tgt := 16) E d_Graph_has_1 rfl (fun h1 => ?_) (fun h1 => ?_)
  · skip
    refine pv_iconst (v := 0) E d_Graph_has_16 (by decide) ?_
    exact pv_zret E hr hlk d_Graph_has_17 (by first | rfl | (apply ps_zb; assumption)) (by decide) (by decide) ⟨by rw [if_neg (fun z => z.1 h1)], rfl⟩
  · skip
    refine pv_iload_n E d_Graph_has_4 rfl rfl ?_
    refine pv_aload_n E d_Graph_has_5 rfl rfl ?_
    refine gf_Graph_made E wd_54 d_Graph_has_6 ?_
    refine pv_top (congrArg ps_int hR.1.2.2.2.1) ?_
    refine pv_icmp_ge (tgt := 16) E d_Graph_has_9 rfl (fun h9 => ?_) (fun h9 => ?_)
    · skip
      rw [nI_le_s (by omega) h1] at h9
      refine pv_iconst (v := 0) E d_Graph_has_16 (by decide) ?_
      exact pv_zret E hr hlk d_Graph_has_17 (by first | rfl | (apply ps_zb; assumption)) (by decide) (by decide) ⟨by rw [if_neg (fun z => absurd z.2 (Nat.not_lt.mpr h9))], rfl⟩
    · skip
      rw [nI_le_s (by omega) h1] at h9
      refine pv_iconst (v := 1) E d_Graph_has_12 (by decide) ?_
      refine pv_goto (tgt := 17) E d_Graph_has_13 rfl ?_
      exact pv_zret E hr hlk d_Graph_has_17 (by first | rfl | (apply ps_zb; assumption)) (by decide) (by decide) ⟨by rw [if_pos ⟨h1, Nat.lt_of_not_le h9⟩], rfl⟩
set_option maxHeartbeats 8000000 in
set_option maxRecDepth 100000 in
theorem k_Graph_isFull (l : Launch) (D : va_G) (ca : Nat → ClassId) (A : Nat → Prop) (σ : ps_S)  (g : gT) (hR : RC σ g) (hn : gN g ≤ 48) : ∀ adr, ps_M l y_Graph_isFull c_Graph_isFull 1 (Option.some Jvm.ClassFile.FieldType.boolean) { frames := 0, cells := 0, slots := 0, locals := 0 } D ca A adr σ [ps_ref (some (1, 0))] (fun rv σ' => rv = some (ps_int (if gN g < 48 then 0 else 1)) ∧ σ' = σ) := by
  intro adr
  refine ps_M.of (by decide +kernel) (Nat.le_of_ble_eq_true rfl) ?_
  intro p_ e_ s_ m_ args_ below_ meth_ c_ E hr hlk hnm
  refine pv_aload_n E d_Graph_isFull_0 rfl rfl ?_
  refine gf_Graph_made E wd_54 d_Graph_isFull_1 ?_
  refine pv_top (congrArg ps_int hR.1.2.2.2.1) ?_
  refine pv_bipush (v := 48) E d_Graph_isFull_4 (by decide) ?_
  refine pv_icmp_lt (tgt := 13) E d_Graph_isFull_6 rfl (fun h6 => ?_) (fun h6 => ?_)
  · skip
    rw [show (48 : Int32) = nI 48 from rfl, nI_ltI (by omega) (by decide)] at h6
    refine pv_iconst (v := 0) E d_Graph_isFull_13 (by decide) ?_
    exact pv_zret E hr hlk d_Graph_isFull_14 (by first | rfl | (apply ps_zb; assumption)) (by decide) (by decide) ⟨by rw [if_pos h6], rfl⟩
  · skip
    rw [show (48 : Int32) = nI 48 from rfl, nI_ltI (by omega) (by decide)] at h6
    refine pv_iconst (v := 1) E d_Graph_isFull_9 (by decide) ?_
    refine pv_goto (tgt := 14) E d_Graph_isFull_10 rfl ?_
    exact pv_zret E hr hlk d_Graph_isFull_14 (by first | rfl | (apply ps_zb; assumption)) (by decide) (by decide) ⟨by rw [if_neg h6], rfl⟩
set_option maxHeartbeats 8000000 in
set_option maxRecDepth 100000 in
theorem k_Graph_find (l : Launch) (D : va_G) (ca : Nat → ClassId) (A : Nat → Prop) (σ : ps_S) (s : Int32) (g : gT) (hR : RC σ g) (hn : gN g ≤ 48) : ∀ adr, ps_M l y_Graph_find c_Graph_find 2 (Option.some (Jvm.ClassFile.FieldType.object "PromiseScopes$Stage")) { frames := 1, cells := 0, slots := 0, locals := 21 } D ca A adr σ [ps_ref (some (1, 0)), ps_int s] (fun rv σ' => rv = some (ps_ref (g_find g s)) ∧ σ' = σ) := by
  intro adr
  refine ps_M.of (by decide +kernel) (Nat.le_of_ble_eq_true rfl) ?_
  intro p_ e_ s_ m_ args_ below_ meth_ c_ E hr hlk hnm
  refine pv_aload_n E d_Graph_find_0 rfl rfl ?_
  refine pv_iload_n E d_Graph_find_1 rfl rfl ?_
  refine pv_callV E (fun adr => k_Graph_has l D ca A _ _ g hR hn adr) yv_Graph_has wd_119 rfl rfl (fun _ => ⟨_, rfl⟩) rfl ⟨by decide, by decide⟩ (Nat.le_of_ble_eq_true rfl) d_Graph_find_2 ⟨by decide, by decide⟩ (fun r2 σ2 hq2 => ?_)
  obtain ⟨hr2, hs2⟩ := hq2
  subst r2
  subst σ2
  refine pv_if_eq (tgt := 17) E d_Graph_find_5 rfl (fun h5 => ?_) (fun h5 => ?_)
  · skip
    have hc : ¬ (¬ s < 0 ∧ s.toNatClampNeg < gN g) := fun z => by rw [if_pos z] at h5; exact absurd h5 (by decide)
    refine pv_null E d_Graph_find_17 ?_
    exact pv_aret E hr (Or.inl ⟨_, rfl⟩) hlk d_Graph_find_18 (by decide) (by decide) ⟨by rw [g_find, if_neg hc], rfl⟩
  · skip
    have hc : ¬ s < 0 ∧ s.toNatClampNeg < gN g := by
      by_cases z : ¬ s < 0 ∧ s.toNatClampNeg < gN g
      · exact z
      · exact absurd (if_neg z) h5
    refine pv_aload_n E d_Graph_find_8 rfl rfl ?_
    refine gf_Graph_stages E wd_51 d_Graph_find_9 ?_
    refine pv_top (congrArg ps_ref hR.1.1) ?_
    refine pv_iload_n E d_Graph_find_12 rfl rfl ?_
    refine pv_aaload (t0 := 0) E 4 _ (fun _ _ _ _ _ => rfl) rfl (by rw [hR.1.2.2.2.2.2.1]; exact fun z => z.elim hc.1 (fun z => by omega)) d_Graph_find_13 ?_
    refine pv_top (congrArg ps_ref (hR.2.1 _ hc.2).1.1) ?_
    refine pv_goto (tgt := 18) E d_Graph_find_14 rfl ?_
    exact pv_aret E hr (Or.inl ⟨_, rfl⟩) hlk d_Graph_find_18 (by decide) (by decide) ⟨by rw [g_find, if_pos hc], rfl⟩
set_option maxHeartbeats 8000000 in
set_option maxRecDepth 100000 in
theorem k_Graph_noteTurn (l : Launch) (D : va_G) (ca : Nat → ClassId) (A : Nat → Prop) (σ : ps_S) (k : Nat)  : ∀ adr, ps_M l y_Graph_noteTurn c_Graph_noteTurn 2 (Option.none : Option Jvm.ClassFile.FieldType) { frames := 0, cells := 0, slots := 0, locals := 0 } D ca A adr σ [ps_ref (some (1, 0)), ps_ref (some (3, k))] (fun rv σ' => rv = none ∧ σ' = st_note σ k) := by
  intro adr
  refine ps_M.of (by decide +kernel) (Nat.le_of_ble_eq_true rfl) ?_
  intro p_ e_ s_ m_ args_ below_ meth_ c_ E hr hlk hnm
  refine pv_aload_n E d_Graph_noteTurn_0 rfl rfl ?_
  refine pv_aload_n E d_Graph_noteTurn_1 rfl rfl ?_
  refine gf_Graph_settled E wd_56 d_Graph_noteTurn_2 ?_
  refine pf_Stage_turn E wd_492 d_Graph_noteTurn_5 ?_
  refine pv_aload_n E d_Graph_noteTurn_8 rfl rfl ?_
  refine pv_dup E d_Graph_noteTurn_9 rfl ?_
  refine gf_Graph_settled E wd_56 d_Graph_noteTurn_10 ?_
  refine pv_iconst (v := 1) E d_Graph_noteTurn_13 (by decide) ?_
  refine pv_iadd E d_Graph_noteTurn_14 ?_
  refine pf_Graph_settled E wd_56 d_Graph_noteTurn_15 ?_
  exact pv_vret E hr hlk d_Graph_noteTurn_18 (by decide) (by decide) ⟨rfl, rfl⟩
set_option maxHeartbeats 8000000 in
set_option maxRecDepth 100000 in
theorem k_Graph_compose (l : Launch) (D : va_G) (ca : Nat → ClassId) (A : Nat → Prop) (σ : ps_S) (k j : Nat) (g : gT) (hR : RC σ g) (hW : gW g) (hk : k < gN g) (hj : j < gN g) : ∀ adr, ps_M l y_Graph_compose c_Graph_compose 4 (Option.none : Option Jvm.ClassFile.FieldType) { frames := 2, cells := 0, slots := 0, locals := 43 } D ca A adr σ [ps_ref (some (1, 0)), ps_ref (some (3, k)), ps_ref (some (3, j))] (fun rv σ' => rv = none ∧ σ' = st_dec σ k (g_cmp g k j)) := by
  intro adr
  refine ps_M.of (by decide +kernel) (Nat.le_of_ble_eq_true rfl) ?_
  intro p_ e_ s_ m_ args_ below_ meth_ c_ E hr hlk hnm
  have sk := hR.2.1 k hk
  have sj := hR.2.1 j hj
  obtain ⟨⟨e0, e1, e2, e3, e4, e5, e6, e7, e8⟩, e9, e10, e11, e12, e13⟩ := sk
  have sk := hR.2.1 k hk
  refine pv_aload_n E d_Graph_compose_0 rfl rfl ?_
  refine gf_Stage_awaited E wd_494 d_Graph_compose_1 ?_
  refine pv_top (congrArg ps_ref e12) ?_
  refine pv_ifnull (tgt := 16) E d_Graph_compose_4 rfl (fun h4 => ?_) (fun q4 h4 => ?_)
  · skip
    have hA : gA g k = none := by
      cases z : gA g k with
      | none => rfl
      | some j => rw [z] at h4; cases h4
    refine pv_aload_n E d_Graph_compose_16 rfl rfl ?_
    refine gf_Stage_state E wd_486 d_Graph_compose_17 ?_
    refine pv_top (congrArg ps_int sj.2.1) ?_
    refine pv_iconst (v := 1) E d_Graph_compose_20 (by decide) ?_
    refine pv_icmp_eq (tgt := 30) E d_Graph_compose_21 rfl (fun h21 => ?_) (fun h21 => ?_)
    · skip
      refine pv_aload_n E d_Graph_compose_30 rfl rfl ?_
      refine gf_Stage_function E wd_478 d_Graph_compose_31 ?_
      refine pv_top (congrArg ps_int e3) ?_
      refine pv_aload_n E d_Graph_compose_34 rfl rfl ?_
      refine gf_Stage_a E wd_480 d_Graph_compose_35 ?_
      refine pv_top (congrArg ps_int e4) ?_
      refine pv_aload_n E d_Graph_compose_38 rfl rfl ?_
      refine gf_Stage_content E wd_490 d_Graph_compose_39 ?_
      refine pv_top (congrArg ps_int sj.2.2.1) ?_
      refine pv_callS E (fun adr => k_Fn_thrownFor l D ca A _ _ _ _ adr) ys_Fn_thrownFor wd_203 rfl rfl ⟨by decide, by decide⟩ (Nat.le_of_ble_eq_true rfl) d_Graph_compose_42 ⟨by decide, by decide⟩ (fun r42 σ42 hq42 => ?_)
      obtain ⟨hr42, hs42⟩ := hq42
      subst r42
      subst σ42
      refine pv_istore_n E d_Graph_compose_45 rfl (by decide) ?_
      refine pv_iload_n E d_Graph_compose_46 rfl rfl ?_
      refine pv_if_eq (tgt := 57) E d_Graph_compose_47 rfl (fun h47 => ?_) (fun h47 => ?_)
      · skip
        refine pv_aload_n E d_Graph_compose_57 rfl rfl ?_
        refine pv_aload_n E d_Graph_compose_58 rfl rfl ?_
        refine pv_aload_n E d_Graph_compose_59 rfl rfl ?_
        refine gf_Stage_function E wd_478 d_Graph_compose_60 ?_
        refine pv_top (congrArg ps_int e3) ?_
        refine pv_aload_n E d_Graph_compose_63 rfl rfl ?_
        refine gf_Stage_a E wd_480 d_Graph_compose_64 ?_
        refine pv_top (congrArg ps_int e4) ?_
        refine pv_aload_n E d_Graph_compose_67 rfl rfl ?_
        refine gf_Stage_content E wd_490 d_Graph_compose_68 ?_
        refine pv_top (congrArg ps_int sj.2.2.1) ?_
        refine pv_callS E (fun adr => k_Fn_madeOf l D ca A _ _ _ _ adr) ys_Fn_madeOf wd_204 rfl rfl ⟨by decide, by decide⟩ (Nat.le_of_ble_eq_true rfl) d_Graph_compose_71 ⟨by decide, by decide⟩ (fun r71 σ71 hq71 => ?_)
        obtain ⟨hr71, hs71⟩ := hq71
        subst r71
        subst σ71
        refine pv_callV E (fun adr => k_Graph_find l D ca A _ _ g hR hW.1 adr) yv_Graph_find wd_115 rfl rfl (fun _ => ⟨_, rfl⟩) rfl ⟨by decide, by decide⟩ (Nat.le_of_ble_eq_true rfl) d_Graph_compose_74 ⟨by decide, by decide⟩ (fun r74 σ74 hq74 => ?_)
        obtain ⟨hr74, hs74⟩ := hq74
        subst r74
        subst σ74
        refine pf_Stage_awaited E wd_494 d_Graph_compose_77 ?_
        refine pv_aload_n E d_Graph_compose_80 rfl rfl ?_
        refine gf_Stage_awaited E wd_494 d_Graph_compose_81 ?_
        refine pv_top (congrArg ps_ref (ps_R_eq σ 3 k 9 _)) ?_
        refine pv_ifnonnull (tgt := 94) E d_Graph_compose_84 rfl (fun q84 h84 => ?_) (fun h84 => ?_)
        · skip
          exact pv_vret E hr hlk d_Graph_compose_94 (by decide) (by decide) ⟨rfl, comp_end_some hA h21 h47 h84⟩
        · skip
          refine pv_aload_n E d_Graph_compose_87 rfl rfl ?_
          refine pv_iconst (v := 3) E d_Graph_compose_88 (by decide) ?_
          refine pv_bipush (v := 8) E d_Graph_compose_89 (by decide) ?_
          refine pv_callV E (fun adr => k_Stage_become l D ca A _ _ _ _ adr) yv_Stage_become wd_127 rfl rfl (fun _ => ⟨_, rfl⟩) rfl ⟨by decide, by decide⟩ (Nat.le_of_ble_eq_true rfl) d_Graph_compose_91 ⟨by decide, by decide⟩ (fun r91 σ91 hq91 => ?_)
          obtain ⟨hr91, hs91⟩ := hq91
          subst r91
          subst σ91
          exact pv_vret E hr hlk d_Graph_compose_94 (by decide) (by decide) ⟨rfl, comp_end_none hA h21 h47 h84 (by rw [e12, hA]; rfl)⟩
      · skip
        refine pv_aload_n E d_Graph_compose_50 rfl rfl ?_
        refine pv_iconst (v := 3) E d_Graph_compose_51 (by decide) ?_
        refine pv_iload_n E d_Graph_compose_52 rfl rfl ?_
        refine pv_callV E (fun adr => k_Stage_become l D ca A _ _ _ _ adr) yv_Stage_become wd_127 rfl rfl (fun _ => ⟨_, rfl⟩) rfl ⟨by decide, by decide⟩ (Nat.le_of_ble_eq_true rfl) d_Graph_compose_53 ⟨by decide, by decide⟩ (fun r53 σ53 hq53 => ?_)
        obtain ⟨hr53, hs53⟩ := hq53
        subst r53
        subst σ53
        exact pv_vret E hr hlk d_Graph_compose_56 (by decide) (by decide) ⟨rfl, by rw [g_cmp, hA]; simp only [h21, h47, if_true, if_false]; rfl⟩
    · skip
      refine pv_aload_n E d_Graph_compose_24 rfl rfl ?_
      refine pv_aload_n E d_Graph_compose_25 rfl rfl ?_
      refine pv_callV E (fun adr => k_Stage_follow l D ca A _ _ _ adr) yv_Stage_follow wd_202 rfl rfl (fun _ => ⟨_, rfl⟩) rfl ⟨by decide, by decide⟩ (Nat.le_of_ble_eq_true rfl) d_Graph_compose_26 ⟨by decide, by decide⟩ (fun r26 σ26 hq26 => ?_)
      obtain ⟨hr26, hs26⟩ := hq26
      subst r26
      subst σ26
      exact pv_vret E hr hlk d_Graph_compose_29 (by decide) (by decide) ⟨rfl, by rw [g_cmp, hA]; simp only [h21, if_false]; exact g_fol_st k sj⟩
  · skip
    obtain ⟨aj, hA⟩ : ∃ aj, gA g k = some aj := by
      cases z : gA g k with
      | none => rw [z] at h4; cases h4
      | some j => exact ⟨j, rfl⟩
    refine pv_aload_n E d_Graph_compose_7 rfl rfl ?_
    refine pv_aload_n E d_Graph_compose_8 rfl rfl ?_
    refine gf_Stage_awaited E wd_494 d_Graph_compose_9 ?_
    refine pv_top (congrArg ps_ref (show ps_R σ 3 k 9 = some (3, aj) by rw [e12, hA]; rfl)) ?_
    refine pv_callV E (fun adr => k_Stage_follow l D ca A _ _ _ adr) yv_Stage_follow wd_202 rfl rfl (fun _ => ⟨_, rfl⟩) rfl ⟨by decide, by decide⟩ (Nat.le_of_ble_eq_true rfl) d_Graph_compose_12 ⟨by decide, by decide⟩ (fun r12 σ12 hq12 => ?_)
    obtain ⟨hr12, hs12⟩ := hq12
    subst r12
    subst σ12
    exact pv_vret E hr hlk d_Graph_compose_15 (by decide) (by decide) ⟨rfl, by rw [g_cmp, hA]; exact g_fol_st k (hR.2.1 aj ((hW.2.2 k hk).2.2 aj hA))⟩
set_option maxHeartbeats 8000000 in
set_option maxRecDepth 100000 in
theorem k_Graph_decide (l : Launch) (D : va_G) (ca : Nat → ClassId) (A : Nat → Prop) (σ : ps_S) (k : Nat) (g : gT) (hR : RC σ g) (hW : gW g) (hk : k < gN g) (hne : 0 < (gI g k).length) (h5 : gF g k 2 = 5 → 1 < (gI g k).length) : ∀ adr, ps_M l y_Graph_decide c_Graph_decide 3 (Option.none : Option Jvm.ClassFile.FieldType) { frames := 3, cells := 0, slots := 0, locals := 66 } D ca A adr σ [ps_ref (some (1, 0)), ps_ref (some (3, k))] (fun rv σ' => rv = none ∧ σ' = st_dec σ k (g_dec g k)) := by
  intro adr
  refine ps_M.of (by decide +kernel) (Nat.le_of_ble_eq_true rfl) ?_
  intro p_ e_ s_ m_ args_ below_ meth_ c_ E hr hlk hnm
  have sk := hR.2.1 k hk
  obtain ⟨⟨e0, e1, e2, e3, e4, e5, e6, e7, e8⟩, e9, e10, e11, e12, e13⟩ := sk
  have sk := hR.2.1 k hk
  have hlen := (hW.2.2 k hk).1
  obtain ⟨x0, hx0, hm0⟩ := lget hne
  have hx0n := (hW.2.2 k hk).2.1 x0 hm0
  have sx := hR.2.1 x0 hx0n
  have hh := ghead hx0
  refine pv_aload_n E d_Graph_decide_0 rfl rfl ?_
  refine gf_Stage_inputs E wd_483 d_Graph_decide_1 ?_
  refine pv_top (congrArg ps_ref e6) ?_
  refine pv_iconst (v := 0) E d_Graph_decide_4 (by decide) ?_
  refine pv_aaload (t0 := 0) E 4 _ (fun _ _ _ _ _ => rfl) rfl (by rw [e7]; exact vp_in_nI (n := 0) hne (by omega)) d_Graph_decide_5 ?_
  rw [show (0 : Int32).toNatClampNeg = 0 from rfl]
  refine pv_top (congrArg ps_ref (e8 0 x0 hx0)) ?_
  refine pv_astore_n E d_Graph_decide_6 rfl (by decide) ?_
  refine pv_aload_n E d_Graph_decide_7 rfl rfl ?_
  refine gf_Stage_kind E wd_476 d_Graph_decide_8 ?_
  refine pv_top (congrArg ps_int e2) ?_
  by_cases h11_0 : gF g k 2 = 0
  · refine pv_tableAt (tgt := 56) E 0 h11_0 d_Graph_decide_11 (by decide) (by decide) rfl rfl ?_
    refine pv_aload_n E d_Graph_decide_56 rfl rfl ?_
    refine pv_aload_n E d_Graph_decide_57 rfl rfl ?_
    refine pv_callV E (fun adr => k_Stage_applyTo l D ca A _ _ _ adr) yv_Stage_applyTo wd_167 rfl rfl (fun _ => ⟨_, rfl⟩) rfl ⟨by decide, by decide⟩ (Nat.le_of_ble_eq_true rfl) d_Graph_decide_58 ⟨by decide, by decide⟩ (fun r58 σ58 hq58 => ?_)
    obtain ⟨hr58, hs58⟩ := hq58
    subst r58
    subst σ58
    refine pv_goto (tgt := 137) E d_Graph_decide_61 rfl ?_
    exact pv_vret E hr hlk d_Graph_decide_137 (by decide) (by decide) ⟨rfl, by unfold g_dec; simp only [hh, h11_0, if_true, if_false]; exact g_app_st sk sx⟩
  by_cases h11_1 : gF g k 2 = 1
  · refine pv_tableAt (tgt := 64) E 1 h11_1 d_Graph_decide_11 (by decide) (by decide) rfl rfl ?_
    refine pv_aload_n E d_Graph_decide_64 rfl rfl ?_
    refine pv_aload_n E d_Graph_decide_65 rfl rfl ?_
    refine pv_callV E (fun adr => k_Stage_recoverFrom l D ca A _ _ _ adr) yv_Stage_recoverFrom wd_186 rfl rfl (fun _ => ⟨_, rfl⟩) rfl ⟨by decide, by decide⟩ (Nat.le_of_ble_eq_true rfl) d_Graph_decide_66 ⟨by decide, by decide⟩ (fun r66 σ66 hq66 => ?_)
    obtain ⟨hr66, hs66⟩ := hq66
    subst r66
    subst σ66
    refine pv_goto (tgt := 137) E d_Graph_decide_69 rfl ?_
    exact pv_vret E hr hlk d_Graph_decide_137 (by decide) (by decide) ⟨rfl, by unfold g_dec; simp only [hh, h11_0, h11_1, if_true, if_false]; exact g_rec_st sk sx⟩
  by_cases h11_2 : gF g k 2 = 2
  · refine pv_tableAt (tgt := 72) E 2 h11_2 d_Graph_decide_11 (by decide) (by decide) rfl rfl ?_
    refine pv_aload_n E d_Graph_decide_72 rfl rfl ?_
    refine pv_aload_n E d_Graph_decide_73 rfl rfl ?_
    refine pv_callV E (fun adr => k_Stage_handle l D ca A _ _ _ adr) yv_Stage_handle wd_190 rfl rfl (fun _ => ⟨_, rfl⟩) rfl ⟨by decide, by decide⟩ (Nat.le_of_ble_eq_true rfl) d_Graph_decide_74 ⟨by decide, by decide⟩ (fun r74 σ74 hq74 => ?_)
    obtain ⟨hr74, hs74⟩ := hq74
    subst r74
    subst σ74
    refine pv_goto (tgt := 137) E d_Graph_decide_77 rfl ?_
    exact pv_vret E hr hlk d_Graph_decide_137 (by decide) (by decide) ⟨rfl, by unfold g_dec; simp only [hh, h11_0, h11_1, h11_2, if_true, if_false]; exact g_han_st sk sx⟩
  by_cases h11_3 : gF g k 2 = 3
  · refine pv_tableAt (tgt := 80) E 3 h11_3 d_Graph_decide_11 (by decide) (by decide) rfl rfl ?_
    refine pv_aload_n E d_Graph_decide_80 rfl rfl ?_
    refine pv_aload_n E d_Graph_decide_81 rfl rfl ?_
    refine pv_callV E (fun adr => k_Stage_watch l D ca A _ _ _ adr) yv_Stage_watch wd_194 rfl rfl (fun _ => ⟨_, rfl⟩) rfl ⟨by decide, by decide⟩ (Nat.le_of_ble_eq_true rfl) d_Graph_decide_82 ⟨by decide, by decide⟩ (fun r82 σ82 hq82 => ?_)
    obtain ⟨hr82, hs82⟩ := hq82
    subst r82
    subst σ82
    refine pv_goto (tgt := 137) E d_Graph_decide_85 rfl ?_
    exact pv_vret E hr hlk d_Graph_decide_137 (by decide) (by decide) ⟨rfl, by unfold g_dec; simp only [hh, h11_0, h11_1, h11_2, h11_3, if_true, if_false]; exact g_wat_st sk sx⟩
  by_cases h11_4 : gF g k 2 = 4
  · refine pv_tableAt (tgt := 88) E 4 h11_4 d_Graph_decide_11 (by decide) (by decide) rfl rfl ?_
    refine pv_aload_n E d_Graph_decide_88 rfl rfl ?_
    refine pv_aload_n E d_Graph_decide_89 rfl rfl ?_
    refine pv_aload_n E d_Graph_decide_90 rfl rfl ?_
    refine pv_callV E (fun adr => k_Graph_compose l D ca A _ _ _ g hR hW hk hx0n adr) yv_Graph_compose wd_198 rfl rfl (fun _ => ⟨_, rfl⟩) rfl ⟨by decide, by decide⟩ (Nat.le_of_ble_eq_true rfl) d_Graph_decide_91 ⟨by decide, by decide⟩ (fun r91 σ91 hq91 => ?_)
    obtain ⟨hr91, hs91⟩ := hq91
    subst r91
    subst σ91
    refine pv_goto (tgt := 137) E d_Graph_decide_94 rfl ?_
    exact pv_vret E hr hlk d_Graph_decide_137 (by decide) (by decide) ⟨rfl, by unfold g_dec; simp only [hh, h11_0, h11_1, h11_2, h11_3, h11_4, if_true, if_false]; rfl⟩
  by_cases h11_5 : gF g k 2 = 5
  · refine pv_tableAt (tgt := 97) E 5 h11_5 d_Graph_decide_11 (by decide) (by decide) rfl rfl ?_
    obtain ⟨x1, hx1, hm1⟩ := lget (h5 h11_5)
    have sx1 := hR.2.1 x1 ((hW.2.2 k hk).2.1 x1 hm1)
    have hh1 := gget1 hx1
    refine pv_aload_n E d_Graph_decide_97 rfl rfl ?_
    refine pv_aload_n E d_Graph_decide_98 rfl rfl ?_
    refine pv_aload_n E d_Graph_decide_99 rfl rfl ?_
    refine gf_Stage_inputs E wd_483 d_Graph_decide_100 ?_
    refine pv_top (congrArg ps_ref e6) ?_
    refine pv_iconst (v := 1) E d_Graph_decide_103 (by decide) ?_
    refine pv_aaload (t0 := 0) E 4 _ (fun _ _ _ _ _ => rfl) rfl (by rw [e7]; exact vp_in_nI (n := 1) (h5 h11_5) (by omega)) d_Graph_decide_104 ?_
    rw [show (1 : Int32).toNatClampNeg = 1 from rfl]
    refine pv_top (congrArg ps_ref (e8 1 x1 hx1)) ?_
    refine pv_callV E (fun adr => k_Stage_combine l D ca A _ _ _ _ adr) yv_Stage_combine wd_205 rfl rfl (fun _ => ⟨_, rfl⟩) rfl ⟨by decide, by decide⟩ (Nat.le_of_ble_eq_true rfl) d_Graph_decide_105 ⟨by decide, by decide⟩ (fun r105 σ105 hq105 => ?_)
    obtain ⟨hr105, hs105⟩ := hq105
    subst r105
    subst σ105
    refine pv_goto (tgt := 137) E d_Graph_decide_108 rfl ?_
    exact pv_vret E hr hlk d_Graph_decide_137 (by decide) (by decide) ⟨rfl, by unfold g_dec; simp only [hh, hh1, h11_0, h11_1, h11_2, h11_3, h11_4, h11_5, if_true, if_false]; exact g_com_st sk sx sx1⟩
  by_cases h11_6 : gF g k 2 = 6
  · refine pv_tableAt (tgt := 111) E 6 h11_6 d_Graph_decide_11 (by decide) (by decide) rfl rfl ?_
    refine pv_aload_n E d_Graph_decide_111 rfl rfl ?_
    refine pv_aload_n E d_Graph_decide_112 rfl rfl ?_
    refine pv_callV E (fun adr => k_Stage_firstSettledInput l D ca A _ _ g hR hW hk hne (fun j _ => gT_tv hW j) adr) yv_Stage_firstSettledInput wd_209 rfl rfl (fun _ => ⟨_, rfl⟩) rfl ⟨by decide, by decide⟩ (Nat.le_of_ble_eq_true rfl) d_Graph_decide_113 ⟨by decide, by decide⟩ (fun r113 σ113 hq113 => ?_)
    obtain ⟨hr113, hs113⟩ := hq113
    subst r113
    subst σ113
    refine pv_callV E (fun adr => k_Stage_applyTo l D ca A _ _ _ adr) yv_Stage_applyTo wd_167 rfl rfl (fun _ => ⟨_, rfl⟩) rfl ⟨by decide, by decide⟩ (Nat.le_of_ble_eq_true rfl) d_Graph_decide_116 ⟨by decide, by decide⟩ (fun r116 σ116 hq116 => ?_)
    obtain ⟨hr116, hs116⟩ := hq116
    subst r116
    subst σ116
    refine pv_goto (tgt := 137) E d_Graph_decide_119 rfl ?_
    exact pv_vret E hr hlk d_Graph_decide_137 (by decide) (by decide) ⟨rfl, by unfold g_dec; simp only [hh, h11_0, h11_1, h11_2, h11_3, h11_4, h11_5, h11_6, if_true, if_false]; exact g_app_st sk (hR.2.1 _ (g_first_lt hW hk hne))⟩
  by_cases h11_7 : gF g k 2 = 7
  · refine pv_tableAt (tgt := 122) E 7 h11_7 d_Graph_decide_11 (by decide) (by decide) rfl rfl ?_
    refine pv_aload_n E d_Graph_decide_122 rfl rfl ?_
    refine pv_callV E (fun adr => k_Stage_sumUp l D ca A _ _ g hR hW hk adr) yv_Stage_sumUp wd_213 rfl rfl (fun _ => ⟨_, rfl⟩) rfl ⟨by decide, by decide⟩ (Nat.le_of_ble_eq_true rfl) d_Graph_decide_123 ⟨by decide, by decide⟩ (fun r123 σ123 hq123 => ?_)
    obtain ⟨hr123, hs123⟩ := hq123
    subst r123
    subst σ123
    refine pv_goto (tgt := 137) E d_Graph_decide_126 rfl ?_
    exact pv_vret E hr hlk d_Graph_decide_137 (by decide) (by decide) ⟨rfl, by unfold g_dec; simp only [hh, h11_0, h11_1, h11_2, h11_3, h11_4, h11_5, h11_6, h11_7, if_true, if_false]; rfl⟩
  refine pv_tableOut (tgt := 129) E d_Graph_decide_11 (by have e0 := lv_neT h11_0 (show Int32.toInt 0 = 0 by decide); have e1 := lv_neT h11_1 (show Int32.toInt 1 = 1 by decide); have e2 := lv_neT h11_2 (show Int32.toInt 2 = 2 by decide); have e3 := lv_neT h11_3 (show Int32.toInt 3 = 3 by decide); have e4 := lv_neT h11_4 (show Int32.toInt 4 = 4 by decide); have e5 := lv_neT h11_5 (show Int32.toInt 5 = 5 by decide); have e6 := lv_neT h11_6 (show Int32.toInt 6 = 6 by decide); have e7 := lv_neT h11_7 (show Int32.toInt 7 = 7 by decide); omega) rfl ?_
  refine pv_aload_n E d_Graph_decide_129 rfl rfl ?_
  refine pv_aload_n E d_Graph_decide_130 rfl rfl ?_
  refine pv_callV E (fun adr => k_Stage_firstSettledInput l D ca A _ _ g hR hW hk hne (fun j _ => gT_tv hW j) adr) yv_Stage_firstSettledInput wd_209 rfl rfl (fun _ => ⟨_, rfl⟩) rfl ⟨by decide, by decide⟩ (Nat.le_of_ble_eq_true rfl) d_Graph_decide_131 ⟨by decide, by decide⟩ (fun r131 σ131 hq131 => ?_)
  obtain ⟨hr131, hs131⟩ := hq131
  subst r131
  subst σ131
  refine pv_callV E (fun adr => k_Stage_follow l D ca A _ _ _ adr) yv_Stage_follow wd_202 rfl rfl (fun _ => ⟨_, rfl⟩) rfl ⟨by decide, by decide⟩ (Nat.le_of_ble_eq_true rfl) d_Graph_decide_134 ⟨by decide, by decide⟩ (fun r134 σ134 hq134 => ?_)
  obtain ⟨hr134, hs134⟩ := hq134
  subst r134
  subst σ134
  exact pv_vret E hr hlk d_Graph_decide_137 (by decide) (by decide) ⟨rfl, by unfold g_dec; simp only [hh, h11_0, h11_1, h11_2, h11_3, h11_4, h11_5, h11_6, h11_7, if_true, if_false]; exact g_fol_st k (hR.2.1 _ (g_first_lt hW hk hne))⟩
set_option maxHeartbeats 8000000 in
set_option maxRecDepth 100000 in
theorem k_Graph_queueAllThatAreAble (l : Launch) (D : va_G) (ca : Nat → ClassId) (A : Nat → Prop) (σ : ps_S)  (g : gT) (hR : RC σ g) (hO : gOK g) : ∀ adr, ps_M l y_Graph_queueAllThatAreAble c_Graph_queueAllThatAreAble 3 (Option.none : Option Jvm.ClassFile.FieldType) { frames := 1, cells := 0, slots := 0, locals := 22 } D ca A adr σ [ps_ref (some (1, 0))] (fun rv σ' => rv = none ∧ RC σ' (g_scan g) ∧ FrG σ σ' ∧ ps_N σ' = ps_N σ) := by
  intro adr
  refine ps_M.of (by decide +kernel) (Nat.le_of_ble_eq_true rfl) ?_
  intro p_ e_ s_ m_ args_ below_ meth_ c_ E hr hlk hnm
  refine pv_iconst (v := 0) E d_Graph_queueAllThatAreAble_0 (by decide) ?_
  refine pv_istore_n E d_Graph_queueAllThatAreAble_1 rfl (by decide) ?_
  refine pv_sub (L' := [(0, ps_ref (some (1, 0))), (1, ps_int (nI 0))]) ⟨rfl, rfl, trivial⟩ ?_
  refine pv_loop (ι := Nat × ps_S) (fun x => gN g - x.1) (fun x => [(0, ps_ref (some (1, 0))), (1, ps_int (nI x.1))]) (fun x => x.2) (fun x => x.1 ≤ gN g ∧ RC x.2 (g_scN g x.1) ∧ FrG σ x.2 ∧ ps_N x.2 = ps_N σ) (fun x hx ih => ?_) (0, σ) ⟨Nat.zero_le _, hR, FrG.rf σ, rfl⟩
  obtain ⟨i, τ⟩ := x
  obtain ⟨hi, hT, hFr, hN⟩ := hx
  dsimp only at hi hT hFr hN ih ⊢
  have hOi := hO.scN i hi
  refine pv_iload_n E d_Graph_queueAllThatAreAble_2 rfl rfl ?_
  refine pv_aload_n E d_Graph_queueAllThatAreAble_3 rfl rfl ?_
  refine gf_Graph_made E wd_54 d_Graph_queueAllThatAreAble_4 ?_
  refine pv_top (congrArg ps_int (hT.1.2.2.2.1.trans (by rw [gN_scN]))) ?_
  refine pv_icmp_ge (tgt := 68) E d_Graph_queueAllThatAreAble_7 rfl (fun h7 => ?_) (fun h7 => ?_)
  · skip
    have hi2 : gN g ≤ i := (nI_leI (by have := hO.1.1; omega) (by have := hO.1.1; omega)).mp h7
    have hin : i = gN g := by omega
    exact pv_vret E hr hlk d_Graph_queueAllThatAreAble_68 (by decide) (by decide) ⟨rfl, by rw [g_scan, ← hin]; exact hT, hFr, hN⟩
  · skip
    have hlt : i < gN g := Nat.lt_of_not_le (fun z => h7 ((nI_leI (by have := hO.1.1; omega) (by have := hO.1.1; omega)).mpr z))
    have hin : i < gN (g_scN g i) := by rw [gN_scN]; exact hlt
    obtain ⟨⟨e0, e1, e2, e3, e4, e5, e6, e7, e8⟩, e9, e10, e11, e12, e13⟩ := hT.2.1 i hin
    have h48 := hO.1.1
    refine pv_aload_n E d_Graph_queueAllThatAreAble_10 rfl rfl ?_
    refine gf_Graph_stages E wd_51 d_Graph_queueAllThatAreAble_11 ?_
    refine pv_top (congrArg ps_ref hT.1.1) ?_
    refine pv_iload_n E d_Graph_queueAllThatAreAble_14 rfl rfl ?_
    refine pv_aaload (t0 := 0) E 4 _ (fun _ _ _ _ _ => rfl) rfl (by rw [hT.1.2.2.2.2.2.1]; exact vp_in_nI (by omega) (by decide)) d_Graph_queueAllThatAreAble_15 ?_
    rw [nI_clamp (show i < 2 ^ 31 by omega)]
    refine pv_top (congrArg ps_ref e0) ?_
    refine pv_astore_n E d_Graph_queueAllThatAreAble_16 rfl (by decide) ?_
    refine pv_aload_n E d_Graph_queueAllThatAreAble_17 rfl rfl ?_
    refine gf_Stage_queued E wd_495 d_Graph_queueAllThatAreAble_18 ?_
    refine pv_top (congrArg ps_int e13) ?_
    refine pv_if_ne (tgt := 62) E d_Graph_queueAllThatAreAble_21 rfl (fun h21 => ?_) (fun h21 => ?_)
    · skip
      refine pv_inc1 E d_Graph_queueAllThatAreAble_62 rfl (by decide) ?_
      refine pv_goto (tgt := 2) E d_Graph_queueAllThatAreAble_65 rfl ?_
      exact pv_back (ih (i + 1, τ) ⟨by omega, by show RC τ (g_sc1 (g_scN g i) i); rw [g_sc1, if_neg (fun z => h21 z.1)]; exact hT, hFr, hN⟩ (by show _ - (i + 1) < _ - i; omega)) ⟨rfl, congrArg (fun z : Int32 => some (ps_int z)) (nI_1 i), trivial⟩
    · skip
      have hlt2 := hOi.2.2.lt hOi.1.1 hin h21
      refine pv_aload_n E d_Graph_queueAllThatAreAble_24 rfl rfl ?_
      refine pv_callV E (fun adr => k_Stage_isAble l D ca A _ i (g_scN g i) hT hOi.1 hin adr) yv_Stage_isAble wd_139 rfl rfl (fun _ => ⟨_, rfl⟩) rfl ⟨by decide, by decide⟩ (Nat.le_of_ble_eq_true rfl) d_Graph_queueAllThatAreAble_25 ⟨by decide, by decide⟩ (fun r25 σ25 hq25 => ?_)
      obtain ⟨hr25, hs25⟩ := hq25
      subst r25
      subst σ25
      refine pv_if_eq (tgt := 62) E d_Graph_queueAllThatAreAble_28 rfl (fun h28 => ?_) (fun h28 => ?_)
      · skip
        have hab : ¬ g_able (g_scN g i) i = true := fun z => by rw [if_pos z] at h28; exact absurd h28 (by decide)
        refine pv_inc1 E d_Graph_queueAllThatAreAble_62 rfl (by decide) ?_
        refine pv_goto (tgt := 2) E d_Graph_queueAllThatAreAble_65 rfl ?_
        exact pv_back (ih (i + 1, τ) ⟨by omega, by show RC τ (g_sc1 (g_scN g i) i); rw [g_sc1, if_neg (fun z => hab z.2)]; exact hT, hFr, hN⟩ (by show _ - (i + 1) < _ - i; omega)) ⟨rfl, congrArg (fun z : Int32 => some (ps_int z)) (nI_1 i), trivial⟩
      · skip
        have hab : g_able (g_scN g i) i = true := by
          by_cases z : g_able (g_scN g i) i = true
          · exact z
          · exact absurd (if_neg z) h28
        refine pv_aload_n E d_Graph_queueAllThatAreAble_31 rfl rfl ?_
        refine pv_iconst (v := 1) E d_Graph_queueAllThatAreAble_32 (by decide) ?_
        refine pf_Stage_queued E wd_495 d_Graph_queueAllThatAreAble_33 (by first | exact Or.inl rfl | exact Or.inr rfl | assumption) ?_
        have hT1 := hT.que i 1
        have hp1 := st_pool_g (hT1.2.1 i hin)
        rw [gF_f _ _ (show (5 : Nat) ≠ 6 by decide)] at hp1
        refine pv_aload_n E d_Graph_queueAllThatAreAble_36 rfl rfl ?_
        refine pv_callV E (fun adr => k_Stage_goesToPool l D ca A _ i adr) yv_Stage_goesToPool wd_143 rfl rfl (fun _ => ⟨_, rfl⟩) rfl ⟨by decide, by decide⟩ (Nat.le_of_ble_eq_true rfl) d_Graph_queueAllThatAreAble_37 ⟨by decide, by decide⟩ (fun r37 σ37 hq37 => ?_)
        obtain ⟨hr37, hs37⟩ := hq37
        subst r37
        subst σ37
        refine pv_if_eq (tgt := 54) E d_Graph_queueAllThatAreAble_40 rfl (fun h40 => ?_) (fun h40 => ?_)
        · skip
          have hpl : ¬ (¬ gF (g_scN g i) i 5 = 0 ∧ gA (g_scN g i) i = none) := fun z => by rw [hp1, if_neg z.1, if_pos (show gA (gsF (g_scN g i) i 6 1) i = none from z.2)] at h40; exact absurd h40 (by decide)
          obtain ⟨q1, q2, q3, q4, f0, hf0, h60, h70⟩ := hT1.2.2.1
          refine pv_aload_n E d_Graph_queueAllThatAreAble_54 rfl rfl ?_
          refine gf_Graph_line E wd_52 d_Graph_queueAllThatAreAble_55 ?_
          refine pv_top (congrArg ps_ref hT1.1.2.1) ?_
          refine pv_aload_n E d_Graph_queueAllThatAreAble_58 rfl rfl ?_
          refine pv_callV E (fun adr => k_Queue_append l D ca A _ 0 1 f0 (gL (g_scN g i)).length q1 q2 h60 q4 hf0 q3 i adr) yv_Queue_append wd_147 rfl rfl (fun _ => ⟨_, rfl⟩) rfl ⟨by decide, by decide⟩ (Nat.le_of_ble_eq_true rfl) d_Graph_queueAllThatAreAble_59 ⟨by decide, by decide⟩ (fun r59 σ59 hq59 => ?_)
          obtain ⟨hr59, hs59⟩ := hq59
          subst r59
          subst σ59
          refine pv_inc1 E d_Graph_queueAllThatAreAble_62 rfl (by decide) ?_
          refine pv_goto (tgt := 2) E d_Graph_queueAllThatAreAble_65 rfl ?_
          exact pv_back (ih (i + 1, q_app (ps_sI τ 3 i 10 1) 0 1 i f0 (gL (g_scN g i)).length) ⟨by omega, by show RC _ (g_sc1 (g_scN g i) i); rw [g_sc1, if_pos ⟨h21, hab⟩, if_neg hpl]; exact hT1.line hlt2.1 hf0 h60 h70, hFr.tr ((FrG.sI (by decide)).tr FrG.app), by rw [N_app]; exact hN⟩ (by show _ - (i + 1) < _ - i; omega)) ⟨rfl, congrArg (fun z : Int32 => some (ps_int z)) (nI_1 i), trivial⟩
        · skip
          have hpl : ¬ gF (g_scN g i) i 5 = 0 ∧ gA (g_scN g i) i = none := by
            by_cases z : ¬ gF (g_scN g i) i 5 = 0 ∧ gA (g_scN g i) i = none
            · exact z
            · exact absurd (pool_0 hp1 z) h40
          obtain ⟨q1, q2, q3, q4, f0, hf0, h60, h70⟩ := hT1.2.2.2
          refine pv_aload_n E d_Graph_queueAllThatAreAble_43 rfl rfl ?_
          refine gf_Graph_pool E wd_53 d_Graph_queueAllThatAreAble_44 ?_
          refine pv_top (congrArg ps_ref hT1.1.2.2.1) ?_
          refine pv_aload_n E d_Graph_queueAllThatAreAble_47 rfl rfl ?_
          refine pv_callV E (fun adr => k_Queue_append l D ca A _ 1 2 f0 (gP (g_scN g i)).length q1 q2 h60 q4 hf0 q3 i adr) yv_Queue_append wd_147 rfl rfl (fun _ => ⟨_, rfl⟩) rfl ⟨by decide, by decide⟩ (Nat.le_of_ble_eq_true rfl) d_Graph_queueAllThatAreAble_48 ⟨by decide, by decide⟩ (fun r48 σ48 hq48 => ?_)
          obtain ⟨hr48, hs48⟩ := hq48
          subst r48
          subst σ48
          refine pv_goto (tgt := 62) E d_Graph_queueAllThatAreAble_51 rfl ?_
          refine pv_inc1 E d_Graph_queueAllThatAreAble_62 rfl (by decide) ?_
          refine pv_goto (tgt := 2) E d_Graph_queueAllThatAreAble_65 rfl ?_
          exact pv_back (ih (i + 1, q_app (ps_sI τ 3 i 10 1) 1 2 i f0 (gP (g_scN g i)).length) ⟨by omega, by show RC _ (g_sc1 (g_scN g i) i); rw [g_sc1, if_pos ⟨h21, hab⟩, if_pos hpl]; exact hT1.pool hlt2.2 hf0 h60 h70, hFr.tr ((FrG.sI (by decide)).tr FrG.app), by rw [N_app]; exact hN⟩ (by show _ - (i + 1) < _ - i; omega)) ⟨rfl, congrArg (fun z : Int32 => some (ps_int z)) (nI_1 i), trivial⟩
set_option maxHeartbeats 8000000 in
set_option maxRecDepth 100000 in
theorem k_Graph_settle (l : Launch) (D : va_G) (ca : Nat → ClassId) (A : Nat → Prop) (σ : ps_S) (k : Nat) (u v : Int32) (g : gT) (hR : RC σ g) (hO : gOK g) (hk : k < gN g) (h0 : gF g k 0 = 0) (hu : ¬ u = 0) : ∀ adr, ps_M l y_Graph_settle c_Graph_settle 4 (Option.none : Option Jvm.ClassFile.FieldType) { frames := 2, cells := 0, slots := 0, locals := 44 } D ca A adr σ [ps_ref (some (1, 0)), ps_ref (some (3, k)), ps_int u, ps_int v] (fun rv σ' => rv = none ∧ RC σ' (g_give g k u v) ∧ FrG σ σ' ∧ ps_N σ' = ps_N σ) := by
  intro adr
  refine ps_M.of (by decide +kernel) (Nat.le_of_ble_eq_true rfl) ?_
  intro p_ e_ s_ m_ args_ below_ meth_ c_ E hr hlk hnm
  refine pv_aload_n E d_Graph_settle_0 rfl rfl ?_
  refine pv_iload_n E d_Graph_settle_1 rfl rfl ?_
  refine pv_iload_n E d_Graph_settle_2 rfl rfl ?_
  refine pv_callV E (fun adr => k_Stage_become l D ca A _ _ _ _ adr) yv_Stage_become wd_127 rfl rfl (fun _ => ⟨_, rfl⟩) rfl ⟨by decide, by decide⟩ (Nat.le_of_ble_eq_true rfl) d_Graph_settle_3 ⟨by decide, by decide⟩ (fun r3 σ3 hq3 => ?_)
  obtain ⟨hr3, hs3⟩ := hq3
  subst r3
  subst σ3
  refine pv_aload_n E d_Graph_settle_6 rfl rfl ?_
  refine pv_aload_n E d_Graph_settle_7 rfl rfl ?_
  refine pv_callV E (fun adr => k_Graph_noteTurn l D ca A _ _ adr) yv_Graph_noteTurn wd_131 rfl rfl (fun _ => ⟨_, rfl⟩) rfl ⟨by decide, by decide⟩ (Nat.le_of_ble_eq_true rfl) d_Graph_settle_8 ⟨by decide, by decide⟩ (fun r8 σ8 hq8 => ?_)
  obtain ⟨hr8, hs8⟩ := hq8
  subst r8
  subst σ8
  refine pv_aload_n E d_Graph_settle_11 rfl rfl ?_
  refine pv_callV E (fun adr => k_Graph_queueAllThatAreAble l D ca A _ (gsU (gsS g k u v) k) (hR.set k u v hu) (hO.set hk h0 hu) adr) yv_Graph_queueAllThatAreAble wd_135 rfl rfl (fun _ => ⟨_, rfl⟩) rfl ⟨by decide, by decide⟩ (Nat.le_of_ble_eq_true rfl) d_Graph_settle_12 ⟨by decide, by decide⟩ (fun r12 σ12 hq12 => ?_)
  obtain ⟨hr12, hq12, hf12, hn12⟩ := hq12
  subst r12
  exact pv_vret E hr hlk d_Graph_settle_15 (by decide) (by decide) ⟨rfl, hq12, (FrG.bec.tr FrG.note).tr hf12, hn12⟩
set_option maxHeartbeats 8000000 in
set_option maxRecDepth 100000 in
theorem k_Graph_settleIfPending (l : Launch) (D : va_G) (ca : Nat → ClassId) (A : Nat → Prop) (σ : ps_S) (s u v : Int32) (g : gT) (hR : RC σ g) (hO : gOK g) (hu : ¬ u = 0) : ∀ adr, ps_M l y_Graph_settleIfPending c_Graph_settleIfPending 5 (Option.some Jvm.ClassFile.FieldType.boolean) { frames := 3, cells := 0, slots := 0, locals := 67 } D ca A adr σ [ps_ref (some (1, 0)), ps_int s, ps_int u, ps_int v] (fun rv σ' => if (¬ s < 0 ∧ s.toNatClampNeg < gN g) ∧ gF g s.toNatClampNeg 0 = 0 then rv = some (ps_int 1) ∧ RC σ' (g_give g s.toNatClampNeg u v) ∧ FrG σ σ' ∧ ps_N σ' = ps_N σ else rv = some (ps_int 0) ∧ σ' = σ) := by
  intro adr
  refine ps_M.of (by decide +kernel) (Nat.le_of_ble_eq_true rfl) ?_
  intro p_ e_ s_ m_ args_ below_ meth_ c_ E hr hlk hnm
  refine pv_aload_n E d_Graph_settleIfPending_0 rfl rfl ?_
  refine pv_iload_n E d_Graph_settleIfPending_1 rfl rfl ?_
  refine pv_callV E (fun adr => k_Graph_find l D ca A _ _ g hR hO.1.1 adr) yv_Graph_find wd_115 rfl rfl (fun _ => ⟨_, rfl⟩) rfl ⟨by decide, by decide⟩ (Nat.le_of_ble_eq_true rfl) d_Graph_settleIfPending_2 ⟨by decide, by decide⟩ (fun r2 σ2 hq2 => ?_)
  obtain ⟨hr2, hs2⟩ := hq2
  subst r2
  subst σ2
  refine pv_astore E d_Graph_settleIfPending_5 (by decide) ?_
  refine pv_aload E d_Graph_settleIfPending_7 rfl ?_
  refine pv_ifnull (tgt := 20) E d_Graph_settleIfPending_9 rfl (fun h9 => ?_) (fun q9 h9 => ?_)
  · skip
    have hc : ¬ (¬ s < 0 ∧ s.toNatClampNeg < gN g) := fun z => by rw [g_find, if_pos z] at h9; cases h9
    refine pv_iconst (v := 0) E d_Graph_settleIfPending_20 (by decide) ?_
    exact pv_zret E hr hlk d_Graph_settleIfPending_21 (by first | rfl | (apply ps_zb; assumption)) (by decide) (by decide) (by show ite _ _ _; rw [if_neg (fun z => hc z.1)]; exact ⟨rfl, rfl⟩)
  · skip
    have hc : ¬ s < 0 ∧ s.toNatClampNeg < gN g := by
      by_cases z : ¬ s < 0 ∧ s.toNatClampNeg < gN g
      · exact z
      · rw [g_find, if_neg z] at h9; cases h9
    refine pv_aload E d_Graph_settleIfPending_12 rfl ?_
    refine pv_top (congrArg ps_ref (show g_find g s = some (3, s.toNatClampNeg) from if_pos hc)) ?_
    refine gf_Stage_state E wd_486 d_Graph_settleIfPending_14 ?_
    refine pv_top (congrArg ps_int (hR.2.1 _ hc.2).2.1) ?_
    refine pv_if_eq (tgt := 22) E d_Graph_settleIfPending_17 rfl (fun h17 => ?_) (fun h17 => ?_)
    · skip
      refine pv_aload_n E d_Graph_settleIfPending_22 rfl rfl ?_
      refine pv_aload E d_Graph_settleIfPending_23 rfl ?_
      refine pv_top (congrArg ps_ref (show g_find g s = some (3, s.toNatClampNeg) from if_pos hc)) ?_
      refine pv_iload_n E d_Graph_settleIfPending_25 rfl rfl ?_
      refine pv_iload_n E d_Graph_settleIfPending_26 rfl rfl ?_
      refine pv_callV E (fun adr => k_Graph_settle l D ca A _ s.toNatClampNeg u v g hR hO hc.2 h17 hu adr) yv_Graph_settle wd_123 rfl rfl (fun _ => ⟨_, rfl⟩) rfl ⟨by decide, by decide⟩ (Nat.le_of_ble_eq_true rfl) d_Graph_settleIfPending_27 ⟨by decide, by decide⟩ (fun r27 σ27 hq27 => ?_)
      obtain ⟨hr27, hq27, hf27, hn27⟩ := hq27
      subst r27
      refine pv_iconst (v := 1) E d_Graph_settleIfPending_30 (by decide) ?_
      exact pv_zret E hr hlk d_Graph_settleIfPending_31 (by first | rfl | (apply ps_zb; assumption)) (by decide) (by decide) (by show ite _ _ _; rw [if_pos ⟨hc, h17⟩]; exact ⟨rfl, hq27, hf27, hn27⟩)
    · skip
      refine pv_iconst (v := 0) E d_Graph_settleIfPending_20 (by decide) ?_
      exact pv_zret E hr hlk d_Graph_settleIfPending_21 (by first | rfl | (apply ps_zb; assumption)) (by decide) (by decide) (by show ite _ _ _; rw [if_neg (fun z => h17 z.2)]; exact ⟨rfl, rfl⟩)
set_option maxHeartbeats 8000000 in
set_option maxRecDepth 100000 in
theorem k_Graph_advance (l : Launch) (D : va_G) (ca : Nat → ClassId) (A : Nat → Prop) (σ : ps_S) (k : Nat) (g : gT) (hR : RC σ g) (hO : gOK (gsF g k 6 0)) (hk : k < gN g) (h9 : ¬ gF g k 2 = 9) : ∀ adr, ps_M l y_Graph_advance c_Graph_advance 2 (Option.none : Option Jvm.ClassFile.FieldType) { frames := 4, cells := 0, slots := 0, locals := 88 } D ca A adr σ [ps_ref (some (1, 0)), ps_ref (some (3, k))] (fun rv σ' => rv = none ∧ RC σ' (g_res g k) ∧ FrG σ σ' ∧ ps_N σ' = ps_N σ) := by
  intro adr
  refine ps_M.of (by decide +kernel) (Nat.le_of_ble_eq_true rfl) ?_
  intro p_ e_ s_ m_ args_ below_ meth_ c_ E hr hlk hnm
  have hR1 := hR.que k 0
  have hKk := hO.2.1 k hk
  rw [gF_f _ _ (show (2 : Nat) ≠ 6 by decide)] at hKk
  refine pv_aload_n E d_Graph_advance_0 rfl rfl ?_
  refine pv_iconst (v := 0) E d_Graph_advance_1 (by decide) ?_
  refine pf_Stage_queued E wd_495 d_Graph_advance_2 (by first | exact Or.inl rfl | exact Or.inr rfl | assumption) ?_
  refine pv_aload_n E d_Graph_advance_5 rfl rfl ?_
  refine gf_Stage_state E wd_486 d_Graph_advance_6 ?_
  refine pv_top (congrArg ps_int ((hR1.2.1 k hk).2.1.trans (gF_f _ _ (show (0 : Nat) ≠ 6 by decide)))) ?_
  refine pv_if_eq (tgt := 13) E d_Graph_advance_9 rfl (fun h9x => ?_) (fun h9x => ?_)
  · skip
    have hb9 := h9x
    have hs0 : gF (gsF g k 6 0) k 0 = 0 := (gF_f _ _ (show (0 : Nat) ≠ 6 by decide)).trans hb9
    refine pv_aload_n E d_Graph_advance_13 rfl rfl ?_
    refine pv_aload_n E d_Graph_advance_14 rfl rfl ?_
    refine pv_callV E (fun adr => k_Graph_decide l D ca A _ k (gsF g k 6 0) hR1 hO.1 hk (hKk.1.resolve_left h9) (fun z => hKk.2 ((gF_f _ _ (show (2 : Nat) ≠ 6 by decide)).symm.trans z)) adr) yv_Graph_decide wd_163 rfl rfl (fun _ => ⟨_, rfl⟩) rfl ⟨by decide, by decide⟩ (Nat.le_of_ble_eq_true rfl) d_Graph_advance_15 ⟨by decide, by decide⟩ (fun r15 σ15 hq15 => ?_)
    obtain ⟨hr15, hs15⟩ := hq15
    subst r15
    subst σ15
    refine pv_aload_n E d_Graph_advance_18 rfl rfl ?_
    refine gf_Stage_state E wd_486 d_Graph_advance_19 ?_
    refine pv_if_eq (tgt := 30) E d_Graph_advance_22 rfl (fun h22 => ?_) (fun h22 => ?_)
    · skip
      obtain ⟨a, hd⟩ := (dec_st hR1 hk hs0).mp h22
      have hRa : RC (st_dec (ps_sI σ 3 k 10 0) k (g_dec (gsF g k 6 0) k)) (gsA (gsF g k 6 0) k (some a)) := by rw [hd]; exact hR1.awa k (some a)
      refine pv_aload_n E d_Graph_advance_30 rfl rfl ?_
      refine pv_callV E (fun adr => k_Graph_queueAllThatAreAble l D ca A _ (gsA (gsF g k 6 0) k (some a)) hRa (hO.awa (g_dec_lt hd).1 (g_dec_lt hd).2) adr) yv_Graph_queueAllThatAreAble wd_135 rfl rfl (fun _ => ⟨_, rfl⟩) rfl ⟨by decide, by decide⟩ (Nat.le_of_ble_eq_true rfl) d_Graph_advance_31 ⟨by decide, by decide⟩ (fun r31 σ31 hq31 => ?_)
      obtain ⟨hr31, hq31, hf31, hn31⟩ := hq31
      subst r31
      exact pv_vret E hr hlk d_Graph_advance_34 (by decide) (by decide) ⟨rfl, by rw [g_res, if_pos hb9, hd]; exact hq31, (FrG.sI (by decide)).tr (FrG.dec.tr hf31), by rw [hn31, N_dec]; rfl⟩
    · skip
      obtain ⟨q, hd⟩ : ∃ q, g_dec (gsF g k 6 0) k = .inl q := by
        cases z : g_dec (gsF g k 6 0) k with
        | inl q => exact ⟨q, rfl⟩
        | inr a => exact absurd ((dec_st hR1 hk hs0).mpr ⟨a, z⟩) h22
      have hRa : RC (st_note (st_dec (ps_sI σ 3 k 10 0) k (g_dec (gsF g k 6 0) k)) k) (gsU (gsS (gsF g k 6 0) k q.1 q.2) k) := by rw [hd]; exact hR1.set k q.1 q.2 (g_dec_ne hd)
      refine pv_aload_n E d_Graph_advance_25 rfl rfl ?_
      refine pv_aload_n E d_Graph_advance_26 rfl rfl ?_
      refine pv_callV E (fun adr => k_Graph_noteTurn l D ca A _ _ adr) yv_Graph_noteTurn wd_131 rfl rfl (fun _ => ⟨_, rfl⟩) rfl ⟨by decide, by decide⟩ (Nat.le_of_ble_eq_true rfl) d_Graph_advance_27 ⟨by decide, by decide⟩ (fun r27 σ27 hq27 => ?_)
      obtain ⟨hr27, hs27⟩ := hq27
      subst r27
      subst σ27
      refine pv_aload_n E d_Graph_advance_30 rfl rfl ?_
      refine pv_callV E (fun adr => k_Graph_queueAllThatAreAble l D ca A _ (gsU (gsS (gsF g k 6 0) k q.1 q.2) k) hRa (hO.set hk hs0 (g_dec_ne hd)) adr) yv_Graph_queueAllThatAreAble wd_135 rfl rfl (fun _ => ⟨_, rfl⟩) rfl ⟨by decide, by decide⟩ (Nat.le_of_ble_eq_true rfl) d_Graph_advance_31 ⟨by decide, by decide⟩ (fun r31 σ31 hq31 => ?_)
      obtain ⟨hr31, hq31, hf31, hn31⟩ := hq31
      subst r31
      exact pv_vret E hr hlk d_Graph_advance_34 (by decide) (by decide) ⟨rfl, by rw [g_res, if_pos hb9, hd]; exact hq31, (FrG.sI (by decide)).tr (FrG.dec.tr (FrG.note.tr hf31)), by rw [hn31]; show ps_N (st_dec _ k _) = _; rw [N_dec]; rfl⟩
  · skip
    have hb9 := h9x
    exact pv_vret E hr hlk d_Graph_advance_12 (by decide) (by decide) ⟨rfl, by rw [g_res, if_neg hb9]; exact hR1, FrG.sI (by decide), rfl⟩
set_option maxHeartbeats 8000000 in
set_option maxRecDepth 100000 in
theorem k_Graph_workOffLine (l : Launch) (D : va_G) (ca : Nat → ClassId) (A : Nat → Prop) (σ : ps_S)  (g : gT) (hR : RC σ g) (hO : gOK g) : ∀ adr, ps_M l y_Graph_workOffLine c_Graph_workOffLine 3 (Option.none : Option Jvm.ClassFile.FieldType) { frames := 5, cells := 0, slots := 0, locals := 109 } D ca A adr σ [ps_ref (some (1, 0))] (fun rv σ' => rv = none ∧ RC σ' (g_work 96 g) ∧ FrG σ σ' ∧ ps_N σ' = ps_N σ) := by
  intro adr
  refine ps_M.of (by decide +kernel) (Nat.le_of_ble_eq_true rfl) ?_
  intro p_ e_ s_ m_ args_ below_ meth_ c_ E hr hlk hnm
  refine pv_iconst (v := 0) E d_Graph_workOffLine_0 (by decide) ?_
  refine pv_istore_n E d_Graph_workOffLine_1 rfl (by decide) ?_
  refine pv_sub (L' := [(0, ps_ref (some (1, 0))), (1, ps_int (nI 0))]) ⟨rfl, rfl, trivial⟩ ?_
  refine pv_loop (ι := Nat × (ps_S × gT)) (fun x => 96 - x.1) (fun x => [(0, ps_ref (some (1, 0))), (1, ps_int (nI x.1))]) (fun x => x.2.1) (fun x => x.1 ≤ 96 ∧ RC x.2.1 x.2.2 ∧ gOK x.2.2 ∧ g_work 96 g = g_work (96 - x.1) x.2.2 ∧ FrG σ x.2.1 ∧ ps_N x.2.1 = ps_N σ) (fun x hx ih => ?_) (0, (σ, g)) ⟨Nat.zero_le _, hR, hO, rfl, FrG.rf σ, rfl⟩
  obtain ⟨i, τ, γ⟩ := x
  obtain ⟨hi, hT, hOi, hw, hFr, hN⟩ := hx
  dsimp only at hi hT hOi hw hFr hN ih ⊢
  refine pv_iload_n E d_Graph_workOffLine_2 rfl rfl ?_
  refine pv_bipush (v := 96) E d_Graph_workOffLine_3 (by decide) ?_
  refine pv_icmp_ge (tgt := 32) E d_Graph_workOffLine_5 rfl (fun h5 => ?_) (fun h5 => ?_)
  · skip
    have hi2 : 96 ≤ i := by rw [show (96 : Int32) = nI 96 from rfl, nI_leI (by decide) (by omega)] at h5; exact h5
    exact pv_vret E hr hlk d_Graph_workOffLine_32 (by decide) (by decide) ⟨rfl, by rw [hw, show 96 - i = 0 by omega]; exact hT, hFr, hN⟩
  · skip
    have hi2 : i < 96 := by rw [show (96 : Int32) = nI 96 from rfl, nI_leI (by decide) (by omega)] at h5; omega
    obtain ⟨q1, q2, q3, q4, f0, hf0, h60, h70⟩ := hT.2.2.1
    refine pv_aload_n E d_Graph_workOffLine_8 rfl rfl ?_
    refine gf_Graph_line E wd_52 d_Graph_workOffLine_9 ?_
    refine pv_top (congrArg ps_ref hT.1.2.1) ?_
    refine pv_callV E (fun adr => k_Queue_takeFront l D ca A _ 0 1 f0 (gL γ).length q1 q2 h60 q4 hf0 q3 adr) yv_Queue_takeFront wd_155 rfl rfl (fun _ => ⟨_, rfl⟩) rfl ⟨by decide, by decide⟩ (Nat.le_of_ble_eq_true rfl) d_Graph_workOffLine_12 ⟨by decide, by decide⟩ (fun r12 σ12 hq12 => ?_)
    obtain ⟨hr12, hs12⟩ := hq12
    subst r12
    subst σ12
    refine pv_astore_n E d_Graph_workOffLine_15 rfl (by decide) ?_
    refine pv_aload_n E d_Graph_workOffLine_16 rfl rfl ?_
    refine pv_ifnonnull (tgt := 21) E d_Graph_workOffLine_17 rfl (fun q17 h17 => ?_) (fun h17 => ?_)
    · skip
      obtain ⟨k, x, hx⟩ : ∃ k x, gL γ = k :: x := by
        cases z : gL γ with
        | nil => rw [z] at h17; cases h17
        | cons k x => exact ⟨k, x, rfl⟩
      have hrk : (if (gL γ).length = 0 then none else ps_R τ 4 1 f0) = some (3, k) := by
        rw [hx, if_neg (by simp)]
        have := h70 0 k (by rw [hx]; rfl)
        rw [Nat.add_zero, Nat.mod_eq_of_lt hf0] at this
        exact this
      have hkm : k ∈ gL γ ++ gP γ := by rw [hx]; exact List.mem_append_left _ List.mem_cons_self
      have hT2 := hT.tline hx hf0 h70
      refine pv_aload_n E d_Graph_workOffLine_21 rfl rfl ?_
      refine pv_aload_n E d_Graph_workOffLine_22 rfl rfl ?_
      refine pv_top (congrArg ps_ref hrk) ?_
      refine pv_callV E (fun adr => k_Graph_advance l D ca A _ k (gsL γ x) hT2 (hOi.tline hx) (hOi.2.2.2 k hkm).1 (hOi.2.2.2 k hkm).2.2 adr) yv_Graph_advance wd_159 rfl rfl (fun _ => ⟨_, rfl⟩) rfl ⟨by decide, by decide⟩ (Nat.le_of_ble_eq_true rfl) d_Graph_workOffLine_23 ⟨by decide, by decide⟩ (fun r23 σ23 hq23 => ?_)
      obtain ⟨hr23, hq23, hf23, hn23⟩ := hq23
      subst r23
      refine pv_inc1 E d_Graph_workOffLine_26 rfl (by decide) ?_
      refine pv_goto (tgt := 2) E d_Graph_workOffLine_29 rfl ?_
      exact pv_back (ih (i + 1, (σ23, g_res (gsL γ x) k)) ⟨by omega, hq23, gOK.res (hOi.tline hx) (hOi.2.2.2 k hkm).1, by rw [hw, show 96 - i = (96 - (i + 1)) + 1 by omega, g_work, hx], hFr.tr (FrG.tk.tr hf23), by rw [hn23, N_tk]; exact hN⟩ (by show 96 - (i + 1) < 96 - i; omega)) ⟨rfl, congrArg (fun z : Int32 => some (ps_int z)) (nI_1 i), trivial⟩
    · skip
      have hx : gL γ = [] := by
        cases z : gL γ with
        | nil => rfl
        | cons k x =>
          have := h70 0 k (by rw [z]; rfl)
          rw [Nat.add_zero, Nat.mod_eq_of_lt hf0] at this
          rw [z, if_neg (by simp), this] at h17
          cases h17
      exact pv_vret E hr hlk d_Graph_workOffLine_20 (by decide) (by decide) ⟨rfl, by rw [hw, g_work_nil hx, hx]; exact hT, by rw [hx]; exact hFr, by rw [hx]; exact hN⟩
set_option maxHeartbeats 8000000 in
set_option maxRecDepth 100000 in
theorem k_Graph_advancePool (l : Launch) (D : va_G) (ca : Nat → ClassId) (A : Nat → Prop) (σ : ps_S)  (g : gT) (hR : RC σ g) (hO : gOK g) : ∀ adr, ps_M l y_Graph_advancePool c_Graph_advancePool 2 (Option.some Jvm.ClassFile.FieldType.boolean) { frames := 5, cells := 0, slots := 0, locals := 109 } D ca A adr σ [ps_ref (some (1, 0))] (fun rv σ' => (gP g = [] → rv = some (ps_int 0) ∧ σ' = σ) ∧ (∀ k x, gP g = k :: x → rv = some (ps_int 1) ∧ RC σ' (g_res (gsP g x) k) ∧ FrG σ σ' ∧ ps_N σ' = ps_N σ)) := by
  intro adr
  refine ps_M.of (by decide +kernel) (Nat.le_of_ble_eq_true rfl) ?_
  intro p_ e_ s_ m_ args_ below_ meth_ c_ E hr hlk hnm
  obtain ⟨q1, q2, q3, q4, f0, hf0, h60, h70⟩ := hR.2.2.2
  refine pv_aload_n E d_Graph_advancePool_0 rfl rfl ?_
  refine gf_Graph_pool E wd_53 d_Graph_advancePool_1 ?_
  refine pv_top (congrArg ps_ref hR.1.2.2.1) ?_
  refine pv_callV E (fun adr => k_Queue_takeFront l D ca A _ 1 2 f0 (gP g).length q1 q2 h60 q4 hf0 q3 adr) yv_Queue_takeFront wd_155 rfl rfl (fun _ => ⟨_, rfl⟩) rfl ⟨by decide, by decide⟩ (Nat.le_of_ble_eq_true rfl) d_Graph_advancePool_4 ⟨by decide, by decide⟩ (fun r4 σ4 hq4 => ?_)
  obtain ⟨hr4, hs4⟩ := hq4
  subst r4
  subst σ4
  refine pv_astore_n E d_Graph_advancePool_7 rfl (by decide) ?_
  refine pv_aload_n E d_Graph_advancePool_8 rfl rfl ?_
  refine pv_ifnonnull (tgt := 14) E d_Graph_advancePool_9 rfl (fun q9 h9 => ?_) (fun h9 => ?_)
  · skip
    obtain ⟨k, x, hx⟩ : ∃ k x, gP g = k :: x := by
      cases z : gP g with
      | nil => rw [z] at h9; cases h9
      | cons k x => exact ⟨k, x, rfl⟩
    have hrk : (if (gP g).length = 0 then none else ps_R σ 4 2 f0) = some (3, k) := by
      rw [hx, if_neg (by simp)]
      have := h70 0 k (by rw [hx]; rfl)
      rw [Nat.add_zero, Nat.mod_eq_of_lt hf0] at this
      exact this
    have hkm : k ∈ gL g ++ gP g := by rw [hx]; exact List.mem_append_right _ List.mem_cons_self
    have hT2 := hR.tpool hx hf0 h70
    refine pv_aload_n E d_Graph_advancePool_14 rfl rfl ?_
    refine pv_aload_n E d_Graph_advancePool_15 rfl rfl ?_
    refine pv_top (congrArg ps_ref hrk) ?_
    refine pv_callV E (fun adr => k_Graph_advance l D ca A _ k (gsP g x) hT2 (hO.tpool hx) (hO.2.2.2 k hkm).1 (hO.2.2.2 k hkm).2.2 adr) yv_Graph_advance wd_159 rfl rfl (fun _ => ⟨_, rfl⟩) rfl ⟨by decide, by decide⟩ (Nat.le_of_ble_eq_true rfl) d_Graph_advancePool_16 ⟨by decide, by decide⟩ (fun r16 σ16 hq16 => ?_)
    obtain ⟨hr16, hq16, hf16, hn16⟩ := hq16
    subst r16
    refine pv_iconst (v := 1) E d_Graph_advancePool_19 (by decide) ?_
    exact pv_zret E hr hlk d_Graph_advancePool_20 (by first | rfl | (apply ps_zb; assumption)) (by decide) (by decide) ⟨fun z => by (rw [hx] at z; cases z), fun k' x' z => by (rw [hx] at z; cases z; exact ⟨rfl, hq16, FrG.tk.tr hf16, by rw [hn16, N_tk]⟩)⟩
  · skip
    have hx : gP g = [] := by
      cases z : gP g with
      | nil => rfl
      | cons k x =>
        have := h70 0 k (by rw [z]; rfl)
        rw [Nat.add_zero, Nat.mod_eq_of_lt hf0] at this
        rw [z, if_neg (by simp), this] at h9
        cases h9
    refine pv_iconst (v := 0) E d_Graph_advancePool_12 (by decide) ?_
    exact pv_zret E hr hlk d_Graph_advancePool_13 (by first | rfl | (apply ps_zb; assumption)) (by decide) (by decide) ⟨fun _ => ⟨rfl, by rw [hx]; rfl⟩, fun k x z => by rw [hx] at z; cases z⟩
