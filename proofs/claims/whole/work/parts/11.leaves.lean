set_option maxHeartbeats 8000000 in
set_option maxRecDepth 100000 in
/-- Functions.has -/
theorem k_Fn_has (l : Launch) (D : va_G) (ca : Nat → ClassId) (A : Nat → Prop) (σ : ps_S) (f : Int32)  : ∀ adr, ps_M l y_Fn_has c_Fn_has 1 (Option.some Jvm.ClassFile.FieldType.boolean) { frames := 0, cells := 0, slots := 0, locals := 0 } D ca A adr σ [ps_int f] (fun rv σ' => rv = some (ps_int (fn_has f)) ∧ σ' = σ) := by
  intro adr
  refine ps_M.of (by decide +kernel) (Nat.le_of_ble_eq_true rfl) ?_
  intro p_ e_ s_ m_ args_ below_ meth_ c_ E hr hlk hnm
  refine pv_iload_n E d_Fn_has_0 rfl rfl ?_
  refine pv_if_lt (tgt := 13) E d_Fn_has_1 rfl (fun h1 => ?_) (fun h1 => ?_)
  · skip
    refine pv_iconst (v := 0) E d_Fn_has_13 (by decide) ?_
    exact pv_zret E hr hlk d_Fn_has_14 (by first | rfl | (apply ps_zb; assumption)) (by decide) (by decide) ⟨by simp [fn_has, h1], rfl⟩
  · skip
    refine pv_iload_n E d_Fn_has_4 rfl rfl ?_
    refine pv_iconst (v := 5) E d_Fn_has_5 (by decide) ?_
    refine pv_icmp_gt (tgt := 13) E d_Fn_has_6 rfl (fun h6 => ?_) (fun h6 => ?_)
    · skip
      refine pv_iconst (v := 0) E d_Fn_has_13 (by decide) ?_
      exact pv_zret E hr hlk d_Fn_has_14 (by first | rfl | (apply ps_zb; assumption)) (by decide) (by decide) ⟨by simp [fn_has, h1, h6], rfl⟩
    · skip
      refine pv_iconst (v := 1) E d_Fn_has_9 (by decide) ?_
      refine pv_goto (tgt := 14) E d_Fn_has_10 rfl ?_
      exact pv_zret E hr hlk d_Fn_has_14 (by first | rfl | (apply ps_zb; assumption)) (by decide) (by decide) ⟨by simp [fn_has, h1, h6], rfl⟩
set_option maxHeartbeats 8000000 in
set_option maxRecDepth 100000 in
theorem k_Fn_thrownFor (l : Launch) (D : va_G) (ca : Nat → ClassId) (A : Nat → Prop) (σ : ps_S) (f a x : Int32)  : ∀ adr, ps_M l y_Fn_thrownFor c_Fn_thrownFor 3 (Option.some Jvm.ClassFile.FieldType.int) { frames := 0, cells := 0, slots := 0, locals := 0 } D ca A adr σ [ps_int f, ps_int a, ps_int x] (fun rv σ' => rv = some (ps_int (fn_thr f a x)) ∧ σ' = σ) := by
  intro adr
  refine ps_M.of (by decide +kernel) (Nat.le_of_ble_eq_true rfl) ?_
  intro p_ e_ s_ m_ args_ below_ meth_ c_ E hr hlk hnm
  refine pv_iload_n E d_Fn_thrownFor_0 rfl rfl ?_
  by_cases h1_2 : f = 2
  · refine pv_tableAt (tgt := 32) E 2 h1_2 d_Fn_thrownFor_1 (by decide) (by decide) rfl rfl ?_
    refine pv_iload_n E d_Fn_thrownFor_32 rfl rfl ?_
    refine pv_iload_n E d_Fn_thrownFor_33 rfl rfl ?_
    refine pv_icmp_ne (tgt := 46) E d_Fn_thrownFor_34 rfl (fun h34 => ?_) (fun h34 => ?_)
    · skip
      refine pv_iconst (v := 0) E d_Fn_thrownFor_46 (by decide) ?_
      exact pv_iret E hr hlk d_Fn_thrownFor_47 (by decide) (by decide) ⟨by simp [fn_thr, h1_2, h34], rfl⟩
    · skip
      refine pv_iconst (v := 1) E d_Fn_thrownFor_37 (by decide) ?_
      refine pv_iload_n E d_Fn_thrownFor_38 rfl rfl ?_
      refine pv_bipush (v := 7) E d_Fn_thrownFor_39 (by decide) ?_
      refine pv_iand E d_Fn_thrownFor_41 ?_
      refine pv_iadd E d_Fn_thrownFor_42 ?_
      refine pv_goto (tgt := 47) E d_Fn_thrownFor_43 rfl ?_
      exact pv_iret E hr hlk d_Fn_thrownFor_47 (by decide) (by decide) ⟨by simp [fn_thr, h1_2, h34], rfl⟩
  by_cases h1_3 : f = 3
  · refine pv_tableAt (tgt := 48) E 3 h1_3 d_Fn_thrownFor_1 (by decide) (by decide) rfl rfl ?_
    refine pv_iconst (v := 1) E d_Fn_thrownFor_48 (by decide) ?_
    refine pv_iload_n E d_Fn_thrownFor_49 rfl rfl ?_
    refine pv_bipush (v := 7) E d_Fn_thrownFor_50 (by decide) ?_
    refine pv_iand E d_Fn_thrownFor_52 ?_
    refine pv_iadd E d_Fn_thrownFor_53 ?_
    exact pv_iret E hr hlk d_Fn_thrownFor_54 (by decide) (by decide) ⟨by simp [fn_thr, h1_2, h1_3], rfl⟩
  by_cases h1_4 : f = 4
  · refine pv_tableAt (tgt := 66) E 4 h1_4 d_Fn_thrownFor_1 (by decide) (by decide) rfl rfl ?_
    refine pv_iconst (v := 0) E d_Fn_thrownFor_66 (by decide) ?_
    exact pv_iret E hr hlk d_Fn_thrownFor_67 (by decide) (by decide) ⟨by simp [fn_thr, h1_2, h1_3, h1_4], rfl⟩
  by_cases h1_5 : f = 5
  · refine pv_tableAt (tgt := 55) E 5 h1_5 d_Fn_thrownFor_1 (by decide) (by decide) rfl rfl ?_
    refine pv_iload_n E d_Fn_thrownFor_55 rfl rfl ?_
    refine pv_if_ne (tgt := 64) E d_Fn_thrownFor_56 rfl (fun h56 => ?_) (fun h56 => ?_)
    · skip
      refine pv_iconst (v := 0) E d_Fn_thrownFor_64 (by decide) ?_
      exact pv_iret E hr hlk d_Fn_thrownFor_65 (by decide) (by decide) ⟨by simp [fn_thr, h1_2, h1_3, h1_4, h1_5, h56], rfl⟩
    · skip
      refine pv_bipush (v := 9) E d_Fn_thrownFor_59 (by decide) ?_
      refine pv_goto (tgt := 65) E d_Fn_thrownFor_61 rfl ?_
      exact pv_iret E hr hlk d_Fn_thrownFor_65 (by decide) (by decide) ⟨by simp [fn_thr, h1_2, h1_3, h1_4, h1_5, h56], rfl⟩
  refine pv_tableOut (tgt := 66) E d_Fn_thrownFor_1 (by have e2 := lv_neT h1_2 (show Int32.toInt 2 = 2 by decide); have e3 := lv_neT h1_3 (show Int32.toInt 3 = 3 by decide); have e4 := lv_neT h1_4 (show Int32.toInt 4 = 4 by decide); have e5 := lv_neT h1_5 (show Int32.toInt 5 = 5 by decide); omega) rfl ?_
  refine pv_iconst (v := 0) E d_Fn_thrownFor_66 (by decide) ?_
  exact pv_iret E hr hlk d_Fn_thrownFor_67 (by decide) (by decide) ⟨by simp [fn_thr, h1_2, h1_3, h1_4, h1_5], rfl⟩
set_option maxHeartbeats 8000000 in
set_option maxRecDepth 100000 in
theorem k_Fn_madeOf (l : Launch) (D : va_G) (ca : Nat → ClassId) (A : Nat → Prop) (σ : ps_S) (f a x : Int32)  : ∀ adr, ps_M l y_Fn_madeOf c_Fn_madeOf 3 (Option.some Jvm.ClassFile.FieldType.int) { frames := 0, cells := 0, slots := 0, locals := 0 } D ca A adr σ [ps_int f, ps_int a, ps_int x] (fun rv σ' => rv = some (ps_int (fn_mk f a x)) ∧ σ' = σ) := by
  intro adr
  refine ps_M.of (by decide +kernel) (Nat.le_of_ble_eq_true rfl) ?_
  intro p_ e_ s_ m_ args_ below_ meth_ c_ E hr hlk hnm
  refine pv_iload_n E d_Fn_madeOf_0 rfl rfl ?_
  by_cases h1_0 : f = 0
  · refine pv_tableAt (tgt := 40) E 0 h1_0 d_Fn_madeOf_1 (by decide) (by decide) rfl rfl ?_
    refine pv_iload_n E d_Fn_madeOf_40 rfl rfl ?_
    refine pv_iload_n E d_Fn_madeOf_41 rfl rfl ?_
    refine pv_iadd E d_Fn_madeOf_42 ?_
    exact pv_iret E hr hlk d_Fn_madeOf_43 (by decide) (by decide) ⟨by simp [fn_mk, h1_0], rfl⟩
  by_cases h1_1 : f = 1
  · refine pv_tableAt (tgt := 44) E 1 h1_1 d_Fn_madeOf_1 (by decide) (by decide) rfl rfl ?_
    refine pv_iload_n E d_Fn_madeOf_44 rfl rfl ?_
    refine pv_iload_n E d_Fn_madeOf_45 rfl rfl ?_
    refine pv_imul E d_Fn_madeOf_46 ?_
    exact pv_iret E hr hlk d_Fn_madeOf_47 (by decide) (by decide) ⟨by simp [fn_mk, h1_0, h1_1], rfl⟩
  by_cases h1_2 : f = 2
  · refine pv_tableAt (tgt := 62) E 2 h1_2 d_Fn_madeOf_1 (by decide) (by decide) rfl rfl ?_
    refine pv_iload_n E d_Fn_madeOf_62 rfl rfl ?_
    exact pv_iret E hr hlk d_Fn_madeOf_63 (by decide) (by decide) ⟨by simp [fn_mk, h1_0, h1_1, h1_2], rfl⟩
  by_cases h1_3 : f = 3
  · refine pv_tableAt (tgt := 62) E 3 h1_3 d_Fn_madeOf_1 (by decide) (by decide) rfl rfl ?_
    refine pv_iload_n E d_Fn_madeOf_62 rfl rfl ?_
    exact pv_iret E hr hlk d_Fn_madeOf_63 (by decide) (by decide) ⟨by simp [fn_mk, h1_0, h1_1, h1_2, h1_3], rfl⟩
  by_cases h1_4 : f = 4
  · refine pv_tableAt (tgt := 48) E 4 h1_4 d_Fn_madeOf_1 (by decide) (by decide) rfl rfl ?_
    refine pv_iload_n E d_Fn_madeOf_48 rfl rfl ?_
    exact pv_iret E hr hlk d_Fn_madeOf_49 (by decide) (by decide) ⟨by simp [fn_mk, h1_0, h1_1, h1_2, h1_3, h1_4], rfl⟩
  by_cases h1_5 : f = 5
  · refine pv_tableAt (tgt := 50) E 5 h1_5 d_Fn_madeOf_1 (by decide) (by decide) rfl rfl ?_
    refine pv_iload_n E d_Fn_madeOf_50 rfl rfl ?_
    refine pv_if_ne (tgt := 58) E d_Fn_madeOf_51 rfl (fun h51 => ?_) (fun h51 => ?_)
    · skip
      refine pv_iload_n E d_Fn_madeOf_58 rfl rfl ?_
      refine pv_iload_n E d_Fn_madeOf_59 rfl rfl ?_
      refine pv_idiv E d_Fn_madeOf_60 (h51) ?_
      exact pv_iret E hr hlk d_Fn_madeOf_61 (by decide) (by decide) ⟨by simp [fn_mk, h1_0, h1_1, h1_2, h1_3, h1_4, h1_5, h51], rfl⟩
    · skip
      refine pv_iconst (v := 0) E d_Fn_madeOf_54 (by decide) ?_
      refine pv_goto (tgt := 61) E d_Fn_madeOf_55 rfl ?_
      exact pv_iret E hr hlk d_Fn_madeOf_61 (by decide) (by decide) ⟨by simp [fn_mk, h1_0, h1_1, h1_2, h1_3, h1_4, h1_5, h51], rfl⟩
  refine pv_tableOut (tgt := 62) E d_Fn_madeOf_1 (by have e0 := lv_neT h1_0 (show Int32.toInt 0 = 0 by decide); have e1 := lv_neT h1_1 (show Int32.toInt 1 = 1 by decide); have e2 := lv_neT h1_2 (show Int32.toInt 2 = 2 by decide); have e3 := lv_neT h1_3 (show Int32.toInt 3 = 3 by decide); have e4 := lv_neT h1_4 (show Int32.toInt 4 = 4 by decide); have e5 := lv_neT h1_5 (show Int32.toInt 5 = 5 by decide); omega) rfl ?_
  refine pv_iload_n E d_Fn_madeOf_62 rfl rfl ?_
  exact pv_iret E hr hlk d_Fn_madeOf_63 (by decide) (by decide) ⟨by simp [fn_mk, h1_0, h1_1, h1_2, h1_3, h1_4, h1_5], rfl⟩
set_option maxHeartbeats 8000000 in
set_option maxRecDepth 100000 in
theorem k_Stage_become (l : Launch) (D : va_G) (ca : Nat → ClassId) (A : Nat → Prop) (σ : ps_S) (k : Nat) (u v : Int32)  : ∀ adr, ps_M l y_Stage_become c_Stage_become 3 (Option.none : Option Jvm.ClassFile.FieldType) { frames := 0, cells := 0, slots := 0, locals := 0 } D ca A adr σ [ps_ref (some (3, k)), ps_int u, ps_int v] (fun rv σ' => rv = none ∧ σ' = st_become σ k u v) := by
  intro adr
  refine ps_M.of (by decide +kernel) (Nat.le_of_ble_eq_true rfl) ?_
  intro p_ e_ s_ m_ args_ below_ meth_ c_ E hr hlk hnm
  refine pv_aload_n E d_Stage_become_0 rfl rfl ?_
  refine pv_iload_n E d_Stage_become_1 rfl rfl ?_
  refine pf_Stage_state E wd_484 d_Stage_become_2 ?_
  refine pv_aload_n E d_Stage_become_5 rfl rfl ?_
  refine pv_iload_n E d_Stage_become_6 rfl rfl ?_
  refine pf_Stage_content E wd_488 d_Stage_become_7 ?_
  exact pv_vret E hr hlk d_Stage_become_10 (by decide) (by decide) ⟨rfl, rfl⟩
set_option maxHeartbeats 8000000 in
set_option maxRecDepth 100000 in
theorem k_Stage_goesToPool (l : Launch) (D : va_G) (ca : Nat → ClassId) (A : Nat → Prop) (σ : ps_S) (k : Nat)  : ∀ adr, ps_M l y_Stage_goesToPool c_Stage_goesToPool 1 (Option.some Jvm.ClassFile.FieldType.boolean) { frames := 0, cells := 0, slots := 0, locals := 0 } D ca A adr σ [ps_ref (some (3, k))] (fun rv σ' => rv = some (ps_int (st_pool σ k)) ∧ σ' = σ) := by
  intro adr
  refine ps_M.of (by decide +kernel) (Nat.le_of_ble_eq_true rfl) ?_
  intro p_ e_ s_ m_ args_ below_ meth_ c_ E hr hlk hnm
  refine pv_aload_n E d_Stage_goesToPool_0 rfl rfl ?_
  refine gf_Stage_async E wd_481 d_Stage_goesToPool_1 ?_
  refine pv_if_eq (tgt := 18) E d_Stage_goesToPool_4 rfl (fun h4 => ?_) (fun h4 => ?_)
  · skip
    refine pv_iconst (v := 0) E d_Stage_goesToPool_18 (by decide) ?_
    exact pv_zret E hr hlk d_Stage_goesToPool_19 (by first | rfl | (apply ps_zb; assumption)) (by decide) (by decide) ⟨by simp [st_pool, h4], rfl⟩
  · skip
    refine pv_aload_n E d_Stage_goesToPool_7 rfl rfl ?_
    refine gf_Stage_awaited E wd_493 d_Stage_goesToPool_8 ?_
    refine pv_ifnonnull (tgt := 18) E d_Stage_goesToPool_11 rfl (fun q11 h11 => ?_) (fun h11 => ?_)
    · skip
      refine pv_iconst (v := 0) E d_Stage_goesToPool_18 (by decide) ?_
      exact pv_zret E hr hlk d_Stage_goesToPool_19 (by first | rfl | (apply ps_zb; assumption)) (by decide) (by decide) ⟨by simp [st_pool, h4, h11], rfl⟩
    · skip
      refine pv_iconst (v := 1) E d_Stage_goesToPool_14 (by decide) ?_
      refine pv_goto (tgt := 19) E d_Stage_goesToPool_15 rfl ?_
      exact pv_zret E hr hlk d_Stage_goesToPool_19 (by first | rfl | (apply ps_zb; assumption)) (by decide) (by decide) ⟨by simp [st_pool, h4, h11], rfl⟩
set_option maxHeartbeats 8000000 in
set_option maxRecDepth 100000 in
theorem k_Stage_follow (l : Launch) (D : va_G) (ca : Nat → ClassId) (A : Nat → Prop) (σ : ps_S) (k j : Nat)  : ∀ adr, ps_M l y_Stage_follow c_Stage_follow 2 (Option.none : Option Jvm.ClassFile.FieldType) { frames := 1, cells := 0, slots := 0, locals := 22 } D ca A adr σ [ps_ref (some (3, k)), ps_ref (some (3, j))] (fun rv σ' => rv = none ∧ σ' = st_follow σ k j) := by
  intro adr
  refine ps_M.of (by decide +kernel) (Nat.le_of_ble_eq_true rfl) ?_
  intro p_ e_ s_ m_ args_ below_ meth_ c_ E hr hlk hnm
  refine pv_aload_n E d_Stage_follow_0 rfl rfl ?_
  refine pv_aload_n E d_Stage_follow_1 rfl rfl ?_
  refine gf_Stage_state E wd_484 d_Stage_follow_2 ?_
  refine pv_iconst (v := 1) E d_Stage_follow_5 (by decide) ?_
  refine pv_icmp_ne (tgt := 13) E d_Stage_follow_6 rfl (fun h6 => ?_) (fun h6 => ?_)
  · skip
    refine pv_iconst (v := 3) E d_Stage_follow_13 (by decide) ?_
    refine pv_aload_n E d_Stage_follow_14 rfl rfl ?_
    refine gf_Stage_content E wd_488 d_Stage_follow_15 ?_
    refine pv_callV E (fun adr => k_Stage_become l D ca A _ _ _ _ adr) yv_Stage_become wd_178 rfl rfl (fun _ => ⟨_, rfl⟩) rfl ⟨by decide, by decide⟩ (Nat.le_of_ble_eq_true rfl) d_Stage_follow_18 ⟨by decide, by decide⟩ (fun r18 σ18 hq18 => ?_)
    obtain ⟨rfl, rfl⟩ := hq18
    exact pv_vret E hr hlk d_Stage_follow_21 (by decide) (by decide) ⟨rfl, by simp [st_follow, h6]⟩
  · skip
    refine pv_iconst (v := 1) E d_Stage_follow_9 (by decide) ?_
    refine pv_goto (tgt := 14) E d_Stage_follow_10 rfl ?_
    refine pv_aload_n E d_Stage_follow_14 rfl rfl ?_
    refine gf_Stage_content E wd_488 d_Stage_follow_15 ?_
    refine pv_callV E (fun adr => k_Stage_become l D ca A _ _ _ _ adr) yv_Stage_become wd_178 rfl rfl (fun _ => ⟨_, rfl⟩) rfl ⟨by decide, by decide⟩ (Nat.le_of_ble_eq_true rfl) d_Stage_follow_18 ⟨by decide, by decide⟩ (fun r18 σ18 hq18 => ?_)
    obtain ⟨rfl, rfl⟩ := hq18
    exact pv_vret E hr hlk d_Stage_follow_21 (by decide) (by decide) ⟨rfl, by simp [st_follow, h6]⟩
set_option maxHeartbeats 8000000 in
set_option maxRecDepth 100000 in
theorem k_Stage_useFunction (l : Launch) (D : va_G) (ca : Nat → ClassId) (A : Nat → Prop) (σ : ps_S) (k : Nat) (x : Int32)  : ∀ adr, ps_M l y_Stage_useFunction c_Stage_useFunction 3 (Option.none : Option Jvm.ClassFile.FieldType) { frames := 1, cells := 0, slots := 0, locals := 22 } D ca A adr σ [ps_ref (some (3, k)), ps_int x] (fun rv σ' => rv = none ∧ σ' = st_use σ k x) := by
  intro adr
  refine ps_M.of (by decide +kernel) (Nat.le_of_ble_eq_true rfl) ?_
  intro p_ e_ s_ m_ args_ below_ meth_ c_ E hr hlk hnm
  refine pv_aload_n E d_Stage_useFunction_0 rfl rfl ?_
  refine gf_Stage_function E wd_477 d_Stage_useFunction_1 ?_
  refine pv_aload_n E d_Stage_useFunction_4 rfl rfl ?_
  refine gf_Stage_a E wd_479 d_Stage_useFunction_5 ?_
  refine pv_iload_n E d_Stage_useFunction_8 rfl rfl ?_
  refine pv_callS E (fun adr => k_Fn_thrownFor l D ca A _ _ _ _ adr) ys_Fn_thrownFor wd_175 rfl rfl ⟨by decide, by decide⟩ (Nat.le_of_ble_eq_true rfl) d_Stage_useFunction_9 ⟨by decide, by decide⟩ (fun r9 σ9 hq9 => ?_)
  obtain ⟨rfl, rfl⟩ := hq9
  refine pv_istore_n E d_Stage_useFunction_12 rfl (by decide) ?_
  refine pv_iload_n E d_Stage_useFunction_13 rfl rfl ?_
  refine pv_if_eq (tgt := 26) E d_Stage_useFunction_14 rfl (fun h14 => ?_) (fun h14 => ?_)
  · skip
    refine pv_aload_n E d_Stage_useFunction_26 rfl rfl ?_
    refine pv_iconst (v := 1) E d_Stage_useFunction_27 (by decide) ?_
    refine pv_aload_n E d_Stage_useFunction_28 rfl rfl ?_
    refine gf_Stage_function E wd_477 d_Stage_useFunction_29 ?_
    refine pv_aload_n E d_Stage_useFunction_32 rfl rfl ?_
    refine gf_Stage_a E wd_479 d_Stage_useFunction_33 ?_
    refine pv_iload_n E d_Stage_useFunction_36 rfl rfl ?_
    refine pv_callS E (fun adr => k_Fn_madeOf l D ca A _ _ _ _ adr) ys_Fn_madeOf wd_179 rfl rfl ⟨by decide, by decide⟩ (Nat.le_of_ble_eq_true rfl) d_Stage_useFunction_37 ⟨by decide, by decide⟩ (fun r37 σ37 hq37 => ?_)
    obtain ⟨rfl, rfl⟩ := hq37
    refine pv_callV E (fun adr => k_Stage_become l D ca A _ _ _ _ adr) yv_Stage_become wd_178 rfl rfl (fun _ => ⟨_, rfl⟩) rfl ⟨by decide, by decide⟩ (Nat.le_of_ble_eq_true rfl) d_Stage_useFunction_40 ⟨by decide, by decide⟩ (fun r40 σ40 hq40 => ?_)
    obtain ⟨rfl, rfl⟩ := hq40
    exact pv_vret E hr hlk d_Stage_useFunction_43 (by decide) (by decide) ⟨rfl, by simp [st_use, h14]⟩
  · skip
    refine pv_aload_n E d_Stage_useFunction_17 rfl rfl ?_
    refine pv_iconst (v := 3) E d_Stage_useFunction_18 (by decide) ?_
    refine pv_iload_n E d_Stage_useFunction_19 rfl rfl ?_
    refine pv_callV E (fun adr => k_Stage_become l D ca A _ _ _ _ adr) yv_Stage_become wd_178 rfl rfl (fun _ => ⟨_, rfl⟩) rfl ⟨by decide, by decide⟩ (Nat.le_of_ble_eq_true rfl) d_Stage_useFunction_20 ⟨by decide, by decide⟩ (fun r20 σ20 hq20 => ?_)
    obtain ⟨rfl, rfl⟩ := hq20
    refine pv_goto (tgt := 43) E d_Stage_useFunction_23 rfl ?_
    exact pv_vret E hr hlk d_Stage_useFunction_43 (by decide) (by decide) ⟨rfl, by simp [st_use, h14]⟩
set_option maxHeartbeats 8000000 in
set_option maxRecDepth 100000 in
theorem k_Stage_applyTo (l : Launch) (D : va_G) (ca : Nat → ClassId) (A : Nat → Prop) (σ : ps_S) (k j : Nat)  : ∀ adr, ps_M l y_Stage_applyTo c_Stage_applyTo 2 (Option.none : Option Jvm.ClassFile.FieldType) { frames := 2, cells := 0, slots := 0, locals := 44 } D ca A adr σ [ps_ref (some (3, k)), ps_ref (some (3, j))] (fun rv σ' => rv = none ∧ σ' = st_apply σ k j) := by
  intro adr
  refine ps_M.of (by decide +kernel) (Nat.le_of_ble_eq_true rfl) ?_
  intro p_ e_ s_ m_ args_ below_ meth_ c_ E hr hlk hnm
  refine pv_aload_n E d_Stage_applyTo_0 rfl rfl ?_
  refine gf_Stage_state E wd_484 d_Stage_applyTo_1 ?_
  refine pv_iconst (v := 1) E d_Stage_applyTo_4 (by decide) ?_
  refine pv_icmp_ne (tgt := 19) E d_Stage_applyTo_5 rfl (fun h5 => ?_) (fun h5 => ?_)
  · skip
    refine pv_aload_n E d_Stage_applyTo_19 rfl rfl ?_
    refine pv_aload_n E d_Stage_applyTo_20 rfl rfl ?_
    refine pv_callV E (fun adr => k_Stage_follow l D ca A _ _ _ adr) yv_Stage_follow wd_182 rfl rfl (fun _ => ⟨_, rfl⟩) rfl ⟨by decide, by decide⟩ (Nat.le_of_ble_eq_true rfl) d_Stage_applyTo_21 ⟨by decide, by decide⟩ (fun r21 σ21 hq21 => ?_)
    obtain ⟨rfl, rfl⟩ := hq21
    exact pv_vret E hr hlk d_Stage_applyTo_24 (by decide) (by decide) ⟨rfl, by simp [st_apply, h5]⟩
  · skip
    refine pv_aload_n E d_Stage_applyTo_8 rfl rfl ?_
    refine pv_aload_n E d_Stage_applyTo_9 rfl rfl ?_
    refine gf_Stage_content E wd_488 d_Stage_applyTo_10 ?_
    refine pv_callV E (fun adr => k_Stage_useFunction l D ca A _ _ _ adr) yv_Stage_useFunction wd_171 rfl rfl (fun _ => ⟨_, rfl⟩) rfl ⟨by decide, by decide⟩ (Nat.le_of_ble_eq_true rfl) d_Stage_applyTo_13 ⟨by decide, by decide⟩ (fun r13 σ13 hq13 => ?_)
    obtain ⟨rfl, rfl⟩ := hq13
    refine pv_goto (tgt := 24) E d_Stage_applyTo_16 rfl ?_
    exact pv_vret E hr hlk d_Stage_applyTo_24 (by decide) (by decide) ⟨rfl, by simp [st_apply, h5]⟩
set_option maxHeartbeats 8000000 in
set_option maxRecDepth 100000 in
theorem k_Stage_recoverFrom (l : Launch) (D : va_G) (ca : Nat → ClassId) (A : Nat → Prop) (σ : ps_S) (k j : Nat)  : ∀ adr, ps_M l y_Stage_recoverFrom c_Stage_recoverFrom 2 (Option.none : Option Jvm.ClassFile.FieldType) { frames := 2, cells := 0, slots := 0, locals := 44 } D ca A adr σ [ps_ref (some (3, k)), ps_ref (some (3, j))] (fun rv σ' => rv = none ∧ σ' = st_recover σ k j) := by
  intro adr
  refine ps_M.of (by decide +kernel) (Nat.le_of_ble_eq_true rfl) ?_
  intro p_ e_ s_ m_ args_ below_ meth_ c_ E hr hlk hnm
  refine pv_aload_n E d_Stage_recoverFrom_0 rfl rfl ?_
  refine gf_Stage_state E wd_484 d_Stage_recoverFrom_1 ?_
  refine pv_iconst (v := 1) E d_Stage_recoverFrom_4 (by decide) ?_
  refine pv_icmp_ne (tgt := 16) E d_Stage_recoverFrom_5 rfl (fun h5 => ?_) (fun h5 => ?_)
  · skip
    refine pv_aload_n E d_Stage_recoverFrom_16 rfl rfl ?_
    refine pv_aload_n E d_Stage_recoverFrom_17 rfl rfl ?_
    refine gf_Stage_content E wd_488 d_Stage_recoverFrom_18 ?_
    refine pv_callV E (fun adr => k_Stage_useFunction l D ca A _ _ _ adr) yv_Stage_useFunction wd_171 rfl rfl (fun _ => ⟨_, rfl⟩) rfl ⟨by decide, by decide⟩ (Nat.le_of_ble_eq_true rfl) d_Stage_recoverFrom_21 ⟨by decide, by decide⟩ (fun r21 σ21 hq21 => ?_)
    obtain ⟨rfl, rfl⟩ := hq21
    exact pv_vret E hr hlk d_Stage_recoverFrom_24 (by decide) (by decide) ⟨rfl, by simp [st_recover, h5]⟩
  · skip
    refine pv_aload_n E d_Stage_recoverFrom_8 rfl rfl ?_
    refine pv_aload_n E d_Stage_recoverFrom_9 rfl rfl ?_
    refine pv_callV E (fun adr => k_Stage_follow l D ca A _ _ _ adr) yv_Stage_follow wd_182 rfl rfl (fun _ => ⟨_, rfl⟩) rfl ⟨by decide, by decide⟩ (Nat.le_of_ble_eq_true rfl) d_Stage_recoverFrom_10 ⟨by decide, by decide⟩ (fun r10 σ10 hq10 => ?_)
    obtain ⟨rfl, rfl⟩ := hq10
    refine pv_goto (tgt := 24) E d_Stage_recoverFrom_13 rfl ?_
    exact pv_vret E hr hlk d_Stage_recoverFrom_24 (by decide) (by decide) ⟨rfl, by simp [st_recover, h5]⟩
set_option maxHeartbeats 8000000 in
set_option maxRecDepth 100000 in
theorem k_Stage_handle (l : Launch) (D : va_G) (ca : Nat → ClassId) (A : Nat → Prop) (σ : ps_S) (k j : Nat)  : ∀ adr, ps_M l y_Stage_handle c_Stage_handle 2 (Option.none : Option Jvm.ClassFile.FieldType) { frames := 2, cells := 0, slots := 0, locals := 44 } D ca A adr σ [ps_ref (some (3, k)), ps_ref (some (3, j))] (fun rv σ' => rv = none ∧ σ' = st_handle σ k j) := by
  intro adr
  refine ps_M.of (by decide +kernel) (Nat.le_of_ble_eq_true rfl) ?_
  intro p_ e_ s_ m_ args_ below_ meth_ c_ E hr hlk hnm
  refine pv_aload_n E d_Stage_handle_0 rfl rfl ?_
  refine pv_aload_n E d_Stage_handle_1 rfl rfl ?_
  refine gf_Stage_state E wd_484 d_Stage_handle_2 ?_
  refine pv_iconst (v := 1) E d_Stage_handle_5 (by decide) ?_
  refine pv_icmp_ne (tgt := 16) E d_Stage_handle_6 rfl (fun h6 => ?_) (fun h6 => ?_)
  · skip
    refine pv_iconst (v := -1) E d_Stage_handle_16 (by decide) ?_
    refine pv_aload_n E d_Stage_handle_17 rfl rfl ?_
    refine gf_Stage_content E wd_488 d_Stage_handle_18 ?_
    refine pv_isub E d_Stage_handle_21 ?_
    refine pv_callV E (fun adr => k_Stage_useFunction l D ca A _ _ _ adr) yv_Stage_useFunction wd_171 rfl rfl (fun _ => ⟨_, rfl⟩) rfl ⟨by decide, by decide⟩ (Nat.le_of_ble_eq_true rfl) d_Stage_handle_22 ⟨by decide, by decide⟩ (fun r22 σ22 hq22 => ?_)
    obtain ⟨rfl, rfl⟩ := hq22
    exact pv_vret E hr hlk d_Stage_handle_25 (by decide) (by decide) ⟨rfl, by simp [st_handle, h6]⟩
  · skip
    refine pv_aload_n E d_Stage_handle_9 rfl rfl ?_
    refine gf_Stage_content E wd_488 d_Stage_handle_10 ?_
    refine pv_goto (tgt := 22) E d_Stage_handle_13 rfl ?_
    refine pv_callV E (fun adr => k_Stage_useFunction l D ca A _ _ _ adr) yv_Stage_useFunction wd_171 rfl rfl (fun _ => ⟨_, rfl⟩) rfl ⟨by decide, by decide⟩ (Nat.le_of_ble_eq_true rfl) d_Stage_handle_22 ⟨by decide, by decide⟩ (fun r22 σ22 hq22 => ?_)
    obtain ⟨rfl, rfl⟩ := hq22
    exact pv_vret E hr hlk d_Stage_handle_25 (by decide) (by decide) ⟨rfl, by simp [st_handle, h6]⟩
set_option maxHeartbeats 8000000 in
set_option maxRecDepth 100000 in
theorem k_Stage_watch (l : Launch) (D : va_G) (ca : Nat → ClassId) (A : Nat → Prop) (σ : ps_S) (k j : Nat)  : ∀ adr, ps_M l y_Stage_watch c_Stage_watch 3 (Option.none : Option Jvm.ClassFile.FieldType) { frames := 2, cells := 0, slots := 0, locals := 43 } D ca A adr σ [ps_ref (some (3, k)), ps_ref (some (3, j))] (fun rv σ' => rv = none ∧ σ' = st_watch σ k j) := by
  intro adr
  refine ps_M.of (by decide +kernel) (Nat.le_of_ble_eq_true rfl) ?_
  intro p_ e_ s_ m_ args_ below_ meth_ c_ E hr hlk hnm
  refine pv_aload_n E d_Stage_watch_0 rfl rfl ?_
  refine gf_Stage_function E wd_477 d_Stage_watch_1 ?_
  refine pv_aload_n E d_Stage_watch_4 rfl rfl ?_
  refine gf_Stage_a E wd_479 d_Stage_watch_5 ?_
  refine pv_aload_n E d_Stage_watch_8 rfl rfl ?_
  refine gf_Stage_content E wd_488 d_Stage_watch_9 ?_
  refine pv_callS E (fun adr => k_Fn_thrownFor l D ca A _ _ _ _ adr) ys_Fn_thrownFor wd_175 rfl rfl ⟨by decide, by decide⟩ (Nat.le_of_ble_eq_true rfl) d_Stage_watch_12 ⟨by decide, by decide⟩ (fun r12 σ12 hq12 => ?_)
  obtain ⟨rfl, rfl⟩ := hq12
  refine pv_istore_n E d_Stage_watch_15 rfl (by decide) ?_
  refine pv_aload_n E d_Stage_watch_16 rfl rfl ?_
  refine gf_Stage_state E wd_484 d_Stage_watch_17 ?_
  refine pv_iconst (v := 1) E d_Stage_watch_20 (by decide) ?_
  refine pv_icmp_ne (tgt := 37) E d_Stage_watch_21 rfl (fun h21 => ?_) (fun h21 => ?_)
  · skip
    refine pv_aload_n E d_Stage_watch_37 rfl rfl ?_
    refine pv_aload_n E d_Stage_watch_38 rfl rfl ?_
    refine pv_callV E (fun adr => k_Stage_follow l D ca A _ _ _ adr) yv_Stage_follow wd_182 rfl rfl (fun _ => ⟨_, rfl⟩) rfl ⟨by decide, by decide⟩ (Nat.le_of_ble_eq_true rfl) d_Stage_watch_39 ⟨by decide, by decide⟩ (fun r39 σ39 hq39 => ?_)
    obtain ⟨rfl, rfl⟩ := hq39
    exact pv_vret E hr hlk d_Stage_watch_42 (by decide) (by decide) ⟨rfl, by simp [st_watch, h21]⟩
  · skip
    refine pv_iload_n E d_Stage_watch_24 rfl rfl ?_
    refine pv_if_eq (tgt := 37) E d_Stage_watch_25 rfl (fun h25 => ?_) (fun h25 => ?_)
    · skip
      refine pv_aload_n E d_Stage_watch_37 rfl rfl ?_
      refine pv_aload_n E d_Stage_watch_38 rfl rfl ?_
      refine pv_callV E (fun adr => k_Stage_follow l D ca A _ _ _ adr) yv_Stage_follow wd_182 rfl rfl (fun _ => ⟨_, rfl⟩) rfl ⟨by decide, by decide⟩ (Nat.le_of_ble_eq_true rfl) d_Stage_watch_39 ⟨by decide, by decide⟩ (fun r39 σ39 hq39 => ?_)
      obtain ⟨rfl, rfl⟩ := hq39
      exact pv_vret E hr hlk d_Stage_watch_42 (by decide) (by decide) ⟨rfl, by simp [st_watch, h21, h25]⟩
    · skip
      refine pv_aload_n E d_Stage_watch_28 rfl rfl ?_
      refine pv_iconst (v := 3) E d_Stage_watch_29 (by decide) ?_
      refine pv_iload_n E d_Stage_watch_30 rfl rfl ?_
      refine pv_callV E (fun adr => k_Stage_become l D ca A _ _ _ _ adr) yv_Stage_become wd_178 rfl rfl (fun _ => ⟨_, rfl⟩) rfl ⟨by decide, by decide⟩ (Nat.le_of_ble_eq_true rfl) d_Stage_watch_31 ⟨by decide, by decide⟩ (fun r31 σ31 hq31 => ?_)
      obtain ⟨rfl, rfl⟩ := hq31
      refine pv_goto (tgt := 42) E d_Stage_watch_34 rfl ?_
      exact pv_vret E hr hlk d_Stage_watch_42 (by decide) (by decide) ⟨rfl, by simp [st_watch, h21, h25]⟩
set_option maxHeartbeats 8000000 in
set_option maxRecDepth 100000 in
theorem k_Stage_combine (l : Launch) (D : va_G) (ca : Nat → ClassId) (A : Nat → Prop) (σ : ps_S) (k i j : Nat)  : ∀ adr, ps_M l y_Stage_combine c_Stage_combine 3 (Option.none : Option Jvm.ClassFile.FieldType) { frames := 2, cells := 0, slots := 0, locals := 44 } D ca A adr σ [ps_ref (some (3, k)), ps_ref (some (3, i)), ps_ref (some (3, j))] (fun rv σ' => rv = none ∧ σ' = st_combine σ k i j) := by
  intro adr
  refine ps_M.of (by decide +kernel) (Nat.le_of_ble_eq_true rfl) ?_
  intro p_ e_ s_ m_ args_ below_ meth_ c_ E hr hlk hnm
  refine pv_aload_n E d_Stage_combine_0 rfl rfl ?_
  refine gf_Stage_state E wd_484 d_Stage_combine_1 ?_
  refine pv_iconst (v := 1) E d_Stage_combine_4 (by decide) ?_
  refine pv_icmp_eq (tgt := 16) E d_Stage_combine_5 rfl (fun h5 => ?_) (fun h5 => ?_)
  · skip
    refine pv_aload_n E d_Stage_combine_16 rfl rfl ?_
    refine gf_Stage_state E wd_484 d_Stage_combine_17 ?_
    refine pv_iconst (v := 1) E d_Stage_combine_20 (by decide) ?_
    refine pv_icmp_eq (tgt := 32) E d_Stage_combine_21 rfl (fun h21 => ?_) (fun h21 => ?_)
    · skip
      refine pv_aload_n E d_Stage_combine_32 rfl rfl ?_
      refine pv_aload_n E d_Stage_combine_33 rfl rfl ?_
      refine gf_Stage_content E wd_488 d_Stage_combine_34 ?_
      refine pv_aload_n E d_Stage_combine_37 rfl rfl ?_
      refine gf_Stage_content E wd_488 d_Stage_combine_38 ?_
      refine pv_iadd E d_Stage_combine_41 ?_
      refine pv_callV E (fun adr => k_Stage_useFunction l D ca A _ _ _ adr) yv_Stage_useFunction wd_171 rfl rfl (fun _ => ⟨_, rfl⟩) rfl ⟨by decide, by decide⟩ (Nat.le_of_ble_eq_true rfl) d_Stage_combine_42 ⟨by decide, by decide⟩ (fun r42 σ42 hq42 => ?_)
      obtain ⟨rfl, rfl⟩ := hq42
      exact pv_vret E hr hlk d_Stage_combine_45 (by decide) (by decide) ⟨rfl, by simp [st_combine, h5, h21]⟩
    · skip
      refine pv_aload_n E d_Stage_combine_24 rfl rfl ?_
      refine pv_aload_n E d_Stage_combine_25 rfl rfl ?_
      refine pv_callV E (fun adr => k_Stage_follow l D ca A _ _ _ adr) yv_Stage_follow wd_182 rfl rfl (fun _ => ⟨_, rfl⟩) rfl ⟨by decide, by decide⟩ (Nat.le_of_ble_eq_true rfl) d_Stage_combine_26 ⟨by decide, by decide⟩ (fun r26 σ26 hq26 => ?_)
      obtain ⟨rfl, rfl⟩ := hq26
      refine pv_goto (tgt := 45) E d_Stage_combine_29 rfl ?_
      exact pv_vret E hr hlk d_Stage_combine_45 (by decide) (by decide) ⟨rfl, by simp [st_combine, h5, h21]⟩
  · skip
    refine pv_aload_n E d_Stage_combine_8 rfl rfl ?_
    refine pv_aload_n E d_Stage_combine_9 rfl rfl ?_
    refine pv_callV E (fun adr => k_Stage_follow l D ca A _ _ _ adr) yv_Stage_follow wd_182 rfl rfl (fun _ => ⟨_, rfl⟩) rfl ⟨by decide, by decide⟩ (Nat.le_of_ble_eq_true rfl) d_Stage_combine_10 ⟨by decide, by decide⟩ (fun r10 σ10 hq10 => ?_)
    obtain ⟨rfl, rfl⟩ := hq10
    refine pv_goto (tgt := 45) E d_Stage_combine_13 rfl ?_
    exact pv_vret E hr hlk d_Stage_combine_45 (by decide) (by decide) ⟨rfl, by simp [st_combine, h5]⟩
set_option maxHeartbeats 8000000 in
set_option maxRecDepth 100000 in
theorem k_Queue_length (l : Launch) (D : va_G) (ca : Nat → ClassId) (A : Nat → Prop) (σ : ps_S) (q : Nat)  : ∀ adr, ps_M l y_Queue_length c_Queue_length 1 (Option.some Jvm.ClassFile.FieldType.int) { frames := 0, cells := 0, slots := 0, locals := 0 } D ca A adr σ [ps_ref (some (2, q))] (fun rv σ' => rv = some (ps_int (ps_I σ 2 q 2)) ∧ σ' = σ) := by
  intro adr
  refine ps_M.of (by decide +kernel) (Nat.le_of_ble_eq_true rfl) ?_
  intro p_ e_ s_ m_ args_ below_ meth_ c_ E hr hlk hnm
  refine pv_aload_n E d_Queue_length_0 rfl rfl ?_
  refine gf_Queue_size E wd_43 d_Queue_length_1 ?_
  exact pv_iret E hr hlk d_Queue_length_4 (by decide) (by decide) ⟨rfl, rfl⟩
set_option maxHeartbeats 8000000 in
set_option maxRecDepth 100000 in
theorem k_Queue_append (l : Launch) (D : va_G) (ca : Nat → ClassId) (A : Nat → Prop) (σ : ps_S) (q r f n : Nat) (hr0 : ps_R σ 2 q 0 = some (4, r)) (hL : ps_L σ 4 r = 48) (hf : ps_I σ 2 q 1 = nI f) (hn : ps_I σ 2 q 2 = nI n) (hf48 : f < 48) (hn48 : n ≤ 48) (k : Nat) : ∀ adr, ps_M l y_Queue_append c_Queue_append 2 (Option.none : Option Jvm.ClassFile.FieldType) { frames := 0, cells := 0, slots := 0, locals := 0 } D ca A adr σ [ps_ref (some (2, q)), ps_ref (some (3, k))] (fun rv σ' => rv = none ∧ σ' = q_app σ q r k f n) := by
  intro adr
  refine ps_M.of (by decide +kernel) (Nat.le_of_ble_eq_true rfl) ?_
  intro p_ e_ s_ m_ args_ below_ meth_ c_ E hr hlk hnm
  refine pv_aload_n E d_Queue_append_0 rfl rfl ?_
  refine gf_Queue_size E wd_43 d_Queue_append_1 ?_
  refine pv_top (congrArg ps_int hn) ?_
  refine pv_bipush (v := 48) E d_Queue_append_4 (by decide) ?_
  refine pv_icmp_ge (tgt := 37) E d_Queue_append_6 rfl (fun h6 => ?_) (fun h6 => ?_)
  · skip
    have h6 := h6
    have hn9 : (48 : Int32) = nI 48 := by decide
    rw [hn9, nI_leI (by decide) (by omega)] at h6
    exact pv_vret E hr hlk d_Queue_append_37 (by decide) (by decide) ⟨rfl, by rw [q_app, if_neg (by omega)]⟩
  · skip
    have h6 := h6
    have hn9 : (48 : Int32) = nI 48 := by decide
    rw [hn9, nI_leI (by decide) (by omega)] at h6
    refine pv_aload_n E d_Queue_append_9 rfl rfl ?_
    refine gf_Queue_ring E wd_41 d_Queue_append_10 ?_
    refine pv_top (congrArg ps_ref hr0) ?_
    refine pv_aload_n E d_Queue_append_13 rfl rfl ?_
    refine gf_Queue_front E wd_42 d_Queue_append_14 ?_
    refine pv_top (congrArg ps_int hf) ?_
    refine pv_aload_n E d_Queue_append_17 rfl rfl ?_
    refine gf_Queue_size E wd_43 d_Queue_append_18 ?_
    refine pv_top (congrArg ps_int hn) ?_
    refine pv_iadd E d_Queue_append_21 ?_
    refine pv_bipush (v := 48) E d_Queue_append_22 (by decide) ?_
    refine pv_irem E d_Queue_append_24 (by decide) ?_
    refine pv_top (congrArg ps_int (q_ix hf48 hn48)) ?_
    refine pv_aload_n E d_Queue_append_25 rfl rfl ?_
    refine pv_aastore (t0 := 0) (ci := 3) E 4 _ 3 _ (fun _ _ _ _ _ => rfl) rfl rfl (fun _ => ⟨_, rfl⟩) (q_in hL (by omega)) d_Queue_append_26 ?_
    rw [nI_clamp (show (f + n) % 48 < 2 ^ 31 by omega)]
    refine pv_aload_n E d_Queue_append_27 rfl rfl ?_
    refine pv_dup E d_Queue_append_28 rfl ?_
    refine gf_Queue_size E wd_43 d_Queue_append_29 ?_
    refine pv_top (congrArg ps_int (show ps_I (ps_sR σ 4 r ((f + n) % 48) (some (3, k))) 2 q 2 = nI n from hn)) ?_
    refine pv_iconst (v := 1) E d_Queue_append_32 (by decide) ?_
    refine pv_iadd E d_Queue_append_33 ?_
    refine pv_top (congrArg ps_int (nI_1 n)) ?_
    refine pf_Queue_size E wd_43 d_Queue_append_34 ?_
    exact pv_vret E hr hlk d_Queue_append_37 (by decide) (by decide) ⟨rfl, by rw [q_app, if_pos (by omega)]⟩
set_option maxHeartbeats 8000000 in
set_option maxRecDepth 100000 in
theorem k_Queue_takeFront (l : Launch) (D : va_G) (ca : Nat → ClassId) (A : Nat → Prop) (σ : ps_S) (q r f n : Nat) (hr0 : ps_R σ 2 q 0 = some (4, r)) (hL : ps_L σ 4 r = 48) (hf : ps_I σ 2 q 1 = nI f) (hn : ps_I σ 2 q 2 = nI n) (hf48 : f < 48) (hn48 : n ≤ 48)  : ∀ adr, ps_M l y_Queue_takeFront c_Queue_takeFront 2 (Option.some (Jvm.ClassFile.FieldType.object "PromiseScopes$Stage")) { frames := 0, cells := 0, slots := 0, locals := 0 } D ca A adr σ [ps_ref (some (2, q))] (fun rv σ' => rv = some (ps_ref (if n = 0 then none else ps_R σ 4 r f)) ∧ σ' = q_take σ q f n) := by
  intro adr
  refine ps_M.of (by decide +kernel) (Nat.le_of_ble_eq_true rfl) ?_
  intro p_ e_ s_ m_ args_ below_ meth_ c_ E hr hlk hnm
  refine pv_aload_n E d_Queue_takeFront_0 rfl rfl ?_
  refine gf_Queue_size E wd_43 d_Queue_takeFront_1 ?_
  refine pv_top (congrArg ps_int hn) ?_
  refine pv_if_ne (tgt := 9) E d_Queue_takeFront_4 rfl (fun h4 => ?_) (fun h4 => ?_)
  · skip
    have hn0 : ¬ n = 0 := fun z => h4 (by rw [z]; exact nI_0)
    refine pv_aload_n E d_Queue_takeFront_9 rfl rfl ?_
    refine gf_Queue_ring E wd_41 d_Queue_takeFront_10 ?_
    refine pv_top (congrArg ps_ref hr0) ?_
    refine pv_aload_n E d_Queue_takeFront_13 rfl rfl ?_
    refine gf_Queue_front E wd_42 d_Queue_takeFront_14 ?_
    refine pv_top (congrArg ps_int hf) ?_
    refine pv_aaload (t0 := 0) E 4 _ (fun _ _ _ _ _ => rfl) rfl (q_in hL hf48) d_Queue_takeFront_17 ?_
    rw [nI_clamp (show f < 2 ^ 31 by omega)]
    refine pv_astore_n E d_Queue_takeFront_18 rfl (by decide) ?_
    refine pv_aload_n E d_Queue_takeFront_19 rfl rfl ?_
    refine pv_aload_n E d_Queue_takeFront_20 rfl rfl ?_
    refine gf_Queue_front E wd_42 d_Queue_takeFront_21 ?_
    refine pv_top (congrArg ps_int hf) ?_
    refine pv_iconst (v := 1) E d_Queue_takeFront_24 (by decide) ?_
    refine pv_iadd E d_Queue_takeFront_25 ?_
    refine pv_bipush (v := 48) E d_Queue_takeFront_26 (by decide) ?_
    refine pv_irem E d_Queue_takeFront_28 (by decide) ?_
    refine pv_top (congrArg ps_int (q_ix (n := 1) hf48 (by decide))) ?_
    refine pf_Queue_front E wd_42 d_Queue_takeFront_29 ?_
    refine pv_aload_n E d_Queue_takeFront_32 rfl rfl ?_
    refine pv_dup E d_Queue_takeFront_33 rfl ?_
    refine gf_Queue_size E wd_43 d_Queue_takeFront_34 ?_
    refine pv_top (congrArg ps_int (show ps_I (ps_sI σ 2 q 1 (nI ((f + 1) % 48))) 2 q 2 = nI n from q_keep hn)) ?_
    refine pv_iconst (v := 1) E d_Queue_takeFront_37 (by decide) ?_
    refine pv_isub E d_Queue_takeFront_38 ?_
    refine pv_top (congrArg ps_int (pk_sub (show 1 ≤ n by omega))) ?_
    refine pf_Queue_size E wd_43 d_Queue_takeFront_39 ?_
    refine pv_aload_n E d_Queue_takeFront_42 rfl rfl ?_
    exact pv_aret E hr (Or.inl ⟨_, rfl⟩) hlk d_Queue_takeFront_43 (by decide) (by decide) ⟨by simp [hn0], by simp [q_take, hn0]⟩
  · skip
    have hn0 : n = 0 := by
      by_cases z : n = 0
      · exact z
      · exact absurd h4 (nI_ne0 (by omega) (by omega))
    refine pv_null E d_Queue_takeFront_7 ?_
    exact pv_aret E hr (Or.inl ⟨_, rfl⟩) hlk d_Queue_takeFront_8 (by decide) (by decide) ⟨by simp [hn0], by simp [q_take, hn0]⟩
