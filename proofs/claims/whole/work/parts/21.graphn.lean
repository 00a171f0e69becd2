set_option maxHeartbeats 8000000 in
set_option maxRecDepth 100000 in
theorem k_Stage_init (l : Launch) (D : va_G) (ca : Nat → ClassId) (A : Nat → Prop) (σ : ps_S) (k : Nat) (nu kd fn a as : Int32) (r : Option (Nat × Nat)) (hb : as = 0 ∨ as = 1) : ∀ adr, ps_M l y_Stage_init c_Stage_init 7 (Option.none : Option Jvm.ClassFile.FieldType) { frames := 1, cells := 0, slots := 0, locals := 20 } D ca A adr σ [ps_ref (some (3, k)), ps_int nu, ps_int kd, ps_int fn, ps_int a, ps_int as, ps_ref r] (fun rv σ' => rv = none ∧ σ' = st_init σ k nu kd fn a as r) := by
  intro adr
  refine ps_M.of (by decide +kernel) (Nat.le_of_ble_eq_true rfl) ?_
  intro p_ e_ s_ m_ args_ below_ meth_ c_ E hr hlk hnm
  refine pv_aload_n E d_Stage_init_0 rfl rfl ?_
  refine pv_objInit E wd_470 wd_24 wd_25 (Nat.le_of_ble_eq_true rfl) (by decide) d_Stage_init_1 ?_
  refine pv_aload_n E d_Stage_init_4 rfl rfl ?_
  refine pv_iload_n E d_Stage_init_5 rfl rfl ?_
  refine pf_Stage_number E wd_472 d_Stage_init_6 hnm ?_
  refine pv_aload_n E d_Stage_init_9 rfl rfl ?_
  refine pv_iload_n E d_Stage_init_10 rfl rfl ?_
  refine pf_Stage_kind E wd_474 d_Stage_init_11 hnm ?_
  refine pv_aload_n E d_Stage_init_14 rfl rfl ?_
  refine pv_iload_n E d_Stage_init_15 rfl rfl ?_
  refine pf_Stage_function E wd_477 d_Stage_init_16 hnm ?_
  refine pv_aload_n E d_Stage_init_19 rfl rfl ?_
  refine pv_iload E d_Stage_init_20 rfl ?_
  refine pf_Stage_a E wd_479 d_Stage_init_22 hnm ?_
  refine pv_aload_n E d_Stage_init_25 rfl rfl ?_
  refine pv_iload E d_Stage_init_26 rfl ?_
  refine pf_Stage_async E wd_481 d_Stage_init_28 (hb) hnm ?_
  refine pv_aload_n E d_Stage_init_31 rfl rfl ?_
  refine pv_aload E d_Stage_init_32 rfl ?_
  refine pf_Stage_inputs E wd_482 d_Stage_init_34 hnm ?_
  refine pv_aload_n E d_Stage_init_37 rfl rfl ?_
  refine pv_iconst (v := 0) E d_Stage_init_38 (by decide) ?_
  refine pf_Stage_state E wd_484 d_Stage_init_39 ?_
  refine pv_aload_n E d_Stage_init_42 rfl rfl ?_
  refine pv_ldc (v := 1073741824) E wd_471 d_Stage_init_43 ?_
  refine pf_Stage_turn E wd_491 d_Stage_init_45 ?_
  exact pv_vret E hr hlk d_Stage_init_48 (by decide) (by decide) ⟨rfl, rfl⟩
set_option maxHeartbeats 8000000 in
set_option maxRecDepth 100000 in
theorem k_Queue_init (l : Launch) (D : va_G) (ca : Nat → ClassId) (A : Nat → Prop) (σ : ps_S) (q : Nat)  : ∀ adr, ps_M l y_Queue_init c_Queue_init 1 (Option.none : Option Jvm.ClassFile.FieldType) { frames := 1, cells := 1, slots := 48, locals := 20 } D ca A adr σ [ps_ref (some (2, q))] (fun rv σ' => rv = none ∧ σ' = q_init σ q) := by
  intro adr
  refine ps_M.of (by decide +kernel) (Nat.le_of_ble_eq_true rfl) ?_
  intro p_ e_ s_ m_ args_ below_ meth_ c_ E hr hlk hnm
  refine pv_aload_n E d_Queue_init_0 rfl rfl ?_
  refine pv_objInit E wd_39 wd_24 wd_25 (Nat.le_of_ble_eq_true rfl) (by decide) d_Queue_init_1 ?_
  refine pv_aload_n E d_Queue_init_4 rfl rfl ?_
  refine pv_bipush (v := 48) E d_Queue_init_5 (by decide) ?_
  refine pv_anew (t0 := 0) (N := 48) E 4 (by decide) (fun _ _ _ _ _ => rfl) rfl wd_40 wd_33 (by decide) (rfl) (by decide) (by decide) (by decide) d_Queue_init_7 ?_
  refine pf_Queue_ring E wd_41 d_Queue_init_10 hnm ?_
  exact pv_vret E hr hlk d_Queue_init_13 (by decide) (by decide) ⟨rfl, rfl⟩
set_option maxHeartbeats 8000000 in
set_option maxRecDepth 100000 in
theorem k_Graph_init (l : Launch) (D : va_G) (ca : Nat → ClassId) (A : Nat → Prop) (σ : ps_S)   : ∀ adr, ps_M l y_Graph_init c_Graph_init 1 (Option.none : Option Jvm.ClassFile.FieldType) { frames := 2, cells := 5, slots := 150, locals := 40 } D ca A adr σ [ps_ref (some (1, 0))] (fun rv σ' => rv = none ∧ σ' = gr_init σ) := by
  intro adr
  refine ps_M.of (by decide +kernel) (Nat.le_of_ble_eq_true rfl) ?_
  intro p_ e_ s_ m_ args_ below_ meth_ c_ E hr hlk hnm
  refine pv_aload_n E d_Graph_init_0 rfl rfl ?_
  refine pv_objInit E wd_31 wd_24 wd_25 (Nat.le_of_ble_eq_true rfl) (by decide) d_Graph_init_1 ?_
  refine pv_aload_n E d_Graph_init_4 rfl rfl ?_
  refine pv_bipush (v := 48) E d_Graph_init_5 (by decide) ?_
  refine pv_anew (t0 := 0) (N := 48) E 4 (by decide) (fun _ _ _ _ _ => rfl) rfl wd_32 wd_33 (by decide) (rfl) (by decide) (by decide) (by decide) d_Graph_init_7 ?_
  refine pf_Graph_stages E wd_51 d_Graph_init_10 hnm ?_
  refine pv_aload_n E d_Graph_init_13 rfl rfl ?_
  refine pv_new (ci := 2) (N := 3) (fs := [.null, .int 0, .int 0]) (C := "PromiseScopes$StageQueue") (T := T_Queue) E 2 (by decide) (fun _ => rfl) rfl in_Queue ty_Queue ty_Queue_ok wd_34 wd_35 wd_3 (by decide) (by decide) (by decide) d_Graph_init_14 ?_
  refine pv_dup E d_Graph_init_17 rfl ?_
  refine pv_callI E (fun adr => k_Queue_init l D ca A _ _ adr) yi_Queue_init wd_36 rfl rfl ⟨by decide, by decide⟩ (Nat.le_of_ble_eq_true rfl) d_Graph_init_18 ⟨by decide, by decide⟩ (fun r18 σ18 hq18 => ?_)
  obtain ⟨hr18, hs18⟩ := hq18
  subst r18
  subst σ18
  refine pf_Graph_line E wd_52 d_Graph_init_21 hnm ?_
  refine pv_aload_n E d_Graph_init_24 rfl rfl ?_
  refine pv_new (ci := 2) (N := 3) (fs := [.null, .int 0, .int 0]) (C := "PromiseScopes$StageQueue") (T := T_Queue) E 2 (by decide) (fun _ => rfl) rfl in_Queue ty_Queue ty_Queue_ok wd_34 wd_35 wd_3 (by decide) (by decide) (by decide) d_Graph_init_25 ?_
  refine pv_dup E d_Graph_init_28 rfl ?_
  refine pv_callI E (fun adr => k_Queue_init l D ca A _ _ adr) yi_Queue_init wd_36 rfl rfl ⟨by decide, by decide⟩ (Nat.le_of_ble_eq_true rfl) d_Graph_init_29 ⟨by decide, by decide⟩ (fun r29 σ29 hq29 => ?_)
  obtain ⟨hr29, hs29⟩ := hq29
  subst r29
  subst σ29
  refine pf_Graph_pool E wd_53 d_Graph_init_32 hnm ?_
  exact pv_vret E hr hlk d_Graph_init_35 (by decide) (by decide) ⟨rfl, rfl⟩
set_option maxHeartbeats 8000000 in
set_option maxRecDepth 100000 in
theorem k_Graph_addStage (l : Launch) (D : va_G) (ca : Nat → ClassId) (A : Nat → Prop) (σ : ps_S) (kd fn a as : Int32) (ins : List Nat) (g : gT) (hR : RC σ g) (hO : gOK g) (hn : gN g < 48) (hL : ps_L σ 4 (3 + gN g) = ins.length) (hI : ∀ j i, ins[j]? = some i → ps_R σ 4 (3 + gN g) j = some (3, i)) (hl : ins.length ≤ 48) (hi : ∀ i, i ∈ ins → i < gN g) (hkd : (kd = 9 ∨ 0 < ins.length) ∧ (kd = 5 → 1 < ins.length)) (hb : as = 0 ∨ as = 1) : ∀ adr, ps_M l y_Graph_addStage c_Graph_addStage 7 (Option.some (Jvm.ClassFile.FieldType.object "PromiseScopes$Stage")) { frames := 2, cells := 1, slots := 11, locals := 46 } D ca A adr σ [ps_ref (some (1, 0)), ps_ref (some (4, 3 + gN g)), ps_int kd, ps_int fn, ps_int a, ps_int as] (fun rv σ' => rv = some (ps_ref (some (3, gN g))) ∧ RC σ' (g_scan (g_mk g kd fn a as ins)) ∧ FrG σ σ' ∧ ps_N σ' = ps_N (ps_mk σ 3 0)) := by
  intro adr
  refine ps_M.of (by decide +kernel) (Nat.le_of_ble_eq_true rfl) ?_
  intro p_ e_ s_ m_ args_ below_ meth_ c_ E hr hlk hnm
  have hN3 : ps_N σ 3 = gN g := hR.1.2.2.2.2.2.2.2.2
  refine pv_new (ci := 3) (N := 11) (fs := [.int 0, .int 0, .int 0, .int 0, .int 0, .null, .int 0, .int 0, .int 0, .null, .int 0]) (C := "PromiseScopes$Stage") (T := T_Stage) E 3 (by decide) (fun _ => rfl) rfl in_Stage ty_Stage ty_Stage_ok wd_32 wd_466 wd_10 (by decide) (by decide) (by decide) d_Graph_addStage_0 ?_
  rw [hN3]
  refine pv_dup E d_Graph_addStage_3 rfl ?_
  refine pv_aload_n E d_Graph_addStage_4 rfl rfl ?_
  refine gf_Graph_made E wd_54 d_Graph_addStage_5 ?_
  refine pv_top (congrArg ps_int hR.1.2.2.2.1) ?_
  refine pv_iload_n E d_Graph_addStage_8 rfl rfl ?_
  refine pv_iload_n E d_Graph_addStage_9 rfl rfl ?_
  refine pv_iload E d_Graph_addStage_10 rfl ?_
  refine pv_iload E d_Graph_addStage_12 rfl ?_
  refine pv_aload_n E d_Graph_addStage_14 rfl rfl ?_
  refine pv_callI E (fun adr => k_Stage_init l D ca A _ _ _ _ _ _ _ _ hb adr) yi_Stage_init wd_467 rfl rfl ⟨by decide, by decide⟩ (Nat.le_of_ble_eq_true rfl) d_Graph_addStage_15 ⟨by decide, by decide⟩ (fun r15 σ15 hq15 => ?_)
  obtain ⟨hr15, hs15⟩ := hq15
  subst r15
  subst σ15
  refine pv_astore E d_Graph_addStage_18 (by decide) ?_
  refine pv_aload_n E d_Graph_addStage_20 rfl rfl ?_
  refine gf_Graph_stages E wd_51 d_Graph_addStage_21 ?_
  refine pv_top (congrArg ps_ref hR.1.1) ?_
  refine pv_aload_n E d_Graph_addStage_24 rfl rfl ?_
  refine gf_Graph_made E wd_54 d_Graph_addStage_25 ?_
  refine pv_top (congrArg ps_int hR.1.2.2.2.1) ?_
  refine pv_aload E d_Graph_addStage_28 rfl ?_
  refine pv_aastore (t0 := 0) (ci := 3) E 4 _ 3 _ (fun _ _ _ _ _ => rfl) rfl rfl (fun _ => ⟨_, rfl⟩) (by show vp_in _ (ps_L σ 4 0); rw [hR.1.2.2.2.2.2.1]; exact vp_in_nI hn (by decide)) d_Graph_addStage_30 ?_
  rw [nI_clamp (show gN g < 2 ^ 31 by omega)]
  refine pv_aload_n E d_Graph_addStage_31 rfl rfl ?_
  refine pv_dup E d_Graph_addStage_32 rfl ?_
  refine gf_Graph_made E wd_54 d_Graph_addStage_33 ?_
  refine pv_top (congrArg ps_int hR.1.2.2.2.1) ?_
  refine pv_iconst (v := 1) E d_Graph_addStage_36 (by decide) ?_
  refine pv_iadd E d_Graph_addStage_37 ?_
  refine pv_top (congrArg ps_int (nI_1 (gN g))) ?_
  refine pf_Graph_made E wd_54 d_Graph_addStage_38 ?_
  refine pv_aload_n E d_Graph_addStage_41 rfl rfl ?_
  refine pv_callV E (fun adr => k_Graph_queueAllThatAreAble l D ca A _ (g_mk g kd fn a as ins) (hR.mk hL hI) (hO.mk hn hl hi hkd) adr) yv_Graph_queueAllThatAreAble wd_135 rfl rfl (fun _ => ⟨_, rfl⟩) rfl ⟨by decide, by decide⟩ (Nat.le_of_ble_eq_true rfl) d_Graph_addStage_42 ⟨by decide, by decide⟩ (fun r42 σ42 hq42 => ?_)
  obtain ⟨hr42, hq42, hf42, hn42⟩ := hq42
  subst r42
  refine pv_aload E d_Graph_addStage_45 rfl ?_
  exact pv_aret E hr (Or.inl ⟨_, rfl⟩) hlk d_Graph_addStage_47 (by decide) (by decide) ⟨rfl, hq42, FrG.add.tr hf42, hn42⟩
set_option maxHeartbeats 8000000 in
set_option maxRecDepth 100000 in
theorem k_Graph_addSource (l : Launch) (D : va_G) (ca : Nat → ClassId) (A : Nat → Prop) (σ : ps_S)  (g : gT) (hR : RC σ g) (hO : gOK g) (hN4 : ps_N σ 4 = 3 + gN g) (hn : gN g < 48) : ∀ adr, ps_M l y_Graph_addSource c_Graph_addSource 1 (Option.some (Jvm.ClassFile.FieldType.object "PromiseScopes$Stage")) { frames := 3, cells := 2, slots := 11, locals := 72 } D ca A adr σ [ps_ref (some (1, 0))] (fun rv σ' => rv = some (ps_ref (some (3, gN g))) ∧ RC σ' (g_scan (g_mk g 9 (-1) 0 0 [])) ∧ FrG σ σ' ∧ ps_N σ' = ps_N (ps_mk (ps_mk σ 4 0) 3 0)) := by
  intro adr
  refine ps_M.of (by decide +kernel) (Nat.le_of_ble_eq_true rfl) ?_
  intro p_ e_ s_ m_ args_ below_ meth_ c_ E hr hlk hnm
  refine pv_aload_n E d_Graph_addSource_0 rfl rfl ?_
  refine pv_iconst (v := 0) E d_Graph_addSource_1 (by decide) ?_
  refine pv_anew (t0 := 0) (N := 0) E 4 (by decide) (fun _ _ _ _ _ => rfl) rfl wd_32 wd_33 (by decide) (rfl) (by decide) (by decide) (by decide) d_Graph_addSource_2 ?_
  rw [hN4]
  refine pv_bipush (v := 9) E d_Graph_addSource_5 (by decide) ?_
  refine pv_iconst (v := -1) E d_Graph_addSource_7 (by decide) ?_
  refine pv_iconst (v := 0) E d_Graph_addSource_8 (by decide) ?_
  refine pv_iconst (v := 0) E d_Graph_addSource_9 (by decide) ?_
  refine pv_callV E (fun adr => k_Graph_addStage l D ca A _ 9 (-1) 0 0 [] g (hR.same (sameG.arr hN4)) hO hn (by rw [← hN4]; exact mk_L1 σ 4 0) (fun j i z => by cases z) (by decide) (fun i z => by cases z) ⟨Or.inl rfl, fun z => absurd z (by decide)⟩ (Or.inl rfl) adr) yv_Graph_addStage wd_462 rfl rfl (fun _ => ⟨_, rfl⟩) rfl ⟨by decide, by decide⟩ (Nat.le_of_ble_eq_true rfl) d_Graph_addSource_10 ⟨by decide, by decide⟩ (fun r10 σ10 hq10 => ?_)
  obtain ⟨hr10, hq10, hf10, hn10⟩ := hq10
  subst r10
  exact pv_aret E hr (Or.inl ⟨_, rfl⟩) hlk d_Graph_addSource_13 (by decide) (by decide) ⟨rfl, hq10, (FrG.mk (by decide)).tr hf10, hn10⟩
set_option maxHeartbeats 8000000 in
set_option maxRecDepth 100000 in
theorem k_Graph_inputsOf (l : Launch) (D : va_G) (ca : Nat → ClassId) (A : Nat → Prop) (σ : ps_S) (s : Int32) (g : gT) (hR : RC σ g) (hO : gOK g) (hN4 : ps_N σ 4 = 3 + gN g) (hc : ¬ s < 0 ∧ s.toNatClampNeg < gN g) : ∀ adr, ps_M l y_Graph_inputsOf c_Graph_inputsOf 3 (Option.some (Jvm.ClassFile.FieldType.array (Jvm.ClassFile.FieldType.object "PromiseScopes$Stage"))) { frames := 0, cells := 1, slots := 1, locals := 0 } D ca A adr σ [ps_ref (some (1, 0)), ps_int s] (fun rv σ' => rv = some (ps_ref (some (4, 3 + gN g))) ∧ σ' = ps_sR (ps_mk σ 4 1) 4 (3 + gN g) 0 (some (3, s.toNatClampNeg))) := by
  intro adr
  refine ps_M.of (by decide +kernel) (Nat.le_of_ble_eq_true rfl) ?_
  intro p_ e_ s_ m_ args_ below_ meth_ c_ E hr hlk hnm
  refine pv_iconst (v := 1) E d_Graph_inputsOf_0 (by decide) ?_
  refine pv_anew (t0 := 0) (N := 1) E 4 (by decide) (fun _ _ _ _ _ => rfl) rfl wd_32 wd_33 (by decide) (rfl) (by decide) (by decide) (by decide) d_Graph_inputsOf_1 ?_
  rw [hN4]
  refine pv_astore_n E d_Graph_inputsOf_4 rfl (by decide) ?_
  refine pv_aload_n E d_Graph_inputsOf_5 rfl rfl ?_
  refine pv_iconst (v := 0) E d_Graph_inputsOf_6 (by decide) ?_
  refine pv_aload_n E d_Graph_inputsOf_7 rfl rfl ?_
  refine gf_Graph_stages E wd_51 d_Graph_inputsOf_8 ?_
  refine pv_top (congrArg ps_ref hR.1.1) ?_
  refine pv_iload_n E d_Graph_inputsOf_11 rfl rfl ?_
  refine pv_aaload (t0 := 0) E 4 _ (fun _ _ _ _ _ => rfl) rfl (by show vp_in _ (ps_L (ps_mk σ 4 1) 4 0); rw [mk_L σ (by rw [hN4]; omega), hR.1.2.2.2.2.2.1]; exact fun z => z.elim hc.1 (fun z => by have := hc.2; have := hO.1.1; omega)) d_Graph_inputsOf_12 ?_
  refine pv_top (congrArg ps_ref ((congrFun (mk_R σ (by rw [hN4]; omega)) _).trans (hR.2.1 _ hc.2).1.1)) ?_
  refine pv_aastore (t0 := 0) (ci := 3) E 4 _ 3 _ (fun _ _ _ _ _ => rfl) rfl rfl (fun _ => ⟨_, rfl⟩) (by rw [← hN4, mk_L1]; exact vp_in_nI (n := 0) (by decide) (by decide)) d_Graph_inputsOf_13 ?_
  rw [show (0 : Int32).toNatClampNeg = 0 from rfl]
  refine pv_aload_n E d_Graph_inputsOf_14 rfl rfl ?_
  exact pv_aret E hr (Or.inr ⟨_, rfl⟩) hlk d_Graph_inputsOf_15 (by decide) (by decide) ⟨rfl, rfl⟩
set_option maxHeartbeats 8000000 in
set_option maxRecDepth 100000 in
theorem k_Graph_inputsOf2 (l : Launch) (D : va_G) (ca : Nat → ClassId) (A : Nat → Prop) (σ : ps_S) (s t : Int32) (g : gT) (hR : RC σ g) (hO : gOK g) (hN4 : ps_N σ 4 = 3 + gN g) (hc : ¬ s < 0 ∧ s.toNatClampNeg < gN g) (hd : ¬ t < 0 ∧ t.toNatClampNeg < gN g) : ∀ adr, ps_M l y_Graph_inputsOf2 c_Graph_inputsOf2 4 (Option.some (Jvm.ClassFile.FieldType.array (Jvm.ClassFile.FieldType.object "PromiseScopes$Stage"))) { frames := 0, cells := 1, slots := 2, locals := 0 } D ca A adr σ [ps_ref (some (1, 0)), ps_int s, ps_int t] (fun rv σ' => rv = some (ps_ref (some (4, 3 + gN g))) ∧ σ' = ps_sR (ps_sR (ps_mk σ 4 2) 4 (3 + gN g) 0 (some (3, s.toNatClampNeg))) 4 (3 + gN g) 1 (some (3, t.toNatClampNeg))) := by
  intro adr
  refine ps_M.of (by decide +kernel) (Nat.le_of_ble_eq_true rfl) ?_
  intro p_ e_ s_ m_ args_ below_ meth_ c_ E hr hlk hnm
  refine pv_iconst (v := 2) E d_Graph_inputsOf2_0 (by decide) ?_
  refine pv_anew (t0 := 0) (N := 2) E 4 (by decide) (fun _ _ _ _ _ => rfl) rfl wd_32 wd_33 (by decide) (rfl) (by decide) (by decide) (by decide) d_Graph_inputsOf2_1 ?_
  rw [hN4]
  refine pv_astore_n E d_Graph_inputsOf2_4 rfl (by decide) ?_
  refine pv_aload_n E d_Graph_inputsOf2_5 rfl rfl ?_
  refine pv_iconst (v := 0) E d_Graph_inputsOf2_6 (by decide) ?_
  refine pv_aload_n E d_Graph_inputsOf2_7 rfl rfl ?_
  refine gf_Graph_stages E wd_51 d_Graph_inputsOf2_8 ?_
  refine pv_top (congrArg ps_ref hR.1.1) ?_
  refine pv_iload_n E d_Graph_inputsOf2_11 rfl rfl ?_
  refine pv_aaload (t0 := 0) E 4 _ (fun _ _ _ _ _ => rfl) rfl (by show vp_in _ (ps_L (ps_mk σ 4 2) 4 0); rw [mk_L σ (by rw [hN4]; omega), hR.1.2.2.2.2.2.1]; exact fun z => z.elim hc.1 (fun z => by have := hc.2; have := hO.1.1; omega)) d_Graph_inputsOf2_12 ?_
  refine pv_top (congrArg ps_ref ((congrFun (mk_R σ (by rw [hN4]; omega)) _).trans (hR.2.1 _ hc.2).1.1)) ?_
  refine pv_aastore (t0 := 0) (ci := 3) E 4 _ 3 _ (fun _ _ _ _ _ => rfl) rfl rfl (fun _ => ⟨_, rfl⟩) (by rw [← hN4, mk_L1]; exact vp_in_nI (n := 0) (by decide) (by decide)) d_Graph_inputsOf2_13 ?_
  rw [show (0 : Int32).toNatClampNeg = 0 from rfl]
  refine pv_aload_n E d_Graph_inputsOf2_14 rfl rfl ?_
  refine pv_iconst (v := 1) E d_Graph_inputsOf2_15 (by decide) ?_
  refine pv_aload_n E d_Graph_inputsOf2_16 rfl rfl ?_
  refine gf_Graph_stages E wd_51 d_Graph_inputsOf2_17 ?_
  refine pv_top (congrArg ps_ref hR.1.1) ?_
  refine pv_iload_n E d_Graph_inputsOf2_20 rfl rfl ?_
  refine pv_aaload (t0 := 0) E 4 _ (fun _ _ _ _ _ => rfl) rfl (by show vp_in _ (ps_L (ps_mk σ 4 2) 4 0); rw [mk_L σ (by rw [hN4]; omega), hR.1.2.2.2.2.2.1]; exact fun z => z.elim hd.1 (fun z => by have := hd.2; have := hO.1.1; omega)) d_Graph_inputsOf2_21 ?_
  refine pv_top (congrArg ps_ref ((ps_R_ne _ _ (show (0 : Nat) ≠ 3 + gN g by omega)).trans ((congrFun (mk_R σ (by rw [hN4]; omega)) _).trans (hR.2.1 _ hd.2).1.1))) ?_
  refine pv_aastore (t0 := 0) (ci := 3) E 4 _ 3 _ (fun _ _ _ _ _ => rfl) rfl rfl (fun _ => ⟨_, rfl⟩) (by show vp_in _ (ps_L (ps_mk σ 4 2) 4 (3 + gN g)); rw [← hN4, mk_L1]; exact vp_in_nI (n := 1) (by decide) (by decide)) d_Graph_inputsOf2_22 ?_
  rw [show (1 : Int32).toNatClampNeg = 1 from rfl]
  refine pv_aload_n E d_Graph_inputsOf2_23 rfl rfl ?_
  exact pv_aret E hr (Or.inr ⟨_, rfl⟩) hlk d_Graph_inputsOf2_24 (by decide) (by decide) ⟨rfl, rfl⟩
set_option maxHeartbeats 8000000 in
set_option maxRecDepth 100000 in
theorem k_Graph_hasAll (l : Launch) (D : va_G) (ca : Nat → ClassId) (A : Nat → Prop) (σ : ps_S) (set : Int64) (g : gT) (hR : RC σ g) : ∀ adr, ps_M l y_Graph_hasAll c_Graph_hasAll 3 (Option.some Jvm.ClassFile.FieldType.boolean) { frames := 0, cells := 0, slots := 0, locals := 0 } D ca A adr σ [ps_ref (some (1, 0)), ps_lng set] (fun rv σ' => rv = some (ps_int (g_hasAll g set)) ∧ σ' = σ) := by
  intro adr
  refine ps_M.of (by decide +kernel) (Nat.le_of_ble_eq_true rfl) ?_
  intro p_ e_ s_ m_ args_ below_ meth_ c_ E hr hlk hnm
  refine pv_lload_n E d_Graph_hasAll_0 rfl rfl ?_
  refine pv_lconst (v := 0) E d_Graph_hasAll_1 (by decide) ?_
  refine pv_lcmp E d_Graph_hasAll_2 ?_
  refine pv_if_eq (tgt := 21) E d_Graph_hasAll_3 rfl (fun h3 => ?_) (fun h3 => ?_)
  · skip
    refine pv_iconst (v := 0) E d_Graph_hasAll_21 (by decide) ?_
    exact pv_zret E hr hlk d_Graph_hasAll_22 (by first | rfl | (apply ps_zb; assumption)) (by decide) (by decide) ⟨by simp only [g_hasAll, l_sh, h3, if_true, if_false], rfl⟩
  · skip
    refine pv_lload_n E d_Graph_hasAll_6 rfl rfl ?_
    refine pv_aload_n E d_Graph_hasAll_7 rfl rfl ?_
    refine gf_Graph_made E wd_54 d_Graph_hasAll_8 ?_
    refine pv_top (congrArg ps_int hR.1.2.2.2.1) ?_
    refine pv_lushr E d_Graph_hasAll_11 ?_
    refine pv_lconst (v := 0) E d_Graph_hasAll_12 (by decide) ?_
    refine pv_lcmp E d_Graph_hasAll_13 ?_
    refine pv_if_ne (tgt := 21) E d_Graph_hasAll_14 rfl (fun h14 => ?_) (fun h14 => ?_)
    · skip
      refine pv_iconst (v := 0) E d_Graph_hasAll_21 (by decide) ?_
      exact pv_zret E hr hlk d_Graph_hasAll_22 (by first | rfl | (apply ps_zb; assumption)) (by decide) (by decide) ⟨by simp only [g_hasAll, l_sh, h3, h14, if_true, if_false], rfl⟩
    · skip
      refine pv_iconst (v := 1) E d_Graph_hasAll_17 (by decide) ?_
      refine pv_goto (tgt := 22) E d_Graph_hasAll_18 rfl ?_
      exact pv_zret E hr hlk d_Graph_hasAll_22 (by first | rfl | (apply ps_zb; assumption)) (by decide) (by decide) ⟨by simp only [g_hasAll, l_sh, h3, h14, if_true, if_false], rfl⟩
set_option maxHeartbeats 8000000 in
set_option maxRecDepth 100000 in
theorem k_Queue_placeOf (l : Launch) (D : va_G) (ca : Nat → ClassId) (A : Nat → Prop) (σ : ps_S) (q r f n : Nat) (hr0 : ps_R σ 2 q 0 = some (4, r)) (hL : ps_L σ 4 r = 48) (hf : ps_I σ 2 q 1 = nI f) (hn : ps_I σ 2 q 2 = nI n) (hf48 : f < 48) (hn48 : n ≤ 48) (k : Nat) : ∀ adr, ps_M l y_Queue_placeOf c_Queue_placeOf 3 (Option.some Jvm.ClassFile.FieldType.int) { frames := 0, cells := 0, slots := 0, locals := 0 } D ca A adr σ [ps_ref (some (2, q)), ps_ref (some (3, k))] (fun rv σ' => rv = some (ps_int (q_place σ r k f n 0)) ∧ σ' = σ) := by
  intro adr
  refine ps_M.of (by decide +kernel) (Nat.le_of_ble_eq_true rfl) ?_
  intro p_ e_ s_ m_ args_ below_ meth_ c_ E hr hlk hnm
  refine pv_iconst (v := 0) E d_Queue_placeOf_0 (by decide) ?_
  refine pv_istore_n E d_Queue_placeOf_1 rfl (by decide) ?_
  refine pv_sub (L' := [(0, ps_ref (some (2, q))), (1, ps_ref (some (3, k))), (2, ps_int (nI 0))]) ⟨rfl, rfl, rfl, trivial⟩ ?_
  refine pv_loop (ι := Nat) (fun i => n - i) (fun i => [(0, ps_ref (some (2, q))), (1, ps_ref (some (3, k))), (2, ps_int (nI i))]) (fun _ => σ) (fun i => i ≤ n ∧ q_place σ r k f n 0 = q_place σ r k f (n - i) i) (fun i hx ih => ?_) 0 ⟨Nat.zero_le _, rfl⟩
  obtain ⟨hi, hp⟩ := hx
  dsimp only at ih ⊢
  refine pv_iload_n E d_Queue_placeOf_2 rfl rfl ?_
  refine pv_aload_n E d_Queue_placeOf_3 rfl rfl ?_
  refine gf_Queue_size E wd_43 d_Queue_placeOf_4 ?_
  refine pv_top (congrArg ps_int hn) ?_
  refine pv_icmp_ge (tgt := 36) E d_Queue_placeOf_7 rfl (fun h7 => ?_) (fun h7 => ?_)
  · skip
    have hi2 : n ≤ i := (nI_leI (by omega) (by omega)).mp h7
    refine pv_iconst (v := -1) E d_Queue_placeOf_36 (by decide) ?_
    exact pv_iret E hr hlk d_Queue_placeOf_37 (by decide) (by decide) ⟨by rw [hp, show n - i = 0 by omega, q_place], rfl⟩
  · skip
    have hi2 : i < n := Nat.lt_of_not_le (fun z => h7 ((nI_leI (by omega) (by omega)).mpr z))
    refine pv_aload_n E d_Queue_placeOf_10 rfl rfl ?_
    refine gf_Queue_ring E wd_41 d_Queue_placeOf_11 ?_
    refine pv_top (congrArg ps_ref hr0) ?_
    refine pv_aload_n E d_Queue_placeOf_14 rfl rfl ?_
    refine gf_Queue_front E wd_42 d_Queue_placeOf_15 ?_
    refine pv_top (congrArg ps_int hf) ?_
    refine pv_iload_n E d_Queue_placeOf_18 rfl rfl ?_
    refine pv_iadd E d_Queue_placeOf_19 ?_
    refine pv_bipush (v := 48) E d_Queue_placeOf_20 (by decide) ?_
    refine pv_irem E d_Queue_placeOf_22 (by decide) ?_
    refine pv_top (congrArg ps_int (q_ix hf48 (show i ≤ 48 by omega))) ?_
    refine pv_aaload (t0 := 0) E 4 _ (fun _ _ _ _ _ => rfl) rfl (q_in hL (by omega)) d_Queue_placeOf_23 ?_
    rw [nI_clamp (show (f + i) % 48 < 2 ^ 31 by omega)]
    refine pv_aload_n E d_Queue_placeOf_24 rfl rfl ?_
    refine pv_acmp_ne (tgt := 30) E d_Queue_placeOf_25 rfl (fun h25 => ?_) (fun h25 => ?_)
    · skip
      refine pv_inc1 E d_Queue_placeOf_30 rfl (by decide) ?_
      refine pv_goto (tgt := 2) E d_Queue_placeOf_33 rfl ?_
      exact pv_back (ih (i + 1) ⟨by omega, hp.trans (by rw [show n - i = (n - (i + 1)) + 1 by omega, q_place, if_neg h25])⟩ (by omega)) ⟨rfl, rfl, congrArg (fun z : Int32 => some (ps_int z)) (nI_1 i), trivial⟩
    · skip
      refine pv_iload_n E d_Queue_placeOf_28 rfl rfl ?_
      exact pv_iret E hr hlk d_Queue_placeOf_29 (by decide) (by decide) ⟨by rw [hp, show n - i = (n - (i + 1)) + 1 by omega, q_place, if_pos h25], rfl⟩
set_option maxHeartbeats 8000000 in
set_option maxRecDepth 100000 in
theorem k_Graph_poolSize (l : Launch) (D : va_G) (ca : Nat → ClassId) (A : Nat → Prop) (σ : ps_S)  (g : gT) (hR : RC σ g) : ∀ adr, ps_M l y_Graph_poolSize c_Graph_poolSize 1 (Option.some Jvm.ClassFile.FieldType.int) { frames := 1, cells := 0, slots := 0, locals := 20 } D ca A adr σ [ps_ref (some (1, 0))] (fun rv σ' => rv = some (ps_int (nI (gP g).length)) ∧ σ' = σ) := by
  intro adr
  refine ps_M.of (by decide +kernel) (Nat.le_of_ble_eq_true rfl) ?_
  intro p_ e_ s_ m_ args_ below_ meth_ c_ E hr hlk hnm
  refine pv_aload_n E d_Graph_poolSize_0 rfl rfl ?_
  refine gf_Graph_pool E wd_53 d_Graph_poolSize_1 ?_
  refine pv_top (congrArg ps_ref hR.1.2.2.1) ?_
  refine pv_callV E (fun adr => k_Queue_length l D ca A _ 1 adr) yv_Queue_length wd_257 rfl rfl (fun _ => ⟨_, rfl⟩) rfl ⟨by decide, by decide⟩ (Nat.le_of_ble_eq_true rfl) d_Graph_poolSize_4 ⟨by decide, by decide⟩ (fun r4 σ4 hq4 => ?_)
  obtain ⟨hr4, hs4⟩ := hq4
  subst r4
  subst σ4
  exact pv_iret E hr hlk d_Graph_poolSize_7 (by decide) (by decide) ⟨by rw [hR.2.2.2.2.2.2.1], rfl⟩
set_option maxHeartbeats 8000000 in
set_option maxRecDepth 100000 in
theorem k_Graph_placeInPool (l : Launch) (D : va_G) (ca : Nat → ClassId) (A : Nat → Prop) (σ : ps_S) (k : Nat) (g : gT) (hR : RC σ g) : ∀ adr, ps_M l y_Graph_placeInPool c_Graph_placeInPool 2 (Option.some Jvm.ClassFile.FieldType.int) { frames := 1, cells := 0, slots := 0, locals := 22 } D ca A adr σ [ps_ref (some (1, 0)), ps_ref (some (3, k))] (fun rv σ' => rv = some (ps_int (g_ix k (gP g) 0)) ∧ σ' = σ) := by
  intro adr
  refine ps_M.of (by decide +kernel) (Nat.le_of_ble_eq_true rfl) ?_
  intro p_ e_ s_ m_ args_ below_ meth_ c_ E hr hlk hnm
  obtain ⟨q1, q2, q3, q4, f0, hf0, h60, h70⟩ := hR.2.2.2
  refine pv_aload_n E d_Graph_placeInPool_0 rfl rfl ?_
  refine gf_Graph_pool E wd_53 d_Graph_placeInPool_1 ?_
  refine pv_top (congrArg ps_ref hR.1.2.2.1) ?_
  refine pv_aload_n E d_Graph_placeInPool_4 rfl rfl ?_
  refine pv_callV E (fun adr => k_Queue_placeOf l D ca A _ 1 2 f0 (gP g).length q1 q2 h60 q4 hf0 q3 k adr) yv_Queue_placeOf wd_245 rfl rfl (fun _ => ⟨_, rfl⟩) rfl ⟨by decide, by decide⟩ (Nat.le_of_ble_eq_true rfl) d_Graph_placeInPool_5 ⟨by decide, by decide⟩ (fun r5 σ5 hq5 => ?_)
  obtain ⟨hr5, hs5⟩ := hq5
  subst r5
  subst σ5
  exact pv_iret E hr hlk d_Graph_placeInPool_8 (by decide) (by decide) ⟨by rw [q_place_ix (gP g) 0 (fun j z hj => by rw [Nat.zero_add]; exact h70 j z hj)], rfl⟩
