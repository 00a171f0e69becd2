set_option maxRecDepth 20000 in
theorem wx_380 : (Jvm.Cond.codeWith ({ cls := "PromiseScopesLaw", name := "source", desc := "(LPromiseScopes;[J)I" } : Jvm.MethodName) method_3_code (3 : Nat) (Option.some Jvm.ClassFile.FieldType.int) [((0 : Nat), (8 : Nat), (11 : Nat), (13 : Nat))]) ∈ ps_T := ps_in (List.mem_of_getElem? (i := 421) (by decide +kernel)) rfl
set_option maxRecDepth 20000 in
theorem wx_521 : (Jvm.Cond.codeWith ({ cls := "PromiseScopesLaw", name := "then", desc := "(LPromiseScopes;IIIIZ[J)I" } : Jvm.MethodName) method_4_code (8 : Nat) (Option.some Jvm.ClassFile.FieldType.int) [((0 : Nat), (16 : Nat), (19 : Nat), (19 : Nat)), ((0 : Nat), (16 : Nat), (23 : Nat), (13 : Nat))]) ∈ ps_T := ps_in (List.mem_of_getElem? (i := 562) (by decide +kernel)) rfl
set_option maxRecDepth 20000 in
theorem wx_554 : (Jvm.Cond.codeWith ({ cls := "PromiseScopesLaw", name := "both", desc := "(LPromiseScopes;IIIIIZ[J)I" } : Jvm.MethodName) method_5_code (9 : Nat) (Option.some Jvm.ClassFile.FieldType.int) [((0 : Nat), (18 : Nat), (21 : Nat), (19 : Nat)), ((0 : Nat), (18 : Nat), (25 : Nat), (13 : Nat))]) ∈ ps_T := ps_in (List.mem_of_getElem? (i := 595) (by decide +kernel)) rfl
set_option maxRecDepth 20000 in
theorem wx_565 : (Jvm.Cond.codeWith ({ cls := "PromiseScopesLaw", name := "several", desc := "(LPromiseScopes;JI[J)I" } : Jvm.MethodName) method_6_code (6 : Nat) (Option.some Jvm.ClassFile.FieldType.int) [((0 : Nat), (11 : Nat), (14 : Nat), (19 : Nat)), ((0 : Nat), (11 : Nat), (18 : Nat), (13 : Nat))]) ∈ ps_T := ps_in (List.mem_of_getElem? (i := 606) (by decide +kernel)) rfl
set_option maxRecDepth 20000 in
theorem wx_587 : (Jvm.Cond.codeWith ({ cls := "PromiseScopesLaw", name := "join", desc := "(LPromiseScopes;I[J)I" } : Jvm.MethodName) method_7_code (4 : Nat) (Option.some Jvm.ClassFile.FieldType.int) [((0 : Nat), (9 : Nat), (12 : Nat), (19 : Nat)), ((0 : Nat), (9 : Nat), (15 : Nat), (33 : Nat)), ((0 : Nat), (9 : Nat), (18 : Nat), (13 : Nat))]) ∈ ps_T := ps_in (List.mem_of_getElem? (i := 628) (by decide +kernel)) rfl
set_option maxRecDepth 20000 in
theorem wx_613 : (Jvm.Cond.codeWith ({ cls := "PromiseScopesLaw", name := "open", desc := "(LPromiseScopes;III[J)I" } : Jvm.MethodName) method_8_code (6 : Nat) (Option.some Jvm.ClassFile.FieldType.int) [((0 : Nat), (12 : Nat), (15 : Nat), (19 : Nat)), ((0 : Nat), (12 : Nat), (19 : Nat), (13 : Nat))]) ∈ ps_T := ps_in (List.mem_of_getElem? (i := 654) (by decide +kernel)) rfl
set_option maxRecDepth 20000 in
theorem wx_684 : (Jvm.Cond.codeWith ({ cls := "PromiseScopesLaw", name := "fork", desc := "(LPromiseScopes;IIII[J)I" } : Jvm.MethodName) method_9_code (7 : Nat) (Option.some Jvm.ClassFile.FieldType.int) [((0 : Nat), (14 : Nat), (17 : Nat), (19 : Nat)), ((0 : Nat), (14 : Nat), (21 : Nat), (13 : Nat))]) ∈ ps_T := ps_in (List.mem_of_getElem? (i := 725) (by decide +kernel)) rfl
set_option maxRecDepth 20000 in
theorem wx_749 : (Jvm.Cond.codeWith ({ cls := "PromiseScopesLaw", name := "bound", desc := "(LPromiseScopes;II[J)I" } : Jvm.MethodName) method_10_code (5 : Nat) (Option.some Jvm.ClassFile.FieldType.int) [((0 : Nat), (10 : Nat), (13 : Nat), (19 : Nat))]) ∈ ps_T := ps_in (List.mem_of_getElem? (i := 790) (by decide +kernel)) rfl
set_option maxHeartbeats 8000000 in
set_option maxRecDepth 100000 in
theorem k_Law_source_0 (l : Launch) (htr : l.stackTraces = false) (D : va_G) (ca : Nat → ClassId) (A : Nat → Prop) (σ : ps_S)  (t : tT) (g : gT) (hP : RP σ t g) (hC : cOK t g) (hn : gN g < 48) (hl12 : ps_L σ 12 0 = 1) : ∀ adr, ps_MW l y_Law_source c_Law_source 3 (Option.some Jvm.ClassFile.FieldType.int) [((0 : Nat), (8 : Nat), (11 : Nat), (13 : Nat))] { frames := 7, cells := 2, slots := 11, locals := 112 } D ca A adr σ [ps_ref (some (0, 0)), ps_ref (some (12, 0))] (fun rv σ' => rv = some (ps_int 0) ∧ ∃ σ1, RP σ1 (t) (g_new g 9 (-1) 0 0 []) ∧ FrC σ σ1 ∧ σ' = ps_sJ σ1 12 0 0 (Int32.toInt64 (nI (gN g)))) := by
  intro adr
  refine ps_MW.of (by decide +kernel) (Nat.le_of_ble_eq_true rfl) ?_
  intro p_ e_ s_ m_ args_ below_ meth_ c_ E hr hlk htab hZ hYs
  refine pv_aload_n E d_Law_source_0 rfl rfl ?_
  refine pv_iconst (v := 0) E d_Law_source_1 (by decide) ?_
  refine pv_aload_n E d_Law_source_2 rfl rfl ?_
  refine pv_callV E (fun adr => k_Ps_source_0 l D ca A _  t g hP hC hn adr) yv_Ps_source wd_382 rfl rfl (fun _ => ⟨_, rfl⟩) rfl ⟨by decide, by decide⟩ (Nat.le_of_ble_eq_true rfl) d_Law_source_3 ⟨by decide, by decide⟩ (fun r3 σ3 hq3 => ?_)
  obtain ⟨hr3, hP3, hf3⟩ := hq3
  subst r3
  refine pv_i2l E d_Law_source_6 ?_
  refine pv_lastore (t0 := 5) E 12 _ (fun _ _ _ _ _ => rfl) rfl (l12_in (hf3.l12 hl12)) d_Law_source_7 ?_
  refine pv_goto (tgt := 14) E d_Law_source_8 rfl ?_
  refine pv_iconst (v := 0) E d_Law_source_14 (by decide) ?_
  exact pv_iret E hr hlk d_Law_source_15 (by decide) (by decide) ⟨rfl, _, hP3, hf3, rfl⟩
set_option maxHeartbeats 8000000 in
set_option maxRecDepth 100000 in
theorem k_Law_source_S (l : Launch) (htr : l.stackTraces = false) (D : va_G) (ca : Nat → ClassId) (A : Nat → Prop) (σ : ps_S)  (t : tT) (g : gT) (hP : RP σ t g) (hC : cOK t g) (hn : ¬ gN g < 48) : ∀ adr, ps_MW l y_Law_source c_Law_source 3 (Option.some Jvm.ClassFile.FieldType.int) [((0 : Nat), (8 : Nat), (11 : Nat), (13 : Nat))] { frames := 7, cells := 2, slots := 11, locals := 112 } D ca A adr σ [ps_ref (some (0, 0)), ps_ref (some (12, 0))] (fun rv σ' => rv = some (ps_int 1) ∧ σ' = σ) := by
  intro adr
  refine ps_MW.of (by decide +kernel) (Nat.le_of_ble_eq_true rfl) ?_
  intro p_ e_ s_ m_ args_ below_ meth_ c_ E hr hlk htab hZ hYs
  refine pv_aload_n E d_Law_source_0 rfl rfl ?_
  refine pv_iconst (v := 0) E d_Law_source_1 (by decide) ?_
  refine pv_aload_n E d_Law_source_2 rfl rfl ?_
  refine pv_callVT E rfl hZ (X := "java/lang/IllegalStateException") (nm := "java/lang/IllegalStateException") (hp := []) (q := ((0 : Nat), (8 : Nat), (11 : Nat), (13 : Nat))) (hr := []) (fun adr => k_Ps_source_S l htr D ca A _  t g hP hC hn adr) yv_Ps_source wd_382 rfl rfl (fun _ => ⟨_, rfl⟩) rfl ⟨by decide, by decide⟩ (Nat.le_of_ble_eq_true rfl) d_Law_source_3 ⟨by decide, by decide⟩ htab (fun z hz => (by cases hz)) ⟨by decide, by decide⟩ (by decide) wd_381 (hZ _ args_ (State.WarmedH.refl s_) (Nat.le_refl _) (fun _ _ _ => rfl) _ zx_0) (fun xa => ?_)
  refine pv_astoreR_n E d_Law_source_11 rfl (by decide) ?_
  refine pv_iconst (v := 1) E d_Law_source_12 (by decide) ?_
  exact pv_iret E hr hlk d_Law_source_13 (by decide) (by decide) ⟨rfl, rfl⟩
set_option maxHeartbeats 8000000 in
set_option maxRecDepth 100000 in
theorem k_Law_then_0 (l : Launch) (htr : l.stackTraces = false) (D : va_G) (ca : Nat → ClassId) (A : Nat → Prop) (σ : ps_S) (s k f a as : Int32) (t : tT) (g : gT) (hP : RP σ t g) (hC : cOK t g) (hb : a_then g s k f) (hn : gN g < 48) (has : as = 0 ∨ as = 1) (hl12 : ps_L σ 12 0 = 1) : ∀ adr, ps_MW l y_Law_then c_Law_then 8 (Option.some Jvm.ClassFile.FieldType.int) [((0 : Nat), (16 : Nat), (19 : Nat), (19 : Nat)), ((0 : Nat), (16 : Nat), (23 : Nat), (13 : Nat))] { frames := 7, cells := 2, slots := 12, locals := 157 } D ca A adr σ [ps_ref (some (0, 0)), ps_int s, ps_int k, ps_int f, ps_int a, ps_int as, ps_ref (some (12, 0))] (fun rv σ' => rv = some (ps_int 0) ∧ ∃ σ1, RP σ1 (t) (g_work 96 (g_new g k f a as [s.toNatClampNeg])) ∧ FrC σ σ1 ∧ σ' = ps_sJ σ1 12 0 0 (Int32.toInt64 (nI (gN g)))) := by
  intro adr
  refine ps_MW.of (by decide +kernel) (Nat.le_of_ble_eq_true rfl) ?_
  intro p_ e_ s_ m_ args_ below_ meth_ c_ E hr hlk htab hZ hYs
  refine pv_aload E d_Law_then_0 rfl ?_
  refine pv_iconst (v := 0) E d_Law_then_2 (by decide) ?_
  refine pv_aload_n E d_Law_then_3 rfl rfl ?_
  refine pv_iload_n E d_Law_then_4 rfl rfl ?_
  refine pv_iload_n E d_Law_then_5 rfl rfl ?_
  refine pv_iload_n E d_Law_then_6 rfl rfl ?_
  refine pv_iload E d_Law_then_7 rfl ?_
  refine pv_iload E d_Law_then_9 rfl ?_
  refine pv_callV E (fun adr => k_Ps_then_0 l D ca A _ s k f a as t g hP hC hb hn has adr) yv_Ps_then wd_523 rfl rfl (fun _ => ⟨_, rfl⟩) rfl ⟨by decide, by decide⟩ (Nat.le_of_ble_eq_true rfl) d_Law_then_11 ⟨by decide, by decide⟩ (fun r11 σ11 hq11 => ?_)
  obtain ⟨hr11, hP11, hf11⟩ := hq11
  subst r11
  refine pv_i2l E d_Law_then_14 ?_
  refine pv_lastore (t0 := 5) E 12 _ (fun _ _ _ _ _ => rfl) rfl (l12_in (hf11.l12 hl12)) d_Law_then_15 ?_
  refine pv_goto (tgt := 27) E d_Law_then_16 rfl ?_
  refine pv_iconst (v := 0) E d_Law_then_27 (by decide) ?_
  exact pv_iret E hr hlk d_Law_then_28 (by decide) (by decide) ⟨rfl, _, hP11, hf11, rfl⟩
set_option maxHeartbeats 8000000 in
set_option maxRecDepth 100000 in
theorem k_Law_then_A (l : Launch) (htr : l.stackTraces = false) (D : va_G) (ca : Nat → ClassId) (A : Nat → Prop) (σ : ps_S) (s k f a as : Int32) (t : tT) (g : gT) (hP : RP σ t g) (hC : cOK t g) (hb : ¬ a_then g s k f) : ∀ adr, ps_MW l y_Law_then c_Law_then 8 (Option.some Jvm.ClassFile.FieldType.int) [((0 : Nat), (16 : Nat), (19 : Nat), (19 : Nat)), ((0 : Nat), (16 : Nat), (23 : Nat), (13 : Nat))] { frames := 7, cells := 2, slots := 12, locals := 157 } D ca A adr σ [ps_ref (some (0, 0)), ps_int s, ps_int k, ps_int f, ps_int a, ps_int as, ps_ref (some (12, 0))] (fun rv σ' => rv = some (ps_int 1) ∧ σ' = σ) := by
  intro adr
  refine ps_MW.of (by decide +kernel) (Nat.le_of_ble_eq_true rfl) ?_
  intro p_ e_ s_ m_ args_ below_ meth_ c_ E hr hlk htab hZ hYs
  refine pv_aload E d_Law_then_0 rfl ?_
  refine pv_iconst (v := 0) E d_Law_then_2 (by decide) ?_
  refine pv_aload_n E d_Law_then_3 rfl rfl ?_
  refine pv_iload_n E d_Law_then_4 rfl rfl ?_
  refine pv_iload_n E d_Law_then_5 rfl rfl ?_
  refine pv_iload_n E d_Law_then_6 rfl rfl ?_
  refine pv_iload E d_Law_then_7 rfl ?_
  refine pv_iload E d_Law_then_9 rfl ?_
  refine pv_callVT E rfl hZ (X := "java/lang/IllegalArgumentException") (nm := "java/lang/IllegalArgumentException") (hp := []) (q := ((0 : Nat), (16 : Nat), (19 : Nat), (19 : Nat))) (hr := [((0 : Nat), (16 : Nat), (23 : Nat), (13 : Nat))]) (fun adr => k_Ps_then_A l htr D ca A _ s k f a as t g hP hC hb adr) yv_Ps_then wd_523 rfl rfl (fun _ => ⟨_, rfl⟩) rfl ⟨by decide, by decide⟩ (Nat.le_of_ble_eq_true rfl) d_Law_then_11 ⟨by decide, by decide⟩ htab (fun z hz => (by cases hz)) ⟨by decide, by decide⟩ (by decide) wd_522 (hZ _ args_ (State.WarmedH.refl s_) (Nat.le_refl _) (fun _ _ _ => rfl) _ zx_10) (fun xa => ?_)
  refine pv_astoreR E d_Law_then_19 (by decide) ?_
  refine pv_iconst (v := 1) E d_Law_then_21 (by decide) ?_
  exact pv_iret E hr hlk d_Law_then_22 (by decide) (by decide) ⟨rfl, rfl⟩
set_option maxHeartbeats 8000000 in
set_option maxRecDepth 100000 in
theorem k_Law_then_S (l : Launch) (htr : l.stackTraces = false) (D : va_G) (ca : Nat → ClassId) (A : Nat → Prop) (σ : ps_S) (s k f a as : Int32) (t : tT) (g : gT) (hP : RP σ t g) (hC : cOK t g) (hb : a_then g s k f) (hn : ¬ gN g < 48) : ∀ adr, ps_MW l y_Law_then c_Law_then 8 (Option.some Jvm.ClassFile.FieldType.int) [((0 : Nat), (16 : Nat), (19 : Nat), (19 : Nat)), ((0 : Nat), (16 : Nat), (23 : Nat), (13 : Nat))] { frames := 7, cells := 2, slots := 12, locals := 157 } D ca A adr σ [ps_ref (some (0, 0)), ps_int s, ps_int k, ps_int f, ps_int a, ps_int as, ps_ref (some (12, 0))] (fun rv σ' => rv = some (ps_int 2) ∧ σ' = σ) := by
  intro adr
  refine ps_MW.of (by decide +kernel) (Nat.le_of_ble_eq_true rfl) ?_
  intro p_ e_ s_ m_ args_ below_ meth_ c_ E hr hlk htab hZ hYs
  refine pv_aload E d_Law_then_0 rfl ?_
  refine pv_iconst (v := 0) E d_Law_then_2 (by decide) ?_
  refine pv_aload_n E d_Law_then_3 rfl rfl ?_
  refine pv_iload_n E d_Law_then_4 rfl rfl ?_
  refine pv_iload_n E d_Law_then_5 rfl rfl ?_
  refine pv_iload_n E d_Law_then_6 rfl rfl ?_
  refine pv_iload E d_Law_then_7 rfl ?_
  refine pv_iload E d_Law_then_9 rfl ?_
  refine pv_callVT E rfl hZ (X := "java/lang/IllegalStateException") (nm := "java/lang/IllegalStateException") (hp := [((0 : Nat), (16 : Nat), (19 : Nat), (19 : Nat))]) (q := ((0 : Nat), (16 : Nat), (23 : Nat), (13 : Nat))) (hr := []) (fun adr => k_Ps_then_S l htr D ca A _ s k f a as t g hP hC hb hn adr) yv_Ps_then wd_523 rfl rfl (fun _ => ⟨_, rfl⟩) rfl ⟨by decide, by decide⟩ (Nat.le_of_ble_eq_true rfl) d_Law_then_11 ⟨by decide, by decide⟩ htab (List.forall_mem_cons.mpr ⟨⟨by decide, _, wd_522, hYs s_ args_ (State.WarmedH.refl s_) _ (List.mem_of_getElem? (i := 0) rfl)⟩, fun z hz => (by cases hz)⟩) ⟨by decide, by decide⟩ (by decide) wd_381 (hZ _ args_ (State.WarmedH.refl s_) (Nat.le_refl _) (fun _ _ _ => rfl) _ zx_0) (fun xa => ?_)
  refine pv_astoreR E d_Law_then_23 (by decide) ?_
  refine pv_iconst (v := 2) E d_Law_then_25 (by decide) ?_
  exact pv_iret E hr hlk d_Law_then_26 (by decide) (by decide) ⟨rfl, rfl⟩
set_option maxHeartbeats 8000000 in
set_option maxRecDepth 100000 in
theorem k_Law_both_0 (l : Launch) (htr : l.stackTraces = false) (D : va_G) (ca : Nat → ClassId) (A : Nat → Prop) (σ : ps_S) (s u k f a as : Int32) (t : tT) (g : gT) (hP : RP σ t g) (hC : cOK t g) (hb : a_both g s u k f) (hn : gN g < 48) (has : as = 0 ∨ as = 1) (hl12 : ps_L σ 12 0 = 1) : ∀ adr, ps_MW l y_Law_both c_Law_both 9 (Option.some Jvm.ClassFile.FieldType.int) [((0 : Nat), (18 : Nat), (21 : Nat), (19 : Nat)), ((0 : Nat), (18 : Nat), (25 : Nat), (13 : Nat))] { frames := 7, cells := 2, slots := 13, locals := 158 } D ca A adr σ [ps_ref (some (0, 0)), ps_int s, ps_int u, ps_int k, ps_int f, ps_int a, ps_int as, ps_ref (some (12, 0))] (fun rv σ' => rv = some (ps_int 0) ∧ ∃ σ1, RP σ1 (t) (g_work 96 (g_new g k f a as [s.toNatClampNeg, u.toNatClampNeg])) ∧ FrC σ σ1 ∧ σ' = ps_sJ σ1 12 0 0 (Int32.toInt64 (nI (gN g)))) := by
  intro adr
  refine ps_MW.of (by decide +kernel) (Nat.le_of_ble_eq_true rfl) ?_
  intro p_ e_ s_ m_ args_ below_ meth_ c_ E hr hlk htab hZ hYs
  refine pv_aload E d_Law_both_0 rfl ?_
  refine pv_iconst (v := 0) E d_Law_both_2 (by decide) ?_
  refine pv_aload_n E d_Law_both_3 rfl rfl ?_
  refine pv_iload_n E d_Law_both_4 rfl rfl ?_
  refine pv_iload_n E d_Law_both_5 rfl rfl ?_
  refine pv_iload_n E d_Law_both_6 rfl rfl ?_
  refine pv_iload E d_Law_both_7 rfl ?_
  refine pv_iload E d_Law_both_9 rfl ?_
  refine pv_iload E d_Law_both_11 rfl ?_
  refine pv_callV E (fun adr => k_Ps_both_0 l D ca A _ s u k f a as t g hP hC hb hn has adr) yv_Ps_both wd_555 rfl rfl (fun _ => ⟨_, rfl⟩) rfl ⟨by decide, by decide⟩ (Nat.le_of_ble_eq_true rfl) d_Law_both_13 ⟨by decide, by decide⟩ (fun r13 σ13 hq13 => ?_)
  obtain ⟨hr13, hP13, hf13⟩ := hq13
  subst r13
  refine pv_i2l E d_Law_both_16 ?_
  refine pv_lastore (t0 := 5) E 12 _ (fun _ _ _ _ _ => rfl) rfl (l12_in (hf13.l12 hl12)) d_Law_both_17 ?_
  refine pv_goto (tgt := 29) E d_Law_both_18 rfl ?_
  refine pv_iconst (v := 0) E d_Law_both_29 (by decide) ?_
  exact pv_iret E hr hlk d_Law_both_30 (by decide) (by decide) ⟨rfl, _, hP13, hf13, rfl⟩
set_option maxHeartbeats 8000000 in
set_option maxRecDepth 100000 in
theorem k_Law_both_A (l : Launch) (htr : l.stackTraces = false) (D : va_G) (ca : Nat → ClassId) (A : Nat → Prop) (σ : ps_S) (s u k f a as : Int32) (t : tT) (g : gT) (hP : RP σ t g) (hC : cOK t g) (hb : ¬ a_both g s u k f) : ∀ adr, ps_MW l y_Law_both c_Law_both 9 (Option.some Jvm.ClassFile.FieldType.int) [((0 : Nat), (18 : Nat), (21 : Nat), (19 : Nat)), ((0 : Nat), (18 : Nat), (25 : Nat), (13 : Nat))] { frames := 7, cells := 2, slots := 13, locals := 158 } D ca A adr σ [ps_ref (some (0, 0)), ps_int s, ps_int u, ps_int k, ps_int f, ps_int a, ps_int as, ps_ref (some (12, 0))] (fun rv σ' => rv = some (ps_int 1) ∧ σ' = σ) := by
  intro adr
  refine ps_MW.of (by decide +kernel) (Nat.le_of_ble_eq_true rfl) ?_
  intro p_ e_ s_ m_ args_ below_ meth_ c_ E hr hlk htab hZ hYs
  refine pv_aload E d_Law_both_0 rfl ?_
  refine pv_iconst (v := 0) E d_Law_both_2 (by decide) ?_
  refine pv_aload_n E d_Law_both_3 rfl rfl ?_
  refine pv_iload_n E d_Law_both_4 rfl rfl ?_
  refine pv_iload_n E d_Law_both_5 rfl rfl ?_
  refine pv_iload_n E d_Law_both_6 rfl rfl ?_
  refine pv_iload E d_Law_both_7 rfl ?_
  refine pv_iload E d_Law_both_9 rfl ?_
  refine pv_iload E d_Law_both_11 rfl ?_
  refine pv_callVT E rfl hZ (X := "java/lang/IllegalArgumentException") (nm := "java/lang/IllegalArgumentException") (hp := []) (q := ((0 : Nat), (18 : Nat), (21 : Nat), (19 : Nat))) (hr := [((0 : Nat), (18 : Nat), (25 : Nat), (13 : Nat))]) (fun adr => k_Ps_both_A l htr D ca A _ s u k f a as t g hP hC hb adr) yv_Ps_both wd_555 rfl rfl (fun _ => ⟨_, rfl⟩) rfl ⟨by decide, by decide⟩ (Nat.le_of_ble_eq_true rfl) d_Law_both_13 ⟨by decide, by decide⟩ htab (fun z hz => (by cases hz)) ⟨by decide, by decide⟩ (by decide) wd_522 (hZ _ args_ (State.WarmedH.refl s_) (Nat.le_refl _) (fun _ _ _ => rfl) _ zx_10) (fun xa => ?_)
  refine pv_astoreR E d_Law_both_21 (by decide) ?_
  refine pv_iconst (v := 1) E d_Law_both_23 (by decide) ?_
  exact pv_iret E hr hlk d_Law_both_24 (by decide) (by decide) ⟨rfl, rfl⟩
set_option maxHeartbeats 8000000 in
set_option maxRecDepth 100000 in
theorem k_Law_both_S (l : Launch) (htr : l.stackTraces = false) (D : va_G) (ca : Nat → ClassId) (A : Nat → Prop) (σ : ps_S) (s u k f a as : Int32) (t : tT) (g : gT) (hP : RP σ t g) (hC : cOK t g) (hb : a_both g s u k f) (hn : ¬ gN g < 48) : ∀ adr, ps_MW l y_Law_both c_Law_both 9 (Option.some Jvm.ClassFile.FieldType.int) [((0 : Nat), (18 : Nat), (21 : Nat), (19 : Nat)), ((0 : Nat), (18 : Nat), (25 : Nat), (13 : Nat))] { frames := 7, cells := 2, slots := 13, locals := 158 } D ca A adr σ [ps_ref (some (0, 0)), ps_int s, ps_int u, ps_int k, ps_int f, ps_int a, ps_int as, ps_ref (some (12, 0))] (fun rv σ' => rv = some (ps_int 2) ∧ σ' = σ) := by
  intro adr
  refine ps_MW.of (by decide +kernel) (Nat.le_of_ble_eq_true rfl) ?_
  intro p_ e_ s_ m_ args_ below_ meth_ c_ E hr hlk htab hZ hYs
  refine pv_aload E d_Law_both_0 rfl ?_
  refine pv_iconst (v := 0) E d_Law_both_2 (by decide) ?_
  refine pv_aload_n E d_Law_both_3 rfl rfl ?_
  refine pv_iload_n E d_Law_both_4 rfl rfl ?_
  refine pv_iload_n E d_Law_both_5 rfl rfl ?_
  refine pv_iload_n E d_Law_both_6 rfl rfl ?_
  refine pv_iload E d_Law_both_7 rfl ?_
  refine pv_iload E d_Law_both_9 rfl ?_
  refine pv_iload E d_Law_both_11 rfl ?_
  refine pv_callVT E rfl hZ (X := "java/lang/IllegalStateException") (nm := "java/lang/IllegalStateException") (hp := [((0 : Nat), (18 : Nat), (21 : Nat), (19 : Nat))]) (q := ((0 : Nat), (18 : Nat), (25 : Nat), (13 : Nat))) (hr := []) (fun adr => k_Ps_both_S l htr D ca A _ s u k f a as t g hP hC hb hn adr) yv_Ps_both wd_555 rfl rfl (fun _ => ⟨_, rfl⟩) rfl ⟨by decide, by decide⟩ (Nat.le_of_ble_eq_true rfl) d_Law_both_13 ⟨by decide, by decide⟩ htab (List.forall_mem_cons.mpr ⟨⟨by decide, _, wd_522, hYs s_ args_ (State.WarmedH.refl s_) _ (List.mem_of_getElem? (i := 0) rfl)⟩, fun z hz => (by cases hz)⟩) ⟨by decide, by decide⟩ (by decide) wd_381 (hZ _ args_ (State.WarmedH.refl s_) (Nat.le_refl _) (fun _ _ _ => rfl) _ zx_0) (fun xa => ?_)
  refine pv_astoreR E d_Law_both_25 (by decide) ?_
  refine pv_iconst (v := 2) E d_Law_both_27 (by decide) ?_
  exact pv_iret E hr hlk d_Law_both_28 (by decide) (by decide) ⟨rfl, rfl⟩
set_option maxHeartbeats 8000000 in
set_option maxRecDepth 100000 in
theorem k_Law_several_0 (l : Launch) (htr : l.stackTraces = false) (D : va_G) (ca : Nat → ClassId) (A : Nat → Prop) (σ : ps_S) (set : Int64) (k : Int32) (t : tT) (g : gT) (hP : RP σ t g) (hC : cOK t g) (hb : a_sev g set k) (hn : gN g < 48) (hl12 : ps_L σ 12 0 = 1) : ∀ adr, ps_MW l y_Law_several c_Law_several 6 (Option.some Jvm.ClassFile.FieldType.int) [((0 : Nat), (11 : Nat), (14 : Nat), (19 : Nat)), ((0 : Nat), (11 : Nat), (18 : Nat), (13 : Nat))] { frames := 7, cells := 2, slots := 59, locals := 155 } D ca A adr σ [ps_ref (some (0, 0)), ps_lng set, ps_int k, ps_ref (some (12, 0))] (fun rv σ' => rv = some (ps_int 0) ∧ ∃ σ1, RP σ1 (t) (g_work 96 (g_new g k (-1) 0 0 (l_set (l_N set) (gN g)))) ∧ FrC σ σ1 ∧ σ' = ps_sJ σ1 12 0 0 (Int32.toInt64 (nI (gN g)))) := by
  intro adr
  refine ps_MW.of (by decide +kernel) (Nat.le_of_ble_eq_true rfl) ?_
  intro p_ e_ s_ m_ args_ below_ meth_ c_ E hr hlk htab hZ hYs
  refine pv_aload E d_Law_several_0 rfl ?_
  refine pv_iconst (v := 0) E d_Law_several_2 (by decide) ?_
  refine pv_aload_n E d_Law_several_3 rfl rfl ?_
  refine pv_lload_n E d_Law_several_4 rfl rfl ?_
  refine pv_iload_n E d_Law_several_5 rfl rfl ?_
  refine pv_callV E (fun adr => k_Ps_several_0 l D ca A _ set k t g hP hC hb hn adr) yv_Ps_several wd_566 rfl rfl (fun _ => ⟨_, rfl⟩) rfl ⟨by decide, by decide⟩ (Nat.le_of_ble_eq_true rfl) d_Law_several_6 ⟨by decide, by decide⟩ (fun r6 σ6 hq6 => ?_)
  obtain ⟨hr6, hP6, hf6⟩ := hq6
  subst r6
  refine pv_i2l E d_Law_several_9 ?_
  refine pv_lastore (t0 := 5) E 12 _ (fun _ _ _ _ _ => rfl) rfl (l12_in (hf6.l12 hl12)) d_Law_several_10 ?_
  refine pv_goto (tgt := 22) E d_Law_several_11 rfl ?_
  refine pv_iconst (v := 0) E d_Law_several_22 (by decide) ?_
  exact pv_iret E hr hlk d_Law_several_23 (by decide) (by decide) ⟨rfl, _, hP6, hf6, rfl⟩
set_option maxHeartbeats 8000000 in
set_option maxRecDepth 100000 in
theorem k_Law_several_A (l : Launch) (htr : l.stackTraces = false) (D : va_G) (ca : Nat → ClassId) (A : Nat → Prop) (σ : ps_S) (set : Int64) (k : Int32) (t : tT) (g : gT) (hP : RP σ t g) (hC : cOK t g) (hb : ¬ a_sev g set k) : ∀ adr, ps_MW l y_Law_several c_Law_several 6 (Option.some Jvm.ClassFile.FieldType.int) [((0 : Nat), (11 : Nat), (14 : Nat), (19 : Nat)), ((0 : Nat), (11 : Nat), (18 : Nat), (13 : Nat))] { frames := 7, cells := 2, slots := 59, locals := 155 } D ca A adr σ [ps_ref (some (0, 0)), ps_lng set, ps_int k, ps_ref (some (12, 0))] (fun rv σ' => rv = some (ps_int 1) ∧ σ' = σ) := by
  intro adr
  refine ps_MW.of (by decide +kernel) (Nat.le_of_ble_eq_true rfl) ?_
  intro p_ e_ s_ m_ args_ below_ meth_ c_ E hr hlk htab hZ hYs
  refine pv_aload E d_Law_several_0 rfl ?_
  refine pv_iconst (v := 0) E d_Law_several_2 (by decide) ?_
  refine pv_aload_n E d_Law_several_3 rfl rfl ?_
  refine pv_lload_n E d_Law_several_4 rfl rfl ?_
  refine pv_iload_n E d_Law_several_5 rfl rfl ?_
  refine pv_callVT E rfl hZ (X := "java/lang/IllegalArgumentException") (nm := "java/lang/IllegalArgumentException") (hp := []) (q := ((0 : Nat), (11 : Nat), (14 : Nat), (19 : Nat))) (hr := [((0 : Nat), (11 : Nat), (18 : Nat), (13 : Nat))]) (fun adr => k_Ps_several_A l htr D ca A _ set k t g hP hC hb adr) yv_Ps_several wd_566 rfl rfl (fun _ => ⟨_, rfl⟩) rfl ⟨by decide, by decide⟩ (Nat.le_of_ble_eq_true rfl) d_Law_several_6 ⟨by decide, by decide⟩ htab (fun z hz => (by cases hz)) ⟨by decide, by decide⟩ (by decide) wd_522 (hZ _ args_ (State.WarmedH.refl s_) (Nat.le_refl _) (fun _ _ _ => rfl) _ zx_10) (fun xa => ?_)
  refine pv_astoreR E d_Law_several_14 (by decide) ?_
  refine pv_iconst (v := 1) E d_Law_several_16 (by decide) ?_
  exact pv_iret E hr hlk d_Law_several_17 (by decide) (by decide) ⟨rfl, rfl⟩
set_option maxHeartbeats 8000000 in
set_option maxRecDepth 100000 in
theorem k_Law_several_S (l : Launch) (htr : l.stackTraces = false) (D : va_G) (ca : Nat → ClassId) (A : Nat → Prop) (σ : ps_S) (set : Int64) (k : Int32) (t : tT) (g : gT) (hP : RP σ t g) (hC : cOK t g) (hb : a_sev g set k) (hn : ¬ gN g < 48) : ∀ adr, ps_MW l y_Law_several c_Law_several 6 (Option.some Jvm.ClassFile.FieldType.int) [((0 : Nat), (11 : Nat), (14 : Nat), (19 : Nat)), ((0 : Nat), (11 : Nat), (18 : Nat), (13 : Nat))] { frames := 7, cells := 2, slots := 59, locals := 155 } D ca A adr σ [ps_ref (some (0, 0)), ps_lng set, ps_int k, ps_ref (some (12, 0))] (fun rv σ' => rv = some (ps_int 2) ∧ σ' = σ) := by
  intro adr
  refine ps_MW.of (by decide +kernel) (Nat.le_of_ble_eq_true rfl) ?_
  intro p_ e_ s_ m_ args_ below_ meth_ c_ E hr hlk htab hZ hYs
  refine pv_aload E d_Law_several_0 rfl ?_
  refine pv_iconst (v := 0) E d_Law_several_2 (by decide) ?_
  refine pv_aload_n E d_Law_several_3 rfl rfl ?_
  refine pv_lload_n E d_Law_several_4 rfl rfl ?_
  refine pv_iload_n E d_Law_several_5 rfl rfl ?_
  refine pv_callVT E rfl hZ (X := "java/lang/IllegalStateException") (nm := "java/lang/IllegalStateException") (hp := [((0 : Nat), (11 : Nat), (14 : Nat), (19 : Nat))]) (q := ((0 : Nat), (11 : Nat), (18 : Nat), (13 : Nat))) (hr := []) (fun adr => k_Ps_several_S l htr D ca A _ set k t g hP hC hb hn adr) yv_Ps_several wd_566 rfl rfl (fun _ => ⟨_, rfl⟩) rfl ⟨by decide, by decide⟩ (Nat.le_of_ble_eq_true rfl) d_Law_several_6 ⟨by decide, by decide⟩ htab (List.forall_mem_cons.mpr ⟨⟨by decide, _, wd_522, hYs s_ args_ (State.WarmedH.refl s_) _ (List.mem_of_getElem? (i := 0) rfl)⟩, fun z hz => (by cases hz)⟩) ⟨by decide, by decide⟩ (by decide) wd_381 (hZ _ args_ (State.WarmedH.refl s_) (Nat.le_refl _) (fun _ _ _ => rfl) _ zx_0) (fun xa => ?_)
  refine pv_astoreR E d_Law_several_18 (by decide) ?_
  refine pv_iconst (v := 2) E d_Law_several_20 (by decide) ?_
  exact pv_iret E hr hlk d_Law_several_21 (by decide) (by decide) ⟨rfl, rfl⟩
set_option maxHeartbeats 8000000 in
set_option maxRecDepth 100000 in
theorem k_Law_join_0 (l : Launch) (htr : l.stackTraces = false) (D : va_G) (ca : Nat → ClassId) (A : Nat → Prop) (σ : ps_S) (s : Int32) (t : tT) (g : gT) (hP : RP σ t g) (hC : cOK t g) (hb : a_st g s) (h1 : gF g s.toNatClampNeg 0 = 1) (hl12 : ps_L σ 12 0 = 1) : ∀ adr, ps_MW l y_Law_join c_Law_join 4 (Option.some Jvm.ClassFile.FieldType.int) [((0 : Nat), (9 : Nat), (12 : Nat), (19 : Nat)), ((0 : Nat), (9 : Nat), (15 : Nat), (33 : Nat)), ((0 : Nat), (9 : Nat), (18 : Nat), (13 : Nat))] { frames := 7, cells := 1, slots := 6, locals := 104 } D ca A adr σ [ps_ref (some (0, 0)), ps_int s, ps_ref (some (12, 0))] (fun rv σ' => rv = some (ps_int 0) ∧ σ' = ps_sJ σ 12 0 0 (Int32.toInt64 (gF g s.toNatClampNeg 1))) := by
  intro adr
  refine ps_MW.of (by decide +kernel) (Nat.le_of_ble_eq_true rfl) ?_
  intro p_ e_ s_ m_ args_ below_ meth_ c_ E hr hlk htab hZ hYs
  refine pv_aload_n E d_Law_join_0 rfl rfl ?_
  refine pv_iconst (v := 0) E d_Law_join_1 (by decide) ?_
  refine pv_aload_n E d_Law_join_2 rfl rfl ?_
  refine pv_iload_n E d_Law_join_3 rfl rfl ?_
  refine pv_callV E (fun adr => k_Ps_join_0 l D ca A _ s t g hP hC hb h1 adr) yv_Ps_join wd_589 rfl rfl (fun _ => ⟨_, rfl⟩) rfl ⟨by decide, by decide⟩ (Nat.le_of_ble_eq_true rfl) d_Law_join_4 ⟨by decide, by decide⟩ (fun r4 σ4 hq4 => ?_)
  obtain ⟨hr4, hs4⟩ := hq4
  subst r4
  subst σ4
  refine pv_i2l E d_Law_join_7 ?_
  refine pv_lastore (t0 := 5) E 12 _ (fun _ _ _ _ _ => rfl) rfl (l12_in hl12) d_Law_join_8 ?_
  refine pv_goto (tgt := 21) E d_Law_join_9 rfl ?_
  refine pv_iconst (v := 0) E d_Law_join_21 (by decide) ?_
  exact pv_iret E hr hlk d_Law_join_22 (by decide) (by decide) ⟨rfl, rfl⟩
set_option maxHeartbeats 8000000 in
set_option maxRecDepth 100000 in
theorem k_Law_join_A (l : Launch) (htr : l.stackTraces = false) (D : va_G) (ca : Nat → ClassId) (A : Nat → Prop) (σ : ps_S) (s : Int32) (t : tT) (g : gT) (hP : RP σ t g) (hC : cOK t g) (hb : ¬ a_st g s) : ∀ adr, ps_MW l y_Law_join c_Law_join 4 (Option.some Jvm.ClassFile.FieldType.int) [((0 : Nat), (9 : Nat), (12 : Nat), (19 : Nat)), ((0 : Nat), (9 : Nat), (15 : Nat), (33 : Nat)), ((0 : Nat), (9 : Nat), (18 : Nat), (13 : Nat))] { frames := 7, cells := 1, slots := 6, locals := 104 } D ca A adr σ [ps_ref (some (0, 0)), ps_int s, ps_ref (some (12, 0))] (fun rv σ' => rv = some (ps_int 1) ∧ σ' = σ) := by
  intro adr
  refine ps_MW.of (by decide +kernel) (Nat.le_of_ble_eq_true rfl) ?_
  intro p_ e_ s_ m_ args_ below_ meth_ c_ E hr hlk htab hZ hYs
  refine pv_aload_n E d_Law_join_0 rfl rfl ?_
  refine pv_iconst (v := 0) E d_Law_join_1 (by decide) ?_
  refine pv_aload_n E d_Law_join_2 rfl rfl ?_
  refine pv_iload_n E d_Law_join_3 rfl rfl ?_
  refine pv_callVT E rfl hZ (X := "java/lang/IllegalArgumentException") (nm := "java/lang/IllegalArgumentException") (hp := []) (q := ((0 : Nat), (9 : Nat), (12 : Nat), (19 : Nat))) (hr := [((0 : Nat), (9 : Nat), (15 : Nat), (33 : Nat)), ((0 : Nat), (9 : Nat), (18 : Nat), (13 : Nat))]) (fun adr => k_Ps_join_A l htr D ca A _ s t g hP hC hb adr) yv_Ps_join wd_589 rfl rfl (fun _ => ⟨_, rfl⟩) rfl ⟨by decide, by decide⟩ (Nat.le_of_ble_eq_true rfl) d_Law_join_4 ⟨by decide, by decide⟩ htab (fun z hz => (by cases hz)) ⟨by decide, by decide⟩ (by decide) wd_522 (hZ _ args_ (State.WarmedH.refl s_) (Nat.le_refl _) (fun _ _ _ => rfl) _ zx_10) (fun xa => ?_)
  refine pv_astoreR_n E d_Law_join_12 rfl (by decide) ?_
  refine pv_iconst (v := 1) E d_Law_join_13 (by decide) ?_
  exact pv_iret E hr hlk d_Law_join_14 (by decide) (by decide) ⟨rfl, rfl⟩
set_option maxHeartbeats 8000000 in
set_option maxRecDepth 100000 in
theorem k_Law_join_U (l : Launch) (htr : l.stackTraces = false) (D : va_G) (ca : Nat → ClassId) (A : Nat → Prop) (σ : ps_S) (s : Int32) (t : tT) (g : gT) (hP : RP σ t g) (hC : cOK t g) (hb : a_st g s) (h0 : gF g s.toNatClampNeg 0 = 0) : ∀ adr, ps_MW l y_Law_join c_Law_join 4 (Option.some Jvm.ClassFile.FieldType.int) [((0 : Nat), (9 : Nat), (12 : Nat), (19 : Nat)), ((0 : Nat), (9 : Nat), (15 : Nat), (33 : Nat)), ((0 : Nat), (9 : Nat), (18 : Nat), (13 : Nat))] { frames := 7, cells := 1, slots := 6, locals := 104 } D ca A adr σ [ps_ref (some (0, 0)), ps_int s, ps_ref (some (12, 0))] (fun rv σ' => rv = some (ps_int 2) ∧ σ' = σ) := by
  intro adr
  refine ps_MW.of (by decide +kernel) (Nat.le_of_ble_eq_true rfl) ?_
  intro p_ e_ s_ m_ args_ below_ meth_ c_ E hr hlk htab hZ hYs
  refine pv_aload_n E d_Law_join_0 rfl rfl ?_
  refine pv_iconst (v := 0) E d_Law_join_1 (by decide) ?_
  refine pv_aload_n E d_Law_join_2 rfl rfl ?_
  refine pv_iload_n E d_Law_join_3 rfl rfl ?_
  refine pv_callVT E rfl hZ (X := "java/lang/UnsupportedOperationException") (nm := "java/lang/UnsupportedOperationException") (hp := [((0 : Nat), (9 : Nat), (12 : Nat), (19 : Nat))]) (q := ((0 : Nat), (9 : Nat), (15 : Nat), (33 : Nat))) (hr := [((0 : Nat), (9 : Nat), (18 : Nat), (13 : Nat))]) (fun adr => k_Ps_join_U l htr D ca A _ s t g hP hC hb h0 adr) yv_Ps_join wd_589 rfl rfl (fun _ => ⟨_, rfl⟩) rfl ⟨by decide, by decide⟩ (Nat.le_of_ble_eq_true rfl) d_Law_join_4 ⟨by decide, by decide⟩ htab (List.forall_mem_cons.mpr ⟨⟨by decide, _, wd_522, hYs s_ args_ (State.WarmedH.refl s_) _ (List.mem_of_getElem? (i := 1) rfl)⟩, fun z hz => (by cases hz)⟩) ⟨by decide, by decide⟩ (by decide) wd_588 (hZ _ args_ (State.WarmedH.refl s_) (Nat.le_refl _) (fun _ _ _ => rfl) _ zx_14) (fun xa => ?_)
  refine pv_astoreR_n E d_Law_join_15 rfl (by decide) ?_
  refine pv_iconst (v := 2) E d_Law_join_16 (by decide) ?_
  exact pv_iret E hr hlk d_Law_join_17 (by decide) (by decide) ⟨rfl, rfl⟩
set_option maxHeartbeats 8000000 in
set_option maxRecDepth 100000 in
theorem k_Law_join_S (l : Launch) (htr : l.stackTraces = false) (D : va_G) (ca : Nat → ClassId) (A : Nat → Prop) (σ : ps_S) (s : Int32) (t : tT) (g : gT) (hP : RP σ t g) (hC : cOK t g) (hb : a_st g s) (h0 : ¬ gF g s.toNatClampNeg 0 = 0) (h1 : ¬ gF g s.toNatClampNeg 0 = 1) : ∀ adr, ps_MW l y_Law_join c_Law_join 4 (Option.some Jvm.ClassFile.FieldType.int) [((0 : Nat), (9 : Nat), (12 : Nat), (19 : Nat)), ((0 : Nat), (9 : Nat), (15 : Nat), (33 : Nat)), ((0 : Nat), (9 : Nat), (18 : Nat), (13 : Nat))] { frames := 7, cells := 1, slots := 6, locals := 104 } D ca A adr σ [ps_ref (some (0, 0)), ps_int s, ps_ref (some (12, 0))] (fun rv σ' => rv = some (ps_int 3) ∧ σ' = σ) := by
  intro adr
  refine ps_MW.of (by decide +kernel) (Nat.le_of_ble_eq_true rfl) ?_
  intro p_ e_ s_ m_ args_ below_ meth_ c_ E hr hlk htab hZ hYs
  refine pv_aload_n E d_Law_join_0 rfl rfl ?_
  refine pv_iconst (v := 0) E d_Law_join_1 (by decide) ?_
  refine pv_aload_n E d_Law_join_2 rfl rfl ?_
  refine pv_iload_n E d_Law_join_3 rfl rfl ?_
  refine pv_callVT E rfl hZ (X := "java/lang/IllegalStateException") (nm := "java/lang/IllegalStateException") (hp := [((0 : Nat), (9 : Nat), (12 : Nat), (19 : Nat)), ((0 : Nat), (9 : Nat), (15 : Nat), (33 : Nat))]) (q := ((0 : Nat), (9 : Nat), (18 : Nat), (13 : Nat))) (hr := []) (fun adr => k_Ps_join_S l htr D ca A _ s t g hP hC hb h0 h1 adr) yv_Ps_join wd_589 rfl rfl (fun _ => ⟨_, rfl⟩) rfl ⟨by decide, by decide⟩ (Nat.le_of_ble_eq_true rfl) d_Law_join_4 ⟨by decide, by decide⟩ htab (List.forall_mem_cons.mpr ⟨⟨by decide, _, wd_522, hYs s_ args_ (State.WarmedH.refl s_) _ (List.mem_of_getElem? (i := 0) rfl)⟩, List.forall_mem_cons.mpr ⟨⟨by decide, _, wd_588, hYs s_ args_ (State.WarmedH.refl s_) _ (List.mem_of_getElem? (i := 2) rfl)⟩, fun z hz => (by cases hz)⟩⟩) ⟨by decide, by decide⟩ (by decide) wd_381 (hZ _ args_ (State.WarmedH.refl s_) (Nat.le_refl _) (fun _ _ _ => rfl) _ zx_0) (fun xa => ?_)
  refine pv_astoreR_n E d_Law_join_18 rfl (by decide) ?_
  refine pv_iconst (v := 3) E d_Law_join_19 (by decide) ?_
  exact pv_iret E hr hlk d_Law_join_20 (by decide) (by decide) ⟨rfl, rfl⟩
set_option maxHeartbeats 8000000 in
set_option maxRecDepth 100000 in
theorem k_Law_open_0 (l : Launch) (htr : l.stackTraces = false) (D : va_G) (ca : Nat → ClassId) (A : Nat → Prop) (σ : ps_S) (s po d : Int32) (t : tT) (g : gT) (hP : RP σ t g) (hC : cOK t g) (hb : a_opn t s po) (hm : tN t < 12) (hn : gN g < 48) (hl12 : ps_L σ 12 0 = 1) : ∀ adr, ps_MW l y_Law_open c_Law_open 6 (Option.some Jvm.ClassFile.FieldType.int) [((0 : Nat), (12 : Nat), (15 : Nat), (19 : Nat)), ((0 : Nat), (12 : Nat), (19 : Nat), (13 : Nat))] { frames := 7, cells := 5, slots := 29, locals := 116 } D ca A adr σ [ps_ref (some (0, 0)), ps_int s, ps_int po, ps_int d, ps_ref (some (12, 0))] (fun rv σ' => rv = some (ps_int 0) ∧ ∃ σ1, RP σ1 (t_mk t (t_par t s) po d (gN g)) (g_new g 9 (-1) 0 0 []) ∧ FrC σ σ1 ∧ σ' = ps_sJ σ1 12 0 0 (Int32.toInt64 (nI (tN t)))) := by
  intro adr
  refine ps_MW.of (by decide +kernel) (Nat.le_of_ble_eq_true rfl) ?_
  intro p_ e_ s_ m_ args_ below_ meth_ c_ E hr hlk htab hZ hYs
  refine pv_aload E d_Law_open_0 rfl ?_
  refine pv_iconst (v := 0) E d_Law_open_2 (by decide) ?_
  refine pv_aload_n E d_Law_open_3 rfl rfl ?_
  refine pv_iload_n E d_Law_open_4 rfl rfl ?_
  refine pv_iload_n E d_Law_open_5 rfl rfl ?_
  refine pv_iload_n E d_Law_open_6 rfl rfl ?_
  refine pv_callV E (fun adr => k_Ps_open_0 l D ca A _ s po d t g hP hC hb hm hn adr) yv_Ps_open wd_614 rfl rfl (fun _ => ⟨_, rfl⟩) rfl ⟨by decide, by decide⟩ (Nat.le_of_ble_eq_true rfl) d_Law_open_7 ⟨by decide, by decide⟩ (fun r7 σ7 hq7 => ?_)
  obtain ⟨hr7, hP7, hf7⟩ := hq7
  subst r7
  refine pv_i2l E d_Law_open_10 ?_
  refine pv_lastore (t0 := 5) E 12 _ (fun _ _ _ _ _ => rfl) rfl (l12_in (hf7.l12 hl12)) d_Law_open_11 ?_
  refine pv_goto (tgt := 23) E d_Law_open_12 rfl ?_
  refine pv_iconst (v := 0) E d_Law_open_23 (by decide) ?_
  exact pv_iret E hr hlk d_Law_open_24 (by decide) (by decide) ⟨rfl, _, hP7, hf7, rfl⟩
set_option maxHeartbeats 8000000 in
set_option maxRecDepth 100000 in
theorem k_Law_open_A (l : Launch) (htr : l.stackTraces = false) (D : va_G) (ca : Nat → ClassId) (A : Nat → Prop) (σ : ps_S) (s po d : Int32) (t : tT) (g : gT) (hP : RP σ t g) (hC : cOK t g) (hb : ¬ a_opn t s po) : ∀ adr, ps_MW l y_Law_open c_Law_open 6 (Option.some Jvm.ClassFile.FieldType.int) [((0 : Nat), (12 : Nat), (15 : Nat), (19 : Nat)), ((0 : Nat), (12 : Nat), (19 : Nat), (13 : Nat))] { frames := 7, cells := 5, slots := 29, locals := 116 } D ca A adr σ [ps_ref (some (0, 0)), ps_int s, ps_int po, ps_int d, ps_ref (some (12, 0))] (fun rv σ' => rv = some (ps_int 1) ∧ σ' = σ) := by
  intro adr
  refine ps_MW.of (by decide +kernel) (Nat.le_of_ble_eq_true rfl) ?_
  intro p_ e_ s_ m_ args_ below_ meth_ c_ E hr hlk htab hZ hYs
  refine pv_aload E d_Law_open_0 rfl ?_
  refine pv_iconst (v := 0) E d_Law_open_2 (by decide) ?_
  refine pv_aload_n E d_Law_open_3 rfl rfl ?_
  refine pv_iload_n E d_Law_open_4 rfl rfl ?_
  refine pv_iload_n E d_Law_open_5 rfl rfl ?_
  refine pv_iload_n E d_Law_open_6 rfl rfl ?_
  refine pv_callVT E rfl hZ (X := "java/lang/IllegalArgumentException") (nm := "java/lang/IllegalArgumentException") (hp := []) (q := ((0 : Nat), (12 : Nat), (15 : Nat), (19 : Nat))) (hr := [((0 : Nat), (12 : Nat), (19 : Nat), (13 : Nat))]) (fun adr => k_Ps_open_A l htr D ca A _ s po d t g hP hC hb adr) yv_Ps_open wd_614 rfl rfl (fun _ => ⟨_, rfl⟩) rfl ⟨by decide, by decide⟩ (Nat.le_of_ble_eq_true rfl) d_Law_open_7 ⟨by decide, by decide⟩ htab (fun z hz => (by cases hz)) ⟨by decide, by decide⟩ (by decide) wd_522 (hZ _ args_ (State.WarmedH.refl s_) (Nat.le_refl _) (fun _ _ _ => rfl) _ zx_10) (fun xa => ?_)
  refine pv_astoreR E d_Law_open_15 (by decide) ?_
  refine pv_iconst (v := 1) E d_Law_open_17 (by decide) ?_
  exact pv_iret E hr hlk d_Law_open_18 (by decide) (by decide) ⟨rfl, rfl⟩
set_option maxHeartbeats 8000000 in
set_option maxRecDepth 100000 in
theorem k_Law_open_S (l : Launch) (htr : l.stackTraces = false) (D : va_G) (ca : Nat → ClassId) (A : Nat → Prop) (σ : ps_S) (s po d : Int32) (t : tT) (g : gT) (hP : RP σ t g) (hC : cOK t g) (hb : a_opn t s po) (hn : ¬ (tN t < 12 ∧ gN g < 48)) : ∀ adr, ps_MW l y_Law_open c_Law_open 6 (Option.some Jvm.ClassFile.FieldType.int) [((0 : Nat), (12 : Nat), (15 : Nat), (19 : Nat)), ((0 : Nat), (12 : Nat), (19 : Nat), (13 : Nat))] { frames := 7, cells := 5, slots := 29, locals := 116 } D ca A adr σ [ps_ref (some (0, 0)), ps_int s, ps_int po, ps_int d, ps_ref (some (12, 0))] (fun rv σ' => rv = some (ps_int 2) ∧ σ' = σ) := by
  intro adr
  refine ps_MW.of (by decide +kernel) (Nat.le_of_ble_eq_true rfl) ?_
  intro p_ e_ s_ m_ args_ below_ meth_ c_ E hr hlk htab hZ hYs
  refine pv_aload E d_Law_open_0 rfl ?_
  refine pv_iconst (v := 0) E d_Law_open_2 (by decide) ?_
  refine pv_aload_n E d_Law_open_3 rfl rfl ?_
  refine pv_iload_n E d_Law_open_4 rfl rfl ?_
  refine pv_iload_n E d_Law_open_5 rfl rfl ?_
  refine pv_iload_n E d_Law_open_6 rfl rfl ?_
  refine pv_callVT E rfl hZ (X := "java/lang/IllegalStateException") (nm := "java/lang/IllegalStateException") (hp := [((0 : Nat), (12 : Nat), (15 : Nat), (19 : Nat))]) (q := ((0 : Nat), (12 : Nat), (19 : Nat), (13 : Nat))) (hr := []) (fun adr => k_Ps_open_S l htr D ca A _ s po d t g hP hC hb hn adr) yv_Ps_open wd_614 rfl rfl (fun _ => ⟨_, rfl⟩) rfl ⟨by decide, by decide⟩ (Nat.le_of_ble_eq_true rfl) d_Law_open_7 ⟨by decide, by decide⟩ htab (List.forall_mem_cons.mpr ⟨⟨by decide, _, wd_522, hYs s_ args_ (State.WarmedH.refl s_) _ (List.mem_of_getElem? (i := 0) rfl)⟩, fun z hz => (by cases hz)⟩) ⟨by decide, by decide⟩ (by decide) wd_381 (hZ _ args_ (State.WarmedH.refl s_) (Nat.le_refl _) (fun _ _ _ => rfl) _ zx_0) (fun xa => ?_)
  refine pv_astoreR E d_Law_open_19 (by decide) ?_
  refine pv_iconst (v := 2) E d_Law_open_21 (by decide) ?_
  exact pv_iret E hr hlk d_Law_open_22 (by decide) (by decide) ⟨rfl, rfl⟩
set_option maxHeartbeats 8000000 in
set_option maxRecDepth 100000 in
theorem k_Law_fork_0 (l : Launch) (htr : l.stackTraces = false) (D : va_G) (ca : Nat → ClassId) (A : Nat → Prop) (σ : ps_S) (s co f a : Int32) (t : tT) (g : gT) (hP : RP σ t g) (hC : cOK t g) (hb : a_frk t s co f) (hn : uN t < 30) (hl12 : ps_L σ 12 0 = 1) : ∀ adr, ps_MW l y_Law_fork c_Law_fork 7 (Option.some Jvm.ClassFile.FieldType.int) [((0 : Nat), (14 : Nat), (17 : Nat), (19 : Nat)), ((0 : Nat), (14 : Nat), (21 : Nat), (13 : Nat))] { frames := 7, cells := 1, slots := 9, locals := 107 } D ca A adr σ [ps_ref (some (0, 0)), ps_int s, ps_int co, ps_int f, ps_int a, ps_ref (some (12, 0))] (fun rv σ' => rv = some (ps_int 0) ∧ ∃ σ1, RP σ1 (u_mk t s.toNatClampNeg co f a) (g) ∧ FrC σ σ1 ∧ σ' = ps_sJ σ1 12 0 0 (Int32.toInt64 (nI (uN t)))) := by
  intro adr
  refine ps_MW.of (by decide +kernel) (Nat.le_of_ble_eq_true rfl) ?_
  intro p_ e_ s_ m_ args_ below_ meth_ c_ E hr hlk htab hZ hYs
  refine pv_aload E d_Law_fork_0 rfl ?_
  refine pv_iconst (v := 0) E d_Law_fork_2 (by decide) ?_
  refine pv_aload_n E d_Law_fork_3 rfl rfl ?_
  refine pv_iload_n E d_Law_fork_4 rfl rfl ?_
  refine pv_iload_n E d_Law_fork_5 rfl rfl ?_
  refine pv_iload_n E d_Law_fork_6 rfl rfl ?_
  refine pv_iload E d_Law_fork_7 rfl ?_
  refine pv_callV E (fun adr => k_Ps_fork_0 l D ca A _ s co f a t g hP hC hb hn adr) yv_Ps_fork wd_685 rfl rfl (fun _ => ⟨_, rfl⟩) rfl ⟨by decide, by decide⟩ (Nat.le_of_ble_eq_true rfl) d_Law_fork_9 ⟨by decide, by decide⟩ (fun r9 σ9 hq9 => ?_)
  obtain ⟨hr9, hP9, hf9⟩ := hq9
  subst r9
  refine pv_i2l E d_Law_fork_12 ?_
  refine pv_lastore (t0 := 5) E 12 _ (fun _ _ _ _ _ => rfl) rfl (l12_in (hf9.l12 hl12)) d_Law_fork_13 ?_
  refine pv_goto (tgt := 25) E d_Law_fork_14 rfl ?_
  refine pv_iconst (v := 0) E d_Law_fork_25 (by decide) ?_
  exact pv_iret E hr hlk d_Law_fork_26 (by decide) (by decide) ⟨rfl, _, hP9, hf9, rfl⟩
set_option maxHeartbeats 8000000 in
set_option maxRecDepth 100000 in
theorem k_Law_fork_A (l : Launch) (htr : l.stackTraces = false) (D : va_G) (ca : Nat → ClassId) (A : Nat → Prop) (σ : ps_S) (s co f a : Int32) (t : tT) (g : gT) (hP : RP σ t g) (hC : cOK t g) (hb : ¬ a_frk t s co f) : ∀ adr, ps_MW l y_Law_fork c_Law_fork 7 (Option.some Jvm.ClassFile.FieldType.int) [((0 : Nat), (14 : Nat), (17 : Nat), (19 : Nat)), ((0 : Nat), (14 : Nat), (21 : Nat), (13 : Nat))] { frames := 7, cells := 1, slots := 9, locals := 107 } D ca A adr σ [ps_ref (some (0, 0)), ps_int s, ps_int co, ps_int f, ps_int a, ps_ref (some (12, 0))] (fun rv σ' => rv = some (ps_int 1) ∧ σ' = σ) := by
  intro adr
  refine ps_MW.of (by decide +kernel) (Nat.le_of_ble_eq_true rfl) ?_
  intro p_ e_ s_ m_ args_ below_ meth_ c_ E hr hlk htab hZ hYs
  refine pv_aload E d_Law_fork_0 rfl ?_
  refine pv_iconst (v := 0) E d_Law_fork_2 (by decide) ?_
  refine pv_aload_n E d_Law_fork_3 rfl rfl ?_
  refine pv_iload_n E d_Law_fork_4 rfl rfl ?_
  refine pv_iload_n E d_Law_fork_5 rfl rfl ?_
  refine pv_iload_n E d_Law_fork_6 rfl rfl ?_
  refine pv_iload E d_Law_fork_7 rfl ?_
  refine pv_callVT E rfl hZ (X := "java/lang/IllegalArgumentException") (nm := "java/lang/IllegalArgumentException") (hp := []) (q := ((0 : Nat), (14 : Nat), (17 : Nat), (19 : Nat))) (hr := [((0 : Nat), (14 : Nat), (21 : Nat), (13 : Nat))]) (fun adr => k_Ps_fork_A l htr D ca A _ s co f a t g hP hC hb adr) yv_Ps_fork wd_685 rfl rfl (fun _ => ⟨_, rfl⟩) rfl ⟨by decide, by decide⟩ (Nat.le_of_ble_eq_true rfl) d_Law_fork_9 ⟨by decide, by decide⟩ htab (fun z hz => (by cases hz)) ⟨by decide, by decide⟩ (by decide) wd_522 (hZ _ args_ (State.WarmedH.refl s_) (Nat.le_refl _) (fun _ _ _ => rfl) _ zx_10) (fun xa => ?_)
  refine pv_astoreR E d_Law_fork_17 (by decide) ?_
  refine pv_iconst (v := 1) E d_Law_fork_19 (by decide) ?_
  exact pv_iret E hr hlk d_Law_fork_20 (by decide) (by decide) ⟨rfl, rfl⟩
set_option maxHeartbeats 8000000 in
set_option maxRecDepth 100000 in
theorem k_Law_fork_S (l : Launch) (htr : l.stackTraces = false) (D : va_G) (ca : Nat → ClassId) (A : Nat → Prop) (σ : ps_S) (s co f a : Int32) (t : tT) (g : gT) (hP : RP σ t g) (hC : cOK t g) (hb : a_frk t s co f) (hn : ¬ uN t < 30) : ∀ adr, ps_MW l y_Law_fork c_Law_fork 7 (Option.some Jvm.ClassFile.FieldType.int) [((0 : Nat), (14 : Nat), (17 : Nat), (19 : Nat)), ((0 : Nat), (14 : Nat), (21 : Nat), (13 : Nat))] { frames := 7, cells := 1, slots := 9, locals := 107 } D ca A adr σ [ps_ref (some (0, 0)), ps_int s, ps_int co, ps_int f, ps_int a, ps_ref (some (12, 0))] (fun rv σ' => rv = some (ps_int 2) ∧ σ' = σ) := by
  intro adr
  refine ps_MW.of (by decide +kernel) (Nat.le_of_ble_eq_true rfl) ?_
  intro p_ e_ s_ m_ args_ below_ meth_ c_ E hr hlk htab hZ hYs
  refine pv_aload E d_Law_fork_0 rfl ?_
  refine pv_iconst (v := 0) E d_Law_fork_2 (by decide) ?_
  refine pv_aload_n E d_Law_fork_3 rfl rfl ?_
  refine pv_iload_n E d_Law_fork_4 rfl rfl ?_
  refine pv_iload_n E d_Law_fork_5 rfl rfl ?_
  refine pv_iload_n E d_Law_fork_6 rfl rfl ?_
  refine pv_iload E d_Law_fork_7 rfl ?_
  refine pv_callVT E rfl hZ (X := "java/lang/IllegalStateException") (nm := "java/lang/IllegalStateException") (hp := [((0 : Nat), (14 : Nat), (17 : Nat), (19 : Nat))]) (q := ((0 : Nat), (14 : Nat), (21 : Nat), (13 : Nat))) (hr := []) (fun adr => k_Ps_fork_S l htr D ca A _ s co f a t g hP hC hb hn adr) yv_Ps_fork wd_685 rfl rfl (fun _ => ⟨_, rfl⟩) rfl ⟨by decide, by decide⟩ (Nat.le_of_ble_eq_true rfl) d_Law_fork_9 ⟨by decide, by decide⟩ htab (List.forall_mem_cons.mpr ⟨⟨by decide, _, wd_522, hYs s_ args_ (State.WarmedH.refl s_) _ (List.mem_of_getElem? (i := 0) rfl)⟩, fun z hz => (by cases hz)⟩) ⟨by decide, by decide⟩ (by decide) wd_381 (hZ _ args_ (State.WarmedH.refl s_) (Nat.le_refl _) (fun _ _ _ => rfl) _ zx_0) (fun xa => ?_)
  refine pv_astoreR E d_Law_fork_21 (by decide) ?_
  refine pv_iconst (v := 2) E d_Law_fork_23 (by decide) ?_
  exact pv_iret E hr hlk d_Law_fork_24 (by decide) (by decide) ⟨rfl, rfl⟩
set_option maxHeartbeats 8000000 in
set_option maxRecDepth 100000 in
theorem k_Law_bound_0 (l : Launch) (htr : l.stackTraces = false) (D : va_G) (ca : Nat → ClassId) (A : Nat → Prop) (σ : ps_S) (s k : Int32) (t : tT) (g : gT) (hP : RP σ t g) (hC : cOK t g) (hb : a_bnd t s k) (hl12 : ps_L σ 12 0 = 1) : ∀ adr, ps_MW l y_Law_bound c_Law_bound 5 (Option.some Jvm.ClassFile.FieldType.int) [((0 : Nat), (10 : Nat), (13 : Nat), (19 : Nat))] { frames := 7, cells := 1, slots := 6, locals := 105 } D ca A adr σ [ps_ref (some (0, 0)), ps_int s, ps_int k, ps_ref (some (12, 0))] (fun rv σ' => rv = some (ps_int 0) ∧ σ' = ps_sJ σ 12 0 0 (Int32.toInt64 (t_look t s.toNatClampNeg k.toNatClampNeg))) := by
  intro adr
  refine ps_MW.of (by decide +kernel) (Nat.le_of_ble_eq_true rfl) ?_
  intro p_ e_ s_ m_ args_ below_ meth_ c_ E hr hlk htab hZ hYs
  refine pv_aload_n E d_Law_bound_0 rfl rfl ?_
  refine pv_iconst (v := 0) E d_Law_bound_1 (by decide) ?_
  refine pv_aload_n E d_Law_bound_2 rfl rfl ?_
  refine pv_iload_n E d_Law_bound_3 rfl rfl ?_
  refine pv_iload_n E d_Law_bound_4 rfl rfl ?_
  refine pv_callV E (fun adr => k_Ps_bound_0 l D ca A _ s k t g hP hC hb adr) yv_Ps_bound wd_750 rfl rfl (fun _ => ⟨_, rfl⟩) rfl ⟨by decide, by decide⟩ (Nat.le_of_ble_eq_true rfl) d_Law_bound_5 ⟨by decide, by decide⟩ (fun r5 σ5 hq5 => ?_)
  obtain ⟨hr5, hs5⟩ := hq5
  subst r5
  subst σ5
  refine pv_i2l E d_Law_bound_8 ?_
  refine pv_lastore (t0 := 5) E 12 _ (fun _ _ _ _ _ => rfl) rfl (l12_in hl12) d_Law_bound_9 ?_
  refine pv_goto (tgt := 17) E d_Law_bound_10 rfl ?_
  refine pv_iconst (v := 0) E d_Law_bound_17 (by decide) ?_
  exact pv_iret E hr hlk d_Law_bound_18 (by decide) (by decide) ⟨rfl, rfl⟩
set_option maxHeartbeats 8000000 in
set_option maxRecDepth 100000 in
theorem k_Law_bound_A (l : Launch) (htr : l.stackTraces = false) (D : va_G) (ca : Nat → ClassId) (A : Nat → Prop) (σ : ps_S) (s k : Int32) (t : tT) (g : gT) (hP : RP σ t g) (hC : cOK t g) (hb : ¬ a_bnd t s k) : ∀ adr, ps_MW l y_Law_bound c_Law_bound 5 (Option.some Jvm.ClassFile.FieldType.int) [((0 : Nat), (10 : Nat), (13 : Nat), (19 : Nat))] { frames := 7, cells := 1, slots := 6, locals := 105 } D ca A adr σ [ps_ref (some (0, 0)), ps_int s, ps_int k, ps_ref (some (12, 0))] (fun rv σ' => rv = some (ps_int 1) ∧ σ' = σ) := by
  intro adr
  refine ps_MW.of (by decide +kernel) (Nat.le_of_ble_eq_true rfl) ?_
  intro p_ e_ s_ m_ args_ below_ meth_ c_ E hr hlk htab hZ hYs
  refine pv_aload_n E d_Law_bound_0 rfl rfl ?_
  refine pv_iconst (v := 0) E d_Law_bound_1 (by decide) ?_
  refine pv_aload_n E d_Law_bound_2 rfl rfl ?_
  refine pv_iload_n E d_Law_bound_3 rfl rfl ?_
  refine pv_iload_n E d_Law_bound_4 rfl rfl ?_
  refine pv_callVT E rfl hZ (X := "java/lang/IllegalArgumentException") (nm := "java/lang/IllegalArgumentException") (hp := []) (q := ((0 : Nat), (10 : Nat), (13 : Nat), (19 : Nat))) (hr := []) (fun adr => k_Ps_bound_A l htr D ca A _ s k t g hP hC hb adr) yv_Ps_bound wd_750 rfl rfl (fun _ => ⟨_, rfl⟩) rfl ⟨by decide, by decide⟩ (Nat.le_of_ble_eq_true rfl) d_Law_bound_5 ⟨by decide, by decide⟩ htab (fun z hz => (by cases hz)) ⟨by decide, by decide⟩ (by decide) wd_522 (hZ _ args_ (State.WarmedH.refl s_) (Nat.le_refl _) (fun _ _ _ => rfl) _ zx_10) (fun xa => ?_)
  refine pv_astoreR E d_Law_bound_13 (by decide) ?_
  refine pv_iconst (v := 1) E d_Law_bound_15 (by decide) ?_
  exact pv_iret E hr hlk d_Law_bound_16 (by decide) (by decide) ⟨rfl, rfl⟩
