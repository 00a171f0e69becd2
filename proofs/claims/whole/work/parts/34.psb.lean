set_option maxHeartbeats 8000000 in
set_option maxRecDepth 100000 in
theorem k_Ps_work (l : Launch) (D : va_G) (ca : Nat → ClassId) (A : Nat → Prop) (σ : ps_S) (n : Int32) (t : tT) (g : gT) (hP : RP σ t g) (hC : cOK t g) : ∀ adr, ps_M l y_Ps_work c_Ps_work 3 (Option.some Jvm.ClassFile.FieldType.int) { frames := 6, cells := 0, slots := 0, locals := 131 } D ca A adr σ [ps_ref (some (0, 0)), ps_int n] (fun rv σ' => (n_bad n → rv = some (ps_int (-1)) ∧ σ' = σ) ∧ (¬ n_bad n → rv = some (ps_int (nI (g_wrkc n.toNatClampNeg g))) ∧ RP σ' t (g_wrk n.toNatClampNeg g) ∧ FrC σ σ')) := by
  intro adr
  refine ps_M.of (by decide +kernel) (Nat.le_of_ble_eq_true rfl) ?_
  intro p_ e_ s_ m_ args_ below_ meth_ c_ E hr hlk hnm
  refine pv_iload_n E d_Ps_work_0 rfl rfl ?_
  refine pv_callS E (fun adr => k_Ps_isStepCount l D ca A _ _ adr) ys_Ps_isStepCount wd_229 rfl rfl ⟨by decide, by decide⟩ (Nat.le_of_ble_eq_true rfl) d_Ps_work_1 ⟨by decide, by decide⟩ (fun r1 σ1 hq1 => ?_)
  obtain ⟨hr1, hs1⟩ := hq1
  subst r1
  subst σ1
  refine pv_if_ne (tgt := 9) E d_Ps_work_4 rfl (fun h4 => ?_) (fun h4 => ?_)
  · skip
    have hn0 : ¬ n < 0 := fun z => h4 (by rw [st_is, if_pos z])
    have hn1 : ¬ 60 < n := fun z => h4 (by rw [st_is, if_neg hn0, if_pos z])
    obtain ⟨hnn, hn60⟩ := nI_of60 hn0 hn1
    generalize n.toNatClampNeg = k at hnn hn60 ⊢
    subst hnn
    have hbad : ¬ n_bad (nI k) := fun z => z.elim hn0 hn1
    refine pv_iconst (v := 0) E d_Ps_work_9 (by decide) ?_
    refine pv_istore_n E d_Ps_work_10 rfl (by decide) ?_
    refine pv_sub (L' := [(0, ps_ref (some (0, 0))), (1, ps_int (nI k)), (2, ps_int (nI 0))]) ⟨rfl, rfl, rfl, trivial⟩ ?_
    refine pv_loop (ι := Nat × (ps_S × gT)) (fun x => k - x.1) (fun x => [(0, ps_ref (some (0, 0))), (1, ps_int (nI k)), (2, ps_int (nI x.1))]) (fun x => x.2.1) (fun x => x.1 ≤ k ∧ RP x.2.1 t x.2.2 ∧ gOK x.2.2 ∧ g_wrk k g = g_wrk (k - x.1) x.2.2 ∧ g_wrkc k g = x.1 + g_wrkc (k - x.1) x.2.2 ∧ FrC σ x.2.1) (fun x hx_ ih => ?_) (0, (σ, g)) ⟨Nat.zero_le _, hP, hC.1, rfl, (Nat.zero_add _).symm, FrC.rf σ⟩
    obtain ⟨i, τ, γ⟩ := x
    obtain ⟨hi, hT, hO, hw, hc, hFr⟩ := hx_
    dsimp only at hi hT hO hw hc hFr ih ⊢
    refine pv_iload_n E d_Ps_work_11 rfl rfl ?_
    refine pv_iload_n E d_Ps_work_12 rfl rfl ?_
    refine pv_icmp_ge (tgt := 39) E d_Ps_work_13 rfl (fun h13 => ?_) (fun h13 => ?_)
    · skip
      have hi2 : k ≤ i := (nI_leI (by omega) (by omega)).mp h13
      refine pv_iload_n E d_Ps_work_39 rfl rfl ?_
      exact pv_iret E hr hlk d_Ps_work_40 (by decide) (by decide) ⟨fun z => absurd z hbad, fun _ => ⟨by rw [hc, show k - i = 0 by omega]; rfl, by rw [hw, show k - i = 0 by omega]; exact hT, hFr⟩⟩
    · skip
      have hi2 : i < k := Nat.lt_of_not_le (fun z => h13 ((nI_leI (by omega) (by omega)).mpr z))
      refine pv_aload_n E d_Ps_work_16 rfl rfl ?_
      refine gf_Ps_graph E wd_100 d_Ps_work_17 ?_
      refine pv_top (congrArg ps_ref hT.1.1) ?_
      refine pv_callV E (fun adr => k_Graph_advancePool l D ca A _ γ hT.2.1 hO adr) yv_Graph_advancePool wd_232 rfl rfl (fun _ => ⟨_, rfl⟩) rfl ⟨by decide, by decide⟩ (Nat.le_of_ble_eq_true rfl) d_Ps_work_20 ⟨by decide, by decide⟩ (fun r20 σ20 hq20 => ?_)
      obtain ⟨hr20, hz20, hy20⟩ := advp_post hq20
      subst r20
      refine pv_if_eq (tgt := 39) E d_Ps_work_23 rfl (fun h23 => ?_) (fun h23 => ?_)
      · skip
        have hx := if01 h23
        have hs20 := hz20 hx
        subst σ20
        refine pv_iload_n E d_Ps_work_39 rfl rfl ?_
        exact pv_iret E hr hlk d_Ps_work_40 (by decide) (by decide) ⟨fun z => absurd z hbad, fun _ => ⟨by rw [hc, show k - i = (k - (i + 1)) + 1 by omega, g_wrkc, hx]; rfl, by rw [hw, show k - i = (k - (i + 1)) + 1 by omega, g_wrk, hx]; exact hT, hFr⟩⟩
      · skip
        have hxn := if01n h23
        obtain ⟨k_, x, hx⟩ : ∃ k x, gP γ = k :: x := by
          cases z : gP γ with
          | nil => exact absurd z hxn
          | cons k x => exact ⟨k, x, rfl⟩
        obtain ⟨hR20, hf20, hn20⟩ := hy20 k_ x hx
        have hP1 := hT.gf hR20 hf20 hn20 (gN_res _ _)
        refine pv_aload_n E d_Ps_work_26 rfl rfl ?_
        refine gf_Ps_graph E wd_100 d_Ps_work_27 ?_
        refine pv_top (congrArg ps_ref hP1.1.1) ?_
        refine pv_callV E (fun adr => k_Graph_workOffLine l D ca A _ (g_res (gsP γ x) k_) hR20 (gOK.res (g := gsP γ x) (hO.tpool hx) (hO.2.2.2 k_ (by rw [hx]; exact List.mem_append_right _ List.mem_cons_self)).1) adr) yv_Graph_workOffLine wd_151 rfl rfl (fun _ => ⟨_, rfl⟩) rfl ⟨by decide, by decide⟩ (Nat.le_of_ble_eq_true rfl) d_Ps_work_30 ⟨by decide, by decide⟩ (fun r30 σ30 hq30 => ?_)
        obtain ⟨hr30, hR30, hf30, hn30⟩ := hq30
        subst r30
        refine pv_inc1 E d_Ps_work_33 rfl (by decide) ?_
        refine pv_goto (tgt := 11) E d_Ps_work_36 rfl ?_
        exact pv_back (ih (i + 1, (σ30, g_work 96 (g_res (gsP γ x) k_))) ⟨by show i + 1 ≤ k; omega, hP1.gf hR30 hf30 hn30 (gN_work _ _), hO.pl hx, by rw [hw, show k - i = (k - (i + 1)) + 1 by omega, g_wrk, hx], by rw [hc, show k - i = (k - (i + 1)) + 1 by omega, g_wrkc, hx]; show i + (g_wrkc (k - (i + 1)) (g_work 96 (g_res (gsP γ x) k_)) + 1) = i + 1 + g_wrkc (k - (i + 1)) (g_work 96 (g_res (gsP γ x) k_)); omega, hFr.tr ((FrC.ofG hf20).tr (FrC.ofG hf30))⟩ (by show k - (i + 1) < k - i; omega)) ⟨rfl, rfl, congrArg (fun z : Int32 => some (ps_int z)) (nI_1 i), trivial⟩
  · skip
    have hbad : n_bad n := by
      by_cases z : n < 0
      · exact Or.inl z
      · by_cases y : 60 < n
        · exact Or.inr y
        · rw [st_is, if_neg z, if_neg y] at h4; exact absurd h4 (by decide)
    refine pv_iconst (v := -1) E d_Ps_work_7 (by decide) ?_
    exact pv_iret E hr hlk d_Ps_work_8 (by decide) (by decide) ⟨fun _ => ⟨rfl, rfl⟩, fun z => absurd hbad z⟩
set_option maxHeartbeats 8000000 in
set_option maxRecDepth 100000 in
theorem k_Ps_bind (l : Launch) (D : va_G) (ca : Nat → ClassId) (A : Nat → Prop) (σ : ps_S) (s k v : Int32) (t : tT) (g : gT) (hP : RP σ t g) (hC : cOK t g) : ∀ adr, ps_M l y_Ps_bind c_Ps_bind 5 (Option.some Jvm.ClassFile.FieldType.boolean) { frames := 2, cells := 0, slots := 0, locals := 43 } D ca A adr σ [ps_ref (some (0, 0)), ps_int s, ps_int k, ps_int v] (fun rv σ' => (¬ x_bok t s k → rv = some (ps_int 0) ∧ σ' = σ) ∧ (x_bok t s k → rv = some (ps_int 1) ∧ RP σ' (tsV t s.toNatClampNeg k.toNatClampNeg v) g ∧ FrC σ σ')) := by
  intro adr
  refine ps_M.of (by decide +kernel) (Nat.le_of_ble_eq_true rfl) ?_
  intro p_ e_ s_ m_ args_ below_ meth_ c_ E hr hlk hnm
  refine pv_aload_n E d_Ps_bind_0 rfl rfl ?_
  refine gf_Ps_tree E wd_101 d_Ps_bind_1 ?_
  refine pv_top (congrArg ps_ref hP.1.2) ?_
  refine pv_iload_n E d_Ps_bind_4 rfl rfl ?_
  refine pv_callV E (fun adr => k_Tree_findOpen l D ca A _ s t hP.2.2.1 hC.2.1 adr) yv_Tree_findOpen wd_265 rfl rfl (fun _ => ⟨_, rfl⟩) rfl ⟨by decide, by decide⟩ (Nat.le_of_ble_eq_true rfl) d_Ps_bind_5 ⟨by decide, by decide⟩ (fun r5 σ5 hq5 => ?_)
  obtain ⟨hr5, hs5⟩ := hq5
  subst r5
  subst σ5
  refine pv_astore E d_Ps_bind_8 (by decide) ?_
  refine pv_aload E d_Ps_bind_10 rfl ?_
  refine pv_ifnull (tgt := 22) E d_Ps_bind_12 rfl (fun h12 => ?_) (fun q12 h12 => ?_)
  · skip
    have hc := fopn_none h12
    refine pv_iconst (v := 0) E d_Ps_bind_22 (by decide) ?_
    exact pv_zret E hr hlk d_Ps_bind_23 (by first | rfl | (apply ps_zb; assumption)) (by decide) (by decide) ⟨fun _ => ⟨rfl, rfl⟩, fun z => absurd z.1 hc⟩
  · skip
    obtain ⟨hc, hv⟩ := fopn_some h12
    refine pv_iload_n E d_Ps_bind_15 rfl rfl ?_
    refine pv_callS E (fun adr => k_Scope_isKey l D ca A _ _ adr) ys_Scope_isKey wd_273 rfl rfl ⟨by decide, by decide⟩ (Nat.le_of_ble_eq_true rfl) d_Ps_bind_16 ⟨by decide, by decide⟩ (fun r16 σ16 hq16 => ?_)
    obtain ⟨hr16, hs16⟩ := hq16
    subst r16
    subst σ16
    refine pv_if_ne (tgt := 24) E d_Ps_bind_19 rfl (fun h19 => ?_) (fun h19 => ?_)
    · skip
      have hk := if10n h19
      refine pv_aload E d_Ps_bind_24 rfl ?_
      refine pv_top (congrArg ps_ref hv) ?_
      refine pv_iload_n E d_Ps_bind_26 rfl rfl ?_
      refine pv_iload_n E d_Ps_bind_27 rfl rfl ?_
      refine pv_callV E (fun adr => k_Scope_keep l D ca A _ _ _ _ t hP.2.2.1 hc.1.2 hk adr) yv_Scope_keep wd_276 rfl rfl (fun _ => ⟨_, rfl⟩) rfl ⟨by decide, by decide⟩ (Nat.le_of_ble_eq_true rfl) d_Ps_bind_28 ⟨by decide, by decide⟩ (fun r28 σ28 hq28 => ?_)
      obtain ⟨hr28, hT28, hf28, hn28⟩ := hq28
      subst r28
      refine pv_iconst (v := 1) E d_Ps_bind_31 (by decide) ?_
      exact pv_zret E hr hlk d_Ps_bind_32 (by first | rfl | (apply ps_zb; assumption)) (by decide) (by decide) ⟨fun z => absurd ⟨hc, hk⟩ z, fun _ => ⟨rfl, hP.tf hT28 hf28, FrC.ofT hf28⟩⟩
    · skip
      have hk := if10 h19
      refine pv_iconst (v := 0) E d_Ps_bind_22 (by decide) ?_
      exact pv_zret E hr hlk d_Ps_bind_23 (by first | rfl | (apply ps_zb; assumption)) (by decide) (by decide) ⟨fun _ => ⟨rfl, rfl⟩, fun z => absurd z.2 hk⟩
set_option maxHeartbeats 8000000 in
set_option maxRecDepth 100000 in
theorem k_Ps_joinScope (l : Launch) (D : va_G) (ca : Nat → ClassId) (A : Nat → Prop) (σ : ps_S) (s : Int32) (t : tT) (g : gT) (hP : RP σ t g) (hC : cOK t g) : ∀ adr, ps_M l y_Ps_joinScope c_Ps_joinScope 3 (Option.some Jvm.ClassFile.FieldType.boolean) { frames := 6, cells := 0, slots := 0, locals := 131 } D ca A adr σ [ps_ref (some (0, 0)), ps_int s] (fun rv σ' => (¬ x_jok t s → rv = some (ps_int 0) ∧ σ' = σ) ∧ (x_jok t s → rv = some (ps_int 1) ∧ RP σ' (x_close (tsS t s.toNatClampNeg 2 1, g)).1 (x_close (tsS t s.toNatClampNeg 2 1, g)).2 ∧ FrC σ σ')) := by
  intro adr
  refine ps_M.of (by decide +kernel) (Nat.le_of_ble_eq_true rfl) ?_
  intro p_ e_ s_ m_ args_ below_ meth_ c_ E hr hlk hnm
  refine pv_aload_n E d_Ps_joinScope_0 rfl rfl ?_
  refine gf_Ps_tree E wd_101 d_Ps_joinScope_1 ?_
  refine pv_top (congrArg ps_ref hP.1.2) ?_
  refine pv_iload_n E d_Ps_joinScope_4 rfl rfl ?_
  refine pv_callV E (fun adr => k_Tree_findOpen l D ca A _ s t hP.2.2.1 hC.2.1 adr) yv_Tree_findOpen wd_265 rfl rfl (fun _ => ⟨_, rfl⟩) rfl ⟨by decide, by decide⟩ (Nat.le_of_ble_eq_true rfl) d_Ps_joinScope_5 ⟨by decide, by decide⟩ (fun r5 σ5 hq5 => ?_)
  obtain ⟨hr5, hs5⟩ := hq5
  subst r5
  subst σ5
  refine pv_astore_n E d_Ps_joinScope_8 rfl (by decide) ?_
  refine pv_aload_n E d_Ps_joinScope_9 rfl rfl ?_
  refine pv_ifnull (tgt := 24) E d_Ps_joinScope_10 rfl (fun h10 => ?_) (fun q10 h10 => ?_)
  · skip
    have hc := fopn_none h10
    refine pv_iconst (v := 0) E d_Ps_joinScope_24 (by decide) ?_
    exact pv_zret E hr hlk d_Ps_joinScope_25 (by first | rfl | (apply ps_zb; assumption)) (by decide) (by decide) ⟨fun _ => ⟨rfl, rfl⟩, fun z => absurd z.1 hc⟩
  · skip
    obtain ⟨hc, hv⟩ := fopn_some h10
    refine pv_aload_n E d_Ps_joinScope_13 rfl rfl ?_
    refine gf_Ps_tree E wd_101 d_Ps_joinScope_14 ?_
    refine pv_top (congrArg ps_ref hP.1.2) ?_
    refine pv_aload_n E d_Ps_joinScope_17 rfl rfl ?_
    refine pv_top (congrArg ps_ref hv) ?_
    refine pv_callV E (fun adr => k_Tree_hasOpenBelow l D ca A _ _ t hP.2.2.1 hC.2.1 adr) yv_Tree_hasOpenBelow wd_284 rfl rfl (fun _ => ⟨_, rfl⟩) rfl ⟨by decide, by decide⟩ (Nat.le_of_ble_eq_true rfl) d_Ps_joinScope_18 ⟨by decide, by decide⟩ (fun r18 σ18 hq18 => ?_)
    obtain ⟨hr18, hs18⟩ := hq18
    subst r18
    subst σ18
    refine pv_if_eq (tgt := 26) E d_Ps_joinScope_21 rfl (fun h21 => ?_) (fun h21 => ?_)
    · skip
      have ho := if10 h21
      refine pv_aload_n E d_Ps_joinScope_26 rfl rfl ?_
      refine pv_top (congrArg ps_ref hv) ?_
      refine pv_iconst (v := 1) E d_Ps_joinScope_27 (by decide) ?_
      refine pf_Scope_state E wd_653 d_Ps_joinScope_28 ?_
      have hT1 := hP.2.2.1.sS s.toNatClampNeg (Or.inl ⟨rfl, rfl⟩) 1
      have hP1 := hP.tf hT1 (FrT.sI (by decide))
      have hC1 : cOK (tsS t s.toNatClampNeg 2 1) g := ⟨hC.1, (tKeep.sS _ _ _ _ (by omega)).W hC.2.1, hC.2.2⟩
      refine pv_aload_n E d_Ps_joinScope_31 rfl rfl ?_
      refine gf_Ps_tree E wd_101 d_Ps_joinScope_32 ?_
      refine pv_top (congrArg ps_ref hP1.1.2) ?_
      refine pv_aload_n E d_Ps_joinScope_35 rfl rfl ?_
      refine gf_Ps_graph E wd_100 d_Ps_joinScope_36 ?_
      refine pv_top (congrArg ps_ref hP1.1.1) ?_
      refine pv_callV E (fun adr => k_Tree_closeAllThatCan l D ca A _ (tsS t s.toNatClampNeg 2 1) hT1 hC1.2.1 g hP1.2.1 hC1.1 hC1.2.2 adr) yv_Tree_closeAllThatCan wd_292 rfl rfl (fun _ => ⟨_, rfl⟩) rfl ⟨by decide, by decide⟩ (Nat.le_of_ble_eq_true rfl) d_Ps_joinScope_39 ⟨by decide, by decide⟩ (fun r39 σ39 hq39 => ?_)
      obtain ⟨hr39, hT39, hR39, hf39, hn39⟩ := hq39
      subst r39
      have hk39 := t_close_ok hC1
      have hP2 := hP1.cf hT39 hR39 hf39 hn39 hk39.2.2
      refine pv_aload_n E d_Ps_joinScope_42 rfl rfl ?_
      refine gf_Ps_graph E wd_100 d_Ps_joinScope_43 ?_
      refine pv_top (congrArg ps_ref hP2.1.1) ?_
      refine pv_callV E (fun adr => k_Graph_workOffLine l D ca A _ (t_close (tsS t s.toNatClampNeg 2 1, g)).2 hR39 hk39.1.1 adr) yv_Graph_workOffLine wd_151 rfl rfl (fun _ => ⟨_, rfl⟩) rfl ⟨by decide, by decide⟩ (Nat.le_of_ble_eq_true rfl) d_Ps_joinScope_46 ⟨by decide, by decide⟩ (fun r46 σ46 hq46 => ?_)
      obtain ⟨hr46, hR46, hf46, hn46⟩ := hq46
      subst r46
      refine pv_iconst (v := 1) E d_Ps_joinScope_49 (by decide) ?_
      exact pv_zret E hr hlk d_Ps_joinScope_50 (by first | rfl | (apply ps_zb; assumption)) (by decide) (by decide) ⟨fun z => absurd ⟨hc, ho⟩ z, fun _ => ⟨rfl, hP2.gf hR46 hf46 hn46 (gN_work _ _), ((FrC.ofT (FrT.sI (by decide))).tr hf39).tr (FrC.ofG hf46)⟩⟩
    · skip
      have ho := if10n h21
      refine pv_iconst (v := 0) E d_Ps_joinScope_24 (by decide) ?_
      exact pv_zret E hr hlk d_Ps_joinScope_25 (by first | rfl | (apply ps_zb; assumption)) (by decide) (by decide) ⟨fun _ => ⟨rfl, rfl⟩, fun z => absurd ho z.2⟩
set_option maxHeartbeats 8000000 in
set_option maxRecDepth 100000 in
theorem k_Ps_cancelScope (l : Launch) (D : va_G) (ca : Nat → ClassId) (A : Nat → Prop) (σ : ps_S) (s : Int32) (t : tT) (g : gT) (hP : RP σ t g) (hC : cOK t g) : ∀ adr, ps_M l y_Ps_cancelScope c_Ps_cancelScope 3 (Option.some Jvm.ClassFile.FieldType.boolean) { frames := 6, cells := 0, slots := 0, locals := 131 } D ca A adr σ [ps_ref (some (0, 0)), ps_int s] (fun rv σ' => (¬ x_cok t s → rv = some (ps_int 0) ∧ σ' = σ) ∧ (x_cok t s → rv = some (ps_int 1) ∧ RP σ' (x_close (t_stop t s.toNatClampNeg, g)).1 (x_close (t_stop t s.toNatClampNeg, g)).2 ∧ FrC σ σ')) := by
  intro adr
  refine ps_M.of (by decide +kernel) (Nat.le_of_ble_eq_true rfl) ?_
  intro p_ e_ s_ m_ args_ below_ meth_ c_ E hr hlk hnm
  refine pv_aload_n E d_Ps_cancelScope_0 rfl rfl ?_
  refine gf_Ps_tree E wd_101 d_Ps_cancelScope_1 ?_
  refine pv_top (congrArg ps_ref hP.1.2) ?_
  refine pv_iload_n E d_Ps_cancelScope_4 rfl rfl ?_
  refine pv_callV E (fun adr => k_Tree_find l D ca A _ s t hP.2.2.1 hC.2.1 adr) yv_Tree_find wd_325 rfl rfl (fun _ => ⟨_, rfl⟩) rfl ⟨by decide, by decide⟩ (Nat.le_of_ble_eq_true rfl) d_Ps_cancelScope_5 ⟨by decide, by decide⟩ (fun r5 σ5 hq5 => ?_)
  obtain ⟨hr5, hs5⟩ := hq5
  subst r5
  subst σ5
  refine pv_astore_n E d_Ps_cancelScope_8 rfl (by decide) ?_
  refine pv_aload_n E d_Ps_cancelScope_9 rfl rfl ?_
  refine pv_ifnull (tgt := 21) E d_Ps_cancelScope_10 rfl (fun h10 => ?_) (fun q10 h10 => ?_)
  · skip
    have hc := find_none h10
    refine pv_iconst (v := 0) E d_Ps_cancelScope_21 (by decide) ?_
    exact pv_zret E hr hlk d_Ps_cancelScope_22 (by first | rfl | (apply ps_zb; assumption)) (by decide) (by decide) ⟨fun _ => ⟨rfl, rfl⟩, fun z => absurd z.1 hc⟩
  · skip
    obtain ⟨hc, hv⟩ := find_some h10
    refine pv_aload_n E d_Ps_cancelScope_13 rfl rfl ?_
    refine pv_top (congrArg ps_ref hv) ?_
    refine gf_Scope_state E wd_653 d_Ps_cancelScope_14 ?_
    refine pv_top (congrArg ps_int (hP.2.2.1.2.1 _ hc.2).2.2.1) ?_
    refine pv_iconst (v := 2) E d_Ps_cancelScope_17 (by decide) ?_
    refine pv_icmp_ne (tgt := 23) E d_Ps_cancelScope_18 rfl (fun h18 => ?_) (fun h18 => ?_)
    · skip
      refine pv_aload_n E d_Ps_cancelScope_23 rfl rfl ?_
      refine gf_Ps_tree E wd_101 d_Ps_cancelScope_24 ?_
      refine pv_top (congrArg ps_ref hP.1.2) ?_
      refine pv_aload_n E d_Ps_cancelScope_27 rfl rfl ?_
      refine pv_top (congrArg ps_ref hv) ?_
      refine pv_callV E (fun adr => k_Tree_stop l D ca A _ s.toNatClampNeg t hP.2.2.1 hC.2.1 adr) yv_Tree_stop wd_326 rfl rfl (fun _ => ⟨_, rfl⟩) rfl ⟨by decide, by decide⟩ (Nat.le_of_ble_eq_true rfl) d_Ps_cancelScope_28 ⟨by decide, by decide⟩ (fun r28 σ28 hq28 => ?_)
      obtain ⟨hr28, hT28, hf28, hn28⟩ := hq28
      subst r28
      have hP1 := hP.tf hT28 hf28
      have hk28 := tKeep.stop t s.toNatClampNeg
      have hC1 : cOK (t_stop t s.toNatClampNeg) g := ⟨hC.1, hk28.W hC.2.1, fun c hcc => by rw [hk28.1.2.2.1]; exact hC.2.2 c (by rw [← hk28.1.1]; exact hcc)⟩
      refine pv_aload_n E d_Ps_cancelScope_31 rfl rfl ?_
      refine gf_Ps_tree E wd_101 d_Ps_cancelScope_32 ?_
      refine pv_top (congrArg ps_ref hP1.1.2) ?_
      refine pv_aload_n E d_Ps_cancelScope_35 rfl rfl ?_
      refine gf_Ps_graph E wd_100 d_Ps_cancelScope_36 ?_
      refine pv_top (congrArg ps_ref hP1.1.1) ?_
      refine pv_callV E (fun adr => k_Tree_closeAllThatCan l D ca A _ (t_stop t s.toNatClampNeg) hP1.2.2.1 hC1.2.1 g hP1.2.1 hC1.1 hC1.2.2 adr) yv_Tree_closeAllThatCan wd_292 rfl rfl (fun _ => ⟨_, rfl⟩) rfl ⟨by decide, by decide⟩ (Nat.le_of_ble_eq_true rfl) d_Ps_cancelScope_39 ⟨by decide, by decide⟩ (fun r39 σ39 hq39 => ?_)
      obtain ⟨hr39, hT39, hR39, hf39, hn39⟩ := hq39
      subst r39
      have hk39 := t_close_ok hC1
      have hP2 := hP1.cf hT39 hR39 hf39 hn39 hk39.2.2
      refine pv_aload_n E d_Ps_cancelScope_42 rfl rfl ?_
      refine gf_Ps_graph E wd_100 d_Ps_cancelScope_43 ?_
      refine pv_top (congrArg ps_ref hP2.1.1) ?_
      refine pv_callV E (fun adr => k_Graph_workOffLine l D ca A _ (t_close (t_stop t s.toNatClampNeg, g)).2 hR39 hk39.1.1 adr) yv_Graph_workOffLine wd_151 rfl rfl (fun _ => ⟨_, rfl⟩) rfl ⟨by decide, by decide⟩ (Nat.le_of_ble_eq_true rfl) d_Ps_cancelScope_46 ⟨by decide, by decide⟩ (fun r46 σ46 hq46 => ?_)
      obtain ⟨hr46, hR46, hf46, hn46⟩ := hq46
      subst r46
      refine pv_iconst (v := 1) E d_Ps_cancelScope_49 (by decide) ?_
      exact pv_zret E hr hlk d_Ps_cancelScope_50 (by first | rfl | (apply ps_zb; assumption)) (by decide) (by decide) ⟨fun z => absurd ⟨hc, h18⟩ z, fun _ => ⟨rfl, hP2.gf hR46 hf46 hn46 (gN_work _ _), ((FrC.ofT hf28).tr hf39).tr (FrC.ofG hf46)⟩⟩
    · skip
      refine pv_iconst (v := 0) E d_Ps_cancelScope_21 (by decide) ?_
      exact pv_zret E hr hlk d_Ps_cancelScope_22 (by first | rfl | (apply ps_zb; assumption)) (by decide) (by decide) ⟨fun _ => ⟨rfl, rfl⟩, fun z => absurd h18 z.2⟩
set_option maxHeartbeats 8000000 in
set_option maxRecDepth 100000 in
theorem k_Ps_tick (l : Launch) (D : va_G) (ca : Nat → ClassId) (A : Nat → Prop) (σ : ps_S) (n : Int32) (t : tT) (g : gT) (hP : RP σ t g) (hC : cOK t g) : ∀ adr, ps_M l y_Ps_tick c_Ps_tick 4 (Option.some Jvm.ClassFile.FieldType.int) { frames := 6, cells := 0, slots := 0, locals := 131 } D ca A adr σ [ps_ref (some (0, 0)), ps_int n] (fun rv σ' => (n_bad n → rv = some (ps_int (-1)) ∧ σ' = σ) ∧ (¬ n_bad n → rv = some (ps_int (nI (x_tkc n.toNatClampNeg (t, g)))) ∧ RP σ' (x_tkN n.toNatClampNeg (t, g)).1 (x_tkN n.toNatClampNeg (t, g)).2 ∧ FrC σ σ')) := by
  intro adr
  refine ps_M.of (by decide +kernel) (Nat.le_of_ble_eq_true rfl) ?_
  intro p_ e_ s_ m_ args_ below_ meth_ c_ E hr hlk hnm
  refine pv_iload_n E d_Ps_tick_0 rfl rfl ?_
  refine pv_callS E (fun adr => k_Ps_isStepCount l D ca A _ _ adr) ys_Ps_isStepCount wd_229 rfl rfl ⟨by decide, by decide⟩ (Nat.le_of_ble_eq_true rfl) d_Ps_tick_1 ⟨by decide, by decide⟩ (fun r1 σ1 hq1 => ?_)
  obtain ⟨hr1, hs1⟩ := hq1
  subst r1
  subst σ1
  refine pv_if_ne (tgt := 9) E d_Ps_tick_4 rfl (fun h4 => ?_) (fun h4 => ?_)
  · skip
    have hn0 : ¬ n < 0 := fun z => h4 (by rw [st_is, if_pos z])
    have hn1 : ¬ 60 < n := fun z => h4 (by rw [st_is, if_neg hn0, if_pos z])
    obtain ⟨hnn, hn60⟩ := nI_of60 hn0 hn1
    generalize n.toNatClampNeg = k at hnn hn60 ⊢
    subst hnn
    have hbad : ¬ n_bad (nI k) := fun z => z.elim hn0 hn1
    refine pv_iconst (v := 0) E d_Ps_tick_9 (by decide) ?_
    refine pv_istore_n E d_Ps_tick_10 rfl (by decide) ?_
    refine pv_iconst (v := 0) E d_Ps_tick_11 (by decide) ?_
    refine pv_istore_n E d_Ps_tick_12 rfl (by decide) ?_
    refine pv_sub (L' := [(0, ps_ref (some (0, 0))), (1, ps_int (nI k)), (2, ps_int (nI 0)), (3, ps_int (nI 0))]) ⟨rfl, rfl, rfl, rfl, trivial⟩ ?_
    refine pv_loop (ι := Nat × Nat × ps_S × tT × gT) (fun x => k - x.1) (fun x => [(0, ps_ref (some (0, 0))), (1, ps_int (nI k)), (2, ps_int (nI x.2.1)), (3, ps_int (nI x.1))]) (fun x => x.2.2.1) (fun x => x.1 ≤ k ∧ RP x.2.2.1 x.2.2.2.1 x.2.2.2.2 ∧ cOK x.2.2.2.1 x.2.2.2.2 ∧ x_tkN k (t, g) = x_tkN (k - x.1) x.2.2.2 ∧ x_tkc k (t, g) = x.2.1 + x_tkc (k - x.1) x.2.2.2 ∧ FrC σ x.2.2.1) (fun x hx_ ih => ?_) (0, 0, σ, t, g) ⟨Nat.zero_le _, hP, hC, rfl, (Nat.zero_add _).symm, FrC.rf σ⟩
    obtain ⟨i, e, τ, t', g'⟩ := x
    obtain ⟨hi, hT, hCi, hw, hc, hFr⟩ := hx_
    dsimp only at hi hT hCi hw hc hFr ih ⊢
    refine pv_iload_n E d_Ps_tick_13 rfl rfl ?_
    refine pv_iload_n E d_Ps_tick_14 rfl rfl ?_
    refine pv_icmp_ge (tgt := 52) E d_Ps_tick_15 rfl (fun h15 => ?_) (fun h15 => ?_)
    · skip
      have hi2 : k ≤ i := (nI_leI (by omega) (by omega)).mp h15
      refine pv_iload_n E d_Ps_tick_52 rfl rfl ?_
      exact pv_iret E hr hlk d_Ps_tick_53 (by decide) (by decide) ⟨fun z => absurd z hbad, fun _ => ⟨by rw [hc, show k - i = 0 by omega]; rfl, by rw [hw, show k - i = 0 by omega]; exact hT, hFr⟩⟩
    · skip
      have hi2 : i < k := Nat.lt_of_not_le (fun z => h15 ((nI_leI (by omega) (by omega)).mpr z))
      refine pv_iload_n E d_Ps_tick_18 rfl rfl ?_
      refine pv_aload_n E d_Ps_tick_19 rfl rfl ?_
      refine gf_Ps_tree E wd_101 d_Ps_tick_20 ?_
      refine pv_top (congrArg ps_ref hT.1.2) ?_
      refine pv_callV E (fun adr => k_Tree_passOneTick l D ca A _ t' hT.2.2.1 hCi.2.1 adr) yv_Tree_passOneTick wd_338 rfl rfl (fun _ => ⟨_, rfl⟩) rfl ⟨by decide, by decide⟩ (Nat.le_of_ble_eq_true rfl) d_Ps_tick_23 ⟨by decide, by decide⟩ (fun r23 σ23 hq23 => ?_)
      obtain ⟨hr23, hT23, hf23, hn23⟩ := hq23
      subst r23
      have hP1 := hT.tf hT23 hf23
      have hC1 := t_pass_ok hCi
      refine pv_iadd E d_Ps_tick_26 ?_
      refine pv_top (congrArg ps_int (nI_add e _)) ?_
      refine pv_istore_n E d_Ps_tick_27 rfl (by decide) ?_
      refine pv_aload_n E d_Ps_tick_28 rfl rfl ?_
      refine gf_Ps_tree E wd_101 d_Ps_tick_29 ?_
      refine pv_top (congrArg ps_ref hP1.1.2) ?_
      refine pv_aload_n E d_Ps_tick_32 rfl rfl ?_
      refine gf_Ps_graph E wd_100 d_Ps_tick_33 ?_
      refine pv_top (congrArg ps_ref hP1.1.1) ?_
      refine pv_callV E (fun adr => k_Tree_closeAllThatCan l D ca A _ (t_pass t') hT23 hC1.2.1 g' hP1.2.1 hC1.1 hC1.2.2 adr) yv_Tree_closeAllThatCan wd_292 rfl rfl (fun _ => ⟨_, rfl⟩) rfl ⟨by decide, by decide⟩ (Nat.le_of_ble_eq_true rfl) d_Ps_tick_36 ⟨by decide, by decide⟩ (fun r36 σ36 hq36 => ?_)
      obtain ⟨hr36, hT36, hR36, hf36, hn36⟩ := hq36
      subst r36
      have hk36 := t_close_ok hC1
      have hP2 := hP1.cf hT36 hR36 hf36 hn36 hk36.2.2
      refine pv_aload_n E d_Ps_tick_39 rfl rfl ?_
      refine gf_Ps_graph E wd_100 d_Ps_tick_40 ?_
      refine pv_top (congrArg ps_ref hP2.1.1) ?_
      refine pv_callV E (fun adr => k_Graph_workOffLine l D ca A _ (t_close (t_pass t', g')).2 hR36 hk36.1.1 adr) yv_Graph_workOffLine wd_151 rfl rfl (fun _ => ⟨_, rfl⟩) rfl ⟨by decide, by decide⟩ (Nat.le_of_ble_eq_true rfl) d_Ps_tick_43 ⟨by decide, by decide⟩ (fun r43 σ43 hq43 => ?_)
      obtain ⟨hr43, hR43, hf43, hn43⟩ := hq43
      subst r43
      refine pv_inc1 E d_Ps_tick_46 rfl (by decide) ?_
      refine pv_goto (tgt := 13) E d_Ps_tick_49 rfl ?_
      exact pv_back (ih (i + 1, e + u_pcN (t_tick t') (uN t'), σ43, x_tick1 (t', g')) ⟨by show i + 1 ≤ k; omega, hP2.gf hR43 hf43 hn43 (gN_work _ _), (x_tick1_ok hCi).1, by rw [hw, show k - i = (k - (i + 1)) + 1 by omega, x_tkN], by rw [hc, show k - i = (k - (i + 1)) + 1 by omega, x_tkc]; show e + (u_pcN (t_tick t') (uN t') + x_tkc (k - (i + 1)) (x_tick1 (t', g'))) = e + u_pcN (t_tick t') (uN t') + x_tkc (k - (i + 1)) (x_tick1 (t', g')); omega, hFr.tr (((FrC.ofT hf23).tr hf36).tr (FrC.ofG hf43))⟩ (by show k - (i + 1) < k - i; omega)) ⟨rfl, rfl, rfl, congrArg (fun z : Int32 => some (ps_int z)) (nI_1 i), trivial⟩
  · skip
    have hbad : n_bad n := by
      by_cases z : n < 0
      · exact Or.inl z
      · by_cases y : 60 < n
        · exact Or.inr y
        · rw [st_is, if_neg z, if_neg y] at h4; exact absurd h4 (by decide)
    refine pv_iconst (v := -1) E d_Ps_tick_7 (by decide) ?_
    exact pv_iret E hr hlk d_Ps_tick_8 (by decide) (by decide) ⟨fun _ => ⟨rfl, rfl⟩, fun z => absurd hbad z⟩
set_option maxHeartbeats 8000000 in
set_option maxRecDepth 100000 in
theorem k_Ps_init (l : Launch) (D : va_G) (ca : Nat → ClassId) (A : Nat → Prop) (σ : ps_S)  (hz : ∀ κ, 1 ≤ κ → κ ≤ 11 → ps_N σ κ = 0) : ∀ adr, ps_M l y_Ps_init c_Ps_init 1 (Option.none : Option Jvm.ClassFile.FieldType) { frames := 3, cells := 9, slots := 203, locals := 60 } D ca A adr σ [ps_ref (some (0, 0))] (fun rv σ' => rv = none ∧ σ' = pp_init σ) := by
  intro adr
  refine ps_M.of (by decide +kernel) (Nat.le_of_ble_eq_true rfl) ?_
  intro p_ e_ s_ m_ args_ below_ meth_ c_ E hr hlk hnm
  refine pv_aload_n E d_Ps_init_0 rfl rfl ?_
  refine pv_objInit E wd_23 wd_24 wd_25 (Nat.le_of_ble_eq_true rfl) (by decide) d_Ps_init_1 ?_
  refine pv_aload_n E d_Ps_init_4 rfl rfl ?_
  refine pv_new (ci := 1) (N := 5) (fs := [.null, .null, .null, .int 0, .int 0]) (C := "PromiseScopes$StageGraph") (T := T_Graph) E 1 (by decide) (fun _ => rfl) rfl in_Graph ty_Graph ty_Graph_ok wd_26 wd_27 wd_2 (by decide) (by decide) (by decide) d_Ps_init_5 ?_
  rw [hz 1 (by decide) (by decide)]
  refine pv_dup E d_Ps_init_8 rfl ?_
  refine pv_callI E (fun adr => k_Graph_init l D ca A _ adr) yi_Graph_init wd_28 rfl rfl ⟨by decide, by decide⟩ (Nat.le_of_ble_eq_true rfl) d_Ps_init_9 ⟨by decide, by decide⟩ (fun r9 σ9 hq9 => ?_)
  obtain ⟨hr9, hs9⟩ := hq9
  subst r9
  subst σ9
  refine pf_Ps_graph E wd_100 d_Ps_init_12 hnm ?_
  change ps_V _ _ _ _ _ _ _ _ _ _ _ _ _ _ _ _ _ _ _ _ _ (pp_1 σ) _ _
  refine pv_aload_n E d_Ps_init_15 rfl rfl ?_
  refine pv_new (ci := 6) (N := 6) (fs := [.null, .null, .int 0, .int 0, .int 0, .int 0]) (C := "PromiseScopes$ScopeTree") (T := T_Tree) E 7 (by decide) (fun _ => rfl) rfl in_Tree ty_Tree ty_Tree_ok wd_68 wd_69 wd_4 (by decide) (by decide) (by decide) d_Ps_init_16 ?_
  rw [show ps_N (pp_1 σ) 7 = 0 from hz 7 (by decide) (by decide)]
  refine pv_dup E d_Ps_init_19 rfl ?_
  refine pv_callI E (fun adr => k_Tree_init l D ca A _ adr) yi_Tree_init wd_70 rfl rfl ⟨by decide, by decide⟩ (Nat.le_of_ble_eq_true rfl) d_Ps_init_20 ⟨by decide, by decide⟩ (fun r20 σ20 hq20 => ?_)
  obtain ⟨hr20, hs20⟩ := hq20
  subst r20
  subst σ20
  refine pf_Ps_tree E wd_101 d_Ps_init_23 hnm ?_
  exact pv_vret E hr hlk d_Ps_init_26 (by decide) (by decide) ⟨rfl, rfl⟩
