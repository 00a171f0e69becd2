theorem len_sub {g : gT} {a : Nat} {x : List Nat} (h : gP g = a :: x) : nI (gP g).length - 1 = nI x.length := by
  rw [h, List.length_cons, ← nI_1, Int32.sub_eq_add_neg, Int32.add_assoc]
  exact Int32.add_zero _
set_option maxHeartbeats 8000000 in
set_option maxRecDepth 100000 in
theorem k_Mod_work_b (l : Launch) (D : va_G) (ca : Nat → ClassId) (A : Nat → Prop) (σ : ps_S) (n : Int32) (t : tT) (g : gT) (hM : RM σ t g 0) (hO : gOK g) (hY : gY g) (hb : n_bad n) : ∀ adr, ps_M l y_Mod_work c_Mod_work 5 (Option.some Jvm.ClassFile.FieldType.int) { frames := 9, cells := 0, slots := 0, locals := 206 } D ca A adr σ [ps_ref (some (13, 0)), ps_int n] (fun rv σ' => rv = some (ps_int (-1)) ∧ RM σ' t g 0 ∧ ps_I σ' 13 0 0 = 0 ∧ FrM σ σ') := by
  intro adr
  refine ps_M.of (by decide +kernel) (Nat.le_of_ble_eq_true rfl) ?_
  intro p_ e_ s_ m_ args_ below_ meth_ c_ E hr hlk hnm
  have h0 := hM.1
  have hA := hM.2.1
  have hA1 : ∀ v : Int32, RMA (ps_sI σ 13 0 0 v) g 0 := fun v => hA.sc (Or.inl rfl)
  refine pv_aload_n E d_Mod_work_0 rfl rfl ?_
  refine pv_iconst (v := 0) E d_Mod_work_1 (by decide) ?_
  refine pf_Mod_thrown E wd_762 d_Mod_work_2 ?_
  refine pv_iload_n E d_Mod_work_5 rfl rfl ?_
  refine pv_if_lt (tgt := 15) E d_Mod_work_6 rfl (fun h6 => ?_) (fun h6 => ?_)
  · skip
    refine pv_iconst (v := -1) E d_Mod_work_15 (by decide) ?_
    exact pv_iret E hr hlk d_Mod_work_16 (by decide) (by decide) ⟨rfl, hM.th, ps_I_eq _ _ _ _ _, FrM.th⟩
  · skip
    refine pv_iload_n E d_Mod_work_9 rfl rfl ?_
    refine pv_bipush (v := 60) E d_Mod_work_10 (by decide) ?_
    refine pv_icmp_le (tgt := 17) E d_Mod_work_12 rfl (fun h12 => ?_) (fun h12 => ?_)
    · skip
      exact absurd hb (fun z => z.elim h6 (fun y => absurd y (Int32.not_lt.mpr h12)))
    · skip
      refine pv_iconst (v := -1) E d_Mod_work_15 (by decide) ?_
      exact pv_iret E hr hlk d_Mod_work_16 (by decide) (by decide) ⟨rfl, hM.th, ps_I_eq _ _ _ _ _, FrM.th⟩
set_option maxHeartbeats 8000000 in
set_option maxRecDepth 100000 in
theorem k_Mod_work_0 (l : Launch) (D : va_G) (ca : Nat → ClassId) (A : Nat → Prop) (σ : ps_S) (n : Int32) (t : tT) (g : gT) (hM : RM σ t g 0) (hO : gOK g) (hY : gY g) (hb : ¬ n_bad n) : ∀ adr, ps_M l y_Mod_work c_Mod_work 5 (Option.some Jvm.ClassFile.FieldType.int) { frames := 9, cells := 0, slots := 0, locals := 206 } D ca A adr σ [ps_ref (some (13, 0)), ps_int n] (fun rv σ' => rv = some (ps_int (nI (g_wrkc n.toNatClampNeg g))) ∧ RM σ' t (g_wrk n.toNatClampNeg g) 0 ∧ gY (g_wrk n.toNatClampNeg g) ∧ ps_I σ' 13 0 0 = 0 ∧ FrM σ σ') := by
  intro adr
  refine ps_M.of (by decide +kernel) (Nat.le_of_ble_eq_true rfl) ?_
  intro p_ e_ s_ m_ args_ below_ meth_ c_ E hr hlk hnm
  have h0 := hM.1
  have hA := hM.2.1
  have hA1 : ∀ v : Int32, RMA (ps_sI σ 13 0 0 v) g 0 := fun v => hA.sc (Or.inl rfl)
  refine pv_aload_n E d_Mod_work_0 rfl rfl ?_
  refine pv_iconst (v := 0) E d_Mod_work_1 (by decide) ?_
  refine pf_Mod_thrown E wd_762 d_Mod_work_2 ?_
  refine pv_iload_n E d_Mod_work_5 rfl rfl ?_
  refine pv_if_lt (tgt := 15) E d_Mod_work_6 rfl (fun h6 => ?_) (fun h6 => ?_)
  · skip
    exact absurd (Or.inl h6) hb
  · skip
    refine pv_iload_n E d_Mod_work_9 rfl rfl ?_
    refine pv_bipush (v := 60) E d_Mod_work_10 (by decide) ?_
    refine pv_icmp_le (tgt := 17) E d_Mod_work_12 rfl (fun h12 => ?_) (fun h12 => ?_)
    · skip
      obtain ⟨hnn, hn60⟩ := nI_of60 (fun z => hb (Or.inl z)) (fun z => hb (Or.inr z))
      generalize n.toNatClampNeg = k at hnn hn60 ⊢
      subst hnn
      refine pv_iconst (v := 0) E d_Mod_work_17 (by decide) ?_
      refine pv_istore_n E d_Mod_work_18 rfl (by decide) ?_
      refine pv_sub (L' := [(0, ps_ref (some (13, 0))), (1, ps_int (nI k)), (2, ps_int (nI 0))]) ⟨rfl, rfl, rfl, trivial⟩ ?_
      refine pv_loop (ι := Nat × ps_S × gT) (fun x => k - x.1) (fun x => [(0, ps_ref (some (13, 0))), (1, ps_int (nI k)), (2, ps_int (nI x.1))]) (fun x => x.2.1) (fun x => x.1 ≤ k ∧ RM x.2.1 t x.2.2 0 ∧ gOK x.2.2 ∧ gY x.2.2 ∧ ps_I x.2.1 13 0 0 = 0 ∧ FrM σ x.2.1 ∧ g_wrk k g = g_wrk (k - x.1) x.2.2 ∧ g_wrkc k g = x.1 + g_wrkc (k - x.1) x.2.2) (fun x hx_ ih => ?_) (0, ps_sI σ 13 0 0 0, g) ⟨Nat.zero_le _, hM.th, hO, hY, ps_I_eq _ _ _ _ _, FrM.th, rfl, (Nat.zero_add _).symm⟩
      obtain ⟨i, τ, γ⟩ := x
      obtain ⟨hi, hT, hOg, hYg, hth, hFr, hw, hc⟩ := hx_
      dsimp only at hi hT hOg hYg hth hFr hw hc ih ⊢
      have h0t := hT.1
      have hp48 := gP_48 hOg
      refine pv_iload_n E d_Mod_work_19 rfl rfl ?_
      refine pv_iload_n E d_Mod_work_20 rfl rfl ?_
      refine pv_icmp_ge (tgt := 97) E d_Mod_work_21 rfl (fun h21 => ?_) (fun h21 => ?_)
      · skip
        have hi2 : k ≤ i := (nI_leI (by omega) (by omega)).mp h21
        refine pv_iload_n E d_Mod_work_97 rfl rfl ?_
        exact pv_iret E hr hlk d_Mod_work_98 (by decide) (by decide) ⟨by rw [hc, show k - i = 0 by omega]; rfl, by rw [hw, show k - i = 0 by omega]; exact hT, by rw [hw, show k - i = 0 by omega]; exact hYg, hth, hFr⟩
      · skip
        have hi2 : i < k := Nat.lt_of_not_le (fun z => h21 ((nI_leI (by omega) (by omega)).mpr z))
        refine pv_aload_n E d_Mod_work_24 rfl rfl ?_
        refine gf_Mod_pooled E wd_780 d_Mod_work_25 ?_
        refine pv_top (congrArg ps_int hT.2.1.2.2.1) ?_
        refine pv_if_le (tgt := 97) E d_Mod_work_28 rfl (fun h28 => ?_) (fun h28 => ?_)
        · skip
          have hx : gP γ = [] := List.length_eq_zero_iff.mp (nI_le0 (by omega) h28)
          refine pv_iload_n E d_Mod_work_97 rfl rfl ?_
          exact pv_iret E hr hlk d_Mod_work_98 (by decide) (by decide) ⟨by rw [hc, show k - i = (k - (i + 1)) + 1 by omega, g_wrkc, hx]; rfl, by rw [hw, show k - i = (k - (i + 1)) + 1 by omega, g_wrk, hx]; exact hT, by rw [hw, show k - i = (k - (i + 1)) + 1 by omega, g_wrk, hx]; exact hYg, hth, hFr⟩
        · skip
          obtain ⟨a, x, hx⟩ : ∃ a x, gP γ = a :: x := by
            cases z : gP γ with
            | nil => rw [z] at h28; exact absurd (by decide) h28
            | cons a x => exact ⟨a, x, rfl⟩
          have hxl : x.length + 1 ≤ 48 := by rw [hx, List.length_cons] at hp48; exact hp48
          have ham : a ∈ gL γ ++ gP γ := by rw [hx]; exact List.mem_append_right _ List.mem_cons_self
          have haN := (hOg.2.2.2 a ham).1
          have hna : a ∉ gL (gsP γ x) ++ gP (gsP γ x) := by
            have hq := hOg.2.2.1
            rw [hx] at hq
            obtain ⟨q1, q2, q3⟩ := List.nodup_append.mp hq
            intro z
            rcases List.mem_append.mp z with z | z
            · exact q3 a z a List.mem_cons_self rfl
            · exact (List.nodup_cons.mp q2).1 z
          refine pv_aload_n E d_Mod_work_31 rfl rfl ?_
          refine gf_Mod_pool E wd_781 d_Mod_work_32 ?_
          refine pv_top (congrArg ps_ref (m_f h0t 19 rfl)) ?_
          refine pv_iconst (v := 0) E d_Mod_work_35 (by decide) ?_
          refine pv_iaload (t0 := 6) E 14 _ (fun _ _ _ _ _ => rfl) rfl (m_ix h0t 14 10 (by decide) (by decide) (show 0 < 48 by decide)) d_Mod_work_36 ?_
          refine pv_top (congrArg ps_int ((congrArg (ps_I _ 14 10) (nI_clamp (Nat.lt_trans (show 0 < 48 by decide) (by decide)))).trans (hT.2.1.2.2.2 0 a (by rw [hx]; rfl)))) ?_
          refine pv_istore_n E d_Mod_work_37 rfl (by decide) ?_
          refine pv_aload_n E d_Mod_work_38 rfl rfl ?_
          refine pv_dup E d_Mod_work_39 rfl ?_
          refine gf_Mod_pooled E wd_780 d_Mod_work_40 ?_
          refine pv_top (congrArg ps_int hT.2.1.2.2.1) ?_
          refine pv_iconst (v := 1) E d_Mod_work_43 (by decide) ?_
          refine pv_isub E d_Mod_work_44 ?_
          refine pv_top (congrArg ps_int (len_sub hx)) ?_
          refine pf_Mod_pooled E wd_780 d_Mod_work_45 ?_
          have hq0 := RMq.of hT.2.1 hx
          refine pv_iconst (v := 0) E d_Mod_work_48 (by decide) ?_
          refine pv_istore E d_Mod_work_49 (by decide) ?_
          refine pv_sub (L' := [(0, ps_ref (some (13, 0))), (1, ps_int (nI k)), (2, ps_int (nI i)), (3, ps_int (nI a)), (4, ps_int (nI 0))]) ⟨rfl, rfl, rfl, rfl, rfl, trivial⟩ ?_
          refine pv_loop (ι := Nat × ps_S) (fun y => x.length - y.1) (fun y => [(0, ps_ref (some (13, 0))), (1, ps_int (nI k)), (2, ps_int (nI i)), (3, ps_int (nI a)), (4, ps_int (nI y.1))]) (fun y => y.2) (fun y => y.1 ≤ x.length ∧ RMq y.2 γ x y.1 ∧ FrA τ y.2) (fun y hy_ ih2 => ?_) (0, ps_sI τ 13 0 18 (nI x.length)) ⟨Nat.zero_le _, hq0, FrA.a13 (by decide)⟩
          obtain ⟨j, ρ⟩ := y
          obtain ⟨hj, hQ, hFq⟩ := hy_
          dsimp only at hj hQ hFq ih2 ⊢
          have h0q := h0t.A hFq
          refine pv_iload E d_Mod_work_51 rfl ?_
          refine pv_aload_n E d_Mod_work_53 rfl rfl ?_
          refine gf_Mod_pooled E wd_780 d_Mod_work_54 ?_
          refine pv_top (congrArg ps_int hQ.2.2.1) ?_
          refine pv_icmp_ge (tgt := 82) E d_Mod_work_57 rfl (fun h57 => ?_) (fun h57 => ?_)
          · skip
            have hj2 : x.length ≤ j := (nI_leI (by omega) (by omega)).mp h57
            have hj3 : j = x.length := by omega
            subst hj3
            have hA2 := hQ.to
            refine pv_aload_n E d_Mod_work_82 rfl rfl ?_
            refine pv_iload_n E d_Mod_work_83 rfl rfl ?_
            refine pv_callV E (fun adr => k_Mod_resolve l D ca A _ a (gsP γ x) 0 h0q hA2 (hOg.tpool hx) (by decide) haN (fun hz => (hYg.1.2.1 a ham).resolve_left (fun z => (g_on_eq _ _).mp z hz)) (fun j hj => hYg.1.1 a j hj) adr) yv_Mod_resolve wd_936 rfl rfl (fun _ => ⟨_, rfl⟩) rfl ⟨by decide, by decide⟩ (Nat.le_of_ble_eq_true rfl) d_Mod_work_84 ⟨by decide, by decide⟩ (fun r84 σ84 hq84 => ?_)
            obtain ⟨hr84, hA84, hf84⟩ := hq84
            subst r84
            refine pv_aload_n E d_Mod_work_87 rfl rfl ?_
            refine pv_callV E (fun adr => k_Mod_workOff l D ca A _ (g_res (gsP γ x) a) (h0q.A hf84) hA84 (gOK.res (hOg.tpool hx) haN) ((hYg.1.tp hx).res hna) adr) yv_Mod_workOff wd_932 rfl rfl (fun _ => ⟨_, rfl⟩) rfl ⟨by decide, by decide⟩ (Nat.le_of_ble_eq_true rfl) d_Mod_work_88 ⟨by decide, by decide⟩ (fun r88 σ88 hq88 => ?_)
            obtain ⟨hr88, hA88, hl88, hx88, hf88⟩ := hq88
            subst r88
            have hfa := (hFq.tr hf84).tr hf88
            refine pv_inc1 E d_Mod_work_91 rfl (by decide) ?_
            refine pv_goto (tgt := 19) E d_Mod_work_94 rfl ?_
            exact pv_back (ih (i + 1, σ88, g_work 96 (g_res (gsP γ x) a)) ⟨by show i + 1 ≤ k; omega, hT.A hA88 hfa, hOg.pl hx, ⟨hx88, hl88⟩, hfa.th.trans hth, hFr.tr (FrM.ofA hfa), by rw [hw, show k - i = (k - (i + 1)) + 1 by omega, g_wrk, hx], by rw [hc, show k - i = (k - (i + 1)) + 1 by omega, g_wrkc, hx]; show i + (g_wrkc (k - (i + 1)) (g_work 96 (g_res (gsP γ x) a)) + 1) = i + 1 + g_wrkc (k - (i + 1)) (g_work 96 (g_res (gsP γ x) a)); omega⟩ (by show k - (i + 1) < k - i; omega)) ⟨rfl, rfl, congrArg (fun z : Int32 => some (ps_int z)) (nI_1 i), trivial⟩
          · skip
            have hj2 : j < x.length := Nat.lt_of_not_le (fun z => h57 ((nI_leI (by omega) (by omega)).mpr z))
            obtain ⟨b, hb⟩ : ∃ b, x[j]? = some b := ⟨_, List.getElem?_eq_getElem hj2⟩
            refine pv_aload_n E d_Mod_work_60 rfl rfl ?_
            refine gf_Mod_pool E wd_781 d_Mod_work_61 ?_
            refine pv_top (congrArg ps_ref (m_f h0q 19 rfl)) ?_
            refine pv_iload E d_Mod_work_64 rfl ?_
            refine pv_aload_n E d_Mod_work_66 rfl rfl ?_
            refine gf_Mod_pool E wd_781 d_Mod_work_67 ?_
            refine pv_top (congrArg ps_ref (m_f h0q 19 rfl)) ?_
            refine pv_iload E d_Mod_work_70 rfl ?_
            refine pv_iconst (v := 1) E d_Mod_work_72 (by decide) ?_
            refine pv_iadd E d_Mod_work_73 ?_
            refine pv_top (congrArg ps_int (nI_1 _)) ?_
            refine pv_iaload (t0 := 6) E 14 _ (fun _ _ _ _ _ => rfl) rfl (m_ix h0q 14 10 (by decide) (by decide) (show j + 1 < 48 by omega)) d_Mod_work_74 ?_
            refine pv_top (congrArg ps_int ((congrArg (ps_I _ 14 10) (nI_clamp (Nat.lt_trans (show j + 1 < 48 by omega) (by decide)))).trans (hQ.2.2.2.2 j b hb (Nat.le_refl _)))) ?_
            refine pv_iastore (t0 := 6) E 14 _ (fun _ _ _ _ _ => rfl) rfl (m_ix h0q 14 10 (by decide) (by decide) (show j < 48 by omega)) d_Mod_work_75 ?_
            rw [nI_clamp (Nat.lt_trans (show j < 48 by omega) (by decide))]
            refine pv_inc1 E d_Mod_work_76 rfl (by decide) ?_
            refine pv_goto (tgt := 51) E d_Mod_work_79 rfl ?_
            exact pv_back (ih2 (j + 1, _) ⟨by show j + 1 ≤ x.length; omega, hQ.st hb, hFq.tr (FrA.a14 (by decide))⟩ (by show x.length - (j + 1) < x.length - j; omega)) ⟨rfl, rfl, rfl, rfl, congrArg (fun z : Int32 => some (ps_int z)) (nI_1 j), trivial⟩
    · skip
      exact absurd (Or.inr (Int32.not_le.mp h12)) hb
