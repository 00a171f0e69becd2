set_option maxHeartbeats 8000000 in
set_option maxRecDepth 100000 in
theorem k_Scope_isKey (l : Launch) (D : va_G) (ca : Nat → ClassId) (A : Nat → Prop) (σ : ps_S) (x : Int32)  : ∀ adr, ps_M l y_Scope_isKey c_Scope_isKey 1 (Option.some Jvm.ClassFile.FieldType.boolean) { frames := 0, cells := 0, slots := 0, locals := 0 } D ca A adr σ [ps_int x] (fun rv σ' => rv = some (ps_int (if ¬ x < 0 ∧ x.toNatClampNeg < 4 then 1 else 0)) ∧ σ' = σ) := by
  intro adr
  refine ps_M.of (by decide +kernel) (Nat.le_of_ble_eq_true rfl) ?_
  intro p_ e_ s_ m_ args_ below_ meth_ c_ E hr hlk hnm
  refine pv_iload_n E d_Scope_isKey_0 rfl rfl ?_
  refine pv_if_lt (tgt := 13) E d_Scope_isKey_1 rfl (fun h1 => ?_) (fun h1 => ?_)
  · skip
    refine pv_iconst (v := 0) E d_Scope_isKey_13 (by decide) ?_
    exact pv_zret E hr hlk d_Scope_isKey_14 (by first | rfl | (apply ps_zb; assumption)) (by decide) (by decide) ⟨by rw [if_neg (fun z => z.1 h1)], rfl⟩
  · skip
    refine pv_iload_n E d_Scope_isKey_4 rfl rfl ?_
    refine pv_iconst (v := 4) E d_Scope_isKey_5 (by decide) ?_
    refine pv_icmp_ge (tgt := 13) E d_Scope_isKey_6 rfl (fun h6 => ?_) (fun h6 => ?_)
    · skip
      rw [show (4 : Int32) = nI 4 from rfl, nI_le_s (by decide) h1] at h6
      refine pv_iconst (v := 0) E d_Scope_isKey_13 (by decide) ?_
      exact pv_zret E hr hlk d_Scope_isKey_14 (by first | rfl | (apply ps_zb; assumption)) (by decide) (by decide) ⟨by rw [if_neg (fun z => absurd z.2 (Nat.not_lt.mpr h6))], rfl⟩
    · skip
      rw [show (4 : Int32) = nI 4 from rfl, nI_le_s (by decide) h1] at h6
      refine pv_iconst (v := 1) E d_Scope_isKey_9 (by decide) ?_
      refine pv_goto (tgt := 14) E d_Scope_isKey_10 rfl ?_
      exact pv_zret E hr hlk d_Scope_isKey_14 (by first | rfl | (apply ps_zb; assumption)) (by decide) (by decide) ⟨by rw [if_pos ⟨h1, Nat.lt_of_not_le h6⟩], rfl⟩
set_option maxHeartbeats 8000000 in
set_option maxRecDepth 100000 in
theorem k_Scope_effectiveDeadline (l : Launch) (D : va_G) (ca : Nat → ClassId) (A : Nat → Prop) (σ : ps_S) (p : Option Nat) (d : Int32) (t : tT) (hT : RT σ t) (hp : ∀ c, p = some c → c < tN t) : ∀ adr, ps_M l y_Scope_effectiveDeadline c_Scope_effectiveDeadline 2 (Option.some Jvm.ClassFile.FieldType.int) { frames := 1, cells := 0, slots := 0, locals := 24 } D ca A adr σ [ps_ref (p.map fun c => (5, c)), ps_int d] (fun rv σ' => rv = some (ps_int (t_eff t p d)) ∧ σ' = σ) := by
  intro adr
  refine ps_M.of (by decide +kernel) (Nat.le_of_ble_eq_true rfl) ?_
  intro p_ e_ s_ m_ args_ below_ meth_ c_ E hr hlk hnm
  refine pv_aload_n E d_Scope_effectiveDeadline_0 rfl rfl ?_
  refine pv_ifnull (tgt := 12) E d_Scope_effectiveDeadline_1 rfl (fun h1 => ?_) (fun q1 h1 => ?_)
  · skip
    have hp0 : p = none := by
      cases z : p with
      | none => rfl
      | some c => rw [z] at h1; cases h1
    refine pv_iload_n E d_Scope_effectiveDeadline_12 rfl rfl ?_
    refine pv_if_ge (tgt := 20) E d_Scope_effectiveDeadline_13 rfl (fun h13 => ?_) (fun h13 => ?_)
    · skip
      refine pv_iload_n E d_Scope_effectiveDeadline_20 rfl rfl ?_
      exact pv_iret E hr hlk d_Scope_effectiveDeadline_21 (by decide) (by decide) ⟨by simp [t_eff, hp0, h1, h13], rfl⟩
    · skip
      refine pv_iconst (v := -1) E d_Scope_effectiveDeadline_16 (by decide) ?_
      refine pv_goto (tgt := 21) E d_Scope_effectiveDeadline_17 rfl ?_
      exact pv_iret E hr hlk d_Scope_effectiveDeadline_21 (by decide) (by decide) ⟨by simp [t_eff, hp0, h1, h13], rfl⟩
  · skip
    obtain ⟨c, hc0⟩ : ∃ c, p = some c := by
      cases z : p with
      | none => rw [z] at h1; cases h1
      | some c => exact ⟨c, rfl⟩
    have hc := hp c hc0
    subst hc0
    obtain ⟨⟨b0, b1, b2, b3, b4, b5⟩, ⟨d1, d2, d3, d4, d5⟩, b6, b7, b8⟩ := hT.2.1 c hc
    refine pv_aload_n E d_Scope_effectiveDeadline_4 rfl rfl ?_
    refine gf_Scope_deadline E wd_644 d_Scope_effectiveDeadline_5 ?_
    refine pv_top (congrArg ps_int b4) ?_
    refine pv_iconst (v := -1) E d_Scope_effectiveDeadline_8 (by decide) ?_
    refine pv_icmp_ne (tgt := 22) E d_Scope_effectiveDeadline_9 rfl (fun h9 => ?_) (fun h9 => ?_)
    · skip
      refine pv_iload_n E d_Scope_effectiveDeadline_22 rfl rfl ?_
      refine pv_if_ge (tgt := 33) E d_Scope_effectiveDeadline_23 rfl (fun h23 => ?_) (fun h23 => ?_)
      · skip
        refine pv_iload_n E d_Scope_effectiveDeadline_33 rfl rfl ?_
        refine pv_aload_n E d_Scope_effectiveDeadline_34 rfl rfl ?_
        refine gf_Scope_deadline E wd_644 d_Scope_effectiveDeadline_35 ?_
        refine pv_top (congrArg ps_int b4) ?_
        refine pv_min E wd_631 wd_632 wd_16 wd_633 (by decide) (Nat.le_of_ble_eq_true rfl) (by decide) (by decide) d_Scope_effectiveDeadline_38 ?_
        exact pv_iret E hr hlk d_Scope_effectiveDeadline_41 (by decide) (by decide) ⟨by simp [t_eff, h1, h9, h23], rfl⟩
      · skip
        refine pv_aload_n E d_Scope_effectiveDeadline_26 rfl rfl ?_
        refine gf_Scope_deadline E wd_644 d_Scope_effectiveDeadline_27 ?_
        refine pv_top (congrArg ps_int b4) ?_
        refine pv_goto (tgt := 41) E d_Scope_effectiveDeadline_30 rfl ?_
        exact pv_iret E hr hlk d_Scope_effectiveDeadline_41 (by decide) (by decide) ⟨by simp [t_eff, h1, h9, h23], rfl⟩
    · skip
      refine pv_iload_n E d_Scope_effectiveDeadline_12 rfl rfl ?_
      refine pv_if_ge (tgt := 20) E d_Scope_effectiveDeadline_13 rfl (fun h13 => ?_) (fun h13 => ?_)
      · skip
        refine pv_iload_n E d_Scope_effectiveDeadline_20 rfl rfl ?_
        exact pv_iret E hr hlk d_Scope_effectiveDeadline_21 (by decide) (by decide) ⟨by simp [t_eff, h1, h9, h13], rfl⟩
      · skip
        refine pv_iconst (v := -1) E d_Scope_effectiveDeadline_16 (by decide) ?_
        refine pv_goto (tgt := 21) E d_Scope_effectiveDeadline_17 rfl ?_
        exact pv_iret E hr hlk d_Scope_effectiveDeadline_21 (by decide) (by decide) ⟨by simp [t_eff, h1, h9, h13], rfl⟩
set_option maxHeartbeats 8000000 in
set_option maxRecDepth 100000 in
theorem k_Scope_keep (l : Launch) (D : va_G) (ca : Nat → ClassId) (A : Nat → Prop) (σ : ps_S) (c : Nat) (x v : Int32) (t : tT) (hT : RT σ t) (hc : c < tN t) (hx : ¬ x < 0 ∧ x.toNatClampNeg < 4) : ∀ adr, ps_M l y_Scope_keep c_Scope_keep 3 (Option.none : Option Jvm.ClassFile.FieldType) { frames := 0, cells := 0, slots := 0, locals := 0 } D ca A adr σ [ps_ref (some (5, c)), ps_int x, ps_int v] (fun rv σ' => rv = none ∧ RT σ' (tsV t c x.toNatClampNeg v) ∧ FrT σ σ' ∧ ps_N σ' = ps_N σ) := by
  intro adr
  refine ps_M.of (by decide +kernel) (Nat.le_of_ble_eq_true rfl) ?_
  intro p_ e_ s_ m_ args_ below_ meth_ c_ E hr hlk hnm
  obtain ⟨⟨b0, b1, b2, b3, b4, b5⟩, ⟨d1, d2, d3, d4, d5⟩, b6, b7, b8⟩ := hT.2.1 c hc
  refine pv_aload_n E d_Scope_keep_0 rfl rfl ?_
  refine gf_Scope_values E wd_649 d_Scope_keep_1 ?_
  refine pv_top (congrArg ps_ref d1) ?_
  refine pv_iload_n E d_Scope_keep_4 rfl rfl ?_
  refine pv_iload_n E d_Scope_keep_5 rfl rfl ?_
  refine pv_iastore (t0 := 3) E 10 _ (fun _ _ _ _ _ => rfl) rfl (by rw [d3]; exact fun z => z.elim hx.1 (fun z => by have := hx.2; omega)) d_Scope_keep_6 ?_
  refine pv_aload_n E d_Scope_keep_7 rfl rfl ?_
  refine gf_Scope_binds E wd_650 d_Scope_keep_8 ?_
  refine pv_top (congrArg ps_ref d2) ?_
  refine pv_iload_n E d_Scope_keep_11 rfl rfl ?_
  refine pv_iconst (v := 1) E d_Scope_keep_12 (by decide) ?_
  refine pv_bastore (t0 := 4) E 11 _ (fun _ _ _ _ _ => rfl) rfl (by show vp_in _ (ps_L σ 11 c); rw [d4]; exact fun z => z.elim hx.1 (fun z => by have := hx.2; omega)) (rfl) d_Scope_keep_13 ?_
  exact pv_vret E hr hlk d_Scope_keep_14 (by decide) (by decide) ⟨rfl, hT.keep c x.toNatClampNeg v, (FrT.sI (by decide)).tr (FrT.sI (by decide)), rfl⟩
set_option maxHeartbeats 8000000 in
set_option maxRecDepth 100000 in
theorem k_Scope_lookUp (l : Launch) (D : va_G) (ca : Nat → ClassId) (A : Nat → Prop) (σ : ps_S) (c : Nat) (x : Int32) (t : tT) (hT2 : ∀ c, c < tN t → RTs σ t c) (hW : tW t) (hc : c < tN t) (hx : ¬ x < 0 ∧ x.toNatClampNeg < 4) : ∀ adr, ps_M l y_Scope_lookUp c_Scope_lookUp 3 (Option.some Jvm.ClassFile.FieldType.int) { frames := 0, cells := 0, slots := 0, locals := 0 } D ca A adr σ [ps_ref (some (5, c)), ps_int x] (fun rv σ' => rv = some (ps_int (t_look t c x.toNatClampNeg)) ∧ σ' = σ) := by
  intro adr
  refine ps_M.of (by decide +kernel) (Nat.le_of_ble_eq_true rfl) ?_
  intro p_ e_ s_ m_ args_ below_ meth_ c_ E hr hlk hnm
  refine pv_aload_n E d_Scope_lookUp_0 rfl rfl ?_
  refine pv_astore_n E d_Scope_lookUp_1 rfl (by decide) ?_
  refine pv_sub (L' := [(0, ps_ref (some (5, c))), (1, ps_int x), (2, ps_ref ((some c).map fun p => (5, p)))]) ⟨rfl, rfl, rfl, trivial⟩ ?_
  refine pv_loop (ι := Nat × Option Nat) (fun z => z.1) (fun z => [(0, ps_ref (some (5, c))), (1, ps_int x), (2, ps_ref (z.2.map fun p => (5, p)))]) (fun _ => σ) (fun z => (∀ y, z.2 = some y → y < z.1 ∧ y < tN t) ∧ t_look t c x.toNatClampNeg = t_lk t z.1 z.2 x.toNatClampNeg) (fun z hz ih => ?_) (tN t, some c) ⟨fun y hy => by (cases hy; exact ⟨hc, hc⟩), rfl⟩
  obtain ⟨m, o2⟩ := z
  obtain ⟨ho, hp⟩ := hz
  dsimp only at ho hp ih ⊢
  refine pv_aload_n E d_Scope_lookUp_2 rfl rfl ?_
  refine pv_ifnull (tgt := 30) E d_Scope_lookUp_3 rfl (fun h3 => ?_) (fun q3 h3 => ?_)
  · skip
    have ho2 : o2 = none := by
      cases z : o2 with
      | none => rfl
      | some y => rw [z] at h3; cases h3
    refine pv_iconst (v := 0) E d_Scope_lookUp_30 (by decide) ?_
    exact pv_iret E hr hlk d_Scope_lookUp_31 (by decide) (by decide) ⟨by rw [hp, ho2, t_lk_none], rfl⟩
  · skip
    obtain ⟨y, hy⟩ : ∃ y, o2 = some y := by
      cases z : o2 with
      | none => rw [z] at h3; cases h3
      | some y => exact ⟨y, rfl⟩
    subst hy
    obtain ⟨hy1, hy2⟩ := ho y rfl
    obtain ⟨⟨f0, f1, f2_, f3, f4, f5⟩, ⟨i1, i2, i3, i4, i5⟩, f6, f7, f8⟩ := hT2 y hy2
    refine pv_aload_n E d_Scope_lookUp_6 rfl rfl ?_
    refine gf_Scope_binds E wd_650 d_Scope_lookUp_7 ?_
    refine pv_top (congrArg ps_ref i2) ?_
    refine pv_iload_n E d_Scope_lookUp_10 rfl rfl ?_
    refine pv_baload (t0 := 4) E 11 _ (fun _ _ _ _ _ => rfl) rfl (by rw [i4]; exact fun z => z.elim hx.1 (fun z => by have := hx.2; omega)) d_Scope_lookUp_11 ?_
    refine pv_top (congrArg ps_int (i5 _ hx.2).2) ?_
    refine pv_if_eq (tgt := 22) E d_Scope_lookUp_12 rfl (fun h12 => ?_) (fun h12 => ?_)
    · skip
      refine pv_aload_n E d_Scope_lookUp_22 rfl rfl ?_
      refine gf_Scope_parent E wd_641 d_Scope_lookUp_23 ?_
      refine pv_top (congrArg ps_ref f2_) ?_
      refine pv_astore_n E d_Scope_lookUp_26 rfl (by decide) ?_
      refine pv_goto (tgt := 2) E d_Scope_lookUp_27 rfl ?_
      exact pv_back (ih (m - 1, tP t y) ⟨fun w hw => by have := hW.2.1 y hy2 w hw; exact ⟨by omega, by omega⟩, hp.trans (by rw [show m = (m - 1) + 1 by omega, t_lk, if_pos h12]; rfl)⟩ (by show m - 1 < m; omega)) ⟨rfl, rfl, rfl, trivial⟩
    · skip
      refine pv_aload_n E d_Scope_lookUp_15 rfl rfl ?_
      refine gf_Scope_values E wd_649 d_Scope_lookUp_16 ?_
      refine pv_top (congrArg ps_ref i1) ?_
      refine pv_iload_n E d_Scope_lookUp_19 rfl rfl ?_
      refine pv_iaload (t0 := 3) E 10 _ (fun _ _ _ _ _ => rfl) rfl (by rw [i3]; exact fun z => z.elim hx.1 (fun z => by have := hx.2; omega)) d_Scope_lookUp_20 ?_
      refine pv_top (congrArg ps_int (i5 _ hx.2).1) ?_
      exact pv_iret E hr hlk d_Scope_lookUp_21 (by decide) (by decide) ⟨by rw [hp, show m = (m - 1) + 1 by omega, t_lk, if_neg h12], rfl⟩
set_option maxHeartbeats 8000000 in
set_option maxRecDepth 100000 in
theorem k_Scope_isBelow (l : Launch) (D : va_G) (ca : Nat → ClassId) (A : Nat → Prop) (σ : ps_S) (c o : Nat) (t : tT) (hT : RT σ t) (hW : tW t) (hc : c < tN t) : ∀ adr, ps_M l y_Scope_isBelow c_Scope_isBelow 3 (Option.some Jvm.ClassFile.FieldType.boolean) { frames := 0, cells := 0, slots := 0, locals := 0 } D ca A adr σ [ps_ref (some (5, c)), ps_ref (some (5, o))] (fun rv σ' => rv = some (ps_int (if t_low t c o = true then 1 else 0)) ∧ σ' = σ) := by
  intro adr
  refine ps_M.of (by decide +kernel) (Nat.le_of_ble_eq_true rfl) ?_
  intro p_ e_ s_ m_ args_ below_ meth_ c_ E hr hlk hnm
  obtain ⟨⟨b0, b1, b2, b3, b4, b5⟩, ⟨d1, d2, d3, d4, d5⟩, b6, b7, b8⟩ := hT.2.1 c hc
  refine pv_aload_n E d_Scope_isBelow_0 rfl rfl ?_
  refine gf_Scope_parent E wd_641 d_Scope_isBelow_1 ?_
  refine pv_top (congrArg ps_ref b2) ?_
  refine pv_astore_n E d_Scope_isBelow_4 rfl (by decide) ?_
  refine pv_sub (L' := [(0, ps_ref (some (5, c))), (1, ps_ref (some (5, o))), (2, ps_ref ((tP t c).map fun p => (5, p)))]) ⟨rfl, rfl, rfl, trivial⟩ ?_
  refine pv_loop (ι := Nat × Option Nat) (fun z => z.1) (fun z => [(0, ps_ref (some (5, c))), (1, ps_ref (some (5, o))), (2, ps_ref (z.2.map fun p => (5, p)))]) (fun _ => σ) (fun z => (∀ y, z.2 = some y → y < z.1 ∧ y < tN t) ∧ t_low t c o = t_bel (tP t) z.1 z.2 o) (fun z hz ih => ?_) (tN t, tP t c) ⟨fun y hy => (by have := hW.2.1 c hc y hy; exact ⟨by omega, by omega⟩), rfl⟩
  obtain ⟨m, o2⟩ := z
  obtain ⟨ho, hp⟩ := hz
  dsimp only at ho hp ih ⊢
  refine pv_aload_n E d_Scope_isBelow_5 rfl rfl ?_
  refine pv_ifnull (tgt := 24) E d_Scope_isBelow_6 rfl (fun h6 => ?_) (fun q6 h6 => ?_)
  · skip
    have ho2 : o2 = none := by
      cases z : o2 with
      | none => rfl
      | some y => rw [z] at h6; cases h6
    refine pv_iconst (v := 0) E d_Scope_isBelow_24 (by decide) ?_
    exact pv_zret E hr hlk d_Scope_isBelow_25 (by first | rfl | (apply ps_zb; assumption)) (by decide) (by decide) ⟨by rw [hp, ho2, t_bel_none]; rfl, rfl⟩
  · skip
    obtain ⟨y, hy⟩ : ∃ y, o2 = some y := by
      cases z : o2 with
      | none => rw [z] at h6; cases h6
      | some y => exact ⟨y, rfl⟩
    subst hy
    obtain ⟨hy1, hy2⟩ := ho y rfl
    obtain ⟨⟨f0, f1, f2_, f3, f4, f5⟩, ⟨i1, i2, i3, i4, i5⟩, f6, f7, f8⟩ := hT.2.1 y hy2
    refine pv_aload_n E d_Scope_isBelow_9 rfl rfl ?_
    refine pv_aload_n E d_Scope_isBelow_10 rfl rfl ?_
    refine pv_acmp_ne (tgt := 16) E d_Scope_isBelow_11 rfl (fun h11 => ?_) (fun h11 => ?_)
    · skip
      refine pv_aload_n E d_Scope_isBelow_16 rfl rfl ?_
      refine gf_Scope_parent E wd_641 d_Scope_isBelow_17 ?_
      refine pv_top (congrArg ps_ref f2_) ?_
      refine pv_astore_n E d_Scope_isBelow_20 rfl (by decide) ?_
      refine pv_goto (tgt := 5) E d_Scope_isBelow_21 rfl ?_
      exact pv_back (ih (m - 1, tP t y) ⟨fun w hw => by have := hW.2.1 y hy2 w hw; exact ⟨by omega, by omega⟩, hp.trans (by rw [show m = (m - 1) + 1 by omega, t_bel, if_neg (fun z => h11 (by rw [z]; rfl))]; rfl)⟩ (by show m - 1 < m; omega)) ⟨rfl, rfl, rfl, trivial⟩
    · skip
      refine pv_iconst (v := 1) E d_Scope_isBelow_14 (by decide) ?_
      exact pv_zret E hr hlk d_Scope_isBelow_15 (by first | rfl | (apply ps_zb; assumption)) (by decide) (by decide) ⟨by rw [hp, show m = (m - 1) + 1 by omega, t_bel, if_pos (show y = o by injection h11 with z; injection z), if_pos rfl], rfl⟩
set_option maxHeartbeats 8000000 in
set_option maxRecDepth 100000 in
theorem k_Scope_isPastDeadline (l : Launch) (D : va_G) (ca : Nat → ClassId) (A : Nat → Prop) (σ : ps_S) (c : Nat) (x : Int32) (t : tT) (hT : RT σ t) (hc : c < tN t) : ∀ adr, ps_M l y_Scope_isPastDeadline c_Scope_isPastDeadline 2 (Option.some Jvm.ClassFile.FieldType.boolean) { frames := 0, cells := 0, slots := 0, locals := 0 } D ca A adr σ [ps_ref (some (5, c)), ps_int x] (fun rv σ' => rv = some (ps_int (if ¬ tS t c 1 = -1 ∧ tS t c 1 ≤ x then 1 else 0)) ∧ σ' = σ) := by
  intro adr
  refine ps_M.of (by decide +kernel) (Nat.le_of_ble_eq_true rfl) ?_
  intro p_ e_ s_ m_ args_ below_ meth_ c_ E hr hlk hnm
  obtain ⟨⟨b0, b1, b2, b3, b4, b5⟩, ⟨d1, d2, d3, d4, d5⟩, b6, b7, b8⟩ := hT.2.1 c hc
  refine pv_aload_n E d_Scope_isPastDeadline_0 rfl rfl ?_
  refine gf_Scope_deadline E wd_644 d_Scope_isPastDeadline_1 ?_
  refine pv_top (congrArg ps_int b4) ?_
  refine pv_iconst (v := -1) E d_Scope_isPastDeadline_4 (by decide) ?_
  refine pv_icmp_eq (tgt := 20) E d_Scope_isPastDeadline_5 rfl (fun h5 => ?_) (fun h5 => ?_)
  · skip
    refine pv_iconst (v := 0) E d_Scope_isPastDeadline_20 (by decide) ?_
    exact pv_zret E hr hlk d_Scope_isPastDeadline_21 (by first | rfl | (apply ps_zb; assumption)) (by decide) (by decide) ⟨by rw [if_neg (fun z => z.1 h5)], rfl⟩
  · skip
    refine pv_aload_n E d_Scope_isPastDeadline_8 rfl rfl ?_
    refine gf_Scope_deadline E wd_644 d_Scope_isPastDeadline_9 ?_
    refine pv_top (congrArg ps_int b4) ?_
    refine pv_iload_n E d_Scope_isPastDeadline_12 rfl rfl ?_
    refine pv_icmp_gt (tgt := 20) E d_Scope_isPastDeadline_13 rfl (fun h13 => ?_) (fun h13 => ?_)
    · skip
      refine pv_iconst (v := 0) E d_Scope_isPastDeadline_20 (by decide) ?_
      exact pv_zret E hr hlk d_Scope_isPastDeadline_21 (by first | rfl | (apply ps_zb; assumption)) (by decide) (by decide) ⟨by rw [if_neg (fun z => absurd z.2 (Int32.not_le.mpr h13))], rfl⟩
    · skip
      refine pv_iconst (v := 1) E d_Scope_isPastDeadline_16 (by decide) ?_
      refine pv_goto (tgt := 21) E d_Scope_isPastDeadline_17 rfl ?_
      exact pv_zret E hr hlk d_Scope_isPastDeadline_21 (by first | rfl | (apply ps_zb; assumption)) (by decide) (by decide) ⟨by rw [if_pos ⟨h5, Int32.not_lt.mp h13⟩], rfl⟩
set_option maxHeartbeats 8000000 in
set_option maxRecDepth 100000 in
theorem k_Scope_isStoppedBy (l : Launch) (D : va_G) (ca : Nat → ClassId) (A : Nat → Prop) (σ : ps_S) (c j : Nat) (t : tT) (hT : RT σ t) (hc : c < tN t) (hj : j < uN t) : ∀ adr, ps_M l y_Scope_isStoppedBy c_Scope_isStoppedBy 2 (Option.some Jvm.ClassFile.FieldType.boolean) { frames := 0, cells := 0, slots := 0, locals := 0 } D ca A adr σ [ps_ref (some (5, c)), ps_ref (some (6, j))] (fun rv σ' => rv = some (ps_int (if (tS t c 0 = 1 ∧ uK t j 4 = 2) ∨ (tS t c 0 = 2 ∧ uK t j 4 = 1) then 1 else 0)) ∧ σ' = σ) := by
  intro adr
  refine ps_M.of (by decide +kernel) (Nat.le_of_ble_eq_true rfl) ?_
  intro p_ e_ s_ m_ args_ below_ meth_ c_ E hr hlk hnm
  obtain ⟨⟨b0, b1, b2, b3, b4, b5⟩, ⟨d1, d2, d3, d4, d5⟩, b6, b7, b8⟩ := hT.2.1 c hc
  have hk := (hT.2.2 j hj).2.1
  refine pv_aload_n E d_Scope_isStoppedBy_0 rfl rfl ?_
  refine gf_Scope_policy E wd_642 d_Scope_isStoppedBy_1 ?_
  refine pv_top (congrArg ps_int b3) ?_
  refine pv_iconst (v := 1) E d_Scope_isStoppedBy_4 (by decide) ?_
  refine pv_icmp_ne (tgt := 16) E d_Scope_isStoppedBy_5 rfl (fun h5 => ?_) (fun h5 => ?_)
  · skip
    refine pv_aload_n E d_Scope_isStoppedBy_16 rfl rfl ?_
    refine gf_Scope_policy E wd_642 d_Scope_isStoppedBy_17 ?_
    refine pv_top (congrArg ps_int b3) ?_
    refine pv_iconst (v := 2) E d_Scope_isStoppedBy_20 (by decide) ?_
    refine pv_icmp_ne (tgt := 36) E d_Scope_isStoppedBy_21 rfl (fun h21 => ?_) (fun h21 => ?_)
    · skip
      refine pv_iconst (v := 0) E d_Scope_isStoppedBy_36 (by decide) ?_
      exact pv_zret E hr hlk d_Scope_isStoppedBy_37 (by first | rfl | (apply ps_zb; assumption)) (by decide) (by decide) ⟨by first | (simp [h5, h21]; done) | (exfalso; rw [h5] at h21; exact absurd h21 (by decide)), rfl⟩
    · skip
      refine pv_aload_n E d_Scope_isStoppedBy_24 rfl rfl ?_
      refine gf_Task_state E wd_719 d_Scope_isStoppedBy_25 ?_
      refine pv_top (congrArg ps_int hk) ?_
      refine pv_iconst (v := 1) E d_Scope_isStoppedBy_28 (by decide) ?_
      refine pv_icmp_ne (tgt := 36) E d_Scope_isStoppedBy_29 rfl (fun h29 => ?_) (fun h29 => ?_)
      · skip
        refine pv_iconst (v := 0) E d_Scope_isStoppedBy_36 (by decide) ?_
        exact pv_zret E hr hlk d_Scope_isStoppedBy_37 (by first | rfl | (apply ps_zb; assumption)) (by decide) (by decide) ⟨by first | (simp [h5, h21, h29]; done) | (exfalso; rw [h5] at h21; exact absurd h21 (by decide)), rfl⟩
      · skip
        refine pv_iconst (v := 1) E d_Scope_isStoppedBy_32 (by decide) ?_
        refine pv_goto (tgt := 37) E d_Scope_isStoppedBy_33 rfl ?_
        exact pv_zret E hr hlk d_Scope_isStoppedBy_37 (by first | rfl | (apply ps_zb; assumption)) (by decide) (by decide) ⟨by first | (simp [h5, h21, h29]; done) | (exfalso; rw [h5] at h21; exact absurd h21 (by decide)), rfl⟩
  · skip
    refine pv_aload_n E d_Scope_isStoppedBy_8 rfl rfl ?_
    refine gf_Task_state E wd_719 d_Scope_isStoppedBy_9 ?_
    refine pv_top (congrArg ps_int hk) ?_
    refine pv_iconst (v := 2) E d_Scope_isStoppedBy_12 (by decide) ?_
    refine pv_icmp_eq (tgt := 32) E d_Scope_isStoppedBy_13 rfl (fun h13 => ?_) (fun h13 => ?_)
    · skip
      refine pv_iconst (v := 1) E d_Scope_isStoppedBy_32 (by decide) ?_
      refine pv_goto (tgt := 37) E d_Scope_isStoppedBy_33 rfl ?_
      exact pv_zret E hr hlk d_Scope_isStoppedBy_37 (by first | rfl | (apply ps_zb; assumption)) (by decide) (by decide) ⟨by first | (simp [h5, h13]; done) | (exfalso; rw [h5] at h21; exact absurd h21 (by decide)), rfl⟩
    · skip
      refine pv_aload_n E d_Scope_isStoppedBy_16 rfl rfl ?_
      refine gf_Scope_policy E wd_642 d_Scope_isStoppedBy_17 ?_
      refine pv_top (congrArg ps_int b3) ?_
      refine pv_iconst (v := 2) E d_Scope_isStoppedBy_20 (by decide) ?_
      refine pv_icmp_ne (tgt := 36) E d_Scope_isStoppedBy_21 rfl (fun h21 => ?_) (fun h21 => ?_)
      · skip
        refine pv_iconst (v := 0) E d_Scope_isStoppedBy_36 (by decide) ?_
        exact pv_zret E hr hlk d_Scope_isStoppedBy_37 (by first | rfl | (apply ps_zb; assumption)) (by decide) (by decide) ⟨by first | (simp [h5, h13, h21]; done) | (exfalso; rw [h5] at h21; exact absurd h21 (by decide)), rfl⟩
      · skip
        refine pv_aload_n E d_Scope_isStoppedBy_24 rfl rfl ?_
        refine gf_Task_state E wd_719 d_Scope_isStoppedBy_25 ?_
        refine pv_top (congrArg ps_int hk) ?_
        refine pv_iconst (v := 1) E d_Scope_isStoppedBy_28 (by decide) ?_
        refine pv_icmp_ne (tgt := 36) E d_Scope_isStoppedBy_29 rfl (fun h29 => ?_) (fun h29 => ?_)
        · skip
          refine pv_iconst (v := 0) E d_Scope_isStoppedBy_36 (by decide) ?_
          exact pv_zret E hr hlk d_Scope_isStoppedBy_37 (by first | rfl | (apply ps_zb; assumption)) (by decide) (by decide) ⟨by first | (simp [h5, h13, h21, h29]; done) | (exfalso; rw [h5] at h21; exact absurd h21 (by decide)), rfl⟩
        · skip
          refine pv_iconst (v := 1) E d_Scope_isStoppedBy_32 (by decide) ?_
          refine pv_goto (tgt := 37) E d_Scope_isStoppedBy_33 rfl ?_
          exact pv_zret E hr hlk d_Scope_isStoppedBy_37 (by first | rfl | (apply ps_zb; assumption)) (by decide) (by decide) ⟨by first | (simp [h5, h13, h21, h29]; done) | (exfalso; rw [h5] at h21; exact absurd h21 (by decide)), rfl⟩
set_option maxHeartbeats 8000000 in
set_option maxRecDepth 100000 in
theorem k_Scope_init (l : Launch) (D : va_G) (ca : Nat → ClassId) (A : Nat → Prop) (σ : ps_S) (c : Nat) (nu po d : Int32) (p r : Option (Nat × Nat))  : ∀ adr, ps_M l y_Scope_init c_Scope_init 6 (Option.none : Option Jvm.ClassFile.FieldType) { frames := 1, cells := 2, slots := 8, locals := 20 } D ca A adr σ [ps_ref (some (5, c)), ps_int nu, ps_ref p, ps_int po, ps_int d, ps_ref r] (fun rv σ' => rv = none ∧ σ' = sc_init σ c nu po d p r) := by
  intro adr
  refine ps_M.of (by decide +kernel) (Nat.le_of_ble_eq_true rfl) ?_
  intro p_ e_ s_ m_ args_ below_ meth_ c_ E hr hlk hnm
  refine pv_aload_n E d_Scope_init_0 rfl rfl ?_
  refine pv_objInit E wd_638 wd_24 wd_25 (Nat.le_of_ble_eq_true rfl) (by decide) d_Scope_init_1 ?_
  refine pv_aload_n E d_Scope_init_4 rfl rfl ?_
  refine pv_iload_n E d_Scope_init_5 rfl rfl ?_
  refine pf_Scope_number E wd_639 d_Scope_init_6 hnm ?_
  refine pv_aload_n E d_Scope_init_9 rfl rfl ?_
  refine pv_aload_n E d_Scope_init_10 rfl rfl ?_
  refine pf_Scope_parent E wd_641 d_Scope_init_11 hnm ?_
  refine pv_aload_n E d_Scope_init_14 rfl rfl ?_
  refine pv_iload_n E d_Scope_init_15 rfl rfl ?_
  refine pf_Scope_policy E wd_642 d_Scope_init_16 hnm ?_
  refine pv_aload_n E d_Scope_init_19 rfl rfl ?_
  refine pv_iload E d_Scope_init_20 rfl ?_
  refine pf_Scope_deadline E wd_644 d_Scope_init_22 hnm ?_
  refine pv_aload_n E d_Scope_init_25 rfl rfl ?_
  refine pv_aload E d_Scope_init_26 rfl ?_
  refine pf_Scope_result E wd_646 d_Scope_init_28 hnm ?_
  refine pv_aload_n E d_Scope_init_31 rfl rfl ?_
  refine pv_iconst (v := 4) E d_Scope_init_32 (by decide) ?_
  refine pv_newI (t0 := 3) (N := 4) E 10 (by decide) (fun _ _ _ _ _ => rfl) rfl wd_680 (by decide) (rfl) (by decide) (by decide) (by decide) d_Scope_init_33 ?_
  refine pf_Scope_values E wd_649 d_Scope_init_35 hnm ?_
  refine pv_aload_n E d_Scope_init_38 rfl rfl ?_
  refine pv_iconst (v := 4) E d_Scope_init_39 (by decide) ?_
  refine pv_newZ (t0 := 4) (N := 4) E 11 (by decide) (fun _ _ _ _ _ => rfl) rfl wd_681 (by decide) (rfl) (by decide) (by decide) (by decide) d_Scope_init_40 ?_
  refine pf_Scope_binds E wd_650 d_Scope_init_42 hnm ?_
  refine pv_aload_n E d_Scope_init_45 rfl rfl ?_
  refine pv_iconst (v := 0) E d_Scope_init_46 (by decide) ?_
  refine pf_Scope_state E wd_651 d_Scope_init_47 ?_
  exact pv_vret E hr hlk d_Scope_init_50 (by decide) (by decide) ⟨rfl, rfl⟩
set_option maxHeartbeats 8000000 in
set_option maxRecDepth 100000 in
theorem k_Task_init (l : Launch) (D : va_G) (ca : Nat → ClassId) (A : Nat → Prop) (σ : ps_S) (j c : Nat) (co fn a x : Int32)  : ∀ adr, ps_M l y_Task_init c_Task_init 6 (Option.none : Option Jvm.ClassFile.FieldType) { frames := 1, cells := 0, slots := 0, locals := 20 } D ca A adr σ [ps_ref (some (6, j)), ps_ref (some (5, c)), ps_int co, ps_int fn, ps_int a, ps_int x] (fun rv σ' => rv = none ∧ σ' = tk_init σ j co fn a x (some (5, c)) (if ps_I σ 5 c 8 = 0 then 0 else 3)) := by
  intro adr
  refine ps_M.of (by decide +kernel) (Nat.le_of_ble_eq_true rfl) ?_
  intro p_ e_ s_ m_ args_ below_ meth_ c_ E hr hlk hnm
  refine pv_aload_n E d_Task_init_0 rfl rfl ?_
  refine pv_objInit E wd_710 wd_24 wd_25 (Nat.le_of_ble_eq_true rfl) (by decide) d_Task_init_1 ?_
  refine pv_aload_n E d_Task_init_4 rfl rfl ?_
  refine pv_aload_n E d_Task_init_5 rfl rfl ?_
  refine pf_Task_owner E wd_711 d_Task_init_6 hnm ?_
  refine pv_aload_n E d_Task_init_9 rfl rfl ?_
  refine pv_iload_n E d_Task_init_10 rfl rfl ?_
  refine pf_Task_cost E wd_714 d_Task_init_11 hnm ?_
  refine pv_aload_n E d_Task_init_14 rfl rfl ?_
  refine pv_iload_n E d_Task_init_15 rfl rfl ?_
  refine pf_Task_function E wd_715 d_Task_init_16 hnm ?_
  refine pv_aload_n E d_Task_init_19 rfl rfl ?_
  refine pv_iload E d_Task_init_20 rfl ?_
  refine pf_Task_a E wd_716 d_Task_init_22 hnm ?_
  refine pv_aload_n E d_Task_init_25 rfl rfl ?_
  refine pv_iload E d_Task_init_26 rfl ?_
  refine pf_Task_x E wd_717 d_Task_init_28 hnm ?_
  refine pv_aload_n E d_Task_init_31 rfl rfl ?_
  refine pv_aload_n E d_Task_init_32 rfl rfl ?_
  refine gf_Scope_stopped E wd_654 d_Task_init_33 ?_
  refine pv_if_eq (tgt := 43) E d_Task_init_36 rfl (fun h36 => ?_) (fun h36 => ?_)
  · skip
    refine pv_iconst (v := 0) E d_Task_init_43 (by decide) ?_
    refine pf_Task_state E wd_718 d_Task_init_44 ?_
    exact pv_vret E hr hlk d_Task_init_47 (by decide) (by decide) ⟨rfl, by rw [if_pos (show ps_I σ 5 c 8 = 0 from h36)]; rfl⟩
  · skip
    refine pv_iconst (v := 3) E d_Task_init_39 (by decide) ?_
    refine pv_goto (tgt := 44) E d_Task_init_40 rfl ?_
    refine pf_Task_state E wd_718 d_Task_init_44 ?_
    exact pv_vret E hr hlk d_Task_init_47 (by decide) (by decide) ⟨rfl, by rw [if_neg (show ¬ ps_I σ 5 c 8 = 0 from h36)]; rfl⟩
set_option maxHeartbeats 8000000 in
set_option maxRecDepth 100000 in
theorem k_Task_isCost (l : Launch) (D : va_G) (ca : Nat → ClassId) (A : Nat → Prop) (σ : ps_S) (x : Int32)  : ∀ adr, ps_M l y_Task_isCost c_Task_isCost 1 (Option.some Jvm.ClassFile.FieldType.boolean) { frames := 0, cells := 0, slots := 0, locals := 0 } D ca A adr σ [ps_int x] (fun rv σ' => rv = some (ps_int (if x < 1 then 0 else if 50 < x then 0 else 1)) ∧ σ' = σ) := by
  intro adr
  refine ps_M.of (by decide +kernel) (Nat.le_of_ble_eq_true rfl) ?_
  intro p_ e_ s_ m_ args_ below_ meth_ c_ E hr hlk hnm
  refine pv_iload_n E d_Task_isCost_0 rfl rfl ?_
  refine pv_iconst (v := 1) E d_Task_isCost_1 (by decide) ?_
  refine pv_icmp_lt (tgt := 15) E d_Task_isCost_2 rfl (fun h2 => ?_) (fun h2 => ?_)
  · skip
    refine pv_iconst (v := 0) E d_Task_isCost_15 (by decide) ?_
    exact pv_zret E hr hlk d_Task_isCost_16 (by first | rfl | (apply ps_zb; assumption)) (by decide) (by decide) ⟨by simp [h2], rfl⟩
  · skip
    refine pv_iload_n E d_Task_isCost_5 rfl rfl ?_
    refine pv_bipush (v := 50) E d_Task_isCost_6 (by decide) ?_
    refine pv_icmp_gt (tgt := 15) E d_Task_isCost_8 rfl (fun h8 => ?_) (fun h8 => ?_)
    · skip
      refine pv_iconst (v := 0) E d_Task_isCost_15 (by decide) ?_
      exact pv_zret E hr hlk d_Task_isCost_16 (by first | rfl | (apply ps_zb; assumption)) (by decide) (by decide) ⟨by simp [h2, h8], rfl⟩
    · skip
      refine pv_iconst (v := 1) E d_Task_isCost_11 (by decide) ?_
      refine pv_goto (tgt := 16) E d_Task_isCost_12 rfl ?_
      exact pv_zret E hr hlk d_Task_isCost_16 (by first | rfl | (apply ps_zb; assumption)) (by decide) (by decide) ⟨by simp [h2, h8], rfl⟩
set_option maxHeartbeats 8000000 in
set_option maxRecDepth 100000 in
theorem k_Task_workOnce (l : Launch) (D : va_G) (ca : Nat → ClassId) (A : Nat → Prop) (σ : ps_S) (j : Nat)  : ∀ adr, ps_M l y_Task_workOnce c_Task_workOnce 2 (Option.none : Option Jvm.ClassFile.FieldType) { frames := 1, cells := 0, slots := 0, locals := 22 } D ca A adr σ [ps_ref (some (6, j))] (fun rv σ' => rv = none ∧ σ' = tk_work σ j) := by
  intro adr
  refine ps_M.of (by decide +kernel) (Nat.le_of_ble_eq_true rfl) ?_
  intro p_ e_ s_ m_ args_ below_ meth_ c_ E hr hlk hnm
  refine pv_aload_n E d_Task_workOnce_0 rfl rfl ?_
  refine pv_dup E d_Task_workOnce_1 rfl ?_
  refine gf_Task_worked E wd_722 d_Task_workOnce_2 ?_
  refine pv_iconst (v := 1) E d_Task_workOnce_5 (by decide) ?_
  refine pv_iadd E d_Task_workOnce_6 ?_
  refine pf_Task_worked E wd_722 d_Task_workOnce_7 ?_
  refine pv_aload_n E d_Task_workOnce_10 rfl rfl ?_
  refine gf_Task_worked E wd_722 d_Task_workOnce_11 ?_
  refine pv_top (congrArg ps_int (ps_I_eq σ 6 j 6 _)) ?_
  refine pv_aload_n E d_Task_workOnce_14 rfl rfl ?_
  refine gf_Task_cost E wd_714 d_Task_workOnce_15 ?_
  refine pv_top (congrArg ps_int (ps_I_f σ j (show (1 : Nat) ≠ 6 by decide))) ?_
  refine pv_icmp_ge (tgt := 22) E d_Task_workOnce_18 rfl (fun h18 => ?_) (fun h18 => ?_)
  · skip
    refine pv_aload_n E d_Task_workOnce_22 rfl rfl ?_
    refine gf_Task_function E wd_715 d_Task_workOnce_23 ?_
    refine pv_top (congrArg ps_int (ps_I_f σ j (show (2 : Nat) ≠ 6 by decide))) ?_
    refine pv_aload_n E d_Task_workOnce_26 rfl rfl ?_
    refine gf_Task_a E wd_716 d_Task_workOnce_27 ?_
    refine pv_top (congrArg ps_int (ps_I_f σ j (show (3 : Nat) ≠ 6 by decide))) ?_
    refine pv_aload_n E d_Task_workOnce_30 rfl rfl ?_
    refine gf_Task_x E wd_717 d_Task_workOnce_31 ?_
    refine pv_top (congrArg ps_int (ps_I_f σ j (show (4 : Nat) ≠ 6 by decide))) ?_
    refine pv_callS E (fun adr => k_Fn_thrownFor l D ca A _ _ _ _ adr) ys_Fn_thrownFor wd_355 rfl rfl ⟨by decide, by decide⟩ (Nat.le_of_ble_eq_true rfl) d_Task_workOnce_34 ⟨by decide, by decide⟩ (fun r34 σ34 hq34 => ?_)
    obtain ⟨hr34, hs34⟩ := hq34
    subst r34
    subst σ34
    refine pv_istore_n E d_Task_workOnce_37 rfl (by decide) ?_
    refine pv_aload_n E d_Task_workOnce_38 rfl rfl ?_
    refine pv_iload_n E d_Task_workOnce_39 rfl rfl ?_
    refine pv_if_eq (tgt := 47) E d_Task_workOnce_40 rfl (fun h40 => ?_) (fun h40 => ?_)
    · skip
      refine pv_iconst (v := 1) E d_Task_workOnce_47 (by decide) ?_
      refine pf_Task_state E wd_718 d_Task_workOnce_48 ?_
      refine pv_aload_n E d_Task_workOnce_51 rfl rfl ?_
      refine pv_iload_n E d_Task_workOnce_52 rfl rfl ?_
      refine pv_if_eq (tgt := 60) E d_Task_workOnce_53 rfl (fun h53 => ?_) (fun h53 => ?_)
      · skip
        refine pv_aload_n E d_Task_workOnce_60 rfl rfl ?_
        refine gf_Task_function E wd_715 d_Task_workOnce_61 ?_
        refine pv_top (congrArg ps_int ((ps_I_f _ j (show (2 : Nat) ≠ 5 by decide)).trans (ps_I_f σ j (show (2 : Nat) ≠ 6 by decide)))) ?_
        refine pv_aload_n E d_Task_workOnce_64 rfl rfl ?_
        refine gf_Task_a E wd_716 d_Task_workOnce_65 ?_
        refine pv_top (congrArg ps_int ((ps_I_f _ j (show (3 : Nat) ≠ 5 by decide)).trans (ps_I_f σ j (show (3 : Nat) ≠ 6 by decide)))) ?_
        refine pv_aload_n E d_Task_workOnce_68 rfl rfl ?_
        refine gf_Task_x E wd_717 d_Task_workOnce_69 ?_
        refine pv_top (congrArg ps_int ((ps_I_f _ j (show (4 : Nat) ≠ 5 by decide)).trans (ps_I_f σ j (show (4 : Nat) ≠ 6 by decide)))) ?_
        refine pv_callS E (fun adr => k_Fn_madeOf l D ca A _ _ _ _ adr) ys_Fn_madeOf wd_356 rfl rfl ⟨by decide, by decide⟩ (Nat.le_of_ble_eq_true rfl) d_Task_workOnce_72 ⟨by decide, by decide⟩ (fun r72 σ72 hq72 => ?_)
        obtain ⟨hr72, hs72⟩ := hq72
        subst r72
        subst σ72
        refine pf_Task_content E wd_724 d_Task_workOnce_75 ?_
        exact pv_vret E hr hlk d_Task_workOnce_78 (by decide) (by decide) ⟨rfl, by rw [tk_work, if_neg (Int32.not_lt.mpr h18), if_pos h40, if_pos h40]⟩
      · skip
        exact absurd h40 h53
    · skip
      refine pv_iconst (v := 2) E d_Task_workOnce_43 (by decide) ?_
      refine pv_goto (tgt := 48) E d_Task_workOnce_44 rfl ?_
      refine pf_Task_state E wd_718 d_Task_workOnce_48 ?_
      refine pv_aload_n E d_Task_workOnce_51 rfl rfl ?_
      refine pv_iload_n E d_Task_workOnce_52 rfl rfl ?_
      refine pv_if_eq (tgt := 60) E d_Task_workOnce_53 rfl (fun h53 => ?_) (fun h53 => ?_)
      · skip
        exact absurd h53 h40
      · skip
        refine pv_iload_n E d_Task_workOnce_56 rfl rfl ?_
        refine pv_goto (tgt := 75) E d_Task_workOnce_57 rfl ?_
        refine pf_Task_content E wd_724 d_Task_workOnce_75 ?_
        exact pv_vret E hr hlk d_Task_workOnce_78 (by decide) (by decide) ⟨rfl, by rw [tk_work, if_neg (Int32.not_lt.mpr h18), if_neg h40, if_neg h40]⟩
  · skip
    exact pv_vret E hr hlk d_Task_workOnce_21 (by decide) (by decide) ⟨rfl, by rw [tk_work, if_pos (Int32.not_le.mp h18)]⟩
