/-! The law: its start. -/
def FrX (σ σ' : ps_S) : Prop := ∀ κ, 12 ≤ κ → ps_I σ' κ = ps_I σ κ ∧ ps_J σ' κ = ps_J σ κ ∧ ps_R σ' κ = ps_R σ κ ∧ ps_L σ' κ = ps_L σ κ ∧ ps_N σ' κ = ps_N σ κ
theorem FrX.rf (σ : ps_S) : FrX σ σ := fun _ _ => ⟨rfl, rfl, rfl, rfl, rfl⟩
theorem FrX.tr {a b c : ps_S} (h1 : FrX a b) (h2 : FrX b c) : FrX a c := fun κ hκ =>
  ⟨(h2 κ hκ).1.trans (h1 κ hκ).1, (h2 κ hκ).2.1.trans (h1 κ hκ).2.1, (h2 κ hκ).2.2.1.trans (h1 κ hκ).2.2.1, (h2 κ hκ).2.2.2.1.trans (h1 κ hκ).2.2.2.1, (h2 κ hκ).2.2.2.2.trans (h1 κ hκ).2.2.2.2⟩
theorem FrX.mk {σ τ : ps_S} {κ len : Nat} (h : FrX σ τ) (hκ : κ < 12) : FrX σ (ps_mk τ κ len) := h.tr fun x hx => by
  refine ⟨?_, ?_, ?_, ?_, mk_N τ (by omega)⟩
  · funext y; exact mk_I (len := len) τ (fun z => by omega)
  · funext y; exact mk_J (len := len) τ (fun z => by omega)
  · funext y; exact mk_R (len := len) τ (fun z => by omega)
  · funext y; exact mk_L (len := len) τ (fun z => by omega)
theorem FrX.sR {σ τ : ps_S} {κ i j : Nat} {v : Option (Nat × Nat)} (h : FrX σ τ) (hκ : κ < 12) : FrX σ (ps_sR τ κ i j v) := h.tr fun x hx => by
  refine ⟨rfl, rfl, ?_, rfl, rfl⟩
  funext y z
  rw [ps_R_sR, if_neg (by omega)]
theorem FrX.init (σ : ps_S) : FrX σ (pp_init σ) := by
  unfold pp_init pp_1 tr_init gr_init gr_2 gr_1 q_init
  repeat first
    | exact FrX.rf _
    | refine FrX.sR ?_ (by decide)
    | refine FrX.mk ?_ (by decide)
/-- nothing made yet -/
def σ_i : ps_S := (fun _ _ _ => 0, fun _ _ _ => 0, fun _ _ _ => none, fun κ a => m_len κ a, fun _ => 0)
theorem i_N : ∀ κ, 1 ≤ κ → κ ≤ 11 → ps_N (ps_mk σ_i 0 0) κ = 0 := fun κ h1 h2 => by rw [mkN, if_neg (by omega)]; rfl
def σ_1 : ps_S := pp_init (ps_mk σ_i 0 0)
def σ_2 : ps_S := ps_mk σ_1 13 0
theorem i_X : FrX σ_i σ_1 := (FrX.mk (FrX.rf σ_i) (by decide)).tr (FrX.init _)
theorem i_13 : ps_N σ_1 13 = 0 := (i_X 13 (by decide)).2.2.2.2
theorem i_P : RP σ_1 t_0 g_0 := RP_init i_N
theorem i_M : MI σ_2 σ_2 0 0 0 0 := by
  refine ⟨fun κ i j h1 h2 => ?_, fun κ x h1 h2 => ?_, ⟨?_, ?_, ?_, ?_⟩, fun f q hf _ => absurd hf (Nat.not_lt_zero _), FrM.rf _⟩
  · show ps_I (ps_mk σ_1 13 0) κ i j = 0
    rw [mkI]
    split
    · rfl
    · rw [(i_X κ (by omega)).1]; rfl
  · show ps_L (ps_mk σ_1 13 0) κ x = _
    rw [mkL, if_neg (by omega), (i_X κ (by omega)).2.2.2.1]; rfl
  · show ps_N (ps_mk σ_1 13 0) 13 = 1
    rw [mkN, if_pos rfl, i_13]
  · show ps_N (ps_mk σ_1 13 0) 14 = 0
    rw [mkN, if_neg (by decide)]; exact (i_X 14 (by decide)).2.2.2.2
  · show ps_N (ps_mk σ_1 13 0) 15 = 0
    rw [mkN, if_neg (by decide)]; exact (i_X 15 (by decide)).2.2.2.2
  · show ps_N (ps_mk σ_1 13 0) 16 = 0
    rw [mkN, if_neg (by decide)]; exact (i_X 16 (by decide)).2.2.2.2
theorem i_f13 : FrM σ_1 σ_2 := fun x hx => by
  refine ⟨?_, ?_, ?_, ?_, mk_N (len := 0) σ_1 (by omega)⟩
  · funext y; exact mk_I (len := 0) σ_1 (fun z => by omega)
  · funext y; exact mk_J (len := 0) σ_1 (fun z => by omega)
  · funext y; exact mk_R (len := 0) σ_1 (fun z => by omega)
  · funext y; exact mk_L (len := 0) σ_1 (fun z => by omega)
/-- the law's own array -/
theorem mk12_C {σ : ps_S} {len : Nat} : ∀ κ, ¬ κ = 12 → ps_I (ps_mk σ 12 len) κ = ps_I σ κ ∧ ps_J (ps_mk σ 12 len) κ = ps_J σ κ ∧ ps_R (ps_mk σ 12 len) κ = ps_R σ κ ∧ ps_L (ps_mk σ 12 len) κ = ps_L σ κ ∧ ps_N (ps_mk σ 12 len) κ = ps_N σ κ := fun x hx => by
  refine ⟨?_, ?_, ?_, ?_, mk_N σ (by omega)⟩
  · funext y; exact mk_I (len := len) σ (fun z => by omega)
  · funext y; exact mk_J (len := len) σ (fun z => by omega)
  · funext y; exact mk_R (len := len) σ (fun z => by omega)
  · funext y; exact mk_L (len := len) σ (fun z => by omega)
theorem RM.m12 {σ : ps_S} {t : tT} {g : gT} {p len : Nat} (h : RM σ t g p) : RM (ps_mk σ 12 len) t g p := by
  have q := fun κ (hκ : ¬ κ = 12) => mk12_C (σ := σ) (len := len) κ hκ
  unfold RM RM0 RMA RMB RMG RML RMP RMS RMK RMg RMs RMk m_in at h ⊢
  obtain ⟨⟨h1, h2, h3⟩, h4⟩ := h
  refine ⟨⟨fun f x hx => ?_, fun κ a hk1 hk2 => ?_, ?_⟩, ?_⟩
  · rw [(q 13 (by decide)).2.2.1]; exact h1 f x hx
  · rw [(q κ (by omega)).2.2.2.1]; exact h2 κ a hk1 hk2
  · rw [(q 13 (by decide)).2.2.2.2]; exact h3
  · simp only [(q 13 (by decide)).1, (q 14 (by decide)).1, (q 15 (by decide)).1, (q 16 (by decide)).2.1]
    exact h4
theorem RP.m12 {σ : ps_S} {t : tT} {g : gT} {len : Nat} (h : RP σ t g) : RP (ps_mk σ 12 len) t g := by
  have q := fun κ (hκ : ¬ κ = 12) => mk12_C (σ := σ) (len := len) κ hκ
  unfold RP RC RC0 RS RQ RT RT0 RTs RTk at h ⊢
  simp only [(q 0 (by decide)).1, (q 0 (by decide)).2.2.1, (q 1 (by decide)).1, (q 1 (by decide)).2.2.1, (q 1 (by decide)).2.2.2.2, (q 2 (by decide)).1, (q 2 (by decide)).2.2.1, (q 2 (by decide)).2.2.2.2, (q 3 (by decide)).1, (q 3 (by decide)).2.2.1, (q 3 (by decide)).2.2.2.2, (q 4 (by decide)).2.2.1, (q 4 (by decide)).2.2.2.1, (q 4 (by decide)).2.2.2.2, (q 5 (by decide)).1, (q 5 (by decide)).2.2.1, (q 5 (by decide)).2.2.2.2, (q 6 (by decide)).1, (q 6 (by decide)).2.2.1, (q 6 (by decide)).2.2.2.2, (q 7 (by decide)).1, (q 7 (by decide)).2.2.1, (q 8 (by decide)).2.2.1, (q 8 (by decide)).2.2.2.1, (q 9 (by decide)).2.2.1, (q 9 (by decide)).2.2.2.1, (q 10 (by decide)).1, (q 10 (by decide)).2.2.2.1, (q 10 (by decide)).2.2.2.2, (q 11 (by decide)).1, (q 11 (by decide)).2.2.2.1, (q 11 (by decide)).2.2.2.2]
  exact h
theorem i_LI {σ : ps_S} (hM : RM σ t_0 g_0 0) (hf : FrM σ_2 σ) : LI (ps_mk σ 12 1) t_0 g_0 ∧ ps_N σ 12 = 0 := by
  have hN : ps_N σ 12 = 0 := by
    rw [(hf 12 (by decide)).2.2.2.2]
    show ps_N (ps_mk σ_1 13 0) 12 = 0
    rw [mkN, if_neg (by decide)]
    exact (i_X 12 (by decide)).2.2.2.2
  refine ⟨⟨((i_P.fm i_f13).fm hf).m12, hM.m12, zV_0, ?_⟩, hN⟩
  rw [mkL, if_pos ⟨rfl, hN.symm⟩]
set_option maxHeartbeats 8000000 in
set_option maxRecDepth 100000 in
theorem lw_V {p : Program} {e : Env} {s : State} {m : MethodId} {args : Array Value} {below : List Frame} {meth : Method} {c : Code} {D : va_G} {ca : Nat → ClassId} {A : Nat → Prop} {adr0 : Nat → Nat → Nat} {σ0 : ps_S} {Q : State → Prop} (l : Launch) (htr : l.stackTraces = false) (E : ps_E p s m c code 7 "PromiseScopesLaw" D ca) {b n : Nat} {xs : Nat → Int32} (hX : va_X b n xs s s.heap) (hbl : b < s.heap.size) (hbA : ¬ A b) (hZ : ps_Z A s) (hYs : ps_Y s) (hn84 : n ≤ 3584) (kx : ∀ L σ' ce' sl', ce' ≤ 601024 → sl' ≤ 7293034 → ps_V p l e room_1 s m args below meth c 7 D ca A s.heap adr0 σ0 Q 1220 L [] σ' ce' sl') : ps_V p l e room_1 s m args below meth c 7 D ca A s.heap adr0 σ0 Q 0 [(0, ps_raw b)] [] σ_i 0 0 := by
  refine pv_new (ci := 0) (N := 2) (fs := [.null, .null]) (C := "PromiseScopes") (T := T_Ps) E 0 (by decide) (fun _ => rfl) rfl in_Ps ty_Ps ty_Ps_ok wd_18 wd_19 wd_1 (by decide) (by decide) (by decide) d_Law_law_0 ?_
  refine pv_dup E d_Law_law_3 rfl ?_
  refine pv_callI E (fun adr => k_Ps_init l D ca A _ i_N adr) yi_Ps_init wd_20 rfl rfl ⟨by decide, by decide⟩ (Nat.le_of_ble_eq_true rfl) d_Law_law_4 ⟨by decide, by decide⟩ (fun r4 σ4 hq4 => ?_)
  obtain ⟨hr4, hs4⟩ := hq4
  subst r4
  subst hs4
  refine pv_astore_n E d_Law_law_7 rfl (by decide) ?_
  refine pv_new (ci := 7) (N := 44) (fs := [.int 0, .int 0, .null, .null, .null, .int 0, .null, .null, .null, .null, .null, .null, .null, .null, .null, .int 0, .int 0, .null, .int 0, .null, .int 0, .int 0, .int 0, .null, .null, .null, .null, .null, .null, .null, .null, .null, .null, .null, .int 0, .int 0, .null, .null, .null, .null, .null, .null, .null, .null]) (C := "PromiseScopesModel") (T := T_Mod) E 13 (by decide) (fun _ => rfl) rfl in_Mod ty_Mod ty_Mod_ok wd_756 wd_757 wd_5 (by decide) (by decide) (by decide) d_Law_law_8 ?_
  refine pv_top (congrArg ps_ref (congrArg some (congrArg (Prod.mk 13) i_13))) ?_
  refine pv_dup E d_Law_law_11 rfl ?_
  refine pv_callI E (fun adr => k_Mod_init l D ca A σ_2 i_M adr) yi_Mod_init wd_758 rfl rfl ⟨by decide, by decide⟩ (Nat.le_of_ble_eq_true rfl) d_Law_law_12 ⟨by decide, by decide⟩ (fun r12 σ12 hq12 => ?_)
  obtain ⟨hr12, hM12, ht12, hf12⟩ := hq12
  subst r12
  have hLI := i_LI hM12 hf12
  refine pv_astore_n E d_Law_law_15 rfl (by decide) ?_
  refine pv_iconst (v := 1) E d_Law_law_16 (by decide) ?_
  refine pv_newJ (t0 := 5) (N := 1) E 12 (by decide) (fun _ _ _ _ _ => rfl) rfl wd_895 (by decide) (rfl) (by decide) (by decide) (by decide) d_Law_law_17 ?_
  refine pv_top (congrArg ps_ref (congrArg some (congrArg (Prod.mk 12) hLI.2))) ?_
  refine pv_astore_n E d_Law_law_19 rfl (by decide) ?_
  refine pv_iconst (v := 0) E d_Law_law_20 (by decide) ?_
  refine pv_istore E d_Law_law_21 (by decide) ?_
  exact pv_sub (L' := [(0, ps_raw b), (1, ps_ref (some (0, 0))), (2, ps_ref (some (13, 0))), (3, ps_ref (some (12, 0))), (4, ps_int (nI 0))]) ⟨rfl, rfl, rfl, rfl, rfl, trivial⟩ (lw_loop l htr E hX hbl hbA hZ hYs hn84 kx 512 0 _ t_0 g_0 _ _ hLI.1 (by omega) (by omega) (by decide) (by decide))
