/-! The reference's constructor. -/
def MI (σ0 σ : ps_S) (F a b c : Nat) : Prop := (∀ κ i j, 13 ≤ κ → κ ≤ 16 → ps_I σ κ i j = 0) ∧ (∀ κ x, 14 ≤ κ → κ ≤ 16 → ps_L σ κ x = m_len κ x) ∧ (ps_N σ 13 = 1 ∧ ps_N σ 14 = a ∧ ps_N σ 15 = b ∧ ps_N σ 16 = c) ∧ (∀ f q, f < F → m_rf f = some q → ps_R σ 13 0 f = some q) ∧ FrM σ0 σ
theorem MI.gap {σ0 σ : ps_S} {F a b c : Nat} (h : MI σ0 σ F a b c) (hn : m_rf F = none) : MI σ0 σ (F + 1) a b c := by
  refine ⟨h.1, h.2.1, h.2.2.1, fun f q hf hq => ?_, h.2.2.2.2⟩
  by_cases hF : f = F
  · rw [hF, hn] at hq; cases hq
  · exact h.2.2.2.1 f q (by omega) hq
theorem MI.step {σ0 σ : ps_S} {F a b c κ len : Nat} (h : MI σ0 σ F a b c) (hκ : 14 ≤ κ ∧ κ ≤ 16) (hf : m_rf F = some (κ, ps_N σ κ)) (hl : len = m_len κ (ps_N σ κ)) :
    MI σ0 (ps_sR (ps_mk σ κ len) 13 0 F (some (κ, ps_N σ κ))) (F + 1) (if κ = 14 then a + 1 else a) (if κ = 15 then b + 1 else b) (if κ = 16 then c + 1 else c) := by
  obtain ⟨h1, h2, ⟨n1, n2, n3, n4⟩, h4, h5⟩ := h
  refine ⟨fun x i j hx hy => ?_, fun x y hx hy => ?_, ⟨?_, ?_, ?_, ?_⟩, fun f q hlt hq => ?_, fun x hx => ?_⟩
  · show ps_I (ps_mk σ κ len) x i j = 0
    rw [mkI]
    split
    · rfl
    · exact h1 x i j hx hy
  · show ps_L (ps_mk σ κ len) x y = _
    rw [mkL]
    split
    next z => rw [z.1, z.2]; exact hl
    next => exact h2 x y hx hy
  · show ps_N (ps_mk σ κ len) 13 = 1
    rw [mkN, if_neg (by omega)]; exact n1
  · show ps_N (ps_mk σ κ len) 14 = _
    rw [mkN]
    by_cases hz : κ = 14
    · rw [if_pos hz.symm, if_pos hz, hz, n2]
    · rw [if_neg (fun z => hz z.symm), if_neg hz, n2]
  · show ps_N (ps_mk σ κ len) 15 = _
    rw [mkN]
    by_cases hz : κ = 15
    · rw [if_pos hz.symm, if_pos hz, hz, n3]
    · rw [if_neg (fun z => hz z.symm), if_neg hz, n3]
  · show ps_N (ps_mk σ κ len) 16 = _
    rw [mkN]
    by_cases hz : κ = 16
    · rw [if_pos hz.symm, if_pos hz, hz, n4]
    · rw [if_neg (fun z => hz z.symm), if_neg hz, n4]
  · rw [ps_R_sR]
    by_cases hF : f = F
    · rw [if_pos ⟨rfl, rfl, hF⟩, ← hf, ← hq, hF]
    · rw [if_neg (fun z => hF z.2.2), mkR, if_neg (by omega)]
      exact h4 f q (by omega) hq
  · have e := h5 x hx
    refine ⟨?_, ?_, ?_, ?_, ?_⟩
    · rw [← e.1]; funext y; exact mk_I (len := len) σ (fun z => by omega)
    · rw [← e.2.1]; funext y; exact mk_J (len := len) σ (fun z => by omega)
    · rw [← e.2.2.1]
      funext y z
      rw [ps_R_sR, if_neg (by omega)]
      exact congrFun (mk_R (len := len) σ (fun z => by omega)) z
    · rw [← e.2.2.2.1]; funext y; exact mk_L (len := len) σ (fun z => by omega)
    · rw [← e.2.2.2.2]; exact mk_N (len := len) σ (by omega)
theorem m_rf_lt {f : Nat} {q : Nat × Nat} (h : m_rf f = some q) : f < 44 := by
  by_cases hf : f < 44
  · exact hf
  · exfalso
    unfold m_rf at h
    split at h <;> first | omega | cases h
theorem MI.fin {σ0 σ : ps_S} {a b c : Nat} (h : MI σ0 σ 44 a b c) : RM σ t_0 g_0 0 ∧ ps_I σ 13 0 0 = 0 ∧ FrM σ0 σ := by
  obtain ⟨h1, h2, ⟨n1, n2, n3, n4⟩, h4, h5⟩ := h
  have z13 : ∀ j, ps_I σ 13 0 j = 0 := fun j => h1 13 0 j (by decide) (by decide)
  have z14 : ∀ i j, ps_I σ 14 i j = 0 := fun i j => h1 14 i j (by decide) (by decide)
  have z15 : ∀ i j, ps_I σ 15 i j = 0 := fun i j => h1 15 i j (by decide) (by decide)
  refine ⟨⟨⟨fun f q hq => h4 f q (m_rf_lt hq) hq, h2, n1⟩, ⟨⟨z13 1, z13 5, fun k hk => absurd hk (Nat.not_lt_zero k), fun k _ => ⟨z14 _ _, z14 _ _, z15 _ _⟩⟩, ⟨z13 15, z13 16, fun i k hk => by cases hk⟩, z13 18, fun i k hk => by cases hk⟩, ⟨z13 22, fun c hc => absurd hc (Nat.not_lt_zero c), fun c _ => ⟨⟨z14 _ _, z15 _ _, z15 _ _⟩, fun k _ => ⟨z15 _ _, z14 _ _⟩⟩⟩, z13 35, z13 34, fun j hj => absurd hj (Nat.not_lt_zero j), fun j _ => ⟨z14 _ _, z14 _ _⟩⟩, z13 0, h5⟩
set_option maxHeartbeats 8000000 in
set_option maxRecDepth 100000 in
theorem k_Mod_init (l : Launch) (D : va_G) (ca : Nat → ClassId) (A : Nat → Prop) (σ : ps_S)  (hP0 : MI σ σ 0 0 0 0) : ∀ adr, ps_M l y_Mod_init c_Mod_init 1 (Option.none : Option Jvm.ClassFile.FieldType) { frames := 1, cells := 33, slots := 1268, locals := 20 } D ca A adr σ [ps_ref (some (13, 0))] (fun rv σ' => rv = none ∧ RM σ' t_0 g_0 0 ∧ ps_I σ' 13 0 0 = 0 ∧ FrM σ σ') := by
  intro adr
  refine ps_M.of (by decide +kernel) (Nat.le_of_ble_eq_true rfl) ?_
  intro p_ e_ s_ m_ args_ below_ meth_ c_ E hr hlk hnm
  refine pv_aload_n E d_Mod_init_0 rfl rfl ?_
  refine pv_objInit E wd_761 wd_24 wd_25 (Nat.le_of_ble_eq_true rfl) (by decide) d_Mod_init_1 ?_
  refine pv_aload_n E d_Mod_init_4 rfl rfl ?_
  refine pv_bipush (v := 48) E d_Mod_init_5 (by decide) ?_
  refine pv_newI (t0 := 6) (N := 48) E 14 (by decide) (fun _ _ _ _ _ => rfl) rfl wd_680 (by decide) (rfl) (by decide) (by decide) (by decide) d_Mod_init_7 ?_
  refine pf_Mod_state E wd_764 d_Mod_init_9 ?_
  have hP1 := ((hP0.gap rfl).gap rfl).step (κ := 14) (len := 48) (by decide) (by rw [hP0.2.2.1.2.1]; rfl) (by rw [hP0.2.2.1.2.1]; rfl)
  replace hP1 : MI σ (ps_sR (ps_mk σ 14 48) 13 0 2 (some (14, ps_N σ 14))) 3 1 0 0 := hP1
  generalize ps_sR (ps_mk σ 14 48) 13 0 2 (some (14, ps_N σ 14)) = τ1 at hP1 ⊢
  clear hP0
  refine pv_aload_n E d_Mod_init_12 rfl rfl ?_
  refine pv_bipush (v := 48) E d_Mod_init_13 (by decide) ?_
  refine pv_newI (t0 := 6) (N := 48) E 14 (by decide) (fun _ _ _ _ _ => rfl) rfl wd_680 (by decide) (rfl) (by decide) (by decide) (by decide) d_Mod_init_15 ?_
  refine pf_Mod_value E wd_765 d_Mod_init_17 ?_
  have hP2 := hP1.step (κ := 14) (len := 48) (by decide) (by rw [hP1.2.2.1.2.1]; rfl) (by rw [hP1.2.2.1.2.1]; rfl)
  replace hP2 : MI σ (ps_sR (ps_mk τ1 14 48) 13 0 3 (some (14, ps_N τ1 14))) 4 2 0 0 := hP2
  generalize ps_sR (ps_mk τ1 14 48) 13 0 3 (some (14, ps_N τ1 14)) = τ2 at hP2 ⊢
  clear hP1
  refine pv_aload_n E d_Mod_init_20 rfl rfl ?_
  refine pv_bipush (v := 48) E d_Mod_init_21 (by decide) ?_
  refine pv_newI (t0 := 6) (N := 48) E 14 (by decide) (fun _ _ _ _ _ => rfl) rfl wd_680 (by decide) (rfl) (by decide) (by decide) (by decide) d_Mod_init_23 ?_
  refine pf_Mod_came E wd_766 d_Mod_init_25 ?_
  have hP3 := hP2.step (κ := 14) (len := 48) (by decide) (by rw [hP2.2.2.1.2.1]; rfl) (by rw [hP2.2.2.1.2.1]; rfl)
  replace hP3 : MI σ (ps_sR (ps_mk τ2 14 48) 13 0 4 (some (14, ps_N τ2 14))) 5 3 0 0 := hP3
  generalize ps_sR (ps_mk τ2 14 48) 13 0 4 (some (14, ps_N τ2 14)) = τ3 at hP3 ⊢
  clear hP2
  refine pv_aload_n E d_Mod_init_28 rfl rfl ?_
  refine pv_bipush (v := 48) E d_Mod_init_29 (by decide) ?_
  refine pv_newI (t0 := 6) (N := 48) E 14 (by decide) (fun _ _ _ _ _ => rfl) rfl wd_680 (by decide) (rfl) (by decide) (by decide) (by decide) d_Mod_init_31 ?_
  refine pf_Mod_kind E wd_768 d_Mod_init_33 ?_
  have hP4 := (hP3.gap rfl).step (κ := 14) (len := 48) (by decide) (by rw [hP3.2.2.1.2.1]; rfl) (by rw [hP3.2.2.1.2.1]; rfl)
  replace hP4 : MI σ (ps_sR (ps_mk τ3 14 48) 13 0 6 (some (14, ps_N τ3 14))) 7 4 0 0 := hP4
  generalize ps_sR (ps_mk τ3 14 48) 13 0 6 (some (14, ps_N τ3 14)) = τ4 at hP4 ⊢
  clear hP3
  refine pv_aload_n E d_Mod_init_36 rfl rfl ?_
  refine pv_bipush (v := 48) E d_Mod_init_37 (by decide) ?_
  refine pv_newI (t0 := 6) (N := 48) E 14 (by decide) (fun _ _ _ _ _ => rfl) rfl wd_680 (by decide) (rfl) (by decide) (by decide) (by decide) d_Mod_init_39 ?_
  refine pf_Mod_function E wd_769 d_Mod_init_41 ?_
  have hP5 := hP4.step (κ := 14) (len := 48) (by decide) (by rw [hP4.2.2.1.2.1]; rfl) (by rw [hP4.2.2.1.2.1]; rfl)
  replace hP5 : MI σ (ps_sR (ps_mk τ4 14 48) 13 0 7 (some (14, ps_N τ4 14))) 8 5 0 0 := hP5
  generalize ps_sR (ps_mk τ4 14 48) 13 0 7 (some (14, ps_N τ4 14)) = τ5 at hP5 ⊢
  clear hP4
  refine pv_aload_n E d_Mod_init_44 rfl rfl ?_
  refine pv_bipush (v := 48) E d_Mod_init_45 (by decide) ?_
  refine pv_newI (t0 := 6) (N := 48) E 14 (by decide) (fun _ _ _ _ _ => rfl) rfl wd_680 (by decide) (rfl) (by decide) (by decide) (by decide) d_Mod_init_47 ?_
  refine pf_Mod_number E wd_770 d_Mod_init_49 ?_
  have hP6 := hP5.step (κ := 14) (len := 48) (by decide) (by rw [hP5.2.2.1.2.1]; rfl) (by rw [hP5.2.2.1.2.1]; rfl)
  replace hP6 : MI σ (ps_sR (ps_mk τ5 14 48) 13 0 8 (some (14, ps_N τ5 14))) 9 6 0 0 := hP6
  generalize ps_sR (ps_mk τ5 14 48) 13 0 8 (some (14, ps_N τ5 14)) = τ6 at hP6 ⊢
  clear hP5
  refine pv_aload_n E d_Mod_init_52 rfl rfl ?_
  refine pv_bipush (v := 48) E d_Mod_init_53 (by decide) ?_
  refine pv_newI (t0 := 6) (N := 48) E 14 (by decide) (fun _ _ _ _ _ => rfl) rfl wd_680 (by decide) (rfl) (by decide) (by decide) (by decide) d_Mod_init_55 ?_
  refine pf_Mod_first E wd_771 d_Mod_init_57 ?_
  have hP7 := hP6.step (κ := 14) (len := 48) (by decide) (by rw [hP6.2.2.1.2.1]; rfl) (by rw [hP6.2.2.1.2.1]; rfl)
  replace hP7 : MI σ (ps_sR (ps_mk τ6 14 48) 13 0 9 (some (14, ps_N τ6 14))) 10 7 0 0 := hP7
  generalize ps_sR (ps_mk τ6 14 48) 13 0 9 (some (14, ps_N τ6 14)) = τ7 at hP7 ⊢
  clear hP6
  refine pv_aload_n E d_Mod_init_60 rfl rfl ?_
  refine pv_bipush (v := 48) E d_Mod_init_61 (by decide) ?_
  refine pv_newI (t0 := 6) (N := 48) E 14 (by decide) (fun _ _ _ _ _ => rfl) rfl wd_680 (by decide) (rfl) (by decide) (by decide) (by decide) d_Mod_init_63 ?_
  refine pf_Mod_second E wd_772 d_Mod_init_65 ?_
  have hP8 := hP7.step (κ := 14) (len := 48) (by decide) (by rw [hP7.2.2.1.2.1]; rfl) (by rw [hP7.2.2.1.2.1]; rfl)
  replace hP8 : MI σ (ps_sR (ps_mk τ7 14 48) 13 0 10 (some (14, ps_N τ7 14))) 11 8 0 0 := hP8
  generalize ps_sR (ps_mk τ7 14 48) 13 0 10 (some (14, ps_N τ7 14)) = τ8 at hP8 ⊢
  clear hP7
  refine pv_aload_n E d_Mod_init_68 rfl rfl ?_
  refine pv_bipush (v := 48) E d_Mod_init_69 (by decide) ?_
  refine pv_newJ (t0 := 8) (N := 48) E 16 (by decide) (fun _ _ _ _ _ => rfl) rfl wd_895 (by decide) (rfl) (by decide) (by decide) (by decide) d_Mod_init_71 ?_
  refine pf_Mod_inputs E wd_773 d_Mod_init_73 ?_
  have hP9 := hP8.step (κ := 16) (len := 48) (by decide) (by rw [hP8.2.2.1.2.2.2]; rfl) (by rw [hP8.2.2.1.2.2.2]; rfl)
  replace hP9 : MI σ (ps_sR (ps_mk τ8 16 48) 13 0 11 (some (16, ps_N τ8 16))) 12 8 0 1 := hP9
  generalize ps_sR (ps_mk τ8 16 48) 13 0 11 (some (16, ps_N τ8 16)) = τ9 at hP9 ⊢
  clear hP8
  refine pv_aload_n E d_Mod_init_76 rfl rfl ?_
  refine pv_bipush (v := 48) E d_Mod_init_77 (by decide) ?_
  refine pv_newZ (t0 := 7) (N := 48) E 15 (by decide) (fun _ _ _ _ _ => rfl) rfl wd_681 (by decide) (rfl) (by decide) (by decide) (by decide) d_Mod_init_79 ?_
  refine pf_Mod_apart E wd_774 d_Mod_init_81 ?_
  have hP10 := hP9.step (κ := 15) (len := 48) (by decide) (by rw [hP9.2.2.1.2.2.1]; rfl) (by rw [hP9.2.2.1.2.2.1]; rfl)
  replace hP10 : MI σ (ps_sR (ps_mk τ9 15 48) 13 0 12 (some (15, ps_N τ9 15))) 13 8 1 1 := hP10
  generalize ps_sR (ps_mk τ9 15 48) 13 0 12 (some (15, ps_N τ9 15)) = τ10 at hP10 ⊢
  clear hP9
  refine pv_aload_n E d_Mod_init_84 rfl rfl ?_
  refine pv_bipush (v := 48) E d_Mod_init_85 (by decide) ?_
  refine pv_newI (t0 := 6) (N := 48) E 14 (by decide) (fun _ _ _ _ _ => rfl) rfl wd_680 (by decide) (rfl) (by decide) (by decide) (by decide) d_Mod_init_87 ?_
  refine pf_Mod_awaits E wd_775 d_Mod_init_89 ?_
  have hP11 := hP10.step (κ := 14) (len := 48) (by decide) (by rw [hP10.2.2.1.2.1]; rfl) (by rw [hP10.2.2.1.2.1]; rfl)
  replace hP11 : MI σ (ps_sR (ps_mk τ10 14 48) 13 0 13 (some (14, ps_N τ10 14))) 14 9 1 1 := hP11
  generalize ps_sR (ps_mk τ10 14 48) 13 0 13 (some (14, ps_N τ10 14)) = τ11 at hP11 ⊢
  clear hP10
  refine pv_aload_n E d_Mod_init_92 rfl rfl ?_
  refine pv_bipush (v := 48) E d_Mod_init_93 (by decide) ?_
  refine pv_newZ (t0 := 7) (N := 48) E 15 (by decide) (fun _ _ _ _ _ => rfl) rfl wd_681 (by decide) (rfl) (by decide) (by decide) (by decide) d_Mod_init_95 ?_
  refine pf_Mod_queued E wd_776 d_Mod_init_97 ?_
  have hP12 := hP11.step (κ := 15) (len := 48) (by decide) (by rw [hP11.2.2.1.2.2.1]; rfl) (by rw [hP11.2.2.1.2.2.1]; rfl)
  replace hP12 : MI σ (ps_sR (ps_mk τ11 15 48) 13 0 14 (some (15, ps_N τ11 15))) 15 9 2 1 := hP12
  generalize ps_sR (ps_mk τ11 15 48) 13 0 14 (some (15, ps_N τ11 15)) = τ12 at hP12 ⊢
  clear hP11
  refine pv_aload_n E d_Mod_init_100 rfl rfl ?_
  refine pv_sipush (v := 200) E d_Mod_init_101 (by decide) ?_
  refine pv_newI (t0 := 6) (N := 200) E 14 (by decide) (fun _ _ _ _ _ => rfl) rfl wd_680 (by decide) (rfl) (by decide) (by decide) (by decide) d_Mod_init_104 ?_
  refine pf_Mod_line E wd_779 d_Mod_init_106 ?_
  have hP13 := ((hP12.gap rfl).gap rfl).step (κ := 14) (len := 200) (by decide) (by rw [hP12.2.2.1.2.1]; rfl) (by rw [hP12.2.2.1.2.1]; rfl)
  replace hP13 : MI σ (ps_sR (ps_mk τ12 14 200) 13 0 17 (some (14, ps_N τ12 14))) 18 10 2 1 := hP13
  generalize ps_sR (ps_mk τ12 14 200) 13 0 17 (some (14, ps_N τ12 14)) = τ13 at hP13 ⊢
  clear hP12
  refine pv_aload_n E d_Mod_init_109 rfl rfl ?_
  refine pv_bipush (v := 48) E d_Mod_init_110 (by decide) ?_
  refine pv_newI (t0 := 6) (N := 48) E 14 (by decide) (fun _ _ _ _ _ => rfl) rfl wd_680 (by decide) (rfl) (by decide) (by decide) (by decide) d_Mod_init_112 ?_
  refine pf_Mod_pool E wd_781 d_Mod_init_114 ?_
  have hP14 := (hP13.gap rfl).step (κ := 14) (len := 48) (by decide) (by rw [hP13.2.2.1.2.1]; rfl) (by rw [hP13.2.2.1.2.1]; rfl)
  replace hP14 : MI σ (ps_sR (ps_mk τ13 14 48) 13 0 19 (some (14, ps_N τ13 14))) 20 11 2 1 := hP14
  generalize ps_sR (ps_mk τ13 14 48) 13 0 19 (some (14, ps_N τ13 14)) = τ14 at hP14 ⊢
  clear hP13
  refine pv_aload_n E d_Mod_init_117 rfl rfl ?_
  refine pv_bipush (v := 12) E d_Mod_init_118 (by decide) ?_
  refine pv_newI (t0 := 6) (N := 12) E 14 (by decide) (fun _ _ _ _ _ => rfl) rfl wd_680 (by decide) (rfl) (by decide) (by decide) (by decide) d_Mod_init_120 ?_
  refine pf_Mod_parent E wd_785 d_Mod_init_122 ?_
  have hP15 := (((hP14.gap rfl).gap rfl).gap rfl).step (κ := 14) (len := 12) (by decide) (by rw [hP14.2.2.1.2.1]; rfl) (by rw [hP14.2.2.1.2.1]; rfl)
  replace hP15 : MI σ (ps_sR (ps_mk τ14 14 12) 13 0 23 (some (14, ps_N τ14 14))) 24 12 2 1 := hP15
  generalize ps_sR (ps_mk τ14 14 12) 13 0 23 (some (14, ps_N τ14 14)) = τ15 at hP15 ⊢
  clear hP14
  refine pv_aload_n E d_Mod_init_125 rfl rfl ?_
  refine pv_bipush (v := 12) E d_Mod_init_126 (by decide) ?_
  refine pv_newI (t0 := 6) (N := 12) E 14 (by decide) (fun _ _ _ _ _ => rfl) rfl wd_680 (by decide) (rfl) (by decide) (by decide) (by decide) d_Mod_init_128 ?_
  refine pf_Mod_policy E wd_786 d_Mod_init_130 ?_
  have hP16 := hP15.step (κ := 14) (len := 12) (by decide) (by rw [hP15.2.2.1.2.1]; rfl) (by rw [hP15.2.2.1.2.1]; rfl)
  replace hP16 : MI σ (ps_sR (ps_mk τ15 14 12) 13 0 24 (some (14, ps_N τ15 14))) 25 13 2 1 := hP16
  generalize ps_sR (ps_mk τ15 14 12) 13 0 24 (some (14, ps_N τ15 14)) = τ16 at hP16 ⊢
  clear hP15
  refine pv_aload_n E d_Mod_init_133 rfl rfl ?_
  refine pv_bipush (v := 12) E d_Mod_init_134 (by decide) ?_
  refine pv_newI (t0 := 6) (N := 12) E 14 (by decide) (fun _ _ _ _ _ => rfl) rfl wd_680 (by decide) (rfl) (by decide) (by decide) (by decide) d_Mod_init_136 ?_
  refine pf_Mod_deadline E wd_787 d_Mod_init_138 ?_
  have hP17 := hP16.step (κ := 14) (len := 12) (by decide) (by rw [hP16.2.2.1.2.1]; rfl) (by rw [hP16.2.2.1.2.1]; rfl)
  replace hP17 : MI σ (ps_sR (ps_mk τ16 14 12) 13 0 25 (some (14, ps_N τ16 14))) 26 14 2 1 := hP17
  generalize ps_sR (ps_mk τ16 14 12) 13 0 25 (some (14, ps_N τ16 14)) = τ17 at hP17 ⊢
  clear hP16
  refine pv_aload_n E d_Mod_init_141 rfl rfl ?_
  refine pv_bipush (v := 12) E d_Mod_init_142 (by decide) ?_
  refine pv_newI (t0 := 6) (N := 12) E 14 (by decide) (fun _ _ _ _ _ => rfl) rfl wd_680 (by decide) (rfl) (by decide) (by decide) (by decide) d_Mod_init_144 ?_
  refine pf_Mod_mode E wd_788 d_Mod_init_146 ?_
  have hP18 := hP17.step (κ := 14) (len := 12) (by decide) (by rw [hP17.2.2.1.2.1]; rfl) (by rw [hP17.2.2.1.2.1]; rfl)
  replace hP18 : MI σ (ps_sR (ps_mk τ17 14 12) 13 0 26 (some (14, ps_N τ17 14))) 27 15 2 1 := hP18
  generalize ps_sR (ps_mk τ17 14 12) 13 0 26 (some (14, ps_N τ17 14)) = τ18 at hP18 ⊢
  clear hP17
  refine pv_aload_n E d_Mod_init_149 rfl rfl ?_
  refine pv_bipush (v := 12) E d_Mod_init_150 (by decide) ?_
  refine pv_newI (t0 := 6) (N := 12) E 14 (by decide) (fun _ _ _ _ _ => rfl) rfl wd_680 (by decide) (rfl) (by decide) (by decide) (by decide) d_Mod_init_152 ?_
  refine pf_Mod_result E wd_789 d_Mod_init_154 ?_
  have hP19 := hP18.step (κ := 14) (len := 12) (by decide) (by rw [hP18.2.2.1.2.1]; rfl) (by rw [hP18.2.2.1.2.1]; rfl)
  replace hP19 : MI σ (ps_sR (ps_mk τ18 14 12) 13 0 27 (some (14, ps_N τ18 14))) 28 16 2 1 := hP19
  generalize ps_sR (ps_mk τ18 14 12) 13 0 27 (some (14, ps_N τ18 14)) = τ19 at hP19 ⊢
  clear hP18
  refine pv_aload_n E d_Mod_init_157 rfl rfl ?_
  refine pv_bipush (v := 12) E d_Mod_init_158 (by decide) ?_
  refine pv_newZ (t0 := 7) (N := 12) E 15 (by decide) (fun _ _ _ _ _ => rfl) rfl wd_681 (by decide) (rfl) (by decide) (by decide) (by decide) d_Mod_init_160 ?_
  refine pf_Mod_stopped E wd_790 d_Mod_init_162 ?_
  have hP20 := hP19.step (κ := 15) (len := 12) (by decide) (by rw [hP19.2.2.1.2.2.1]; rfl) (by rw [hP19.2.2.1.2.2.1]; rfl)
  replace hP20 : MI σ (ps_sR (ps_mk τ19 15 12) 13 0 28 (some (15, ps_N τ19 15))) 29 16 3 1 := hP20
  generalize ps_sR (ps_mk τ19 15 12) 13 0 28 (some (15, ps_N τ19 15)) = τ20 at hP20 ⊢
  clear hP19
  refine pv_aload_n E d_Mod_init_165 rfl rfl ?_
  refine pv_bipush (v := 12) E d_Mod_init_166 (by decide) ?_
  refine pv_newZ (t0 := 7) (N := 12) E 15 (by decide) (fun _ _ _ _ _ => rfl) rfl wd_681 (by decide) (rfl) (by decide) (by decide) (by decide) d_Mod_init_168 ?_
  refine pf_Mod_late E wd_791 d_Mod_init_170 ?_
  have hP21 := hP20.step (κ := 15) (len := 12) (by decide) (by rw [hP20.2.2.1.2.2.1]; rfl) (by rw [hP20.2.2.1.2.2.1]; rfl)
  replace hP21 : MI σ (ps_sR (ps_mk τ20 15 12) 13 0 29 (some (15, ps_N τ20 15))) 30 16 4 1 := hP21
  generalize ps_sR (ps_mk τ20 15 12) 13 0 29 (some (15, ps_N τ20 15)) = τ21 at hP21 ⊢
  clear hP20
  refine pv_aload_n E d_Mod_init_173 rfl rfl ?_
  refine pv_bipush (v := 12) E d_Mod_init_174 (by decide) ?_
  refine pv_newI (t0 := 6) (N := 12) E 14 (by decide) (fun _ _ _ _ _ => rfl) rfl wd_680 (by decide) (rfl) (by decide) (by decide) (by decide) d_Mod_init_176 ?_
  refine pf_Mod_firstDone E wd_792 d_Mod_init_178 ?_
  have hP22 := hP21.step (κ := 14) (len := 12) (by decide) (by rw [hP21.2.2.1.2.1]; rfl) (by rw [hP21.2.2.1.2.1]; rfl)
  replace hP22 : MI σ (ps_sR (ps_mk τ21 14 12) 13 0 30 (some (14, ps_N τ21 14))) 31 17 4 1 := hP22
  generalize ps_sR (ps_mk τ21 14 12) 13 0 30 (some (14, ps_N τ21 14)) = τ22 at hP22 ⊢
  clear hP21
  refine pv_aload_n E d_Mod_init_181 rfl rfl ?_
  refine pv_bipush (v := 12) E d_Mod_init_182 (by decide) ?_
  refine pv_newI (t0 := 6) (N := 12) E 14 (by decide) (fun _ _ _ _ _ => rfl) rfl wd_680 (by decide) (rfl) (by decide) (by decide) (by decide) d_Mod_init_184 ?_
  refine pf_Mod_firstFailed E wd_793 d_Mod_init_186 ?_
  have hP23 := hP22.step (κ := 14) (len := 12) (by decide) (by rw [hP22.2.2.1.2.1]; rfl) (by rw [hP22.2.2.1.2.1]; rfl)
  replace hP23 : MI σ (ps_sR (ps_mk τ22 14 12) 13 0 31 (some (14, ps_N τ22 14))) 32 18 4 1 := hP23
  generalize ps_sR (ps_mk τ22 14 12) 13 0 31 (some (14, ps_N τ22 14)) = τ23 at hP23 ⊢
  clear hP22
  refine pv_aload_n E d_Mod_init_189 rfl rfl ?_
  refine pv_bipush (v := 48) E d_Mod_init_190 (by decide) ?_
  refine pv_newZ (t0 := 7) (N := 48) E 15 (by decide) (fun _ _ _ _ _ => rfl) rfl wd_681 (by decide) (rfl) (by decide) (by decide) (by decide) d_Mod_init_192 ?_
  refine pf_Mod_binds E wd_794 d_Mod_init_194 ?_
  have hP24 := hP23.step (κ := 15) (len := 48) (by decide) (by rw [hP23.2.2.1.2.2.1]; rfl) (by rw [hP23.2.2.1.2.2.1]; rfl)
  replace hP24 : MI σ (ps_sR (ps_mk τ23 15 48) 13 0 32 (some (15, ps_N τ23 15))) 33 18 5 1 := hP24
  generalize ps_sR (ps_mk τ23 15 48) 13 0 32 (some (15, ps_N τ23 15)) = τ24 at hP24 ⊢
  clear hP23
  refine pv_aload_n E d_Mod_init_197 rfl rfl ?_
  refine pv_bipush (v := 48) E d_Mod_init_198 (by decide) ?_
  refine pv_newI (t0 := 6) (N := 48) E 14 (by decide) (fun _ _ _ _ _ => rfl) rfl wd_680 (by decide) (rfl) (by decide) (by decide) (by decide) d_Mod_init_200 ?_
  refine pf_Mod_bound E wd_795 d_Mod_init_202 ?_
  have hP25 := hP24.step (κ := 14) (len := 48) (by decide) (by rw [hP24.2.2.1.2.1]; rfl) (by rw [hP24.2.2.1.2.1]; rfl)
  replace hP25 : MI σ (ps_sR (ps_mk τ24 14 48) 13 0 33 (some (14, ps_N τ24 14))) 34 19 5 1 := hP25
  generalize ps_sR (ps_mk τ24 14 48) 13 0 33 (some (14, ps_N τ24 14)) = τ25 at hP25 ⊢
  clear hP24
  refine pv_aload_n E d_Mod_init_205 rfl rfl ?_
  refine pv_bipush (v := 30) E d_Mod_init_206 (by decide) ?_
  refine pv_newI (t0 := 6) (N := 30) E 14 (by decide) (fun _ _ _ _ _ => rfl) rfl wd_680 (by decide) (rfl) (by decide) (by decide) (by decide) d_Mod_init_208 ?_
  refine pf_Mod_home E wd_798 d_Mod_init_210 ?_
  have hP26 := ((hP25.gap rfl).gap rfl).step (κ := 14) (len := 30) (by decide) (by rw [hP25.2.2.1.2.1]; rfl) (by rw [hP25.2.2.1.2.1]; rfl)
  replace hP26 : MI σ (ps_sR (ps_mk τ25 14 30) 13 0 36 (some (14, ps_N τ25 14))) 37 20 5 1 := hP26
  generalize ps_sR (ps_mk τ25 14 30) 13 0 36 (some (14, ps_N τ25 14)) = τ26 at hP26 ⊢
  clear hP25
  refine pv_aload_n E d_Mod_init_213 rfl rfl ?_
  refine pv_bipush (v := 30) E d_Mod_init_214 (by decide) ?_
  refine pv_newI (t0 := 6) (N := 30) E 14 (by decide) (fun _ _ _ _ _ => rfl) rfl wd_680 (by decide) (rfl) (by decide) (by decide) (by decide) d_Mod_init_216 ?_
  refine pf_Mod_cost E wd_799 d_Mod_init_218 ?_
  have hP27 := hP26.step (κ := 14) (len := 30) (by decide) (by rw [hP26.2.2.1.2.1]; rfl) (by rw [hP26.2.2.1.2.1]; rfl)
  replace hP27 : MI σ (ps_sR (ps_mk τ26 14 30) 13 0 37 (some (14, ps_N τ26 14))) 38 21 5 1 := hP27
  generalize ps_sR (ps_mk τ26 14 30) 13 0 37 (some (14, ps_N τ26 14)) = τ27 at hP27 ⊢
  clear hP26
  refine pv_aload_n E d_Mod_init_221 rfl rfl ?_
  refine pv_bipush (v := 30) E d_Mod_init_222 (by decide) ?_
  refine pv_newI (t0 := 6) (N := 30) E 14 (by decide) (fun _ _ _ _ _ => rfl) rfl wd_680 (by decide) (rfl) (by decide) (by decide) (by decide) d_Mod_init_224 ?_
  refine pf_Mod_does E wd_800 d_Mod_init_226 ?_
  have hP28 := hP27.step (κ := 14) (len := 30) (by decide) (by rw [hP27.2.2.1.2.1]; rfl) (by rw [hP27.2.2.1.2.1]; rfl)
  replace hP28 : MI σ (ps_sR (ps_mk τ27 14 30) 13 0 38 (some (14, ps_N τ27 14))) 39 22 5 1 := hP28
  generalize ps_sR (ps_mk τ27 14 30) 13 0 38 (some (14, ps_N τ27 14)) = τ28 at hP28 ⊢
  clear hP27
  refine pv_aload_n E d_Mod_init_229 rfl rfl ?_
  refine pv_bipush (v := 30) E d_Mod_init_230 (by decide) ?_
  refine pv_newI (t0 := 6) (N := 30) E 14 (by decide) (fun _ _ _ _ _ => rfl) rfl wd_680 (by decide) (rfl) (by decide) (by decide) (by decide) d_Mod_init_232 ?_
  refine pf_Mod_with E wd_801 d_Mod_init_234 ?_
  have hP29 := hP28.step (κ := 14) (len := 30) (by decide) (by rw [hP28.2.2.1.2.1]; rfl) (by rw [hP28.2.2.1.2.1]; rfl)
  replace hP29 : MI σ (ps_sR (ps_mk τ28 14 30) 13 0 39 (some (14, ps_N τ28 14))) 40 23 5 1 := hP29
  generalize ps_sR (ps_mk τ28 14 30) 13 0 39 (some (14, ps_N τ28 14)) = τ29 at hP29 ⊢
  clear hP28
  refine pv_aload_n E d_Mod_init_237 rfl rfl ?_
  refine pv_bipush (v := 30) E d_Mod_init_238 (by decide) ?_
  refine pv_newI (t0 := 6) (N := 30) E 14 (by decide) (fun _ _ _ _ _ => rfl) rfl wd_680 (by decide) (rfl) (by decide) (by decide) (by decide) d_Mod_init_240 ?_
  refine pf_Mod_given E wd_802 d_Mod_init_242 ?_
  have hP30 := hP29.step (κ := 14) (len := 30) (by decide) (by rw [hP29.2.2.1.2.1]; rfl) (by rw [hP29.2.2.1.2.1]; rfl)
  replace hP30 : MI σ (ps_sR (ps_mk τ29 14 30) 13 0 40 (some (14, ps_N τ29 14))) 41 24 5 1 := hP30
  generalize ps_sR (ps_mk τ29 14 30) 13 0 40 (some (14, ps_N τ29 14)) = τ30 at hP30 ⊢
  clear hP29
  refine pv_aload_n E d_Mod_init_245 rfl rfl ?_
  refine pv_bipush (v := 30) E d_Mod_init_246 (by decide) ?_
  refine pv_newI (t0 := 6) (N := 30) E 14 (by decide) (fun _ _ _ _ _ => rfl) rfl wd_680 (by decide) (rfl) (by decide) (by decide) (by decide) d_Mod_init_248 ?_
  refine pf_Mod_how E wd_803 d_Mod_init_250 ?_
  have hP31 := hP30.step (κ := 14) (len := 30) (by decide) (by rw [hP30.2.2.1.2.1]; rfl) (by rw [hP30.2.2.1.2.1]; rfl)
  replace hP31 : MI σ (ps_sR (ps_mk τ30 14 30) 13 0 41 (some (14, ps_N τ30 14))) 42 25 5 1 := hP31
  generalize ps_sR (ps_mk τ30 14 30) 13 0 41 (some (14, ps_N τ30 14)) = τ31 at hP31 ⊢
  clear hP30
  refine pv_aload_n E d_Mod_init_253 rfl rfl ?_
  refine pv_bipush (v := 30) E d_Mod_init_254 (by decide) ?_
  refine pv_newI (t0 := 6) (N := 30) E 14 (by decide) (fun _ _ _ _ _ => rfl) rfl wd_680 (by decide) (rfl) (by decide) (by decide) (by decide) d_Mod_init_256 ?_
  refine pf_Mod_worked E wd_804 d_Mod_init_258 ?_
  have hP32 := hP31.step (κ := 14) (len := 30) (by decide) (by rw [hP31.2.2.1.2.1]; rfl) (by rw [hP31.2.2.1.2.1]; rfl)
  replace hP32 : MI σ (ps_sR (ps_mk τ31 14 30) 13 0 42 (some (14, ps_N τ31 14))) 43 26 5 1 := hP32
  generalize ps_sR (ps_mk τ31 14 30) 13 0 42 (some (14, ps_N τ31 14)) = τ32 at hP32 ⊢
  clear hP31
  refine pv_aload_n E d_Mod_init_261 rfl rfl ?_
  refine pv_bipush (v := 30) E d_Mod_init_262 (by decide) ?_
  refine pv_newI (t0 := 6) (N := 30) E 14 (by decide) (fun _ _ _ _ _ => rfl) rfl wd_680 (by decide) (rfl) (by decide) (by decide) (by decide) d_Mod_init_264 ?_
  refine pf_Mod_came2 E wd_805 d_Mod_init_266 ?_
  have hP33 := hP32.step (κ := 14) (len := 30) (by decide) (by rw [hP32.2.2.1.2.1]; rfl) (by rw [hP32.2.2.1.2.1]; rfl)
  replace hP33 : MI σ (ps_sR (ps_mk τ32 14 30) 13 0 43 (some (14, ps_N τ32 14))) 44 27 5 1 := hP33
  generalize ps_sR (ps_mk τ32 14 30) 13 0 43 (some (14, ps_N τ32 14)) = τ33 at hP33 ⊢
  clear hP32
  exact pv_vret E hr hlk d_Mod_init_269 (by decide) (by decide) ⟨rfl, hP33.fin⟩
