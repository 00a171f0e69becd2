/-! The law: its loop. -/
theorem lw_sub {n : Nat} (h : n < 2 ^ 30) : (Int32.ofNat n - 7).toInt = (n : Int) - 7 := by
  rw [Int32.toInt_sub, show (Int32.ofNat n).toInt = (n : Int) from nI_toInt (by omega), show (7 : Int32).toInt = 7 from rfl]
  simp only [Int.bmod]
  split <;> omega
theorem lw_gt {n i : Nat} (hn : n ≤ 3584) (hi : i ≤ 4000) : Int32.ofNat n - 7 < nI i ↔ n < i + 7 := by
  rw [Int32.lt_iff_toInt_lt, lw_sub (by omega), nI_toInt (by omega)]
  omega
set_option maxHeartbeats 8000000 in
set_option maxRecDepth 100000 in
theorem lw_loop {p : Program} {e : Env} {s : State} {m : MethodId} {args : Array Value} {below : List Frame} {meth : Method} {c : Code} {D : va_G} {ca : Nat → ClassId} {A : Nat → Prop} {adr0 : Nat → Nat → Nat} {σ0 : ps_S} {Q : State → Prop} (l : Launch) (htr : l.stackTraces = false) (E : ps_E p s m c code 7 "PromiseScopesLaw" D ca) {b n : Nat} {xs : Nat → Int32} (hX : va_X b n xs s s.heap) (hbl : b < s.heap.size) (hbA : ¬ A b) (hZ : ps_Z A s) (hYs : ps_Y s) (hn84 : n ≤ 3584) (kx : ∀ L σ' ce' sl', ce' ≤ 601024 → sl' ≤ 7293034 → ps_V p l e room_1 s m args below meth c 7 D ca A s.heap adr0 σ0 Q 1220 L [] σ' ce' sl') : ∀ (f i : Nat) (σ : ps_S) (t : tT) (g : gT) (ce sl : Nat), LI σ t g → n ≤ i + 7 * f → i ≤ 4000 → ce + 8 * f + 8 ≤ 601024 → sl + 64 * f + 64 ≤ 7293034 → ps_V p l e room_1 s m args below meth c 7 D ca A s.heap adr0 σ0 Q 23 [(0, ps_raw b), (1, ps_ref (some (0, 0))), (2, ps_ref (some (13, 0))), (3, ps_ref (some (12, 0))), (4, ps_int (nI i))] [] σ ce sl := by
  intro f
  induction f with
  | zero =>
    intro i σ t g ce sl hI hf hi hce hsl
    refine pv_iload E d_Law_law_23 rfl ?_
    refine pv_aloadR E d_Law_law_25 rfl rfl ?_
    refine pv_slen E hX hbl hbA d_Law_law_26 ?_
    refine pv_bipush (v := 7) E d_Law_law_27 (by decide) ?_
    refine pv_isub E d_Law_law_29 ?_
    refine pv_icmp_gt (tgt := 1220) E d_Law_law_30 rfl (fun h30 => kx _ _ _ _ (by omega) (by omega)) (fun h30 => ?_)
    exact absurd ((lw_gt hn84 hi).mpr (by omega)) h30
  | succ f ih =>
    intro i σ t g ce sl hI hf hi hce hsl
    refine pv_iload E d_Law_law_23 rfl ?_
    refine pv_aloadR E d_Law_law_25 rfl rfl ?_
    refine pv_slen E hX hbl hbA d_Law_law_26 ?_
    refine pv_bipush (v := 7) E d_Law_law_27 (by decide) ?_
    refine pv_isub E d_Law_law_29 ?_
    refine pv_icmp_gt (tgt := 1220) E d_Law_law_30 rfl (fun h30 => kx _ _ _ _ (by omega) (by omega)) (fun h30 => ?_)
    have hin : i + 7 ≤ n := Nat.le_of_not_lt (fun z => h30 ((lw_gt hn84 hi).mpr (by omega)))
    refine pv_aloadR E d_Law_law_33 rfl rfl ?_
    refine pv_iload E d_Law_law_34 rfl ?_
    refine pv_sld E hX hbl hbA (vp_in_nI (show i < n by omega) (by omega)) d_Law_law_36 ?_
    refine pv_top (congrArg ps_int (congrArg xs (nI_clamp (show i < 2 ^ 31 by omega)))) ?_
    refine pv_bipush (v := 31) E d_Law_law_37 (by decide) ?_
    refine pv_iand E d_Law_law_39 ?_
    have kk : ∀ σ' t' g' ce' sl', LI σ' t' g' → ce' ≤ ce + 8 → sl' ≤ sl + 64 → ps_V p l e room_1 s m args below meth c 7 D ca A s.heap adr0 σ0 Q 1214 [(0, ps_raw b), (1, ps_ref (some (0, 0))), (2, ps_ref (some (13, 0))), (3, ps_ref (some (12, 0))), (4, ps_int (nI i))] [] σ' ce' sl' := by
      intro σ' t' g' ce' sl' h1 h2 h3
      refine pv_inc7 E d_Law_law_1214 rfl (by decide) ?_
      refine pv_goto (tgt := 23) E d_Law_law_1217 rfl ?_
      exact pv_sub (L' := [(0, ps_raw b), (1, ps_ref (some (0, 0))), (2, ps_ref (some (13, 0))), (3, ps_ref (some (12, 0))), (4, ps_int (nI (i + 7)))]) ⟨rfl, rfl, rfl, rfl, congrArg (fun z : Int32 => some (ps_int z)) (nI_add i 7), trivial⟩ (ih (i + 7) σ' t' g' ce' sl' h1 (by omega) (by omega) (by omega) (by omega))
    have hce8 : ce + 8 ≤ 601024 := by omega
    have hsl8 : sl + 64 ≤ 7293034 := by omega
    by_cases h40_0 : xs i &&& 31 = 0
    · exact pv_tableAt (tgt := 136) E 0 h40_0 d_Law_law_40 (by decide) (by decide) rfl rfl (lw_c0 l htr E hX hbl hbA hZ hYs hI hin hn84 hce8 hsl8 kk)
    by_cases h40_1 : xs i &&& 31 = 1
    · exact pv_tableAt (tgt := 180) E 1 h40_1 d_Law_law_40 (by decide) (by decide) rfl rfl (lw_c1 l htr E hX hbl hbA hZ hYs hI hin hn84 hce8 hsl8 kk)
    by_cases h40_2 : xs i &&& 31 = 2
    · exact pv_tableAt (tgt := 300) E 2 h40_2 d_Law_law_40 (by decide) (by decide) rfl rfl (lw_c2 l htr E hX hbl hbA hZ hYs hI hin hn84 hce8 hsl8 kk)
    by_cases h40_3 : xs i &&& 31 = 3
    · exact pv_tableAt (tgt := 434) E 3 h40_3 d_Law_law_40 (by decide) (by decide) rfl rfl (lw_c3 l htr E hX hbl hbA hZ hYs hI hin hn84 hce8 hsl8 kk)
    by_cases h40_4 : xs i &&& 31 = 4
    · exact pv_tableAt (tgt := 534) E 4 h40_4 d_Law_law_40 (by decide) (by decide) rfl rfl (lw_c4 l htr E hX hbl hbA hZ hYs hI hin hn84 hce8 hsl8 kk)
    by_cases h40_5 : xs i &&& 31 = 5
    · exact pv_tableAt (tgt := 571) E 5 h40_5 d_Law_law_40 (by decide) (by decide) rfl rfl (lw_c5 l htr E hX hbl hbA hZ hYs hI hin hn84 hce8 hsl8 kk)
    by_cases h40_6 : xs i &&& 31 = 6
    · exact pv_tableAt (tgt := 608) E 6 h40_6 d_Law_law_40 (by decide) (by decide) rfl rfl (lw_c6 l htr E hX hbl hbA hZ hYs hI hin hn84 hce8 hsl8 kk)
    by_cases h40_7 : xs i &&& 31 = 7
    · exact pv_tableAt (tgt := 633) E 7 h40_7 d_Law_law_40 (by decide) (by decide) rfl rfl (lw_c7 l htr E hX hbl hbA hZ hYs hI hin hn84 hce8 hsl8 kk)
    by_cases h40_8 : xs i &&& 31 = 8
    · exact pv_tableAt (tgt := 658) E 8 h40_8 d_Law_law_40 (by decide) (by decide) rfl rfl (lw_c8 l htr E hX hbl hbA hZ hYs hI hin hn84 hce8 hsl8 kk)
    by_cases h40_9 : xs i &&& 31 = 9
    · exact pv_tableAt (tgt := 714) E 9 h40_9 d_Law_law_40 (by decide) (by decide) rfl rfl (lw_c9 l htr E hX hbl hbA hZ hYs hI hin hn84 hce8 hsl8 kk)
    by_cases h40_10 : xs i &&& 31 = 10
    · exact pv_tableAt (tgt := 751) E 10 h40_10 d_Law_law_40 (by decide) (by decide) rfl rfl (lw_c10 l htr E hX hbl hbA hZ hYs hI hin hn84 hce8 hsl8 kk)
    by_cases h40_11 : xs i &&& 31 = 11
    · exact pv_tableAt (tgt := 776) E 11 h40_11 d_Law_law_40 (by decide) (by decide) rfl rfl (lw_c11 l htr E hX hbl hbA hZ hYs hI hin hn84 hce8 hsl8 kk)
    by_cases h40_12 : xs i &&& 31 = 12
    · exact pv_tableAt (tgt := 856) E 12 h40_12 d_Law_law_40 (by decide) (by decide) rfl rfl (lw_c12 l htr E hX hbl hbA hZ hYs hI hin hn84 hce8 hsl8 kk)
    by_cases h40_13 : xs i &&& 31 = 13
    · exact pv_tableAt (tgt := 905) E 13 h40_13 d_Law_law_40 (by decide) (by decide) rfl rfl (lw_c13 l htr E hX hbl hbA hZ hYs hI hin hn84 hce8 hsl8 kk)
    by_cases h40_14 : xs i &&& 31 = 14
    · exact pv_tableAt (tgt := 997) E 14 h40_14 d_Law_law_40 (by decide) (by decide) rfl rfl (lw_c14 l htr E hX hbl hbA hZ hYs hI hin hn84 hce8 hsl8 kk)
    by_cases h40_15 : xs i &&& 31 = 15
    · exact pv_tableAt (tgt := 1022) E 15 h40_15 d_Law_law_40 (by decide) (by decide) rfl rfl (lw_c15 l htr E hX hbl hbA hZ hYs hI hin hn84 hce8 hsl8 kk)
    by_cases h40_16 : xs i &&& 31 = 16
    · exact pv_tableAt (tgt := 1047) E 16 h40_16 d_Law_law_40 (by decide) (by decide) rfl rfl (lw_c16 l htr E hX hbl hbA hZ hYs hI hin hn84 hce8 hsl8 kk)
    by_cases h40_17 : xs i &&& 31 = 17
    · exact pv_tableAt (tgt := 1072) E 17 h40_17 d_Law_law_40 (by decide) (by decide) rfl rfl (lw_c17 l htr E hX hbl hbA hZ hYs hI hin hn84 hce8 hsl8 kk)
    by_cases h40_18 : xs i &&& 31 = 18
    · exact pv_tableAt (tgt := 1109) E 18 h40_18 d_Law_law_40 (by decide) (by decide) rfl rfl (lw_c18 l htr E hX hbl hbA hZ hYs hI hin hn84 hce8 hsl8 kk)
    by_cases h40_19 : xs i &&& 31 = 19
    · exact pv_tableAt (tgt := 1177) E 19 h40_19 d_Law_law_40 (by decide) (by decide) rfl rfl (lw_c19 l htr E hX hbl hbA hZ hYs hI hin hn84 hce8 hsl8 kk)
    refine pv_tableOut (tgt := 1214) E d_Law_law_40 (by have e0 := lv_neT h40_0 (show Int32.toInt 0 = 0 by decide); have e1 := lv_neT h40_1 (show Int32.toInt 1 = 1 by decide); have e2 := lv_neT h40_2 (show Int32.toInt 2 = 2 by decide); have e3 := lv_neT h40_3 (show Int32.toInt 3 = 3 by decide); have e4 := lv_neT h40_4 (show Int32.toInt 4 = 4 by decide); have e5 := lv_neT h40_5 (show Int32.toInt 5 = 5 by decide); have e6 := lv_neT h40_6 (show Int32.toInt 6 = 6 by decide); have e7 := lv_neT h40_7 (show Int32.toInt 7 = 7 by decide); have e8 := lv_neT h40_8 (show Int32.toInt 8 = 8 by decide); have e9 := lv_neT h40_9 (show Int32.toInt 9 = 9 by decide); have e10 := lv_neT h40_10 (show Int32.toInt 10 = 10 by decide); have e11 := lv_neT h40_11 (show Int32.toInt 11 = 11 by decide); have e12 := lv_neT h40_12 (show Int32.toInt 12 = 12 by decide); have e13 := lv_neT h40_13 (show Int32.toInt 13 = 13 by decide); have e14 := lv_neT h40_14 (show Int32.toInt 14 = 14 by decide); have e15 := lv_neT h40_15 (show Int32.toInt 15 = 15 by decide); have e16 := lv_neT h40_16 (show Int32.toInt 16 = 16 by decide); have e17 := lv_neT h40_17 (show Int32.toInt 17 = 17 by decide); have e18 := lv_neT h40_18 (show Int32.toInt 18 = 18 by decide); have e19 := lv_neT h40_19 (show Int32.toInt 19 = 19 by decide); omega) rfl ?_
    exact kk σ t g ce sl hI (by omega) (by omega)
