theorem zV.fl {t : tT} {g : gT} {s e : Int32} (h : zV t g) (hY : gY (g_work 96 (if 1 ≤ e ∧ e ≤ 9 then g_cpl g s 2 e else g))) : zV t (g_work 96 (if 1 ≤ e ∧ e ≤ 9 then g_cpl g s 2 e else g)) := by
  by_cases hc : 1 ≤ e ∧ e ≤ 9
  · rw [if_pos hc] at hY ⊢
    exact h.cp (by decide) (by decide) hY
  · rw [if_neg hc] at hY ⊢
    rw [work_id h.2.2.1]
    exact h
set_option maxHeartbeats 8000000 in
set_option maxRecDepth 100000 in
theorem lc_complete {p : Program} {e : Env} {s : State} {m : MethodId} {args : Array Value} {below : List Frame} {meth : Method} {c : Code} {D : va_G} {ca : Nat → ClassId} {A : Nat → Prop} {adr0 : Nat → Nat → Nat} {σ0 : ps_S} {Q : State → Prop} (l : Launch) (htr : l.stackTraces = false) (E : ps_E p s m c code 7 "PromiseScopesLaw" D ca) {b n : Nat} {xs : Nat → Int32} (hX : va_X b n xs s s.heap) (hbl : b < s.heap.size) (hbA : ¬ A b) (hZ : ps_Z A s) (hYs : ps_Y s) {σ : ps_S} {t : tT} {g : gT} (hI : LI σ t g) {i : Nat} (hin : i + 7 ≤ n) (hn84 : n ≤ 3584) {ce sl : Nat} (hce : ce + 8 ≤ 601024) (hsl : sl + 64 ≤ 7293034)  (kk : ∀ σ' t' g' ce' sl', LI σ' t' g' → ce' ≤ ce + 8 → sl' ≤ sl + 64 → ps_V p l e room_1 s m args below meth c 7 D ca A s.heap adr0 σ0 Q 1214 [(0, ps_raw b), (1, ps_ref (some (0, 0))), (2, ps_ref (some (13, 0))), (3, ps_ref (some (12, 0))), (4, ps_int (nI i))] [] σ' ce' sl') : ps_V p l e room_1 s m args below meth c 7 D ca A s.heap adr0 σ0 Q 534 [(0, ps_raw b), (1, ps_ref (some (0, 0))), (2, ps_ref (some (13, 0))), (3, ps_ref (some (12, 0))), (4, ps_int (nI i))] [] σ ce sl := by
  have hP := hI.1
  have hM := hI.2.1
  have hV := hI.2.2.1
  have hl12 := hI.2.2.2
  have hC := hV.C
  have hY := hV.Y
  have hW := hC.2.1
  refine pv_aload_n E d_Law_law_534 rfl rfl ?_
  refine pv_aloadR E d_Law_law_535 rfl rfl ?_
  refine pv_iload E d_Law_law_536 rfl ?_
  refine pv_iconst (v := 1) E d_Law_law_538 (by decide) ?_
  refine pv_iadd E d_Law_law_539 ?_
  refine pv_top (congrArg ps_int (nI_add i 1)) ?_
  refine pv_sld E hX hbl hbA (vp_in_nI (show i + 1 < n by omega) (by omega)) d_Law_law_540 ?_
  refine pv_top (congrArg ps_int (congrArg xs (nI_clamp (show i + 1 < 2 ^ 31 by omega)))) ?_
  refine pv_aloadR E d_Law_law_541 rfl rfl ?_
  refine pv_iload E d_Law_law_542 rfl ?_
  refine pv_iconst (v := 2) E d_Law_law_544 (by decide) ?_
  refine pv_iadd E d_Law_law_545 ?_
  refine pv_top (congrArg ps_int (nI_add i 2)) ?_
  refine pv_sld E hX hbl hbA (vp_in_nI (show i + 2 < n by omega) (by omega)) d_Law_law_546 ?_
  refine pv_top (congrArg ps_int (congrArg xs (nI_clamp (show i + 2 < 2 ^ 31 by omega)))) ?_
  refine pv_callV E (fun adr => k_Ps_complete l D ca A _ (xs (i + 1)) (xs (i + 2)) t g hP hC adr) yv_Ps_complete wd_107 rfl rfl (fun _ => ⟨_, rfl⟩) rfl ⟨by decide, by decide⟩ (Nat.le_of_ble_eq_true rfl) d_Law_law_547 ⟨by show _ ≤ 601024; dsimp only; omega, by show _ ≤ 7293034; dsimp only; omega⟩ (fun r547 σ547 hq547 => ?_)
  obtain ⟨hr547, hP1, hf1⟩ := hq547
  subst r547
  have hM1 := hM.fc hf1
  refine pv_aload_n E d_Law_law_550 rfl rfl ?_
  refine pv_aloadR E d_Law_law_551 rfl rfl ?_
  refine pv_iload E d_Law_law_552 rfl ?_
  refine pv_iconst (v := 1) E d_Law_law_554 (by decide) ?_
  refine pv_iadd E d_Law_law_555 ?_
  refine pv_top (congrArg ps_int (nI_add i 1)) ?_
  refine pv_sld E hX hbl hbA (vp_in_nI (show i + 1 < n by omega) (by omega)) d_Law_law_556 ?_
  refine pv_top (congrArg ps_int (congrArg xs (nI_clamp (show i + 1 < 2 ^ 31 by omega)))) ?_
  refine pv_aloadR E d_Law_law_557 rfl rfl ?_
  refine pv_iload E d_Law_law_558 rfl ?_
  refine pv_iconst (v := 2) E d_Law_law_560 (by decide) ?_
  refine pv_iadd E d_Law_law_561 ?_
  refine pv_top (congrArg ps_int (nI_add i 2)) ?_
  refine pv_sld E hX hbl hbA (vp_in_nI (show i + 2 < n by omega) (by omega)) d_Law_law_562 ?_
  refine pv_top (congrArg ps_int (congrArg xs (nI_clamp (show i + 2 < 2 ^ 31 by omega)))) ?_
  refine pv_callV E (fun adr => k_Mod_complete l D ca A _ (xs (i + 1)) (xs (i + 2)) t g hM1 hC.1 hY adr) yv_Mod_complete wd_976 rfl rfl (fun _ => ⟨_, rfl⟩) rfl ⟨by decide, by decide⟩ (Nat.le_of_ble_eq_true rfl) d_Law_law_563 ⟨by show _ ≤ 601024; dsimp only; omega, by show _ ≤ 7293034; dsimp only; omega⟩ (fun r563 σ563 hq563 => ?_)
  obtain ⟨hr563, hM2, hY2, ht2, hf2⟩ := hq563
  subst r563
  refine pv_icmp_eq (tgt := 1214) E d_Law_law_566 rfl (fun h566 => ?_) (fun h566 => ?_)
  · skip
    exact pv_sub (L' := [(0, ps_raw b), (1, ps_ref (some (0, 0))), (2, ps_ref (some (13, 0))), (3, ps_ref (some (12, 0))), (4, ps_int (nI i))]) ⟨rfl, rfl, rfl, rfl, rfl, trivial⟩ (kk _ _ _ _ _ (LI.fin hP1 (hf1.l12 hl12) hM2 hf2 (hV.cp (by decide) (by decide) hY2)) (by dsimp only; omega) (by dsimp only; omega))
  · skip
    exact absurd rfl h566
set_option maxHeartbeats 8000000 in
set_option maxRecDepth 100000 in
theorem lc_fail {p : Program} {e : Env} {s : State} {m : MethodId} {args : Array Value} {below : List Frame} {meth : Method} {c : Code} {D : va_G} {ca : Nat → ClassId} {A : Nat → Prop} {adr0 : Nat → Nat → Nat} {σ0 : ps_S} {Q : State → Prop} (l : Launch) (htr : l.stackTraces = false) (E : ps_E p s m c code 7 "PromiseScopesLaw" D ca) {b n : Nat} {xs : Nat → Int32} (hX : va_X b n xs s s.heap) (hbl : b < s.heap.size) (hbA : ¬ A b) (hZ : ps_Z A s) (hYs : ps_Y s) {σ : ps_S} {t : tT} {g : gT} (hI : LI σ t g) {i : Nat} (hin : i + 7 ≤ n) (hn84 : n ≤ 3584) {ce sl : Nat} (hce : ce + 8 ≤ 601024) (hsl : sl + 64 ≤ 7293034)  (kk : ∀ σ' t' g' ce' sl', LI σ' t' g' → ce' ≤ ce + 8 → sl' ≤ sl + 64 → ps_V p l e room_1 s m args below meth c 7 D ca A s.heap adr0 σ0 Q 1214 [(0, ps_raw b), (1, ps_ref (some (0, 0))), (2, ps_ref (some (13, 0))), (3, ps_ref (some (12, 0))), (4, ps_int (nI i))] [] σ' ce' sl') : ps_V p l e room_1 s m args below meth c 7 D ca A s.heap adr0 σ0 Q 571 [(0, ps_raw b), (1, ps_ref (some (0, 0))), (2, ps_ref (some (13, 0))), (3, ps_ref (some (12, 0))), (4, ps_int (nI i))] [] σ ce sl := by
  have hP := hI.1
  have hM := hI.2.1
  have hV := hI.2.2.1
  have hl12 := hI.2.2.2
  have hC := hV.C
  have hY := hV.Y
  have hW := hC.2.1
  refine pv_aload_n E d_Law_law_571 rfl rfl ?_
  refine pv_aloadR E d_Law_law_572 rfl rfl ?_
  refine pv_iload E d_Law_law_573 rfl ?_
  refine pv_iconst (v := 1) E d_Law_law_575 (by decide) ?_
  refine pv_iadd E d_Law_law_576 ?_
  refine pv_top (congrArg ps_int (nI_add i 1)) ?_
  refine pv_sld E hX hbl hbA (vp_in_nI (show i + 1 < n by omega) (by omega)) d_Law_law_577 ?_
  refine pv_top (congrArg ps_int (congrArg xs (nI_clamp (show i + 1 < 2 ^ 31 by omega)))) ?_
  refine pv_aloadR E d_Law_law_578 rfl rfl ?_
  refine pv_iload E d_Law_law_579 rfl ?_
  refine pv_iconst (v := 2) E d_Law_law_581 (by decide) ?_
  refine pv_iadd E d_Law_law_582 ?_
  refine pv_top (congrArg ps_int (nI_add i 2)) ?_
  refine pv_sld E hX hbl hbA (vp_in_nI (show i + 2 < n by omega) (by omega)) d_Law_law_583 ?_
  refine pv_top (congrArg ps_int (congrArg xs (nI_clamp (show i + 2 < 2 ^ 31 by omega)))) ?_
  refine pv_callV E (fun adr => k_Ps_fail l D ca A _ (xs (i + 1)) (xs (i + 2)) t g hP hC adr) yv_Ps_fail wd_217 rfl rfl (fun _ => ⟨_, rfl⟩) rfl ⟨by decide, by decide⟩ (Nat.le_of_ble_eq_true rfl) d_Law_law_584 ⟨by show _ ≤ 601024; dsimp only; omega, by show _ ≤ 7293034; dsimp only; omega⟩ (fun r584 σ584 hq584 => ?_)
  obtain ⟨hr584, hP1, hf1⟩ := hq584
  subst r584
  have hM1 := hM.fc hf1
  refine pv_aload_n E d_Law_law_587 rfl rfl ?_
  refine pv_aloadR E d_Law_law_588 rfl rfl ?_
  refine pv_iload E d_Law_law_589 rfl ?_
  refine pv_iconst (v := 1) E d_Law_law_591 (by decide) ?_
  refine pv_iadd E d_Law_law_592 ?_
  refine pv_top (congrArg ps_int (nI_add i 1)) ?_
  refine pv_sld E hX hbl hbA (vp_in_nI (show i + 1 < n by omega) (by omega)) d_Law_law_593 ?_
  refine pv_top (congrArg ps_int (congrArg xs (nI_clamp (show i + 1 < 2 ^ 31 by omega)))) ?_
  refine pv_aloadR E d_Law_law_594 rfl rfl ?_
  refine pv_iload E d_Law_law_595 rfl ?_
  refine pv_iconst (v := 2) E d_Law_law_597 (by decide) ?_
  refine pv_iadd E d_Law_law_598 ?_
  refine pv_top (congrArg ps_int (nI_add i 2)) ?_
  refine pv_sld E hX hbl hbA (vp_in_nI (show i + 2 < n by omega) (by omega)) d_Law_law_599 ?_
  refine pv_top (congrArg ps_int (congrArg xs (nI_clamp (show i + 2 < 2 ^ 31 by omega)))) ?_
  refine pv_callV E (fun adr => k_Mod_fail l D ca A _ (xs (i + 1)) (xs (i + 2)) t g hM1 hC.1 hY adr) yv_Mod_fail wd_984 rfl rfl (fun _ => ⟨_, rfl⟩) rfl ⟨by decide, by decide⟩ (Nat.le_of_ble_eq_true rfl) d_Law_law_600 ⟨by show _ ≤ 601024; dsimp only; omega, by show _ ≤ 7293034; dsimp only; omega⟩ (fun r600 σ600 hq600 => ?_)
  obtain ⟨hr600, hM2, hY2, ht2, hf2⟩ := hq600
  subst r600
  refine pv_icmp_eq (tgt := 1214) E d_Law_law_603 rfl (fun h603 => ?_) (fun h603 => ?_)
  · skip
    exact pv_sub (L' := [(0, ps_raw b), (1, ps_ref (some (0, 0))), (2, ps_ref (some (13, 0))), (3, ps_ref (some (12, 0))), (4, ps_int (nI i))]) ⟨rfl, rfl, rfl, rfl, rfl, trivial⟩ (kk _ _ _ _ _ (LI.fin hP1 (hf1.l12 hl12) hM2 hf2 (hV.fl hY2)) (by dsimp only; omega) (by dsimp only; omega))
  · skip
    exact absurd rfl h603
set_option maxHeartbeats 8000000 in
set_option maxRecDepth 100000 in
theorem lc_cancel {p : Program} {e : Env} {s : State} {m : MethodId} {args : Array Value} {below : List Frame} {meth : Method} {c : Code} {D : va_G} {ca : Nat → ClassId} {A : Nat → Prop} {adr0 : Nat → Nat → Nat} {σ0 : ps_S} {Q : State → Prop} (l : Launch) (htr : l.stackTraces = false) (E : ps_E p s m c code 7 "PromiseScopesLaw" D ca) {b n : Nat} {xs : Nat → Int32} (hX : va_X b n xs s s.heap) (hbl : b < s.heap.size) (hbA : ¬ A b) (hZ : ps_Z A s) (hYs : ps_Y s) {σ : ps_S} {t : tT} {g : gT} (hI : LI σ t g) {i : Nat} (hin : i + 7 ≤ n) (hn84 : n ≤ 3584) {ce sl : Nat} (hce : ce + 8 ≤ 601024) (hsl : sl + 64 ≤ 7293034)  (kk : ∀ σ' t' g' ce' sl', LI σ' t' g' → ce' ≤ ce + 8 → sl' ≤ sl + 64 → ps_V p l e room_1 s m args below meth c 7 D ca A s.heap adr0 σ0 Q 1214 [(0, ps_raw b), (1, ps_ref (some (0, 0))), (2, ps_ref (some (13, 0))), (3, ps_ref (some (12, 0))), (4, ps_int (nI i))] [] σ' ce' sl') : ps_V p l e room_1 s m args below meth c 7 D ca A s.heap adr0 σ0 Q 608 [(0, ps_raw b), (1, ps_ref (some (0, 0))), (2, ps_ref (some (13, 0))), (3, ps_ref (some (12, 0))), (4, ps_int (nI i))] [] σ ce sl := by
  have hP := hI.1
  have hM := hI.2.1
  have hV := hI.2.2.1
  have hl12 := hI.2.2.2
  have hC := hV.C
  have hY := hV.Y
  have hW := hC.2.1
  refine pv_aload_n E d_Law_law_608 rfl rfl ?_
  refine pv_aloadR E d_Law_law_609 rfl rfl ?_
  refine pv_iload E d_Law_law_610 rfl ?_
  refine pv_iconst (v := 1) E d_Law_law_612 (by decide) ?_
  refine pv_iadd E d_Law_law_613 ?_
  refine pv_top (congrArg ps_int (nI_add i 1)) ?_
  refine pv_sld E hX hbl hbA (vp_in_nI (show i + 1 < n by omega) (by omega)) d_Law_law_614 ?_
  refine pv_top (congrArg ps_int (congrArg xs (nI_clamp (show i + 1 < 2 ^ 31 by omega)))) ?_
  refine pv_callV E (fun adr => k_Ps_cancel l D ca A _ (xs (i + 1)) t g hP hC adr) yv_Ps_cancel wd_221 rfl rfl (fun _ => ⟨_, rfl⟩) rfl ⟨by decide, by decide⟩ (Nat.le_of_ble_eq_true rfl) d_Law_law_615 ⟨by show _ ≤ 601024; dsimp only; omega, by show _ ≤ 7293034; dsimp only; omega⟩ (fun r615 σ615 hq615 => ?_)
  obtain ⟨hr615, hP1, hf1⟩ := hq615
  subst r615
  have hM1 := hM.fc hf1
  refine pv_aload_n E d_Law_law_618 rfl rfl ?_
  refine pv_aloadR E d_Law_law_619 rfl rfl ?_
  refine pv_iload E d_Law_law_620 rfl ?_
  refine pv_iconst (v := 1) E d_Law_law_622 (by decide) ?_
  refine pv_iadd E d_Law_law_623 ?_
  refine pv_top (congrArg ps_int (nI_add i 1)) ?_
  refine pv_sld E hX hbl hbA (vp_in_nI (show i + 1 < n by omega) (by omega)) d_Law_law_624 ?_
  refine pv_top (congrArg ps_int (congrArg xs (nI_clamp (show i + 1 < 2 ^ 31 by omega)))) ?_
  refine pv_callV E (fun adr => k_Mod_cancel l D ca A _ (xs (i + 1)) t g hM1 hC.1 hY adr) yv_Mod_cancel wd_988 rfl rfl (fun _ => ⟨_, rfl⟩) rfl ⟨by decide, by decide⟩ (Nat.le_of_ble_eq_true rfl) d_Law_law_625 ⟨by show _ ≤ 601024; dsimp only; omega, by show _ ≤ 7293034; dsimp only; omega⟩ (fun r625 σ625 hq625 => ?_)
  obtain ⟨hr625, hM2, hY2, ht2, hf2⟩ := hq625
  subst r625
  refine pv_icmp_eq (tgt := 1214) E d_Law_law_628 rfl (fun h628 => ?_) (fun h628 => ?_)
  · skip
    exact pv_sub (L' := [(0, ps_raw b), (1, ps_ref (some (0, 0))), (2, ps_ref (some (13, 0))), (3, ps_ref (some (12, 0))), (4, ps_int (nI i))]) ⟨rfl, rfl, rfl, rfl, rfl, trivial⟩ (kk _ _ _ _ _ (LI.fin hP1 (hf1.l12 hl12) hM2 hf2 (hV.cp (by decide) (by decide) hY2)) (by dsimp only; omega) (by dsimp only; omega))
  · skip
    exact absurd rfl h628
set_option maxHeartbeats 8000000 in
set_option maxRecDepth 100000 in
theorem lc_work_b {p : Program} {e : Env} {s : State} {m : MethodId} {args : Array Value} {below : List Frame} {meth : Method} {c : Code} {D : va_G} {ca : Nat → ClassId} {A : Nat → Prop} {adr0 : Nat → Nat → Nat} {σ0 : ps_S} {Q : State → Prop} (l : Launch) (htr : l.stackTraces = false) (E : ps_E p s m c code 7 "PromiseScopesLaw" D ca) {b n : Nat} {xs : Nat → Int32} (hX : va_X b n xs s s.heap) (hbl : b < s.heap.size) (hbA : ¬ A b) (hZ : ps_Z A s) (hYs : ps_Y s) {σ : ps_S} {t : tT} {g : gT} (hI : LI σ t g) {i : Nat} (hin : i + 7 ≤ n) (hn84 : n ≤ 3584) {ce sl : Nat} (hce : ce + 8 ≤ 601024) (hsl : sl + 64 ≤ 7293034) (hb : n_bad (xs (i + 1))) (kk : ∀ σ' t' g' ce' sl', LI σ' t' g' → ce' ≤ ce + 8 → sl' ≤ sl + 64 → ps_V p l e room_1 s m args below meth c 7 D ca A s.heap adr0 σ0 Q 1214 [(0, ps_raw b), (1, ps_ref (some (0, 0))), (2, ps_ref (some (13, 0))), (3, ps_ref (some (12, 0))), (4, ps_int (nI i))] [] σ' ce' sl') : ps_V p l e room_1 s m args below meth c 7 D ca A s.heap adr0 σ0 Q 633 [(0, ps_raw b), (1, ps_ref (some (0, 0))), (2, ps_ref (some (13, 0))), (3, ps_ref (some (12, 0))), (4, ps_int (nI i))] [] σ ce sl := by
  have hP := hI.1
  have hM := hI.2.1
  have hV := hI.2.2.1
  have hl12 := hI.2.2.2
  have hC := hV.C
  have hY := hV.Y
  have hW := hC.2.1
  refine pv_aload_n E d_Law_law_633 rfl rfl ?_
  refine pv_aloadR E d_Law_law_634 rfl rfl ?_
  refine pv_iload E d_Law_law_635 rfl ?_
  refine pv_iconst (v := 1) E d_Law_law_637 (by decide) ?_
  refine pv_iadd E d_Law_law_638 ?_
  refine pv_top (congrArg ps_int (nI_add i 1)) ?_
  refine pv_sld E hX hbl hbA (vp_in_nI (show i + 1 < n by omega) (by omega)) d_Law_law_639 ?_
  refine pv_top (congrArg ps_int (congrArg xs (nI_clamp (show i + 1 < 2 ^ 31 by omega)))) ?_
  refine pv_callV E (fun adr => k_Ps_work l D ca A _ (xs (i + 1)) t g hP hC adr) yv_Ps_work wd_225 rfl rfl (fun _ => ⟨_, rfl⟩) rfl ⟨by decide, by decide⟩ (Nat.le_of_ble_eq_true rfl) d_Law_law_640 ⟨by show _ ≤ 601024; dsimp only; omega, by show _ ≤ 7293034; dsimp only; omega⟩ (fun r640 σ640 hq640 => ?_)
  obtain ⟨hr640, hs640⟩ := hq640.1 hb
  subst r640
  subst hs640
  refine pv_aload_n E d_Law_law_643 rfl rfl ?_
  refine pv_aloadR E d_Law_law_644 rfl rfl ?_
  refine pv_iload E d_Law_law_645 rfl ?_
  refine pv_iconst (v := 1) E d_Law_law_647 (by decide) ?_
  refine pv_iadd E d_Law_law_648 ?_
  refine pv_top (congrArg ps_int (nI_add i 1)) ?_
  refine pv_sld E hX hbl hbA (vp_in_nI (show i + 1 < n by omega) (by omega)) d_Law_law_649 ?_
  refine pv_top (congrArg ps_int (congrArg xs (nI_clamp (show i + 1 < 2 ^ 31 by omega)))) ?_
  refine pv_callV E (fun adr => k_Mod_work_b l D ca A _ (xs (i + 1)) t g hM hC.1 hY hb adr) yv_Mod_work wd_992 rfl rfl (fun _ => ⟨_, rfl⟩) rfl ⟨by decide, by decide⟩ (Nat.le_of_ble_eq_true rfl) d_Law_law_650 ⟨by show _ ≤ 601024; dsimp only; omega, by show _ ≤ 7293034; dsimp only; omega⟩ (fun r650 σ650 hq650 => ?_)
  obtain ⟨hr650, hM2, ht2, hf2⟩ := hq650
  subst r650
  refine pv_icmp_eq (tgt := 1214) E d_Law_law_653 rfl (fun h653 => ?_) (fun h653 => ?_)
  · skip
    exact pv_sub (L' := [(0, ps_raw b), (1, ps_ref (some (0, 0))), (2, ps_ref (some (13, 0))), (3, ps_ref (some (12, 0))), (4, ps_int (nI i))]) ⟨rfl, rfl, rfl, rfl, rfl, trivial⟩ (kk _ _ _ _ _ (LI.fin hP hl12 hM2 hf2 hV) (by dsimp only; omega) (by dsimp only; omega))
  · skip
    exact absurd rfl h653
set_option maxHeartbeats 8000000 in
set_option maxRecDepth 100000 in
theorem lc_work_0 {p : Program} {e : Env} {s : State} {m : MethodId} {args : Array Value} {below : List Frame} {meth : Method} {c : Code} {D : va_G} {ca : Nat → ClassId} {A : Nat → Prop} {adr0 : Nat → Nat → Nat} {σ0 : ps_S} {Q : State → Prop} (l : Launch) (htr : l.stackTraces = false) (E : ps_E p s m c code 7 "PromiseScopesLaw" D ca) {b n : Nat} {xs : Nat → Int32} (hX : va_X b n xs s s.heap) (hbl : b < s.heap.size) (hbA : ¬ A b) (hZ : ps_Z A s) (hYs : ps_Y s) {σ : ps_S} {t : tT} {g : gT} (hI : LI σ t g) {i : Nat} (hin : i + 7 ≤ n) (hn84 : n ≤ 3584) {ce sl : Nat} (hce : ce + 8 ≤ 601024) (hsl : sl + 64 ≤ 7293034) (hb : ¬ n_bad (xs (i + 1))) (kk : ∀ σ' t' g' ce' sl', LI σ' t' g' → ce' ≤ ce + 8 → sl' ≤ sl + 64 → ps_V p l e room_1 s m args below meth c 7 D ca A s.heap adr0 σ0 Q 1214 [(0, ps_raw b), (1, ps_ref (some (0, 0))), (2, ps_ref (some (13, 0))), (3, ps_ref (some (12, 0))), (4, ps_int (nI i))] [] σ' ce' sl') : ps_V p l e room_1 s m args below meth c 7 D ca A s.heap adr0 σ0 Q 633 [(0, ps_raw b), (1, ps_ref (some (0, 0))), (2, ps_ref (some (13, 0))), (3, ps_ref (some (12, 0))), (4, ps_int (nI i))] [] σ ce sl := by
  have hP := hI.1
  have hM := hI.2.1
  have hV := hI.2.2.1
  have hl12 := hI.2.2.2
  have hC := hV.C
  have hY := hV.Y
  have hW := hC.2.1
  refine pv_aload_n E d_Law_law_633 rfl rfl ?_
  refine pv_aloadR E d_Law_law_634 rfl rfl ?_
  refine pv_iload E d_Law_law_635 rfl ?_
  refine pv_iconst (v := 1) E d_Law_law_637 (by decide) ?_
  refine pv_iadd E d_Law_law_638 ?_
  refine pv_top (congrArg ps_int (nI_add i 1)) ?_
  refine pv_sld E hX hbl hbA (vp_in_nI (show i + 1 < n by omega) (by omega)) d_Law_law_639 ?_
  refine pv_top (congrArg ps_int (congrArg xs (nI_clamp (show i + 1 < 2 ^ 31 by omega)))) ?_
  refine pv_callV E (fun adr => k_Ps_work l D ca A _ (xs (i + 1)) t g hP hC adr) yv_Ps_work wd_225 rfl rfl (fun _ => ⟨_, rfl⟩) rfl ⟨by decide, by decide⟩ (Nat.le_of_ble_eq_true rfl) d_Law_law_640 ⟨by show _ ≤ 601024; dsimp only; omega, by show _ ≤ 7293034; dsimp only; omega⟩ (fun r640 σ640 hq640 => ?_)
  obtain ⟨hr640, hP1, hf1⟩ := hq640.2 hb
  subst r640
  have hM1 := hM.fc hf1
  refine pv_aload_n E d_Law_law_643 rfl rfl ?_
  refine pv_aloadR E d_Law_law_644 rfl rfl ?_
  refine pv_iload E d_Law_law_645 rfl ?_
  refine pv_iconst (v := 1) E d_Law_law_647 (by decide) ?_
  refine pv_iadd E d_Law_law_648 ?_
  refine pv_top (congrArg ps_int (nI_add i 1)) ?_
  refine pv_sld E hX hbl hbA (vp_in_nI (show i + 1 < n by omega) (by omega)) d_Law_law_649 ?_
  refine pv_top (congrArg ps_int (congrArg xs (nI_clamp (show i + 1 < 2 ^ 31 by omega)))) ?_
  refine pv_callV E (fun adr => k_Mod_work_0 l D ca A _ (xs (i + 1)) t g hM1 hC.1 hY hb adr) yv_Mod_work wd_992 rfl rfl (fun _ => ⟨_, rfl⟩) rfl ⟨by decide, by decide⟩ (Nat.le_of_ble_eq_true rfl) d_Law_law_650 ⟨by show _ ≤ 601024; dsimp only; omega, by show _ ≤ 7293034; dsimp only; omega⟩ (fun r650 σ650 hq650 => ?_)
  obtain ⟨hr650, hM2, hY2, ht2, hf2⟩ := hq650
  subst r650
  refine pv_icmp_eq (tgt := 1214) E d_Law_law_653 rfl (fun h653 => ?_) (fun h653 => ?_)
  · skip
    exact pv_sub (L' := [(0, ps_raw b), (1, ps_ref (some (0, 0))), (2, ps_ref (some (13, 0))), (3, ps_ref (some (12, 0))), (4, ps_int (nI i))]) ⟨rfl, rfl, rfl, rfl, rfl, trivial⟩ (kk _ _ _ _ _ (LI.fin hP1 (hf1.l12 hl12) hM2 hf2 (hV.wk hY2)) (by dsimp only; omega) (by dsimp only; omega))
  · skip
    exact absurd rfl h653
set_option maxHeartbeats 8000000 in
set_option maxRecDepth 100000 in
theorem lc_stage {p : Program} {e : Env} {s : State} {m : MethodId} {args : Array Value} {below : List Frame} {meth : Method} {c : Code} {D : va_G} {ca : Nat → ClassId} {A : Nat → Prop} {adr0 : Nat → Nat → Nat} {σ0 : ps_S} {Q : State → Prop} (l : Launch) (htr : l.stackTraces = false) (E : ps_E p s m c code 7 "PromiseScopesLaw" D ca) {b n : Nat} {xs : Nat → Int32} (hX : va_X b n xs s s.heap) (hbl : b < s.heap.size) (hbA : ¬ A b) (hZ : ps_Z A s) (hYs : ps_Y s) {σ : ps_S} {t : tT} {g : gT} (hI : LI σ t g) {i : Nat} (hin : i + 7 ≤ n) (hn84 : n ≤ 3584) {ce sl : Nat} (hce : ce + 8 ≤ 601024) (hsl : sl + 64 ≤ 7293034)  (kk : ∀ σ' t' g' ce' sl', LI σ' t' g' → ce' ≤ ce + 8 → sl' ≤ sl + 64 → ps_V p l e room_1 s m args below meth c 7 D ca A s.heap adr0 σ0 Q 1214 [(0, ps_raw b), (1, ps_ref (some (0, 0))), (2, ps_ref (some (13, 0))), (3, ps_ref (some (12, 0))), (4, ps_int (nI i))] [] σ' ce' sl') : ps_V p l e room_1 s m args below meth c 7 D ca A s.heap adr0 σ0 Q 714 [(0, ps_raw b), (1, ps_ref (some (0, 0))), (2, ps_ref (some (13, 0))), (3, ps_ref (some (12, 0))), (4, ps_int (nI i))] [] σ ce sl := by
  have hP := hI.1
  have hM := hI.2.1
  have hV := hI.2.2.1
  have hl12 := hI.2.2.2
  have hC := hV.C
  have hY := hV.Y
  have hW := hC.2.1
  refine pv_aload_n E d_Law_law_714 rfl rfl ?_
  refine pv_aloadR E d_Law_law_715 rfl rfl ?_
  refine pv_iload E d_Law_law_716 rfl ?_
  refine pv_iconst (v := 1) E d_Law_law_718 (by decide) ?_
  refine pv_iadd E d_Law_law_719 ?_
  refine pv_top (congrArg ps_int (nI_add i 1)) ?_
  refine pv_sld E hX hbl hbA (vp_in_nI (show i + 1 < n by omega) (by omega)) d_Law_law_720 ?_
  refine pv_top (congrArg ps_int (congrArg xs (nI_clamp (show i + 1 < 2 ^ 31 by omega)))) ?_
  refine pv_aloadR E d_Law_law_721 rfl rfl ?_
  refine pv_iload E d_Law_law_722 rfl ?_
  refine pv_iconst (v := 2) E d_Law_law_724 (by decide) ?_
  refine pv_iadd E d_Law_law_725 ?_
  refine pv_top (congrArg ps_int (nI_add i 2)) ?_
  refine pv_sld E hX hbl hbA (vp_in_nI (show i + 2 < n by omega) (by omega)) d_Law_law_726 ?_
  refine pv_top (congrArg ps_int (congrArg xs (nI_clamp (show i + 2 < 2 ^ 31 by omega)))) ?_
  refine pv_callV E (fun adr => k_Ps_stage l D ca A _ (xs (i + 1)) (xs (i + 2)) t g hP hC adr) yv_Ps_stage wd_236 rfl rfl (fun _ => ⟨_, rfl⟩) rfl ⟨by decide, by decide⟩ (Nat.le_of_ble_eq_true rfl) d_Law_law_727 ⟨by show _ ≤ 601024; dsimp only; omega, by show _ ≤ 7293034; dsimp only; omega⟩ (fun r727 σ727 hq727 => ?_)
  obtain ⟨hr727, hs727⟩ := hq727
  subst r727
  subst hs727
  refine pv_aload_n E d_Law_law_730 rfl rfl ?_
  refine pv_aloadR E d_Law_law_731 rfl rfl ?_
  refine pv_iload E d_Law_law_732 rfl ?_
  refine pv_iconst (v := 1) E d_Law_law_734 (by decide) ?_
  refine pv_iadd E d_Law_law_735 ?_
  refine pv_top (congrArg ps_int (nI_add i 1)) ?_
  refine pv_sld E hX hbl hbA (vp_in_nI (show i + 1 < n by omega) (by omega)) d_Law_law_736 ?_
  refine pv_top (congrArg ps_int (congrArg xs (nI_clamp (show i + 1 < 2 ^ 31 by omega)))) ?_
  refine pv_aloadR E d_Law_law_737 rfl rfl ?_
  refine pv_iload E d_Law_law_738 rfl ?_
  refine pv_iconst (v := 2) E d_Law_law_740 (by decide) ?_
  refine pv_iadd E d_Law_law_741 ?_
  refine pv_top (congrArg ps_int (nI_add i 2)) ?_
  refine pv_sld E hX hbl hbA (vp_in_nI (show i + 2 < n by omega) (by omega)) d_Law_law_742 ?_
  refine pv_top (congrArg ps_int (congrArg xs (nI_clamp (show i + 2 < 2 ^ 31 by omega)))) ?_
  refine pv_callV E (fun adr => k_Mod_stage l D ca A _ (xs (i + 1)) (xs (i + 2)) t g hM hC.1 hY adr) yv_Mod_stage wd_1000 rfl rfl (fun _ => ⟨_, rfl⟩) rfl ⟨by decide, by decide⟩ (Nat.le_of_ble_eq_true rfl) d_Law_law_743 ⟨by show _ ≤ 601024; dsimp only; omega, by show _ ≤ 7293034; dsimp only; omega⟩ (fun r743 σ743 hq743 => ?_)
  obtain ⟨hr743, hM2, ht2, hf2⟩ := hq743
  subst r743
  refine pv_icmp_eq (tgt := 1214) E d_Law_law_746 rfl (fun h746 => ?_) (fun h746 => ?_)
  · skip
    exact pv_sub (L' := [(0, ps_raw b), (1, ps_ref (some (0, 0))), (2, ps_ref (some (13, 0))), (3, ps_ref (some (12, 0))), (4, ps_int (nI i))]) ⟨rfl, rfl, rfl, rfl, rfl, trivial⟩ (kk _ _ _ _ _ (LI.fin hP hl12 hM2 hf2 hV) (by dsimp only; omega) (by dsimp only; omega))
  · skip
    exact absurd rfl h746
set_option maxHeartbeats 8000000 in
set_option maxRecDepth 100000 in
theorem lc_count {p : Program} {e : Env} {s : State} {m : MethodId} {args : Array Value} {below : List Frame} {meth : Method} {c : Code} {D : va_G} {ca : Nat → ClassId} {A : Nat → Prop} {adr0 : Nat → Nat → Nat} {σ0 : ps_S} {Q : State → Prop} (l : Launch) (htr : l.stackTraces = false) (E : ps_E p s m c code 7 "PromiseScopesLaw" D ca) {b n : Nat} {xs : Nat → Int32} (hX : va_X b n xs s s.heap) (hbl : b < s.heap.size) (hbA : ¬ A b) (hZ : ps_Z A s) (hYs : ps_Y s) {σ : ps_S} {t : tT} {g : gT} (hI : LI σ t g) {i : Nat} (hin : i + 7 ≤ n) (hn84 : n ≤ 3584) {ce sl : Nat} (hce : ce + 8 ≤ 601024) (hsl : sl + 64 ≤ 7293034)  (kk : ∀ σ' t' g' ce' sl', LI σ' t' g' → ce' ≤ ce + 8 → sl' ≤ sl + 64 → ps_V p l e room_1 s m args below meth c 7 D ca A s.heap adr0 σ0 Q 1214 [(0, ps_raw b), (1, ps_ref (some (0, 0))), (2, ps_ref (some (13, 0))), (3, ps_ref (some (12, 0))), (4, ps_int (nI i))] [] σ' ce' sl') : ps_V p l e room_1 s m args below meth c 7 D ca A s.heap adr0 σ0 Q 751 [(0, ps_raw b), (1, ps_ref (some (0, 0))), (2, ps_ref (some (13, 0))), (3, ps_ref (some (12, 0))), (4, ps_int (nI i))] [] σ ce sl := by
  have hP := hI.1
  have hM := hI.2.1
  have hV := hI.2.2.1
  have hl12 := hI.2.2.2
  have hC := hV.C
  have hY := hV.Y
  have hW := hC.2.1
  refine pv_aload_n E d_Law_law_751 rfl rfl ?_
  refine pv_aloadR E d_Law_law_752 rfl rfl ?_
  refine pv_iload E d_Law_law_753 rfl ?_
  refine pv_iconst (v := 1) E d_Law_law_755 (by decide) ?_
  refine pv_iadd E d_Law_law_756 ?_
  refine pv_top (congrArg ps_int (nI_add i 1)) ?_
  refine pv_sld E hX hbl hbA (vp_in_nI (show i + 1 < n by omega) (by omega)) d_Law_law_757 ?_
  refine pv_top (congrArg ps_int (congrArg xs (nI_clamp (show i + 1 < 2 ^ 31 by omega)))) ?_
  refine pv_callV E (fun adr => k_Ps_count l D ca A _ (xs (i + 1)) t g hP hC adr) yv_Ps_count wd_249 rfl rfl (fun _ => ⟨_, rfl⟩) rfl ⟨by decide, by decide⟩ (Nat.le_of_ble_eq_true rfl) d_Law_law_758 ⟨by show _ ≤ 601024; dsimp only; omega, by show _ ≤ 7293034; dsimp only; omega⟩ (fun r758 σ758 hq758 => ?_)
  obtain ⟨hr758, hs758⟩ := hq758
  subst r758
  subst hs758
  refine pv_aload_n E d_Law_law_761 rfl rfl ?_
  refine pv_aloadR E d_Law_law_762 rfl rfl ?_
  refine pv_iload E d_Law_law_763 rfl ?_
  refine pv_iconst (v := 1) E d_Law_law_765 (by decide) ?_
  refine pv_iadd E d_Law_law_766 ?_
  refine pv_top (congrArg ps_int (nI_add i 1)) ?_
  refine pv_sld E hX hbl hbA (vp_in_nI (show i + 1 < n by omega) (by omega)) d_Law_law_767 ?_
  refine pv_top (congrArg ps_int (congrArg xs (nI_clamp (show i + 1 < 2 ^ 31 by omega)))) ?_
  refine pv_callV E (fun adr => k_Mod_count l D ca A _ (xs (i + 1)) t g hM hC.1 hY adr) yv_Mod_count wd_1004 rfl rfl (fun _ => ⟨_, rfl⟩) rfl ⟨by decide, by decide⟩ (Nat.le_of_ble_eq_true rfl) d_Law_law_768 ⟨by show _ ≤ 601024; dsimp only; omega, by show _ ≤ 7293034; dsimp only; omega⟩ (fun r768 σ768 hq768 => ?_)
  obtain ⟨hr768, hM2, ht2, hf2⟩ := hq768
  subst r768
  refine pv_icmp_eq (tgt := 1214) E d_Law_law_771 rfl (fun h771 => ?_) (fun h771 => ?_)
  · skip
    exact pv_sub (L' := [(0, ps_raw b), (1, ps_ref (some (0, 0))), (2, ps_ref (some (13, 0))), (3, ps_ref (some (12, 0))), (4, ps_int (nI i))]) ⟨rfl, rfl, rfl, rfl, rfl, trivial⟩ (kk _ _ _ _ _ (LI.fin hP hl12 hM2 hf2 hV) (by dsimp only; omega) (by dsimp only; omega))
  · skip
    exact absurd rfl h771
set_option maxHeartbeats 8000000 in
set_option maxRecDepth 100000 in
theorem lc_bind_0 {p : Program} {e : Env} {s : State} {m : MethodId} {args : Array Value} {below : List Frame} {meth : Method} {c : Code} {D : va_G} {ca : Nat → ClassId} {A : Nat → Prop} {adr0 : Nat → Nat → Nat} {σ0 : ps_S} {Q : State → Prop} (l : Launch) (htr : l.stackTraces = false) (E : ps_E p s m c code 7 "PromiseScopesLaw" D ca) {b n : Nat} {xs : Nat → Int32} (hX : va_X b n xs s s.heap) (hbl : b < s.heap.size) (hbA : ¬ A b) (hZ : ps_Z A s) (hYs : ps_Y s) {σ : ps_S} {t : tT} {g : gT} (hI : LI σ t g) {i : Nat} (hin : i + 7 ≤ n) (hn84 : n ≤ 3584) {ce sl : Nat} (hce : ce + 8 ≤ 601024) (hsl : sl + 64 ≤ 7293034) (hb : ¬ x_bok t (xs (i + 1)) (xs (i + 2))) (kk : ∀ σ' t' g' ce' sl', LI σ' t' g' → ce' ≤ ce + 8 → sl' ≤ sl + 64 → ps_V p l e room_1 s m args below meth c 7 D ca A s.heap adr0 σ0 Q 1214 [(0, ps_raw b), (1, ps_ref (some (0, 0))), (2, ps_ref (some (13, 0))), (3, ps_ref (some (12, 0))), (4, ps_int (nI i))] [] σ' ce' sl') : ps_V p l e room_1 s m args below meth c 7 D ca A s.heap adr0 σ0 Q 856 [(0, ps_raw b), (1, ps_ref (some (0, 0))), (2, ps_ref (some (13, 0))), (3, ps_ref (some (12, 0))), (4, ps_int (nI i))] [] σ ce sl := by
  have hP := hI.1
  have hM := hI.2.1
  have hV := hI.2.2.1
  have hl12 := hI.2.2.2
  have hC := hV.C
  have hY := hV.Y
  have hW := hC.2.1
  refine pv_aload_n E d_Law_law_856 rfl rfl ?_
  refine pv_aloadR E d_Law_law_857 rfl rfl ?_
  refine pv_iload E d_Law_law_858 rfl ?_
  refine pv_iconst (v := 1) E d_Law_law_860 (by decide) ?_
  refine pv_iadd E d_Law_law_861 ?_
  refine pv_top (congrArg ps_int (nI_add i 1)) ?_
  refine pv_sld E hX hbl hbA (vp_in_nI (show i + 1 < n by omega) (by omega)) d_Law_law_862 ?_
  refine pv_top (congrArg ps_int (congrArg xs (nI_clamp (show i + 1 < 2 ^ 31 by omega)))) ?_
  refine pv_aloadR E d_Law_law_863 rfl rfl ?_
  refine pv_iload E d_Law_law_864 rfl ?_
  refine pv_iconst (v := 2) E d_Law_law_866 (by decide) ?_
  refine pv_iadd E d_Law_law_867 ?_
  refine pv_top (congrArg ps_int (nI_add i 2)) ?_
  refine pv_sld E hX hbl hbA (vp_in_nI (show i + 2 < n by omega) (by omega)) d_Law_law_868 ?_
  refine pv_top (congrArg ps_int (congrArg xs (nI_clamp (show i + 2 < 2 ^ 31 by omega)))) ?_
  refine pv_aloadR E d_Law_law_869 rfl rfl ?_
  refine pv_iload E d_Law_law_870 rfl ?_
  refine pv_iconst (v := 3) E d_Law_law_872 (by decide) ?_
  refine pv_iadd E d_Law_law_873 ?_
  refine pv_top (congrArg ps_int (nI_add i 3)) ?_
  refine pv_sld E hX hbl hbA (vp_in_nI (show i + 3 < n by omega) (by omega)) d_Law_law_874 ?_
  refine pv_top (congrArg ps_int (congrArg xs (nI_clamp (show i + 3 < 2 ^ 31 by omega)))) ?_
  refine pv_callV E (fun adr => k_Ps_bind l D ca A _ (xs (i + 1)) (xs (i + 2)) (xs (i + 3)) t g hP hC adr) yv_Ps_bind wd_261 rfl rfl (fun _ => ⟨_, rfl⟩) rfl ⟨by decide, by decide⟩ (Nat.le_of_ble_eq_true rfl) d_Law_law_875 ⟨by show _ ≤ 601024; dsimp only; omega, by show _ ≤ 7293034; dsimp only; omega⟩ (fun r875 σ875 hq875 => ?_)
  obtain ⟨hr875, hs875⟩ := hq875.1 hb
  subst r875
  subst hs875
  refine pv_aload_n E d_Law_law_878 rfl rfl ?_
  refine pv_aloadR E d_Law_law_879 rfl rfl ?_
  refine pv_iload E d_Law_law_880 rfl ?_
  refine pv_iconst (v := 1) E d_Law_law_882 (by decide) ?_
  refine pv_iadd E d_Law_law_883 ?_
  refine pv_top (congrArg ps_int (nI_add i 1)) ?_
  refine pv_sld E hX hbl hbA (vp_in_nI (show i + 1 < n by omega) (by omega)) d_Law_law_884 ?_
  refine pv_top (congrArg ps_int (congrArg xs (nI_clamp (show i + 1 < 2 ^ 31 by omega)))) ?_
  refine pv_aloadR E d_Law_law_885 rfl rfl ?_
  refine pv_iload E d_Law_law_886 rfl ?_
  refine pv_iconst (v := 2) E d_Law_law_888 (by decide) ?_
  refine pv_iadd E d_Law_law_889 ?_
  refine pv_top (congrArg ps_int (nI_add i 2)) ?_
  refine pv_sld E hX hbl hbA (vp_in_nI (show i + 2 < n by omega) (by omega)) d_Law_law_890 ?_
  refine pv_top (congrArg ps_int (congrArg xs (nI_clamp (show i + 2 < 2 ^ 31 by omega)))) ?_
  refine pv_aloadR E d_Law_law_891 rfl rfl ?_
  refine pv_iload E d_Law_law_892 rfl ?_
  refine pv_iconst (v := 3) E d_Law_law_894 (by decide) ?_
  refine pv_iadd E d_Law_law_895 ?_
  refine pv_top (congrArg ps_int (nI_add i 3)) ?_
  refine pv_sld E hX hbl hbA (vp_in_nI (show i + 3 < n by omega) (by omega)) d_Law_law_896 ?_
  refine pv_top (congrArg ps_int (congrArg xs (nI_clamp (show i + 3 < 2 ^ 31 by omega)))) ?_
  refine pv_callV E (fun adr => k_Mod_bind_0 l D ca A _ (xs (i + 1)) (xs (i + 2)) (xs (i + 3)) t g hM hW hb adr) yv_Mod_bind wd_1020 rfl rfl (fun _ => ⟨_, rfl⟩) rfl ⟨by decide, by decide⟩ (Nat.le_of_ble_eq_true rfl) d_Law_law_897 ⟨by show _ ≤ 601024; dsimp only; omega, by show _ ≤ 7293034; dsimp only; omega⟩ (fun r897 σ897 hq897 => ?_)
  obtain ⟨hr897, hM2, ht2, hf2⟩ := hq897
  subst r897
  refine pv_icmp_eq (tgt := 1214) E d_Law_law_900 rfl (fun h900 => ?_) (fun h900 => ?_)
  · skip
    exact pv_sub (L' := [(0, ps_raw b), (1, ps_ref (some (0, 0))), (2, ps_ref (some (13, 0))), (3, ps_ref (some (12, 0))), (4, ps_int (nI i))]) ⟨rfl, rfl, rfl, rfl, rfl, trivial⟩ (kk _ _ _ _ _ (LI.fin hP hl12 hM2 hf2 hV) (by dsimp only; omega) (by dsimp only; omega))
  · skip
    exact absurd rfl h900
set_option maxHeartbeats 8000000 in
set_option maxRecDepth 100000 in
theorem lc_bind_1 {p : Program} {e : Env} {s : State} {m : MethodId} {args : Array Value} {below : List Frame} {meth : Method} {c : Code} {D : va_G} {ca : Nat → ClassId} {A : Nat → Prop} {adr0 : Nat → Nat → Nat} {σ0 : ps_S} {Q : State → Prop} (l : Launch) (htr : l.stackTraces = false) (E : ps_E p s m c code 7 "PromiseScopesLaw" D ca) {b n : Nat} {xs : Nat → Int32} (hX : va_X b n xs s s.heap) (hbl : b < s.heap.size) (hbA : ¬ A b) (hZ : ps_Z A s) (hYs : ps_Y s) {σ : ps_S} {t : tT} {g : gT} (hI : LI σ t g) {i : Nat} (hin : i + 7 ≤ n) (hn84 : n ≤ 3584) {ce sl : Nat} (hce : ce + 8 ≤ 601024) (hsl : sl + 64 ≤ 7293034) (hb : x_bok t (xs (i + 1)) (xs (i + 2))) (kk : ∀ σ' t' g' ce' sl', LI σ' t' g' → ce' ≤ ce + 8 → sl' ≤ sl + 64 → ps_V p l e room_1 s m args below meth c 7 D ca A s.heap adr0 σ0 Q 1214 [(0, ps_raw b), (1, ps_ref (some (0, 0))), (2, ps_ref (some (13, 0))), (3, ps_ref (some (12, 0))), (4, ps_int (nI i))] [] σ' ce' sl') : ps_V p l e room_1 s m args below meth c 7 D ca A s.heap adr0 σ0 Q 856 [(0, ps_raw b), (1, ps_ref (some (0, 0))), (2, ps_ref (some (13, 0))), (3, ps_ref (some (12, 0))), (4, ps_int (nI i))] [] σ ce sl := by
  have hP := hI.1
  have hM := hI.2.1
  have hV := hI.2.2.1
  have hl12 := hI.2.2.2
  have hC := hV.C
  have hY := hV.Y
  have hW := hC.2.1
  refine pv_aload_n E d_Law_law_856 rfl rfl ?_
  refine pv_aloadR E d_Law_law_857 rfl rfl ?_
  refine pv_iload E d_Law_law_858 rfl ?_
  refine pv_iconst (v := 1) E d_Law_law_860 (by decide) ?_
  refine pv_iadd E d_Law_law_861 ?_
  refine pv_top (congrArg ps_int (nI_add i 1)) ?_
  refine pv_sld E hX hbl hbA (vp_in_nI (show i + 1 < n by omega) (by omega)) d_Law_law_862 ?_
  refine pv_top (congrArg ps_int (congrArg xs (nI_clamp (show i + 1 < 2 ^ 31 by omega)))) ?_
  refine pv_aloadR E d_Law_law_863 rfl rfl ?_
  refine pv_iload E d_Law_law_864 rfl ?_
  refine pv_iconst (v := 2) E d_Law_law_866 (by decide) ?_
  refine pv_iadd E d_Law_law_867 ?_
  refine pv_top (congrArg ps_int (nI_add i 2)) ?_
  refine pv_sld E hX hbl hbA (vp_in_nI (show i + 2 < n by omega) (by omega)) d_Law_law_868 ?_
  refine pv_top (congrArg ps_int (congrArg xs (nI_clamp (show i + 2 < 2 ^ 31 by omega)))) ?_
  refine pv_aloadR E d_Law_law_869 rfl rfl ?_
  refine pv_iload E d_Law_law_870 rfl ?_
  refine pv_iconst (v := 3) E d_Law_law_872 (by decide) ?_
  refine pv_iadd E d_Law_law_873 ?_
  refine pv_top (congrArg ps_int (nI_add i 3)) ?_
  refine pv_sld E hX hbl hbA (vp_in_nI (show i + 3 < n by omega) (by omega)) d_Law_law_874 ?_
  refine pv_top (congrArg ps_int (congrArg xs (nI_clamp (show i + 3 < 2 ^ 31 by omega)))) ?_
  refine pv_callV E (fun adr => k_Ps_bind l D ca A _ (xs (i + 1)) (xs (i + 2)) (xs (i + 3)) t g hP hC adr) yv_Ps_bind wd_261 rfl rfl (fun _ => ⟨_, rfl⟩) rfl ⟨by decide, by decide⟩ (Nat.le_of_ble_eq_true rfl) d_Law_law_875 ⟨by show _ ≤ 601024; dsimp only; omega, by show _ ≤ 7293034; dsimp only; omega⟩ (fun r875 σ875 hq875 => ?_)
  obtain ⟨hr875, hP1, hf1⟩ := hq875.2 hb
  subst r875
  have hM1 := hM.fc hf1
  refine pv_aload_n E d_Law_law_878 rfl rfl ?_
  refine pv_aloadR E d_Law_law_879 rfl rfl ?_
  refine pv_iload E d_Law_law_880 rfl ?_
  refine pv_iconst (v := 1) E d_Law_law_882 (by decide) ?_
  refine pv_iadd E d_Law_law_883 ?_
  refine pv_top (congrArg ps_int (nI_add i 1)) ?_
  refine pv_sld E hX hbl hbA (vp_in_nI (show i + 1 < n by omega) (by omega)) d_Law_law_884 ?_
  refine pv_top (congrArg ps_int (congrArg xs (nI_clamp (show i + 1 < 2 ^ 31 by omega)))) ?_
  refine pv_aloadR E d_Law_law_885 rfl rfl ?_
  refine pv_iload E d_Law_law_886 rfl ?_
  refine pv_iconst (v := 2) E d_Law_law_888 (by decide) ?_
  refine pv_iadd E d_Law_law_889 ?_
  refine pv_top (congrArg ps_int (nI_add i 2)) ?_
  refine pv_sld E hX hbl hbA (vp_in_nI (show i + 2 < n by omega) (by omega)) d_Law_law_890 ?_
  refine pv_top (congrArg ps_int (congrArg xs (nI_clamp (show i + 2 < 2 ^ 31 by omega)))) ?_
  refine pv_aloadR E d_Law_law_891 rfl rfl ?_
  refine pv_iload E d_Law_law_892 rfl ?_
  refine pv_iconst (v := 3) E d_Law_law_894 (by decide) ?_
  refine pv_iadd E d_Law_law_895 ?_
  refine pv_top (congrArg ps_int (nI_add i 3)) ?_
  refine pv_sld E hX hbl hbA (vp_in_nI (show i + 3 < n by omega) (by omega)) d_Law_law_896 ?_
  refine pv_top (congrArg ps_int (congrArg xs (nI_clamp (show i + 3 < 2 ^ 31 by omega)))) ?_
  refine pv_callV E (fun adr => k_Mod_bind_1 l D ca A _ (xs (i + 1)) (xs (i + 2)) (xs (i + 3)) t g hM1 hW hb adr) yv_Mod_bind wd_1020 rfl rfl (fun _ => ⟨_, rfl⟩) rfl ⟨by decide, by decide⟩ (Nat.le_of_ble_eq_true rfl) d_Law_law_897 ⟨by show _ ≤ 601024; dsimp only; omega, by show _ ≤ 7293034; dsimp only; omega⟩ (fun r897 σ897 hq897 => ?_)
  obtain ⟨hr897, hM2, ht2, hf2⟩ := hq897
  subst r897
  refine pv_icmp_eq (tgt := 1214) E d_Law_law_900 rfl (fun h900 => ?_) (fun h900 => ?_)
  · skip
    exact pv_sub (L' := [(0, ps_raw b), (1, ps_ref (some (0, 0))), (2, ps_ref (some (13, 0))), (3, ps_ref (some (12, 0))), (4, ps_int (nI i))]) ⟨rfl, rfl, rfl, rfl, rfl, trivial⟩ (kk _ _ _ _ _ (LI.fin hP1 (hf1.l12 hl12) hM2 hf2 (hV.bd)) (by dsimp only; omega) (by dsimp only; omega))
  · skip
    exact absurd rfl h900
set_option maxHeartbeats 8000000 in
set_option maxRecDepth 100000 in
theorem lc_joinScope_0 {p : Program} {e : Env} {s : State} {m : MethodId} {args : Array Value} {below : List Frame} {meth : Method} {c : Code} {D : va_G} {ca : Nat → ClassId} {A : Nat → Prop} {adr0 : Nat → Nat → Nat} {σ0 : ps_S} {Q : State → Prop} (l : Launch) (htr : l.stackTraces = false) (E : ps_E p s m c code 7 "PromiseScopesLaw" D ca) {b n : Nat} {xs : Nat → Int32} (hX : va_X b n xs s s.heap) (hbl : b < s.heap.size) (hbA : ¬ A b) (hZ : ps_Z A s) (hYs : ps_Y s) {σ : ps_S} {t : tT} {g : gT} (hI : LI σ t g) {i : Nat} (hin : i + 7 ≤ n) (hn84 : n ≤ 3584) {ce sl : Nat} (hce : ce + 8 ≤ 601024) (hsl : sl + 64 ≤ 7293034) (hb : ¬ x_jok t (xs (i + 1))) (kk : ∀ σ' t' g' ce' sl', LI σ' t' g' → ce' ≤ ce + 8 → sl' ≤ sl + 64 → ps_V p l e room_1 s m args below meth c 7 D ca A s.heap adr0 σ0 Q 1214 [(0, ps_raw b), (1, ps_ref (some (0, 0))), (2, ps_ref (some (13, 0))), (3, ps_ref (some (12, 0))), (4, ps_int (nI i))] [] σ' ce' sl') : ps_V p l e room_1 s m args below meth c 7 D ca A s.heap adr0 σ0 Q 997 [(0, ps_raw b), (1, ps_ref (some (0, 0))), (2, ps_ref (some (13, 0))), (3, ps_ref (some (12, 0))), (4, ps_int (nI i))] [] σ ce sl := by
  have hP := hI.1
  have hM := hI.2.1
  have hV := hI.2.2.1
  have hl12 := hI.2.2.2
  have hC := hV.C
  have hY := hV.Y
  have hW := hC.2.1
  refine pv_aload_n E d_Law_law_997 rfl rfl ?_
  refine pv_aloadR E d_Law_law_998 rfl rfl ?_
  refine pv_iload E d_Law_law_999 rfl ?_
  refine pv_iconst (v := 1) E d_Law_law_1001 (by decide) ?_
  refine pv_iadd E d_Law_law_1002 ?_
  refine pv_top (congrArg ps_int (nI_add i 1)) ?_
  refine pv_sld E hX hbl hbA (vp_in_nI (show i + 1 < n by omega) (by omega)) d_Law_law_1003 ?_
  refine pv_top (congrArg ps_int (congrArg xs (nI_clamp (show i + 1 < 2 ^ 31 by omega)))) ?_
  refine pv_callV E (fun adr => k_Ps_joinScope l D ca A _ (xs (i + 1)) t g hP hC adr) yv_Ps_joinScope wd_280 rfl rfl (fun _ => ⟨_, rfl⟩) rfl ⟨by decide, by decide⟩ (Nat.le_of_ble_eq_true rfl) d_Law_law_1004 ⟨by show _ ≤ 601024; dsimp only; omega, by show _ ≤ 7293034; dsimp only; omega⟩ (fun r1004 σ1004 hq1004 => ?_)
  obtain ⟨hr1004, hs1004⟩ := hq1004.1 hb
  subst r1004
  subst hs1004
  refine pv_aload_n E d_Law_law_1007 rfl rfl ?_
  refine pv_aloadR E d_Law_law_1008 rfl rfl ?_
  refine pv_iload E d_Law_law_1009 rfl ?_
  refine pv_iconst (v := 1) E d_Law_law_1011 (by decide) ?_
  refine pv_iadd E d_Law_law_1012 ?_
  refine pv_top (congrArg ps_int (nI_add i 1)) ?_
  refine pv_sld E hX hbl hbA (vp_in_nI (show i + 1 < n by omega) (by omega)) d_Law_law_1013 ?_
  refine pv_top (congrArg ps_int (congrArg xs (nI_clamp (show i + 1 < 2 ^ 31 by omega)))) ?_
  refine pv_callV E (fun adr => k_Mod_joinScope_0 l D ca A _ (xs (i + 1)) t g hM hW hV.1 hb adr) yv_Mod_joinScope wd_1036 rfl rfl (fun _ => ⟨_, rfl⟩) rfl ⟨by decide, by decide⟩ (Nat.le_of_ble_eq_true rfl) d_Law_law_1014 ⟨by show _ ≤ 601024; dsimp only; omega, by show _ ≤ 7293034; dsimp only; omega⟩ (fun r1014 σ1014 hq1014 => ?_)
  obtain ⟨hr1014, hM2, ht2, hf2⟩ := hq1014
  subst r1014
  refine pv_icmp_eq (tgt := 1214) E d_Law_law_1017 rfl (fun h1017 => ?_) (fun h1017 => ?_)
  · skip
    exact pv_sub (L' := [(0, ps_raw b), (1, ps_ref (some (0, 0))), (2, ps_ref (some (13, 0))), (3, ps_ref (some (12, 0))), (4, ps_int (nI i))]) ⟨rfl, rfl, rfl, rfl, rfl, trivial⟩ (kk _ _ _ _ _ (LI.fin hP hl12 hM2 hf2 hV) (by dsimp only; omega) (by dsimp only; omega))
  · skip
    exact absurd rfl h1017
set_option maxHeartbeats 8000000 in
set_option maxRecDepth 100000 in
theorem lc_joinScope_1 {p : Program} {e : Env} {s : State} {m : MethodId} {args : Array Value} {below : List Frame} {meth : Method} {c : Code} {D : va_G} {ca : Nat → ClassId} {A : Nat → Prop} {adr0 : Nat → Nat → Nat} {σ0 : ps_S} {Q : State → Prop} (l : Launch) (htr : l.stackTraces = false) (E : ps_E p s m c code 7 "PromiseScopesLaw" D ca) {b n : Nat} {xs : Nat → Int32} (hX : va_X b n xs s s.heap) (hbl : b < s.heap.size) (hbA : ¬ A b) (hZ : ps_Z A s) (hYs : ps_Y s) {σ : ps_S} {t : tT} {g : gT} (hI : LI σ t g) {i : Nat} (hin : i + 7 ≤ n) (hn84 : n ≤ 3584) {ce sl : Nat} (hce : ce + 8 ≤ 601024) (hsl : sl + 64 ≤ 7293034) (hb : x_jok t (xs (i + 1))) (kk : ∀ σ' t' g' ce' sl', LI σ' t' g' → ce' ≤ ce + 8 → sl' ≤ sl + 64 → ps_V p l e room_1 s m args below meth c 7 D ca A s.heap adr0 σ0 Q 1214 [(0, ps_raw b), (1, ps_ref (some (0, 0))), (2, ps_ref (some (13, 0))), (3, ps_ref (some (12, 0))), (4, ps_int (nI i))] [] σ' ce' sl') : ps_V p l e room_1 s m args below meth c 7 D ca A s.heap adr0 σ0 Q 997 [(0, ps_raw b), (1, ps_ref (some (0, 0))), (2, ps_ref (some (13, 0))), (3, ps_ref (some (12, 0))), (4, ps_int (nI i))] [] σ ce sl := by
  have hP := hI.1
  have hM := hI.2.1
  have hV := hI.2.2.1
  have hl12 := hI.2.2.2
  have hC := hV.C
  have hY := hV.Y
  have hW := hC.2.1
  refine pv_aload_n E d_Law_law_997 rfl rfl ?_
  refine pv_aloadR E d_Law_law_998 rfl rfl ?_
  refine pv_iload E d_Law_law_999 rfl ?_
  refine pv_iconst (v := 1) E d_Law_law_1001 (by decide) ?_
  refine pv_iadd E d_Law_law_1002 ?_
  refine pv_top (congrArg ps_int (nI_add i 1)) ?_
  refine pv_sld E hX hbl hbA (vp_in_nI (show i + 1 < n by omega) (by omega)) d_Law_law_1003 ?_
  refine pv_top (congrArg ps_int (congrArg xs (nI_clamp (show i + 1 < 2 ^ 31 by omega)))) ?_
  refine pv_callV E (fun adr => k_Ps_joinScope l D ca A _ (xs (i + 1)) t g hP hC adr) yv_Ps_joinScope wd_280 rfl rfl (fun _ => ⟨_, rfl⟩) rfl ⟨by decide, by decide⟩ (Nat.le_of_ble_eq_true rfl) d_Law_law_1004 ⟨by show _ ≤ 601024; dsimp only; omega, by show _ ≤ 7293034; dsimp only; omega⟩ (fun r1004 σ1004 hq1004 => ?_)
  obtain ⟨hr1004, hP1, hf1⟩ := hq1004.2 hb
  subst r1004
  have hM1 := hM.fc hf1
  refine pv_aload_n E d_Law_law_1007 rfl rfl ?_
  refine pv_aloadR E d_Law_law_1008 rfl rfl ?_
  refine pv_iload E d_Law_law_1009 rfl ?_
  refine pv_iconst (v := 1) E d_Law_law_1011 (by decide) ?_
  refine pv_iadd E d_Law_law_1012 ?_
  refine pv_top (congrArg ps_int (nI_add i 1)) ?_
  refine pv_sld E hX hbl hbA (vp_in_nI (show i + 1 < n by omega) (by omega)) d_Law_law_1013 ?_
  refine pv_top (congrArg ps_int (congrArg xs (nI_clamp (show i + 1 < 2 ^ 31 by omega)))) ?_
  refine pv_callV E (fun adr => k_Mod_joinScope_1 l D ca A _ (xs (i + 1)) t g hM1 hW hV.1 hb adr) yv_Mod_joinScope wd_1036 rfl rfl (fun _ => ⟨_, rfl⟩) rfl ⟨by decide, by decide⟩ (Nat.le_of_ble_eq_true rfl) d_Law_law_1014 ⟨by show _ ≤ 601024; dsimp only; omega, by show _ ≤ 7293034; dsimp only; omega⟩ (fun r1014 σ1014 hq1014 => ?_)
  obtain ⟨hr1014, hM2, hY2, ht2, hf2⟩ := hq1014
  subst r1014
  refine pv_icmp_eq (tgt := 1214) E d_Law_law_1017 rfl (fun h1017 => ?_) (fun h1017 => ?_)
  · skip
    exact pv_sub (L' := [(0, ps_raw b), (1, ps_ref (some (0, 0))), (2, ps_ref (some (13, 0))), (3, ps_ref (some (12, 0))), (4, ps_int (nI i))]) ⟨rfl, rfl, rfl, rfl, rfl, trivial⟩ (kk _ _ _ _ _ (LI.fin hP1 (hf1.l12 hl12) hM2 hf2 (hV.jn hY2)) (by dsimp only; omega) (by dsimp only; omega))
  · skip
    exact absurd rfl h1017
set_option maxHeartbeats 8000000 in
set_option maxRecDepth 100000 in
theorem lc_cancelScope_0 {p : Program} {e : Env} {s : State} {m : MethodId} {args : Array Value} {below : List Frame} {meth : Method} {c : Code} {D : va_G} {ca : Nat → ClassId} {A : Nat → Prop} {adr0 : Nat → Nat → Nat} {σ0 : ps_S} {Q : State → Prop} (l : Launch) (htr : l.stackTraces = false) (E : ps_E p s m c code 7 "PromiseScopesLaw" D ca) {b n : Nat} {xs : Nat → Int32} (hX : va_X b n xs s s.heap) (hbl : b < s.heap.size) (hbA : ¬ A b) (hZ : ps_Z A s) (hYs : ps_Y s) {σ : ps_S} {t : tT} {g : gT} (hI : LI σ t g) {i : Nat} (hin : i + 7 ≤ n) (hn84 : n ≤ 3584) {ce sl : Nat} (hce : ce + 8 ≤ 601024) (hsl : sl + 64 ≤ 7293034) (hb : ¬ x_cok t (xs (i + 1))) (kk : ∀ σ' t' g' ce' sl', LI σ' t' g' → ce' ≤ ce + 8 → sl' ≤ sl + 64 → ps_V p l e room_1 s m args below meth c 7 D ca A s.heap adr0 σ0 Q 1214 [(0, ps_raw b), (1, ps_ref (some (0, 0))), (2, ps_ref (some (13, 0))), (3, ps_ref (some (12, 0))), (4, ps_int (nI i))] [] σ' ce' sl') : ps_V p l e room_1 s m args below meth c 7 D ca A s.heap adr0 σ0 Q 1022 [(0, ps_raw b), (1, ps_ref (some (0, 0))), (2, ps_ref (some (13, 0))), (3, ps_ref (some (12, 0))), (4, ps_int (nI i))] [] σ ce sl := by
  have hP := hI.1
  have hM := hI.2.1
  have hV := hI.2.2.1
  have hl12 := hI.2.2.2
  have hC := hV.C
  have hY := hV.Y
  have hW := hC.2.1
  refine pv_aload_n E d_Law_law_1022 rfl rfl ?_
  refine pv_aloadR E d_Law_law_1023 rfl rfl ?_
  refine pv_iload E d_Law_law_1024 rfl ?_
  refine pv_iconst (v := 1) E d_Law_law_1026 (by decide) ?_
  refine pv_iadd E d_Law_law_1027 ?_
  refine pv_top (congrArg ps_int (nI_add i 1)) ?_
  refine pv_sld E hX hbl hbA (vp_in_nI (show i + 1 < n by omega) (by omega)) d_Law_law_1028 ?_
  refine pv_top (congrArg ps_int (congrArg xs (nI_clamp (show i + 1 < 2 ^ 31 by omega)))) ?_
  refine pv_callV E (fun adr => k_Ps_cancelScope l D ca A _ (xs (i + 1)) t g hP hC adr) yv_Ps_cancelScope wd_321 rfl rfl (fun _ => ⟨_, rfl⟩) rfl ⟨by decide, by decide⟩ (Nat.le_of_ble_eq_true rfl) d_Law_law_1029 ⟨by show _ ≤ 601024; dsimp only; omega, by show _ ≤ 7293034; dsimp only; omega⟩ (fun r1029 σ1029 hq1029 => ?_)
  obtain ⟨hr1029, hs1029⟩ := hq1029.1 hb
  subst r1029
  subst hs1029
  refine pv_aload_n E d_Law_law_1032 rfl rfl ?_
  refine pv_aloadR E d_Law_law_1033 rfl rfl ?_
  refine pv_iload E d_Law_law_1034 rfl ?_
  refine pv_iconst (v := 1) E d_Law_law_1036 (by decide) ?_
  refine pv_iadd E d_Law_law_1037 ?_
  refine pv_top (congrArg ps_int (nI_add i 1)) ?_
  refine pv_sld E hX hbl hbA (vp_in_nI (show i + 1 < n by omega) (by omega)) d_Law_law_1038 ?_
  refine pv_top (congrArg ps_int (congrArg xs (nI_clamp (show i + 1 < 2 ^ 31 by omega)))) ?_
  refine pv_callV E (fun adr => k_Mod_cancelScope_0 l D ca A _ (xs (i + 1)) t g hM hW hV.1 hb adr) yv_Mod_cancelScope wd_1056 rfl rfl (fun _ => ⟨_, rfl⟩) rfl ⟨by decide, by decide⟩ (Nat.le_of_ble_eq_true rfl) d_Law_law_1039 ⟨by show _ ≤ 601024; dsimp only; omega, by show _ ≤ 7293034; dsimp only; omega⟩ (fun r1039 σ1039 hq1039 => ?_)
  obtain ⟨hr1039, hM2, ht2, hf2⟩ := hq1039
  subst r1039
  refine pv_icmp_eq (tgt := 1214) E d_Law_law_1042 rfl (fun h1042 => ?_) (fun h1042 => ?_)
  · skip
    exact pv_sub (L' := [(0, ps_raw b), (1, ps_ref (some (0, 0))), (2, ps_ref (some (13, 0))), (3, ps_ref (some (12, 0))), (4, ps_int (nI i))]) ⟨rfl, rfl, rfl, rfl, rfl, trivial⟩ (kk _ _ _ _ _ (LI.fin hP hl12 hM2 hf2 hV) (by dsimp only; omega) (by dsimp only; omega))
  · skip
    exact absurd rfl h1042
set_option maxHeartbeats 8000000 in
set_option maxRecDepth 100000 in
theorem lc_cancelScope_1 {p : Program} {e : Env} {s : State} {m : MethodId} {args : Array Value} {below : List Frame} {meth : Method} {c : Code} {D : va_G} {ca : Nat → ClassId} {A : Nat → Prop} {adr0 : Nat → Nat → Nat} {σ0 : ps_S} {Q : State → Prop} (l : Launch) (htr : l.stackTraces = false) (E : ps_E p s m c code 7 "PromiseScopesLaw" D ca) {b n : Nat} {xs : Nat → Int32} (hX : va_X b n xs s s.heap) (hbl : b < s.heap.size) (hbA : ¬ A b) (hZ : ps_Z A s) (hYs : ps_Y s) {σ : ps_S} {t : tT} {g : gT} (hI : LI σ t g) {i : Nat} (hin : i + 7 ≤ n) (hn84 : n ≤ 3584) {ce sl : Nat} (hce : ce + 8 ≤ 601024) (hsl : sl + 64 ≤ 7293034) (hb : x_cok t (xs (i + 1))) (kk : ∀ σ' t' g' ce' sl', LI σ' t' g' → ce' ≤ ce + 8 → sl' ≤ sl + 64 → ps_V p l e room_1 s m args below meth c 7 D ca A s.heap adr0 σ0 Q 1214 [(0, ps_raw b), (1, ps_ref (some (0, 0))), (2, ps_ref (some (13, 0))), (3, ps_ref (some (12, 0))), (4, ps_int (nI i))] [] σ' ce' sl') : ps_V p l e room_1 s m args below meth c 7 D ca A s.heap adr0 σ0 Q 1022 [(0, ps_raw b), (1, ps_ref (some (0, 0))), (2, ps_ref (some (13, 0))), (3, ps_ref (some (12, 0))), (4, ps_int (nI i))] [] σ ce sl := by
  have hP := hI.1
  have hM := hI.2.1
  have hV := hI.2.2.1
  have hl12 := hI.2.2.2
  have hC := hV.C
  have hY := hV.Y
  have hW := hC.2.1
  refine pv_aload_n E d_Law_law_1022 rfl rfl ?_
  refine pv_aloadR E d_Law_law_1023 rfl rfl ?_
  refine pv_iload E d_Law_law_1024 rfl ?_
  refine pv_iconst (v := 1) E d_Law_law_1026 (by decide) ?_
  refine pv_iadd E d_Law_law_1027 ?_
  refine pv_top (congrArg ps_int (nI_add i 1)) ?_
  refine pv_sld E hX hbl hbA (vp_in_nI (show i + 1 < n by omega) (by omega)) d_Law_law_1028 ?_
  refine pv_top (congrArg ps_int (congrArg xs (nI_clamp (show i + 1 < 2 ^ 31 by omega)))) ?_
  refine pv_callV E (fun adr => k_Ps_cancelScope l D ca A _ (xs (i + 1)) t g hP hC adr) yv_Ps_cancelScope wd_321 rfl rfl (fun _ => ⟨_, rfl⟩) rfl ⟨by decide, by decide⟩ (Nat.le_of_ble_eq_true rfl) d_Law_law_1029 ⟨by show _ ≤ 601024; dsimp only; omega, by show _ ≤ 7293034; dsimp only; omega⟩ (fun r1029 σ1029 hq1029 => ?_)
  obtain ⟨hr1029, hP1, hf1⟩ := hq1029.2 hb
  subst r1029
  have hM1 := hM.fc hf1
  refine pv_aload_n E d_Law_law_1032 rfl rfl ?_
  refine pv_aloadR E d_Law_law_1033 rfl rfl ?_
  refine pv_iload E d_Law_law_1034 rfl ?_
  refine pv_iconst (v := 1) E d_Law_law_1036 (by decide) ?_
  refine pv_iadd E d_Law_law_1037 ?_
  refine pv_top (congrArg ps_int (nI_add i 1)) ?_
  refine pv_sld E hX hbl hbA (vp_in_nI (show i + 1 < n by omega) (by omega)) d_Law_law_1038 ?_
  refine pv_top (congrArg ps_int (congrArg xs (nI_clamp (show i + 1 < 2 ^ 31 by omega)))) ?_
  refine pv_callV E (fun adr => k_Mod_cancelScope_1 l D ca A _ (xs (i + 1)) t g hM1 hW hV.1 hb adr) yv_Mod_cancelScope wd_1056 rfl rfl (fun _ => ⟨_, rfl⟩) rfl ⟨by decide, by decide⟩ (Nat.le_of_ble_eq_true rfl) d_Law_law_1039 ⟨by show _ ≤ 601024; dsimp only; omega, by show _ ≤ 7293034; dsimp only; omega⟩ (fun r1039 σ1039 hq1039 => ?_)
  obtain ⟨hr1039, hM2, hY2, ht2, hf2⟩ := hq1039
  subst r1039
  refine pv_icmp_eq (tgt := 1214) E d_Law_law_1042 rfl (fun h1042 => ?_) (fun h1042 => ?_)
  · skip
    exact pv_sub (L' := [(0, ps_raw b), (1, ps_ref (some (0, 0))), (2, ps_ref (some (13, 0))), (3, ps_ref (some (12, 0))), (4, ps_int (nI i))]) ⟨rfl, rfl, rfl, rfl, rfl, trivial⟩ (kk _ _ _ _ _ (LI.fin hP1 (hf1.l12 hl12) hM2 hf2 (hV.cn hY2)) (by dsimp only; omega) (by dsimp only; omega))
  · skip
    exact absurd rfl h1042
set_option maxHeartbeats 8000000 in
set_option maxRecDepth 100000 in
theorem lc_tick_b {p : Program} {e : Env} {s : State} {m : MethodId} {args : Array Value} {below : List Frame} {meth : Method} {c : Code} {D : va_G} {ca : Nat → ClassId} {A : Nat → Prop} {adr0 : Nat → Nat → Nat} {σ0 : ps_S} {Q : State → Prop} (l : Launch) (htr : l.stackTraces = false) (E : ps_E p s m c code 7 "PromiseScopesLaw" D ca) {b n : Nat} {xs : Nat → Int32} (hX : va_X b n xs s s.heap) (hbl : b < s.heap.size) (hbA : ¬ A b) (hZ : ps_Z A s) (hYs : ps_Y s) {σ : ps_S} {t : tT} {g : gT} (hI : LI σ t g) {i : Nat} (hin : i + 7 ≤ n) (hn84 : n ≤ 3584) {ce sl : Nat} (hce : ce + 8 ≤ 601024) (hsl : sl + 64 ≤ 7293034) (hb : n_bad (xs (i + 1))) (kk : ∀ σ' t' g' ce' sl', LI σ' t' g' → ce' ≤ ce + 8 → sl' ≤ sl + 64 → ps_V p l e room_1 s m args below meth c 7 D ca A s.heap adr0 σ0 Q 1214 [(0, ps_raw b), (1, ps_ref (some (0, 0))), (2, ps_ref (some (13, 0))), (3, ps_ref (some (12, 0))), (4, ps_int (nI i))] [] σ' ce' sl') : ps_V p l e room_1 s m args below meth c 7 D ca A s.heap adr0 σ0 Q 1047 [(0, ps_raw b), (1, ps_ref (some (0, 0))), (2, ps_ref (some (13, 0))), (3, ps_ref (some (12, 0))), (4, ps_int (nI i))] [] σ ce sl := by
  have hP := hI.1
  have hM := hI.2.1
  have hV := hI.2.2.1
  have hl12 := hI.2.2.2
  have hC := hV.C
  have hY := hV.Y
  have hW := hC.2.1
  refine pv_aload_n E d_Law_law_1047 rfl rfl ?_
  refine pv_aloadR E d_Law_law_1048 rfl rfl ?_
  refine pv_iload E d_Law_law_1049 rfl ?_
  refine pv_iconst (v := 1) E d_Law_law_1051 (by decide) ?_
  refine pv_iadd E d_Law_law_1052 ?_
  refine pv_top (congrArg ps_int (nI_add i 1)) ?_
  refine pv_sld E hX hbl hbA (vp_in_nI (show i + 1 < n by omega) (by omega)) d_Law_law_1053 ?_
  refine pv_top (congrArg ps_int (congrArg xs (nI_clamp (show i + 1 < 2 ^ 31 by omega)))) ?_
  refine pv_callV E (fun adr => k_Ps_tick l D ca A _ (xs (i + 1)) t g hP hC adr) yv_Ps_tick wd_334 rfl rfl (fun _ => ⟨_, rfl⟩) rfl ⟨by decide, by decide⟩ (Nat.le_of_ble_eq_true rfl) d_Law_law_1054 ⟨by show _ ≤ 601024; dsimp only; omega, by show _ ≤ 7293034; dsimp only; omega⟩ (fun r1054 σ1054 hq1054 => ?_)
  obtain ⟨hr1054, hs1054⟩ := hq1054.1 hb
  subst r1054
  subst hs1054
  refine pv_aload_n E d_Law_law_1057 rfl rfl ?_
  refine pv_aloadR E d_Law_law_1058 rfl rfl ?_
  refine pv_iload E d_Law_law_1059 rfl ?_
  refine pv_iconst (v := 1) E d_Law_law_1061 (by decide) ?_
  refine pv_iadd E d_Law_law_1062 ?_
  refine pv_top (congrArg ps_int (nI_add i 1)) ?_
  refine pv_sld E hX hbl hbA (vp_in_nI (show i + 1 < n by omega) (by omega)) d_Law_law_1063 ?_
  refine pv_top (congrArg ps_int (congrArg xs (nI_clamp (show i + 1 < 2 ^ 31 by omega)))) ?_
  refine pv_callV E (fun adr => k_Mod_tick_b l D ca A _ (xs (i + 1)) t g hM hb adr) yv_Mod_tick wd_1064 rfl rfl (fun _ => ⟨_, rfl⟩) rfl ⟨by decide, by decide⟩ (Nat.le_of_ble_eq_true rfl) d_Law_law_1064 ⟨by show _ ≤ 601024; dsimp only; omega, by show _ ≤ 7293034; dsimp only; omega⟩ (fun r1064 σ1064 hq1064 => ?_)
  obtain ⟨hr1064, hM2, ht2, hf2⟩ := hq1064
  subst r1064
  refine pv_icmp_eq (tgt := 1214) E d_Law_law_1067 rfl (fun h1067 => ?_) (fun h1067 => ?_)
  · skip
    exact pv_sub (L' := [(0, ps_raw b), (1, ps_ref (some (0, 0))), (2, ps_ref (some (13, 0))), (3, ps_ref (some (12, 0))), (4, ps_int (nI i))]) ⟨rfl, rfl, rfl, rfl, rfl, trivial⟩ (kk _ _ _ _ _ (LI.fin hP hl12 hM2 hf2 hV) (by dsimp only; omega) (by dsimp only; omega))
  · skip
    exact absurd rfl h1067
set_option maxHeartbeats 8000000 in
set_option maxRecDepth 100000 in
theorem lc_tick_0 {p : Program} {e : Env} {s : State} {m : MethodId} {args : Array Value} {below : List Frame} {meth : Method} {c : Code} {D : va_G} {ca : Nat → ClassId} {A : Nat → Prop} {adr0 : Nat → Nat → Nat} {σ0 : ps_S} {Q : State → Prop} (l : Launch) (htr : l.stackTraces = false) (E : ps_E p s m c code 7 "PromiseScopesLaw" D ca) {b n : Nat} {xs : Nat → Int32} (hX : va_X b n xs s s.heap) (hbl : b < s.heap.size) (hbA : ¬ A b) (hZ : ps_Z A s) (hYs : ps_Y s) {σ : ps_S} {t : tT} {g : gT} (hI : LI σ t g) {i : Nat} (hin : i + 7 ≤ n) (hn84 : n ≤ 3584) {ce sl : Nat} (hce : ce + 8 ≤ 601024) (hsl : sl + 64 ≤ 7293034) (hb : ¬ n_bad (xs (i + 1))) (kk : ∀ σ' t' g' ce' sl', LI σ' t' g' → ce' ≤ ce + 8 → sl' ≤ sl + 64 → ps_V p l e room_1 s m args below meth c 7 D ca A s.heap adr0 σ0 Q 1214 [(0, ps_raw b), (1, ps_ref (some (0, 0))), (2, ps_ref (some (13, 0))), (3, ps_ref (some (12, 0))), (4, ps_int (nI i))] [] σ' ce' sl') : ps_V p l e room_1 s m args below meth c 7 D ca A s.heap adr0 σ0 Q 1047 [(0, ps_raw b), (1, ps_ref (some (0, 0))), (2, ps_ref (some (13, 0))), (3, ps_ref (some (12, 0))), (4, ps_int (nI i))] [] σ ce sl := by
  have hP := hI.1
  have hM := hI.2.1
  have hV := hI.2.2.1
  have hl12 := hI.2.2.2
  have hC := hV.C
  have hY := hV.Y
  have hW := hC.2.1
  refine pv_aload_n E d_Law_law_1047 rfl rfl ?_
  refine pv_aloadR E d_Law_law_1048 rfl rfl ?_
  refine pv_iload E d_Law_law_1049 rfl ?_
  refine pv_iconst (v := 1) E d_Law_law_1051 (by decide) ?_
  refine pv_iadd E d_Law_law_1052 ?_
  refine pv_top (congrArg ps_int (nI_add i 1)) ?_
  refine pv_sld E hX hbl hbA (vp_in_nI (show i + 1 < n by omega) (by omega)) d_Law_law_1053 ?_
  refine pv_top (congrArg ps_int (congrArg xs (nI_clamp (show i + 1 < 2 ^ 31 by omega)))) ?_
  refine pv_callV E (fun adr => k_Ps_tick l D ca A _ (xs (i + 1)) t g hP hC adr) yv_Ps_tick wd_334 rfl rfl (fun _ => ⟨_, rfl⟩) rfl ⟨by decide, by decide⟩ (Nat.le_of_ble_eq_true rfl) d_Law_law_1054 ⟨by show _ ≤ 601024; dsimp only; omega, by show _ ≤ 7293034; dsimp only; omega⟩ (fun r1054 σ1054 hq1054 => ?_)
  obtain ⟨hr1054, hP1, hf1⟩ := hq1054.2 hb
  subst r1054
  have hM1 := hM.fc hf1
  refine pv_aload_n E d_Law_law_1057 rfl rfl ?_
  refine pv_aloadR E d_Law_law_1058 rfl rfl ?_
  refine pv_iload E d_Law_law_1059 rfl ?_
  refine pv_iconst (v := 1) E d_Law_law_1061 (by decide) ?_
  refine pv_iadd E d_Law_law_1062 ?_
  refine pv_top (congrArg ps_int (nI_add i 1)) ?_
  refine pv_sld E hX hbl hbA (vp_in_nI (show i + 1 < n by omega) (by omega)) d_Law_law_1063 ?_
  refine pv_top (congrArg ps_int (congrArg xs (nI_clamp (show i + 1 < 2 ^ 31 by omega)))) ?_
  refine pv_callV E (fun adr => k_Mod_tick_0 l D ca A _ (xs (i + 1)) t g hM1 hV.1 hV.2.1 hY hb adr) yv_Mod_tick wd_1064 rfl rfl (fun _ => ⟨_, rfl⟩) rfl ⟨by decide, by decide⟩ (Nat.le_of_ble_eq_true rfl) d_Law_law_1064 ⟨by show _ ≤ 601024; dsimp only; omega, by show _ ≤ 7293034; dsimp only; omega⟩ (fun r1064 σ1064 hq1064 => ?_)
  obtain ⟨hr1064, hM2, hY2, hZ2, hI2, ht2, hf2⟩ := hq1064
  subst r1064
  refine pv_icmp_eq (tgt := 1214) E d_Law_law_1067 rfl (fun h1067 => ?_) (fun h1067 => ?_)
  · skip
    exact pv_sub (L' := [(0, ps_raw b), (1, ps_ref (some (0, 0))), (2, ps_ref (some (13, 0))), (3, ps_ref (some (12, 0))), (4, ps_int (nI i))]) ⟨rfl, rfl, rfl, rfl, rfl, trivial⟩ (kk _ _ _ _ _ (LI.fin hP1 (hf1.l12 hl12) hM2 hf2 (⟨hZ2, hI2, hY2.2, gZ.tk _ hV.2.2.2.1, gS.tk _ hV.2.2.2.2⟩)) (by dsimp only; omega) (by dsimp only; omega))
  · skip
    exact absurd rfl h1067
set_option maxHeartbeats 8000000 in
set_option maxRecDepth 100000 in
theorem lc_scope {p : Program} {e : Env} {s : State} {m : MethodId} {args : Array Value} {below : List Frame} {meth : Method} {c : Code} {D : va_G} {ca : Nat → ClassId} {A : Nat → Prop} {adr0 : Nat → Nat → Nat} {σ0 : ps_S} {Q : State → Prop} (l : Launch) (htr : l.stackTraces = false) (E : ps_E p s m c code 7 "PromiseScopesLaw" D ca) {b n : Nat} {xs : Nat → Int32} (hX : va_X b n xs s s.heap) (hbl : b < s.heap.size) (hbA : ¬ A b) (hZ : ps_Z A s) (hYs : ps_Y s) {σ : ps_S} {t : tT} {g : gT} (hI : LI σ t g) {i : Nat} (hin : i + 7 ≤ n) (hn84 : n ≤ 3584) {ce sl : Nat} (hce : ce + 8 ≤ 601024) (hsl : sl + 64 ≤ 7293034)  (kk : ∀ σ' t' g' ce' sl', LI σ' t' g' → ce' ≤ ce + 8 → sl' ≤ sl + 64 → ps_V p l e room_1 s m args below meth c 7 D ca A s.heap adr0 σ0 Q 1214 [(0, ps_raw b), (1, ps_ref (some (0, 0))), (2, ps_ref (some (13, 0))), (3, ps_ref (some (12, 0))), (4, ps_int (nI i))] [] σ' ce' sl') : ps_V p l e room_1 s m args below meth c 7 D ca A s.heap adr0 σ0 Q 1072 [(0, ps_raw b), (1, ps_ref (some (0, 0))), (2, ps_ref (some (13, 0))), (3, ps_ref (some (12, 0))), (4, ps_int (nI i))] [] σ ce sl := by
  have hP := hI.1
  have hM := hI.2.1
  have hV := hI.2.2.1
  have hl12 := hI.2.2.2
  have hC := hV.C
  have hY := hV.Y
  have hW := hC.2.1
  refine pv_aload_n E d_Law_law_1072 rfl rfl ?_
  refine pv_aloadR E d_Law_law_1073 rfl rfl ?_
  refine pv_iload E d_Law_law_1074 rfl ?_
  refine pv_iconst (v := 1) E d_Law_law_1076 (by decide) ?_
  refine pv_iadd E d_Law_law_1077 ?_
  refine pv_top (congrArg ps_int (nI_add i 1)) ?_
  refine pv_sld E hX hbl hbA (vp_in_nI (show i + 1 < n by omega) (by omega)) d_Law_law_1078 ?_
  refine pv_top (congrArg ps_int (congrArg xs (nI_clamp (show i + 1 < 2 ^ 31 by omega)))) ?_
  refine pv_aloadR E d_Law_law_1079 rfl rfl ?_
  refine pv_iload E d_Law_law_1080 rfl ?_
  refine pv_iconst (v := 2) E d_Law_law_1082 (by decide) ?_
  refine pv_iadd E d_Law_law_1083 ?_
  refine pv_top (congrArg ps_int (nI_add i 2)) ?_
  refine pv_sld E hX hbl hbA (vp_in_nI (show i + 2 < n by omega) (by omega)) d_Law_law_1084 ?_
  refine pv_top (congrArg ps_int (congrArg xs (nI_clamp (show i + 2 < 2 ^ 31 by omega)))) ?_
  refine pv_callV E (fun adr => k_Ps_scope l D ca A _ (xs (i + 1)) (xs (i + 2)) t g hP hC adr) yv_Ps_scope wd_365 rfl rfl (fun _ => ⟨_, rfl⟩) rfl ⟨by decide, by decide⟩ (Nat.le_of_ble_eq_true rfl) d_Law_law_1085 ⟨by show _ ≤ 601024; dsimp only; omega, by show _ ≤ 7293034; dsimp only; omega⟩ (fun r1085 σ1085 hq1085 => ?_)
  obtain ⟨hr1085, hs1085⟩ := hq1085
  subst r1085
  subst hs1085
  refine pv_aload_n E d_Law_law_1088 rfl rfl ?_
  refine pv_aloadR E d_Law_law_1089 rfl rfl ?_
  refine pv_iload E d_Law_law_1090 rfl ?_
  refine pv_iconst (v := 1) E d_Law_law_1092 (by decide) ?_
  refine pv_iadd E d_Law_law_1093 ?_
  refine pv_top (congrArg ps_int (nI_add i 1)) ?_
  refine pv_sld E hX hbl hbA (vp_in_nI (show i + 1 < n by omega) (by omega)) d_Law_law_1094 ?_
  refine pv_top (congrArg ps_int (congrArg xs (nI_clamp (show i + 1 < 2 ^ 31 by omega)))) ?_
  refine pv_aloadR E d_Law_law_1095 rfl rfl ?_
  refine pv_iload E d_Law_law_1096 rfl ?_
  refine pv_iconst (v := 2) E d_Law_law_1098 (by decide) ?_
  refine pv_iadd E d_Law_law_1099 ?_
  refine pv_top (congrArg ps_int (nI_add i 2)) ?_
  refine pv_sld E hX hbl hbA (vp_in_nI (show i + 2 < n by omega) (by omega)) d_Law_law_1100 ?_
  refine pv_top (congrArg ps_int (congrArg xs (nI_clamp (show i + 2 < 2 ^ 31 by omega)))) ?_
  refine pv_callV E (fun adr => k_Mod_scope l D ca A _ (xs (i + 1)) (xs (i + 2)) t g hM hW hV.2.1.1 adr) yv_Mod_scope wd_1080 rfl rfl (fun _ => ⟨_, rfl⟩) rfl ⟨by decide, by decide⟩ (Nat.le_of_ble_eq_true rfl) d_Law_law_1101 ⟨by show _ ≤ 601024; dsimp only; omega, by show _ ≤ 7293034; dsimp only; omega⟩ (fun r1101 σ1101 hq1101 => ?_)
  obtain ⟨hr1101, hM2, ht2, hf2⟩ := hq1101
  subst r1101
  refine pv_icmp_eq (tgt := 1214) E d_Law_law_1104 rfl (fun h1104 => ?_) (fun h1104 => ?_)
  · skip
    exact pv_sub (L' := [(0, ps_raw b), (1, ps_ref (some (0, 0))), (2, ps_ref (some (13, 0))), (3, ps_ref (some (12, 0))), (4, ps_int (nI i))]) ⟨rfl, rfl, rfl, rfl, rfl, trivial⟩ (kk _ _ _ _ _ (LI.fin hP hl12 hM2 hf2 hV) (by dsimp only; omega) (by dsimp only; omega))
  · skip
    exact absurd rfl h1104
set_option maxHeartbeats 8000000 in
set_option maxRecDepth 100000 in
theorem lc_task {p : Program} {e : Env} {s : State} {m : MethodId} {args : Array Value} {below : List Frame} {meth : Method} {c : Code} {D : va_G} {ca : Nat → ClassId} {A : Nat → Prop} {adr0 : Nat → Nat → Nat} {σ0 : ps_S} {Q : State → Prop} (l : Launch) (htr : l.stackTraces = false) (E : ps_E p s m c code 7 "PromiseScopesLaw" D ca) {b n : Nat} {xs : Nat → Int32} (hX : va_X b n xs s s.heap) (hbl : b < s.heap.size) (hbA : ¬ A b) (hZ : ps_Z A s) (hYs : ps_Y s) {σ : ps_S} {t : tT} {g : gT} (hI : LI σ t g) {i : Nat} (hin : i + 7 ≤ n) (hn84 : n ≤ 3584) {ce sl : Nat} (hce : ce + 8 ≤ 601024) (hsl : sl + 64 ≤ 7293034)  (kk : ∀ σ' t' g' ce' sl', LI σ' t' g' → ce' ≤ ce + 8 → sl' ≤ sl + 64 → ps_V p l e room_1 s m args below meth c 7 D ca A s.heap adr0 σ0 Q 1214 [(0, ps_raw b), (1, ps_ref (some (0, 0))), (2, ps_ref (some (13, 0))), (3, ps_ref (some (12, 0))), (4, ps_int (nI i))] [] σ' ce' sl') : ps_V p l e room_1 s m args below meth c 7 D ca A s.heap adr0 σ0 Q 1177 [(0, ps_raw b), (1, ps_ref (some (0, 0))), (2, ps_ref (some (13, 0))), (3, ps_ref (some (12, 0))), (4, ps_int (nI i))] [] σ ce sl := by
  have hP := hI.1
  have hM := hI.2.1
  have hV := hI.2.2.1
  have hl12 := hI.2.2.2
  have hC := hV.C
  have hY := hV.Y
  have hW := hC.2.1
  refine pv_aload_n E d_Law_law_1177 rfl rfl ?_
  refine pv_aloadR E d_Law_law_1178 rfl rfl ?_
  refine pv_iload E d_Law_law_1179 rfl ?_
  refine pv_iconst (v := 1) E d_Law_law_1181 (by decide) ?_
  refine pv_iadd E d_Law_law_1182 ?_
  refine pv_top (congrArg ps_int (nI_add i 1)) ?_
  refine pv_sld E hX hbl hbA (vp_in_nI (show i + 1 < n by omega) (by omega)) d_Law_law_1183 ?_
  refine pv_top (congrArg ps_int (congrArg xs (nI_clamp (show i + 1 < 2 ^ 31 by omega)))) ?_
  refine pv_aloadR E d_Law_law_1184 rfl rfl ?_
  refine pv_iload E d_Law_law_1185 rfl ?_
  refine pv_iconst (v := 2) E d_Law_law_1187 (by decide) ?_
  refine pv_iadd E d_Law_law_1188 ?_
  refine pv_top (congrArg ps_int (nI_add i 2)) ?_
  refine pv_sld E hX hbl hbA (vp_in_nI (show i + 2 < n by omega) (by omega)) d_Law_law_1189 ?_
  refine pv_top (congrArg ps_int (congrArg xs (nI_clamp (show i + 2 < 2 ^ 31 by omega)))) ?_
  refine pv_callV E (fun adr => k_Ps_task l D ca A _ (xs (i + 1)) (xs (i + 2)) t g hP hC adr) yv_Ps_task wd_370 rfl rfl (fun _ => ⟨_, rfl⟩) rfl ⟨by decide, by decide⟩ (Nat.le_of_ble_eq_true rfl) d_Law_law_1190 ⟨by show _ ≤ 601024; dsimp only; omega, by show _ ≤ 7293034; dsimp only; omega⟩ (fun r1190 σ1190 hq1190 => ?_)
  obtain ⟨hr1190, hs1190⟩ := hq1190
  subst r1190
  subst hs1190
  refine pv_aload_n E d_Law_law_1193 rfl rfl ?_
  refine pv_aloadR E d_Law_law_1194 rfl rfl ?_
  refine pv_iload E d_Law_law_1195 rfl ?_
  refine pv_iconst (v := 1) E d_Law_law_1197 (by decide) ?_
  refine pv_iadd E d_Law_law_1198 ?_
  refine pv_top (congrArg ps_int (nI_add i 1)) ?_
  refine pv_sld E hX hbl hbA (vp_in_nI (show i + 1 < n by omega) (by omega)) d_Law_law_1199 ?_
  refine pv_top (congrArg ps_int (congrArg xs (nI_clamp (show i + 1 < 2 ^ 31 by omega)))) ?_
  refine pv_aloadR E d_Law_law_1200 rfl rfl ?_
  refine pv_iload E d_Law_law_1201 rfl ?_
  refine pv_iconst (v := 2) E d_Law_law_1203 (by decide) ?_
  refine pv_iadd E d_Law_law_1204 ?_
  refine pv_top (congrArg ps_int (nI_add i 2)) ?_
  refine pv_sld E hX hbl hbA (vp_in_nI (show i + 2 < n by omega) (by omega)) d_Law_law_1205 ?_
  refine pv_top (congrArg ps_int (congrArg xs (nI_clamp (show i + 2 < 2 ^ 31 by omega)))) ?_
  refine pv_callV E (fun adr => k_Mod_task l D ca A _ (xs (i + 1)) (xs (i + 2)) t g hM hW adr) yv_Mod_task wd_1084 rfl rfl (fun _ => ⟨_, rfl⟩) rfl ⟨by decide, by decide⟩ (Nat.le_of_ble_eq_true rfl) d_Law_law_1206 ⟨by show _ ≤ 601024; dsimp only; omega, by show _ ≤ 7293034; dsimp only; omega⟩ (fun r1206 σ1206 hq1206 => ?_)
  obtain ⟨hr1206, hM2, ht2, hf2⟩ := hq1206
  subst r1206
  refine pv_icmp_eq (tgt := 1214) E d_Law_law_1209 rfl (fun h1209 => ?_) (fun h1209 => ?_)
  · skip
    exact pv_sub (L' := [(0, ps_raw b), (1, ps_ref (some (0, 0))), (2, ps_ref (some (13, 0))), (3, ps_ref (some (12, 0))), (4, ps_int (nI i))]) ⟨rfl, rfl, rfl, rfl, rfl, trivial⟩ (kk _ _ _ _ _ (LI.fin hP hl12 hM2 hf2 hV) (by dsimp only; omega) (by dsimp only; omega))
  · skip
    exact absurd rfl h1209
