set_option maxHeartbeats 8000000 in
set_option maxRecDepth 100000 in
theorem lc_join_0 {p : Program} {e : Env} {s : State} {m : MethodId} {args : Array Value} {below : List Frame} {meth : Method} {c : Code} {D : va_G} {ca : Nat → ClassId} {A : Nat → Prop} {adr0 : Nat → Nat → Nat} {σ0 : ps_S} {Q : State → Prop} (l : Launch) (htr : l.stackTraces = false) (E : ps_E p s m c code 7 "PromiseScopesLaw" D ca) {b n : Nat} {xs : Nat → Int32} (hX : va_X b n xs s s.heap) (hbl : b < s.heap.size) (hbA : ¬ A b) (hZ : ps_Z A s) (hYs : ps_Y s) {σ : ps_S} {t : tT} {g : gT} (hI : LI σ t g) {i : Nat} (hin : i + 7 ≤ n) (hn84 : n ≤ 3584) {ce sl : Nat} (hce : ce + 8 ≤ 601024) (hsl : sl + 64 ≤ 7293034) (hb : a_st g (xs (i + 1))) (h1 : gF g (xs (i + 1)).toNatClampNeg 0 = 1) (kk : ∀ σ' t' g' ce' sl', LI σ' t' g' → ce' ≤ ce + 8 → sl' ≤ sl + 64 → ps_V p l e room_1 s m args below meth c 7 D ca A s.heap adr0 σ0 Q 1214 [(0, ps_raw b), (1, ps_ref (some (0, 0))), (2, ps_ref (some (13, 0))), (3, ps_ref (some (12, 0))), (4, ps_int (nI i))] [] σ' ce' sl') : ps_V p l e room_1 s m args below meth c 7 D ca A s.heap adr0 σ0 Q 658 [(0, ps_raw b), (1, ps_ref (some (0, 0))), (2, ps_ref (some (13, 0))), (3, ps_ref (some (12, 0))), (4, ps_int (nI i))] [] σ ce sl := by
  have hP := hI.1
  have hM := hI.2.1
  have hV := hI.2.2.1
  have hl12 := hI.2.2.2
  have hC := hV.C
  have hY := hV.Y
  have hW := hC.2.1
  refine pv_aload_n E d_Law_law_658 rfl rfl ?_
  refine pv_aloadR E d_Law_law_659 rfl rfl ?_
  refine pv_iload E d_Law_law_660 rfl ?_
  refine pv_iconst (v := 1) E d_Law_law_662 (by decide) ?_
  refine pv_iadd E d_Law_law_663 ?_
  refine pv_top (congrArg ps_int (nI_add i 1)) ?_
  refine pv_sld E hX hbl hbA (vp_in_nI (show i + 1 < n by omega) (by omega)) d_Law_law_664 ?_
  refine pv_top (congrArg ps_int (congrArg xs (nI_clamp (show i + 1 < 2 ^ 31 by omega)))) ?_
  refine pv_aload_n E d_Law_law_665 rfl rfl ?_
  refine pv_callSW (n := 3) E rfl hZ hYs (fun adr => k_Law_join_0 l htr D ca A _ (xs (i + 1)) t g hP hC hb h1 hl12 adr) wx_587 wd_0 wd_586 wd_585 (by decide +kernel) (by decide +kernel) (by decide +kernel) rfl rfl ⟨by decide, by decide⟩ (Nat.le_of_ble_eq_true rfl) d_Law_law_666 ⟨by show _ ≤ 601024; dsimp only; omega, by show _ ≤ 7293034; dsimp only; omega⟩ (fun r666 σ666 hq666 => ?_)
  obtain ⟨hr666, hs1⟩ := hq666
  subst r666
  subst hs1
  have hM1 := hM.sJ (v := Int32.toInt64 (gF g (xs (i + 1)).toNatClampNeg 1))
  refine pv_istore E d_Law_law_669 (by decide) ?_
  refine pv_aload_n E d_Law_law_671 rfl rfl ?_
  refine pv_aloadR E d_Law_law_672 rfl rfl ?_
  refine pv_iload E d_Law_law_673 rfl ?_
  refine pv_iconst (v := 1) E d_Law_law_675 (by decide) ?_
  refine pv_iadd E d_Law_law_676 ?_
  refine pv_top (congrArg ps_int (nI_add i 1)) ?_
  refine pv_sld E hX hbl hbA (vp_in_nI (show i + 1 < n by omega) (by omega)) d_Law_law_677 ?_
  refine pv_top (congrArg ps_int (congrArg xs (nI_clamp (show i + 1 < 2 ^ 31 by omega)))) ?_
  refine pv_callV E (fun adr => k_Mod_join_0 l D ca A _ (xs (i + 1)) t g hM1 hC.1 hY hb h1 adr) yv_Mod_join wd_996 rfl rfl (fun _ => ⟨_, rfl⟩) rfl ⟨by decide, by decide⟩ (Nat.le_of_ble_eq_true rfl) d_Law_law_678 ⟨by show _ ≤ 601024; dsimp only; omega, by show _ ≤ 7293034; dsimp only; omega⟩ (fun r678 σ678 hq678 => ?_)
  obtain ⟨hr678, hM2, ht2, hf2⟩ := hq678
  subst r678
  refine pv_istore E d_Law_law_681 (by decide) ?_
  refine pv_aload_n E d_Law_law_683 rfl rfl ?_
  refine pv_callV E (fun adr => k_Mod_thrown l D ca A _ adr) yv_Mod_thrown wd_896 rfl rfl (fun _ => ⟨_, rfl⟩) rfl ⟨by decide, by decide⟩ (Nat.le_of_ble_eq_true rfl) d_Law_law_684 ⟨by show _ ≤ 601024; dsimp only; omega, by show _ ≤ 7293034; dsimp only; omega⟩ (fun r684 σ684 hq684 => ?_)
  obtain ⟨hr684, hs684⟩ := hq684
  subst r684
  subst σ684
  refine pv_top (congrArg ps_int ht2) ?_
  refine pv_iload E d_Law_law_687 rfl ?_
  refine pv_icmp_eq (tgt := 694) E d_Law_law_689 rfl (fun h689 => ?_) (fun h689 => ?_)
  · skip
    refine pv_iload E d_Law_law_694 rfl ?_
    refine pv_if_ne (tgt := 711) E d_Law_law_696 rfl (fun h696 => ?_) (fun h696 => ?_)
    · skip
      exact absurd rfl h696
    · skip
      refine pv_aload_n E d_Law_law_699 rfl rfl ?_
      refine pv_iconst (v := 0) E d_Law_law_700 (by decide) ?_
      refine pv_laload (t0 := 5) E 12 _ (fun _ _ _ _ _ => rfl) rfl (l12_in (hf2.l12 hl12)) d_Law_law_701 ?_
      refine pv_top (congrArg ps_lng (hf2.j12 (sJ_J _ _))) ?_
      refine pv_iload E d_Law_law_702 rfl ?_
      refine pv_i2l E d_Law_law_704 ?_
      refine pv_lcmp E d_Law_law_705 ?_
      refine pv_if_eq (tgt := 711) E d_Law_law_706 rfl (fun h706 => ?_) (fun h706 => ?_)
      · skip
        refine pv_goto (tgt := 1214) E d_Law_law_711 rfl ?_
        exact pv_sub (L' := [(0, ps_raw b), (1, ps_ref (some (0, 0))), (2, ps_ref (some (13, 0))), (3, ps_ref (some (12, 0))), (4, ps_int (nI i))]) ⟨rfl, rfl, rfl, rfl, rfl, trivial⟩ (kk _ _ _ _ _ (LI.fin hP.sJ hl12 hM2 hf2 hV) (by dsimp only; omega) (by dsimp only; omega))
      · skip
        exact absurd (cmp0 _) h706
  · skip
    exact absurd rfl h689
set_option maxHeartbeats 8000000 in
set_option maxRecDepth 100000 in
theorem lc_join_A {p : Program} {e : Env} {s : State} {m : MethodId} {args : Array Value} {below : List Frame} {meth : Method} {c : Code} {D : va_G} {ca : Nat → ClassId} {A : Nat → Prop} {adr0 : Nat → Nat → Nat} {σ0 : ps_S} {Q : State → Prop} (l : Launch) (htr : l.stackTraces = false) (E : ps_E p s m c code 7 "PromiseScopesLaw" D ca) {b n : Nat} {xs : Nat → Int32} (hX : va_X b n xs s s.heap) (hbl : b < s.heap.size) (hbA : ¬ A b) (hZ : ps_Z A s) (hYs : ps_Y s) {σ : ps_S} {t : tT} {g : gT} (hI : LI σ t g) {i : Nat} (hin : i + 7 ≤ n) (hn84 : n ≤ 3584) {ce sl : Nat} (hce : ce + 8 ≤ 601024) (hsl : sl + 64 ≤ 7293034) (hb : ¬ a_st g (xs (i + 1))) (kk : ∀ σ' t' g' ce' sl', LI σ' t' g' → ce' ≤ ce + 8 → sl' ≤ sl + 64 → ps_V p l e room_1 s m args below meth c 7 D ca A s.heap adr0 σ0 Q 1214 [(0, ps_raw b), (1, ps_ref (some (0, 0))), (2, ps_ref (some (13, 0))), (3, ps_ref (some (12, 0))), (4, ps_int (nI i))] [] σ' ce' sl') : ps_V p l e room_1 s m args below meth c 7 D ca A s.heap adr0 σ0 Q 658 [(0, ps_raw b), (1, ps_ref (some (0, 0))), (2, ps_ref (some (13, 0))), (3, ps_ref (some (12, 0))), (4, ps_int (nI i))] [] σ ce sl := by
  have hP := hI.1
  have hM := hI.2.1
  have hV := hI.2.2.1
  have hl12 := hI.2.2.2
  have hC := hV.C
  have hY := hV.Y
  have hW := hC.2.1
  refine pv_aload_n E d_Law_law_658 rfl rfl ?_
  refine pv_aloadR E d_Law_law_659 rfl rfl ?_
  refine pv_iload E d_Law_law_660 rfl ?_
  refine pv_iconst (v := 1) E d_Law_law_662 (by decide) ?_
  refine pv_iadd E d_Law_law_663 ?_
  refine pv_top (congrArg ps_int (nI_add i 1)) ?_
  refine pv_sld E hX hbl hbA (vp_in_nI (show i + 1 < n by omega) (by omega)) d_Law_law_664 ?_
  refine pv_top (congrArg ps_int (congrArg xs (nI_clamp (show i + 1 < 2 ^ 31 by omega)))) ?_
  refine pv_aload_n E d_Law_law_665 rfl rfl ?_
  refine pv_callSW (n := 3) E rfl hZ hYs (fun adr => k_Law_join_A l htr D ca A _ (xs (i + 1)) t g hP hC hb adr) wx_587 wd_0 wd_586 wd_585 (by decide +kernel) (by decide +kernel) (by decide +kernel) rfl rfl ⟨by decide, by decide⟩ (Nat.le_of_ble_eq_true rfl) d_Law_law_666 ⟨by show _ ≤ 601024; dsimp only; omega, by show _ ≤ 7293034; dsimp only; omega⟩ (fun r666 σ666 hq666 => ?_)
  obtain ⟨hr666, hs666⟩ := hq666
  subst r666
  subst σ666
  refine pv_istore E d_Law_law_669 (by decide) ?_
  refine pv_aload_n E d_Law_law_671 rfl rfl ?_
  refine pv_aloadR E d_Law_law_672 rfl rfl ?_
  refine pv_iload E d_Law_law_673 rfl ?_
  refine pv_iconst (v := 1) E d_Law_law_675 (by decide) ?_
  refine pv_iadd E d_Law_law_676 ?_
  refine pv_top (congrArg ps_int (nI_add i 1)) ?_
  refine pv_sld E hX hbl hbA (vp_in_nI (show i + 1 < n by omega) (by omega)) d_Law_law_677 ?_
  refine pv_top (congrArg ps_int (congrArg xs (nI_clamp (show i + 1 < 2 ^ 31 by omega)))) ?_
  refine pv_callV E (fun adr => k_Mod_join_1 l D ca A _ (xs (i + 1)) t g hM hC.1 hY hb adr) yv_Mod_join wd_996 rfl rfl (fun _ => ⟨_, rfl⟩) rfl ⟨by decide, by decide⟩ (Nat.le_of_ble_eq_true rfl) d_Law_law_678 ⟨by show _ ≤ 601024; dsimp only; omega, by show _ ≤ 7293034; dsimp only; omega⟩ (fun r678 σ678 hq678 => ?_)
  obtain ⟨hr678, hM2, ht2, hf2⟩ := hq678
  subst r678
  refine pv_istore E d_Law_law_681 (by decide) ?_
  refine pv_aload_n E d_Law_law_683 rfl rfl ?_
  refine pv_callV E (fun adr => k_Mod_thrown l D ca A _ adr) yv_Mod_thrown wd_896 rfl rfl (fun _ => ⟨_, rfl⟩) rfl ⟨by decide, by decide⟩ (Nat.le_of_ble_eq_true rfl) d_Law_law_684 ⟨by show _ ≤ 601024; dsimp only; omega, by show _ ≤ 7293034; dsimp only; omega⟩ (fun r684 σ684 hq684 => ?_)
  obtain ⟨hr684, hs684⟩ := hq684
  subst r684
  subst σ684
  refine pv_top (congrArg ps_int ht2) ?_
  refine pv_iload E d_Law_law_687 rfl ?_
  refine pv_icmp_eq (tgt := 694) E d_Law_law_689 rfl (fun h689 => ?_) (fun h689 => ?_)
  · skip
    refine pv_iload E d_Law_law_694 rfl ?_
    refine pv_if_ne (tgt := 711) E d_Law_law_696 rfl (fun h696 => ?_) (fun h696 => ?_)
    · skip
      refine pv_goto (tgt := 1214) E d_Law_law_711 rfl ?_
      exact pv_sub (L' := [(0, ps_raw b), (1, ps_ref (some (0, 0))), (2, ps_ref (some (13, 0))), (3, ps_ref (some (12, 0))), (4, ps_int (nI i))]) ⟨rfl, rfl, rfl, rfl, rfl, trivial⟩ (kk _ _ _ _ _ (LI.fin hP hl12 hM2 hf2 hV) (by dsimp only; omega) (by dsimp only; omega))
    · skip
      exact absurd h696 (by decide)
  · skip
    exact absurd rfl h689
set_option maxHeartbeats 8000000 in
set_option maxRecDepth 100000 in
theorem lc_join_U {p : Program} {e : Env} {s : State} {m : MethodId} {args : Array Value} {below : List Frame} {meth : Method} {c : Code} {D : va_G} {ca : Nat → ClassId} {A : Nat → Prop} {adr0 : Nat → Nat → Nat} {σ0 : ps_S} {Q : State → Prop} (l : Launch) (htr : l.stackTraces = false) (E : ps_E p s m c code 7 "PromiseScopesLaw" D ca) {b n : Nat} {xs : Nat → Int32} (hX : va_X b n xs s s.heap) (hbl : b < s.heap.size) (hbA : ¬ A b) (hZ : ps_Z A s) (hYs : ps_Y s) {σ : ps_S} {t : tT} {g : gT} (hI : LI σ t g) {i : Nat} (hin : i + 7 ≤ n) (hn84 : n ≤ 3584) {ce sl : Nat} (hce : ce + 8 ≤ 601024) (hsl : sl + 64 ≤ 7293034) (hb : a_st g (xs (i + 1))) (h0 : gF g (xs (i + 1)).toNatClampNeg 0 = 0) (kk : ∀ σ' t' g' ce' sl', LI σ' t' g' → ce' ≤ ce + 8 → sl' ≤ sl + 64 → ps_V p l e room_1 s m args below meth c 7 D ca A s.heap adr0 σ0 Q 1214 [(0, ps_raw b), (1, ps_ref (some (0, 0))), (2, ps_ref (some (13, 0))), (3, ps_ref (some (12, 0))), (4, ps_int (nI i))] [] σ' ce' sl') : ps_V p l e room_1 s m args below meth c 7 D ca A s.heap adr0 σ0 Q 658 [(0, ps_raw b), (1, ps_ref (some (0, 0))), (2, ps_ref (some (13, 0))), (3, ps_ref (some (12, 0))), (4, ps_int (nI i))] [] σ ce sl := by
  have hP := hI.1
  have hM := hI.2.1
  have hV := hI.2.2.1
  have hl12 := hI.2.2.2
  have hC := hV.C
  have hY := hV.Y
  have hW := hC.2.1
  refine pv_aload_n E d_Law_law_658 rfl rfl ?_
  refine pv_aloadR E d_Law_law_659 rfl rfl ?_
  refine pv_iload E d_Law_law_660 rfl ?_
  refine pv_iconst (v := 1) E d_Law_law_662 (by decide) ?_
  refine pv_iadd E d_Law_law_663 ?_
  refine pv_top (congrArg ps_int (nI_add i 1)) ?_
  refine pv_sld E hX hbl hbA (vp_in_nI (show i + 1 < n by omega) (by omega)) d_Law_law_664 ?_
  refine pv_top (congrArg ps_int (congrArg xs (nI_clamp (show i + 1 < 2 ^ 31 by omega)))) ?_
  refine pv_aload_n E d_Law_law_665 rfl rfl ?_
  refine pv_callSW (n := 3) E rfl hZ hYs (fun adr => k_Law_join_U l htr D ca A _ (xs (i + 1)) t g hP hC hb h0 adr) wx_587 wd_0 wd_586 wd_585 (by decide +kernel) (by decide +kernel) (by decide +kernel) rfl rfl ⟨by decide, by decide⟩ (Nat.le_of_ble_eq_true rfl) d_Law_law_666 ⟨by show _ ≤ 601024; dsimp only; omega, by show _ ≤ 7293034; dsimp only; omega⟩ (fun r666 σ666 hq666 => ?_)
  obtain ⟨hr666, hs666⟩ := hq666
  subst r666
  subst σ666
  refine pv_istore E d_Law_law_669 (by decide) ?_
  refine pv_aload_n E d_Law_law_671 rfl rfl ?_
  refine pv_aloadR E d_Law_law_672 rfl rfl ?_
  refine pv_iload E d_Law_law_673 rfl ?_
  refine pv_iconst (v := 1) E d_Law_law_675 (by decide) ?_
  refine pv_iadd E d_Law_law_676 ?_
  refine pv_top (congrArg ps_int (nI_add i 1)) ?_
  refine pv_sld E hX hbl hbA (vp_in_nI (show i + 1 < n by omega) (by omega)) d_Law_law_677 ?_
  refine pv_top (congrArg ps_int (congrArg xs (nI_clamp (show i + 1 < 2 ^ 31 by omega)))) ?_
  refine pv_callV E (fun adr => k_Mod_join_2 l D ca A _ (xs (i + 1)) t g hM hC.1 hY hb h0 adr) yv_Mod_join wd_996 rfl rfl (fun _ => ⟨_, rfl⟩) rfl ⟨by decide, by decide⟩ (Nat.le_of_ble_eq_true rfl) d_Law_law_678 ⟨by show _ ≤ 601024; dsimp only; omega, by show _ ≤ 7293034; dsimp only; omega⟩ (fun r678 σ678 hq678 => ?_)
  obtain ⟨hr678, hM2, ht2, hf2⟩ := hq678
  subst r678
  refine pv_istore E d_Law_law_681 (by decide) ?_
  refine pv_aload_n E d_Law_law_683 rfl rfl ?_
  refine pv_callV E (fun adr => k_Mod_thrown l D ca A _ adr) yv_Mod_thrown wd_896 rfl rfl (fun _ => ⟨_, rfl⟩) rfl ⟨by decide, by decide⟩ (Nat.le_of_ble_eq_true rfl) d_Law_law_684 ⟨by show _ ≤ 601024; dsimp only; omega, by show _ ≤ 7293034; dsimp only; omega⟩ (fun r684 σ684 hq684 => ?_)
  obtain ⟨hr684, hs684⟩ := hq684
  subst r684
  subst σ684
  refine pv_top (congrArg ps_int ht2) ?_
  refine pv_iload E d_Law_law_687 rfl ?_
  refine pv_icmp_eq (tgt := 694) E d_Law_law_689 rfl (fun h689 => ?_) (fun h689 => ?_)
  · skip
    refine pv_iload E d_Law_law_694 rfl ?_
    refine pv_if_ne (tgt := 711) E d_Law_law_696 rfl (fun h696 => ?_) (fun h696 => ?_)
    · skip
      refine pv_goto (tgt := 1214) E d_Law_law_711 rfl ?_
      exact pv_sub (L' := [(0, ps_raw b), (1, ps_ref (some (0, 0))), (2, ps_ref (some (13, 0))), (3, ps_ref (some (12, 0))), (4, ps_int (nI i))]) ⟨rfl, rfl, rfl, rfl, rfl, trivial⟩ (kk _ _ _ _ _ (LI.fin hP hl12 hM2 hf2 hV) (by dsimp only; omega) (by dsimp only; omega))
    · skip
      exact absurd h696 (by decide)
  · skip
    exact absurd rfl h689
set_option maxHeartbeats 8000000 in
set_option maxRecDepth 100000 in
theorem lc_join_S {p : Program} {e : Env} {s : State} {m : MethodId} {args : Array Value} {below : List Frame} {meth : Method} {c : Code} {D : va_G} {ca : Nat → ClassId} {A : Nat → Prop} {adr0 : Nat → Nat → Nat} {σ0 : ps_S} {Q : State → Prop} (l : Launch) (htr : l.stackTraces = false) (E : ps_E p s m c code 7 "PromiseScopesLaw" D ca) {b n : Nat} {xs : Nat → Int32} (hX : va_X b n xs s s.heap) (hbl : b < s.heap.size) (hbA : ¬ A b) (hZ : ps_Z A s) (hYs : ps_Y s) {σ : ps_S} {t : tT} {g : gT} (hI : LI σ t g) {i : Nat} (hin : i + 7 ≤ n) (hn84 : n ≤ 3584) {ce sl : Nat} (hce : ce + 8 ≤ 601024) (hsl : sl + 64 ≤ 7293034) (hb : a_st g (xs (i + 1))) (h0 : ¬ gF g (xs (i + 1)).toNatClampNeg 0 = 0) (h1 : ¬ gF g (xs (i + 1)).toNatClampNeg 0 = 1) (kk : ∀ σ' t' g' ce' sl', LI σ' t' g' → ce' ≤ ce + 8 → sl' ≤ sl + 64 → ps_V p l e room_1 s m args below meth c 7 D ca A s.heap adr0 σ0 Q 1214 [(0, ps_raw b), (1, ps_ref (some (0, 0))), (2, ps_ref (some (13, 0))), (3, ps_ref (some (12, 0))), (4, ps_int (nI i))] [] σ' ce' sl') : ps_V p l e room_1 s m args below meth c 7 D ca A s.heap adr0 σ0 Q 658 [(0, ps_raw b), (1, ps_ref (some (0, 0))), (2, ps_ref (some (13, 0))), (3, ps_ref (some (12, 0))), (4, ps_int (nI i))] [] σ ce sl := by
  have hP := hI.1
  have hM := hI.2.1
  have hV := hI.2.2.1
  have hl12 := hI.2.2.2
  have hC := hV.C
  have hY := hV.Y
  have hW := hC.2.1
  refine pv_aload_n E d_Law_law_658 rfl rfl ?_
  refine pv_aloadR E d_Law_law_659 rfl rfl ?_
  refine pv_iload E d_Law_law_660 rfl ?_
  refine pv_iconst (v := 1) E d_Law_law_662 (by decide) ?_
  refine pv_iadd E d_Law_law_663 ?_
  refine pv_top (congrArg ps_int (nI_add i 1)) ?_
  refine pv_sld E hX hbl hbA (vp_in_nI (show i + 1 < n by omega) (by omega)) d_Law_law_664 ?_
  refine pv_top (congrArg ps_int (congrArg xs (nI_clamp (show i + 1 < 2 ^ 31 by omega)))) ?_
  refine pv_aload_n E d_Law_law_665 rfl rfl ?_
  refine pv_callSW (n := 3) E rfl hZ hYs (fun adr => k_Law_join_S l htr D ca A _ (xs (i + 1)) t g hP hC hb h0 h1 adr) wx_587 wd_0 wd_586 wd_585 (by decide +kernel) (by decide +kernel) (by decide +kernel) rfl rfl ⟨by decide, by decide⟩ (Nat.le_of_ble_eq_true rfl) d_Law_law_666 ⟨by show _ ≤ 601024; dsimp only; omega, by show _ ≤ 7293034; dsimp only; omega⟩ (fun r666 σ666 hq666 => ?_)
  obtain ⟨hr666, hs666⟩ := hq666
  subst r666
  subst σ666
  refine pv_istore E d_Law_law_669 (by decide) ?_
  refine pv_aload_n E d_Law_law_671 rfl rfl ?_
  refine pv_aloadR E d_Law_law_672 rfl rfl ?_
  refine pv_iload E d_Law_law_673 rfl ?_
  refine pv_iconst (v := 1) E d_Law_law_675 (by decide) ?_
  refine pv_iadd E d_Law_law_676 ?_
  refine pv_top (congrArg ps_int (nI_add i 1)) ?_
  refine pv_sld E hX hbl hbA (vp_in_nI (show i + 1 < n by omega) (by omega)) d_Law_law_677 ?_
  refine pv_top (congrArg ps_int (congrArg xs (nI_clamp (show i + 1 < 2 ^ 31 by omega)))) ?_
  refine pv_callV E (fun adr => k_Mod_join_3 l D ca A _ (xs (i + 1)) t g hM hC.1 hY hb (st_gt1 (hV.2.2.2.2 _) h0 h1) adr) yv_Mod_join wd_996 rfl rfl (fun _ => ⟨_, rfl⟩) rfl ⟨by decide, by decide⟩ (Nat.le_of_ble_eq_true rfl) d_Law_law_678 ⟨by show _ ≤ 601024; dsimp only; omega, by show _ ≤ 7293034; dsimp only; omega⟩ (fun r678 σ678 hq678 => ?_)
  obtain ⟨hr678, hM2, ht2, hf2⟩ := hq678
  subst r678
  refine pv_istore E d_Law_law_681 (by decide) ?_
  refine pv_aload_n E d_Law_law_683 rfl rfl ?_
  refine pv_callV E (fun adr => k_Mod_thrown l D ca A _ adr) yv_Mod_thrown wd_896 rfl rfl (fun _ => ⟨_, rfl⟩) rfl ⟨by decide, by decide⟩ (Nat.le_of_ble_eq_true rfl) d_Law_law_684 ⟨by show _ ≤ 601024; dsimp only; omega, by show _ ≤ 7293034; dsimp only; omega⟩ (fun r684 σ684 hq684 => ?_)
  obtain ⟨hr684, hs684⟩ := hq684
  subst r684
  subst σ684
  refine pv_top (congrArg ps_int ht2) ?_
  refine pv_iload E d_Law_law_687 rfl ?_
  refine pv_icmp_eq (tgt := 694) E d_Law_law_689 rfl (fun h689 => ?_) (fun h689 => ?_)
  · skip
    refine pv_iload E d_Law_law_694 rfl ?_
    refine pv_if_ne (tgt := 711) E d_Law_law_696 rfl (fun h696 => ?_) (fun h696 => ?_)
    · skip
      refine pv_goto (tgt := 1214) E d_Law_law_711 rfl ?_
      exact pv_sub (L' := [(0, ps_raw b), (1, ps_ref (some (0, 0))), (2, ps_ref (some (13, 0))), (3, ps_ref (some (12, 0))), (4, ps_int (nI i))]) ⟨rfl, rfl, rfl, rfl, rfl, trivial⟩ (kk _ _ _ _ _ (LI.fin hP hl12 hM2 hf2 hV) (by dsimp only; omega) (by dsimp only; omega))
    · skip
      exact absurd h696 (by decide)
  · skip
    exact absurd rfl h689
set_option maxHeartbeats 8000000 in
set_option maxRecDepth 100000 in
theorem lc_open_0 {p : Program} {e : Env} {s : State} {m : MethodId} {args : Array Value} {below : List Frame} {meth : Method} {c : Code} {D : va_G} {ca : Nat → ClassId} {A : Nat → Prop} {adr0 : Nat → Nat → Nat} {σ0 : ps_S} {Q : State → Prop} (l : Launch) (htr : l.stackTraces = false) (E : ps_E p s m c code 7 "PromiseScopesLaw" D ca) {b n : Nat} {xs : Nat → Int32} (hX : va_X b n xs s s.heap) (hbl : b < s.heap.size) (hbA : ¬ A b) (hZ : ps_Z A s) (hYs : ps_Y s) {σ : ps_S} {t : tT} {g : gT} (hI : LI σ t g) {i : Nat} (hin : i + 7 ≤ n) (hn84 : n ≤ 3584) {ce sl : Nat} (hce : ce + 8 ≤ 601024) (hsl : sl + 64 ≤ 7293034) (hb : a_opn t (xs (i + 1)) (xs (i + 2))) (hm : tN t < 12) (hn : gN g < 48) (kk : ∀ σ' t' g' ce' sl', LI σ' t' g' → ce' ≤ ce + 8 → sl' ≤ sl + 64 → ps_V p l e room_1 s m args below meth c 7 D ca A s.heap adr0 σ0 Q 1214 [(0, ps_raw b), (1, ps_ref (some (0, 0))), (2, ps_ref (some (13, 0))), (3, ps_ref (some (12, 0))), (4, ps_int (nI i))] [] σ' ce' sl') : ps_V p l e room_1 s m args below meth c 7 D ca A s.heap adr0 σ0 Q 776 [(0, ps_raw b), (1, ps_ref (some (0, 0))), (2, ps_ref (some (13, 0))), (3, ps_ref (some (12, 0))), (4, ps_int (nI i))] [] σ ce sl := by
  have hP := hI.1
  have hM := hI.2.1
  have hV := hI.2.2.1
  have hl12 := hI.2.2.2
  have hC := hV.C
  have hY := hV.Y
  have hW := hC.2.1
  refine pv_aload_n E d_Law_law_776 rfl rfl ?_
  refine pv_aloadR E d_Law_law_777 rfl rfl ?_
  refine pv_iload E d_Law_law_778 rfl ?_
  refine pv_iconst (v := 1) E d_Law_law_780 (by decide) ?_
  refine pv_iadd E d_Law_law_781 ?_
  refine pv_top (congrArg ps_int (nI_add i 1)) ?_
  refine pv_sld E hX hbl hbA (vp_in_nI (show i + 1 < n by omega) (by omega)) d_Law_law_782 ?_
  refine pv_top (congrArg ps_int (congrArg xs (nI_clamp (show i + 1 < 2 ^ 31 by omega)))) ?_
  refine pv_aloadR E d_Law_law_783 rfl rfl ?_
  refine pv_iload E d_Law_law_784 rfl ?_
  refine pv_iconst (v := 2) E d_Law_law_786 (by decide) ?_
  refine pv_iadd E d_Law_law_787 ?_
  refine pv_top (congrArg ps_int (nI_add i 2)) ?_
  refine pv_sld E hX hbl hbA (vp_in_nI (show i + 2 < n by omega) (by omega)) d_Law_law_788 ?_
  refine pv_top (congrArg ps_int (congrArg xs (nI_clamp (show i + 2 < 2 ^ 31 by omega)))) ?_
  refine pv_aloadR E d_Law_law_789 rfl rfl ?_
  refine pv_iload E d_Law_law_790 rfl ?_
  refine pv_iconst (v := 3) E d_Law_law_792 (by decide) ?_
  refine pv_iadd E d_Law_law_793 ?_
  refine pv_top (congrArg ps_int (nI_add i 3)) ?_
  refine pv_sld E hX hbl hbA (vp_in_nI (show i + 3 < n by omega) (by omega)) d_Law_law_794 ?_
  refine pv_top (congrArg ps_int (congrArg xs (nI_clamp (show i + 3 < 2 ^ 31 by omega)))) ?_
  refine pv_aload_n E d_Law_law_795 rfl rfl ?_
  refine pv_callSW (n := 5) E rfl hZ hYs (fun adr => k_Law_open_0 l htr D ca A _ (xs (i + 1)) (xs (i + 2)) (xs (i + 3)) t g hP hC hb hm hn hl12 adr) wx_613 wd_0 wd_612 wd_611 (by decide +kernel) (by decide +kernel) (by decide +kernel) rfl rfl ⟨by decide, by decide⟩ (Nat.le_of_ble_eq_true rfl) d_Law_law_796 ⟨by show _ ≤ 601024; dsimp only; omega, by show _ ≤ 7293034; dsimp only; omega⟩ (fun r796 σ796 hq796 => ?_)
  obtain ⟨hr796, σ1, hP1, hf1, hs1⟩ := hq796
  subst r796
  subst hs1
  have hM1 := (hM.fc hf1).sJ (v := Int32.toInt64 (nI (tN t)))
  refine pv_istore E d_Law_law_799 (by decide) ?_
  refine pv_aload_n E d_Law_law_801 rfl rfl ?_
  refine pv_aloadR E d_Law_law_802 rfl rfl ?_
  refine pv_iload E d_Law_law_803 rfl ?_
  refine pv_iconst (v := 1) E d_Law_law_805 (by decide) ?_
  refine pv_iadd E d_Law_law_806 ?_
  refine pv_top (congrArg ps_int (nI_add i 1)) ?_
  refine pv_sld E hX hbl hbA (vp_in_nI (show i + 1 < n by omega) (by omega)) d_Law_law_807 ?_
  refine pv_top (congrArg ps_int (congrArg xs (nI_clamp (show i + 1 < 2 ^ 31 by omega)))) ?_
  refine pv_aloadR E d_Law_law_808 rfl rfl ?_
  refine pv_iload E d_Law_law_809 rfl ?_
  refine pv_iconst (v := 2) E d_Law_law_811 (by decide) ?_
  refine pv_iadd E d_Law_law_812 ?_
  refine pv_top (congrArg ps_int (nI_add i 2)) ?_
  refine pv_sld E hX hbl hbA (vp_in_nI (show i + 2 < n by omega) (by omega)) d_Law_law_813 ?_
  refine pv_top (congrArg ps_int (congrArg xs (nI_clamp (show i + 2 < 2 ^ 31 by omega)))) ?_
  refine pv_aloadR E d_Law_law_814 rfl rfl ?_
  refine pv_iload E d_Law_law_815 rfl ?_
  refine pv_iconst (v := 3) E d_Law_law_817 (by decide) ?_
  refine pv_iadd E d_Law_law_818 ?_
  refine pv_top (congrArg ps_int (nI_add i 3)) ?_
  refine pv_sld E hX hbl hbA (vp_in_nI (show i + 3 < n by omega) (by omega)) d_Law_law_819 ?_
  refine pv_top (congrArg ps_int (congrArg xs (nI_clamp (show i + 3 < 2 ^ 31 by omega)))) ?_
  refine pv_callV E (fun adr => k_Mod_open_0 l D ca A _ (xs (i + 1)) (xs (i + 2)) (xs (i + 3)) t g hM1 hW hb hm hn hC.1 hY adr) yv_Mod_open wd_1008 rfl rfl (fun _ => ⟨_, rfl⟩) rfl ⟨by decide, by decide⟩ (Nat.le_of_ble_eq_true rfl) d_Law_law_820 ⟨by show _ ≤ 601024; dsimp only; omega, by show _ ≤ 7293034; dsimp only; omega⟩ (fun r820 σ820 hq820 => ?_)
  obtain ⟨hr820, hM2, hX2, ht2, hf2⟩ := hq820
  subst r820
  refine pv_istore E d_Law_law_823 (by decide) ?_
  refine pv_aload_n E d_Law_law_825 rfl rfl ?_
  refine pv_callV E (fun adr => k_Mod_thrown l D ca A _ adr) yv_Mod_thrown wd_896 rfl rfl (fun _ => ⟨_, rfl⟩) rfl ⟨by decide, by decide⟩ (Nat.le_of_ble_eq_true rfl) d_Law_law_826 ⟨by show _ ≤ 601024; dsimp only; omega, by show _ ≤ 7293034; dsimp only; omega⟩ (fun r826 σ826 hq826 => ?_)
  obtain ⟨hr826, hs826⟩ := hq826
  subst r826
  subst σ826
  refine pv_top (congrArg ps_int ht2) ?_
  refine pv_iload E d_Law_law_829 rfl ?_
  refine pv_icmp_eq (tgt := 836) E d_Law_law_831 rfl (fun h831 => ?_) (fun h831 => ?_)
  · skip
    refine pv_iload E d_Law_law_836 rfl ?_
    refine pv_if_ne (tgt := 853) E d_Law_law_838 rfl (fun h838 => ?_) (fun h838 => ?_)
    · skip
      exact absurd rfl h838
    · skip
      refine pv_aload_n E d_Law_law_841 rfl rfl ?_
      refine pv_iconst (v := 0) E d_Law_law_842 (by decide) ?_
      refine pv_laload (t0 := 5) E 12 _ (fun _ _ _ _ _ => rfl) rfl (l12_in (hf2.l12 (hf1.l12 hl12))) d_Law_law_843 ?_
      refine pv_top (congrArg ps_lng (hf2.j12 (sJ_J _ _))) ?_
      refine pv_iload E d_Law_law_844 rfl ?_
      refine pv_i2l E d_Law_law_846 ?_
      refine pv_lcmp E d_Law_law_847 ?_
      refine pv_if_eq (tgt := 853) E d_Law_law_848 rfl (fun h848 => ?_) (fun h848 => ?_)
      · skip
        refine pv_goto (tgt := 1214) E d_Law_law_853 rfl ?_
        exact pv_sub (L' := [(0, ps_raw b), (1, ps_ref (some (0, 0))), (2, ps_ref (some (13, 0))), (3, ps_ref (some (12, 0))), (4, ps_int (nI i))]) ⟨rfl, rfl, rfl, rfl, rfl, trivial⟩ (kk _ _ _ _ _ (LI.fin hP1.sJ (hf1.l12 hl12) hM2 hf2 (hV.op hm hn par_lt hb.2.2)) (by dsimp only; omega) (by dsimp only; omega))
      · skip
        exact absurd (cmp0 _) h848
  · skip
    exact absurd rfl h831
set_option maxHeartbeats 8000000 in
set_option maxRecDepth 100000 in
theorem lc_open_A {p : Program} {e : Env} {s : State} {m : MethodId} {args : Array Value} {below : List Frame} {meth : Method} {c : Code} {D : va_G} {ca : Nat → ClassId} {A : Nat → Prop} {adr0 : Nat → Nat → Nat} {σ0 : ps_S} {Q : State → Prop} (l : Launch) (htr : l.stackTraces = false) (E : ps_E p s m c code 7 "PromiseScopesLaw" D ca) {b n : Nat} {xs : Nat → Int32} (hX : va_X b n xs s s.heap) (hbl : b < s.heap.size) (hbA : ¬ A b) (hZ : ps_Z A s) (hYs : ps_Y s) {σ : ps_S} {t : tT} {g : gT} (hI : LI σ t g) {i : Nat} (hin : i + 7 ≤ n) (hn84 : n ≤ 3584) {ce sl : Nat} (hce : ce + 8 ≤ 601024) (hsl : sl + 64 ≤ 7293034) (hb : ¬ a_opn t (xs (i + 1)) (xs (i + 2))) (kk : ∀ σ' t' g' ce' sl', LI σ' t' g' → ce' ≤ ce + 8 → sl' ≤ sl + 64 → ps_V p l e room_1 s m args below meth c 7 D ca A s.heap adr0 σ0 Q 1214 [(0, ps_raw b), (1, ps_ref (some (0, 0))), (2, ps_ref (some (13, 0))), (3, ps_ref (some (12, 0))), (4, ps_int (nI i))] [] σ' ce' sl') : ps_V p l e room_1 s m args below meth c 7 D ca A s.heap adr0 σ0 Q 776 [(0, ps_raw b), (1, ps_ref (some (0, 0))), (2, ps_ref (some (13, 0))), (3, ps_ref (some (12, 0))), (4, ps_int (nI i))] [] σ ce sl := by
  have hP := hI.1
  have hM := hI.2.1
  have hV := hI.2.2.1
  have hl12 := hI.2.2.2
  have hC := hV.C
  have hY := hV.Y
  have hW := hC.2.1
  refine pv_aload_n E d_Law_law_776 rfl rfl ?_
  refine pv_aloadR E d_Law_law_777 rfl rfl ?_
  refine pv_iload E d_Law_law_778 rfl ?_
  refine pv_iconst (v := 1) E d_Law_law_780 (by decide) ?_
  refine pv_iadd E d_Law_law_781 ?_
  refine pv_top (congrArg ps_int (nI_add i 1)) ?_
  refine pv_sld E hX hbl hbA (vp_in_nI (show i + 1 < n by omega) (by omega)) d_Law_law_782 ?_
  refine pv_top (congrArg ps_int (congrArg xs (nI_clamp (show i + 1 < 2 ^ 31 by omega)))) ?_
  refine pv_aloadR E d_Law_law_783 rfl rfl ?_
  refine pv_iload E d_Law_law_784 rfl ?_
  refine pv_iconst (v := 2) E d_Law_law_786 (by decide) ?_
  refine pv_iadd E d_Law_law_787 ?_
  refine pv_top (congrArg ps_int (nI_add i 2)) ?_
  refine pv_sld E hX hbl hbA (vp_in_nI (show i + 2 < n by omega) (by omega)) d_Law_law_788 ?_
  refine pv_top (congrArg ps_int (congrArg xs (nI_clamp (show i + 2 < 2 ^ 31 by omega)))) ?_
  refine pv_aloadR E d_Law_law_789 rfl rfl ?_
  refine pv_iload E d_Law_law_790 rfl ?_
  refine pv_iconst (v := 3) E d_Law_law_792 (by decide) ?_
  refine pv_iadd E d_Law_law_793 ?_
  refine pv_top (congrArg ps_int (nI_add i 3)) ?_
  refine pv_sld E hX hbl hbA (vp_in_nI (show i + 3 < n by omega) (by omega)) d_Law_law_794 ?_
  refine pv_top (congrArg ps_int (congrArg xs (nI_clamp (show i + 3 < 2 ^ 31 by omega)))) ?_
  refine pv_aload_n E d_Law_law_795 rfl rfl ?_
  refine pv_callSW (n := 5) E rfl hZ hYs (fun adr => k_Law_open_A l htr D ca A _ (xs (i + 1)) (xs (i + 2)) (xs (i + 3)) t g hP hC hb adr) wx_613 wd_0 wd_612 wd_611 (by decide +kernel) (by decide +kernel) (by decide +kernel) rfl rfl ⟨by decide, by decide⟩ (Nat.le_of_ble_eq_true rfl) d_Law_law_796 ⟨by show _ ≤ 601024; dsimp only; omega, by show _ ≤ 7293034; dsimp only; omega⟩ (fun r796 σ796 hq796 => ?_)
  obtain ⟨hr796, hs796⟩ := hq796
  subst r796
  subst σ796
  refine pv_istore E d_Law_law_799 (by decide) ?_
  refine pv_aload_n E d_Law_law_801 rfl rfl ?_
  refine pv_aloadR E d_Law_law_802 rfl rfl ?_
  refine pv_iload E d_Law_law_803 rfl ?_
  refine pv_iconst (v := 1) E d_Law_law_805 (by decide) ?_
  refine pv_iadd E d_Law_law_806 ?_
  refine pv_top (congrArg ps_int (nI_add i 1)) ?_
  refine pv_sld E hX hbl hbA (vp_in_nI (show i + 1 < n by omega) (by omega)) d_Law_law_807 ?_
  refine pv_top (congrArg ps_int (congrArg xs (nI_clamp (show i + 1 < 2 ^ 31 by omega)))) ?_
  refine pv_aloadR E d_Law_law_808 rfl rfl ?_
  refine pv_iload E d_Law_law_809 rfl ?_
  refine pv_iconst (v := 2) E d_Law_law_811 (by decide) ?_
  refine pv_iadd E d_Law_law_812 ?_
  refine pv_top (congrArg ps_int (nI_add i 2)) ?_
  refine pv_sld E hX hbl hbA (vp_in_nI (show i + 2 < n by omega) (by omega)) d_Law_law_813 ?_
  refine pv_top (congrArg ps_int (congrArg xs (nI_clamp (show i + 2 < 2 ^ 31 by omega)))) ?_
  refine pv_aloadR E d_Law_law_814 rfl rfl ?_
  refine pv_iload E d_Law_law_815 rfl ?_
  refine pv_iconst (v := 3) E d_Law_law_817 (by decide) ?_
  refine pv_iadd E d_Law_law_818 ?_
  refine pv_top (congrArg ps_int (nI_add i 3)) ?_
  refine pv_sld E hX hbl hbA (vp_in_nI (show i + 3 < n by omega) (by omega)) d_Law_law_819 ?_
  refine pv_top (congrArg ps_int (congrArg xs (nI_clamp (show i + 3 < 2 ^ 31 by omega)))) ?_
  refine pv_callV E (fun adr => k_Mod_open_1 l D ca A _ (xs (i + 1)) (xs (i + 2)) (xs (i + 3)) t g hM hW hb hC.1 hY adr) yv_Mod_open wd_1008 rfl rfl (fun _ => ⟨_, rfl⟩) rfl ⟨by decide, by decide⟩ (Nat.le_of_ble_eq_true rfl) d_Law_law_820 ⟨by show _ ≤ 601024; dsimp only; omega, by show _ ≤ 7293034; dsimp only; omega⟩ (fun r820 σ820 hq820 => ?_)
  obtain ⟨hr820, hM2, ht2, hf2⟩ := hq820
  subst r820
  refine pv_istore E d_Law_law_823 (by decide) ?_
  refine pv_aload_n E d_Law_law_825 rfl rfl ?_
  refine pv_callV E (fun adr => k_Mod_thrown l D ca A _ adr) yv_Mod_thrown wd_896 rfl rfl (fun _ => ⟨_, rfl⟩) rfl ⟨by decide, by decide⟩ (Nat.le_of_ble_eq_true rfl) d_Law_law_826 ⟨by show _ ≤ 601024; dsimp only; omega, by show _ ≤ 7293034; dsimp only; omega⟩ (fun r826 σ826 hq826 => ?_)
  obtain ⟨hr826, hs826⟩ := hq826
  subst r826
  subst σ826
  refine pv_top (congrArg ps_int ht2) ?_
  refine pv_iload E d_Law_law_829 rfl ?_
  refine pv_icmp_eq (tgt := 836) E d_Law_law_831 rfl (fun h831 => ?_) (fun h831 => ?_)
  · skip
    refine pv_iload E d_Law_law_836 rfl ?_
    refine pv_if_ne (tgt := 853) E d_Law_law_838 rfl (fun h838 => ?_) (fun h838 => ?_)
    · skip
      refine pv_goto (tgt := 1214) E d_Law_law_853 rfl ?_
      exact pv_sub (L' := [(0, ps_raw b), (1, ps_ref (some (0, 0))), (2, ps_ref (some (13, 0))), (3, ps_ref (some (12, 0))), (4, ps_int (nI i))]) ⟨rfl, rfl, rfl, rfl, rfl, trivial⟩ (kk _ _ _ _ _ (LI.fin hP hl12 hM2 hf2 hV) (by dsimp only; omega) (by dsimp only; omega))
    · skip
      exact absurd h838 (by decide)
  · skip
    exact absurd rfl h831
set_option maxHeartbeats 8000000 in
set_option maxRecDepth 100000 in
theorem lc_open_S {p : Program} {e : Env} {s : State} {m : MethodId} {args : Array Value} {below : List Frame} {meth : Method} {c : Code} {D : va_G} {ca : Nat → ClassId} {A : Nat → Prop} {adr0 : Nat → Nat → Nat} {σ0 : ps_S} {Q : State → Prop} (l : Launch) (htr : l.stackTraces = false) (E : ps_E p s m c code 7 "PromiseScopesLaw" D ca) {b n : Nat} {xs : Nat → Int32} (hX : va_X b n xs s s.heap) (hbl : b < s.heap.size) (hbA : ¬ A b) (hZ : ps_Z A s) (hYs : ps_Y s) {σ : ps_S} {t : tT} {g : gT} (hI : LI σ t g) {i : Nat} (hin : i + 7 ≤ n) (hn84 : n ≤ 3584) {ce sl : Nat} (hce : ce + 8 ≤ 601024) (hsl : sl + 64 ≤ 7293034) (hb : a_opn t (xs (i + 1)) (xs (i + 2))) (hn : ¬ (tN t < 12 ∧ gN g < 48)) (kk : ∀ σ' t' g' ce' sl', LI σ' t' g' → ce' ≤ ce + 8 → sl' ≤ sl + 64 → ps_V p l e room_1 s m args below meth c 7 D ca A s.heap adr0 σ0 Q 1214 [(0, ps_raw b), (1, ps_ref (some (0, 0))), (2, ps_ref (some (13, 0))), (3, ps_ref (some (12, 0))), (4, ps_int (nI i))] [] σ' ce' sl') : ps_V p l e room_1 s m args below meth c 7 D ca A s.heap adr0 σ0 Q 776 [(0, ps_raw b), (1, ps_ref (some (0, 0))), (2, ps_ref (some (13, 0))), (3, ps_ref (some (12, 0))), (4, ps_int (nI i))] [] σ ce sl := by
  have hP := hI.1
  have hM := hI.2.1
  have hV := hI.2.2.1
  have hl12 := hI.2.2.2
  have hC := hV.C
  have hY := hV.Y
  have hW := hC.2.1
  refine pv_aload_n E d_Law_law_776 rfl rfl ?_
  refine pv_aloadR E d_Law_law_777 rfl rfl ?_
  refine pv_iload E d_Law_law_778 rfl ?_
  refine pv_iconst (v := 1) E d_Law_law_780 (by decide) ?_
  refine pv_iadd E d_Law_law_781 ?_
  refine pv_top (congrArg ps_int (nI_add i 1)) ?_
  refine pv_sld E hX hbl hbA (vp_in_nI (show i + 1 < n by omega) (by omega)) d_Law_law_782 ?_
  refine pv_top (congrArg ps_int (congrArg xs (nI_clamp (show i + 1 < 2 ^ 31 by omega)))) ?_
  refine pv_aloadR E d_Law_law_783 rfl rfl ?_
  refine pv_iload E d_Law_law_784 rfl ?_
  refine pv_iconst (v := 2) E d_Law_law_786 (by decide) ?_
  refine pv_iadd E d_Law_law_787 ?_
  refine pv_top (congrArg ps_int (nI_add i 2)) ?_
  refine pv_sld E hX hbl hbA (vp_in_nI (show i + 2 < n by omega) (by omega)) d_Law_law_788 ?_
  refine pv_top (congrArg ps_int (congrArg xs (nI_clamp (show i + 2 < 2 ^ 31 by omega)))) ?_
  refine pv_aloadR E d_Law_law_789 rfl rfl ?_
  refine pv_iload E d_Law_law_790 rfl ?_
  refine pv_iconst (v := 3) E d_Law_law_792 (by decide) ?_
  refine pv_iadd E d_Law_law_793 ?_
  refine pv_top (congrArg ps_int (nI_add i 3)) ?_
  refine pv_sld E hX hbl hbA (vp_in_nI (show i + 3 < n by omega) (by omega)) d_Law_law_794 ?_
  refine pv_top (congrArg ps_int (congrArg xs (nI_clamp (show i + 3 < 2 ^ 31 by omega)))) ?_
  refine pv_aload_n E d_Law_law_795 rfl rfl ?_
  refine pv_callSW (n := 5) E rfl hZ hYs (fun adr => k_Law_open_S l htr D ca A _ (xs (i + 1)) (xs (i + 2)) (xs (i + 3)) t g hP hC hb hn adr) wx_613 wd_0 wd_612 wd_611 (by decide +kernel) (by decide +kernel) (by decide +kernel) rfl rfl ⟨by decide, by decide⟩ (Nat.le_of_ble_eq_true rfl) d_Law_law_796 ⟨by show _ ≤ 601024; dsimp only; omega, by show _ ≤ 7293034; dsimp only; omega⟩ (fun r796 σ796 hq796 => ?_)
  obtain ⟨hr796, hs796⟩ := hq796
  subst r796
  subst σ796
  refine pv_istore E d_Law_law_799 (by decide) ?_
  refine pv_aload_n E d_Law_law_801 rfl rfl ?_
  refine pv_aloadR E d_Law_law_802 rfl rfl ?_
  refine pv_iload E d_Law_law_803 rfl ?_
  refine pv_iconst (v := 1) E d_Law_law_805 (by decide) ?_
  refine pv_iadd E d_Law_law_806 ?_
  refine pv_top (congrArg ps_int (nI_add i 1)) ?_
  refine pv_sld E hX hbl hbA (vp_in_nI (show i + 1 < n by omega) (by omega)) d_Law_law_807 ?_
  refine pv_top (congrArg ps_int (congrArg xs (nI_clamp (show i + 1 < 2 ^ 31 by omega)))) ?_
  refine pv_aloadR E d_Law_law_808 rfl rfl ?_
  refine pv_iload E d_Law_law_809 rfl ?_
  refine pv_iconst (v := 2) E d_Law_law_811 (by decide) ?_
  refine pv_iadd E d_Law_law_812 ?_
  refine pv_top (congrArg ps_int (nI_add i 2)) ?_
  refine pv_sld E hX hbl hbA (vp_in_nI (show i + 2 < n by omega) (by omega)) d_Law_law_813 ?_
  refine pv_top (congrArg ps_int (congrArg xs (nI_clamp (show i + 2 < 2 ^ 31 by omega)))) ?_
  refine pv_aloadR E d_Law_law_814 rfl rfl ?_
  refine pv_iload E d_Law_law_815 rfl ?_
  refine pv_iconst (v := 3) E d_Law_law_817 (by decide) ?_
  refine pv_iadd E d_Law_law_818 ?_
  refine pv_top (congrArg ps_int (nI_add i 3)) ?_
  refine pv_sld E hX hbl hbA (vp_in_nI (show i + 3 < n by omega) (by omega)) d_Law_law_819 ?_
  refine pv_top (congrArg ps_int (congrArg xs (nI_clamp (show i + 3 < 2 ^ 31 by omega)))) ?_
  refine pv_callV E (fun adr => k_Mod_open_2 l D ca A _ (xs (i + 1)) (xs (i + 2)) (xs (i + 3)) t g hM hW hb hn hC.1 hY adr) yv_Mod_open wd_1008 rfl rfl (fun _ => ⟨_, rfl⟩) rfl ⟨by decide, by decide⟩ (Nat.le_of_ble_eq_true rfl) d_Law_law_820 ⟨by show _ ≤ 601024; dsimp only; omega, by show _ ≤ 7293034; dsimp only; omega⟩ (fun r820 σ820 hq820 => ?_)
  obtain ⟨hr820, hM2, ht2, hf2⟩ := hq820
  subst r820
  refine pv_istore E d_Law_law_823 (by decide) ?_
  refine pv_aload_n E d_Law_law_825 rfl rfl ?_
  refine pv_callV E (fun adr => k_Mod_thrown l D ca A _ adr) yv_Mod_thrown wd_896 rfl rfl (fun _ => ⟨_, rfl⟩) rfl ⟨by decide, by decide⟩ (Nat.le_of_ble_eq_true rfl) d_Law_law_826 ⟨by show _ ≤ 601024; dsimp only; omega, by show _ ≤ 7293034; dsimp only; omega⟩ (fun r826 σ826 hq826 => ?_)
  obtain ⟨hr826, hs826⟩ := hq826
  subst r826
  subst σ826
  refine pv_top (congrArg ps_int ht2) ?_
  refine pv_iload E d_Law_law_829 rfl ?_
  refine pv_icmp_eq (tgt := 836) E d_Law_law_831 rfl (fun h831 => ?_) (fun h831 => ?_)
  · skip
    refine pv_iload E d_Law_law_836 rfl ?_
    refine pv_if_ne (tgt := 853) E d_Law_law_838 rfl (fun h838 => ?_) (fun h838 => ?_)
    · skip
      refine pv_goto (tgt := 1214) E d_Law_law_853 rfl ?_
      exact pv_sub (L' := [(0, ps_raw b), (1, ps_ref (some (0, 0))), (2, ps_ref (some (13, 0))), (3, ps_ref (some (12, 0))), (4, ps_int (nI i))]) ⟨rfl, rfl, rfl, rfl, rfl, trivial⟩ (kk _ _ _ _ _ (LI.fin hP hl12 hM2 hf2 hV) (by dsimp only; omega) (by dsimp only; omega))
    · skip
      exact absurd h838 (by decide)
  · skip
    exact absurd rfl h831
set_option maxHeartbeats 8000000 in
set_option maxRecDepth 100000 in
theorem lc_fork_0 {p : Program} {e : Env} {s : State} {m : MethodId} {args : Array Value} {below : List Frame} {meth : Method} {c : Code} {D : va_G} {ca : Nat → ClassId} {A : Nat → Prop} {adr0 : Nat → Nat → Nat} {σ0 : ps_S} {Q : State → Prop} (l : Launch) (htr : l.stackTraces = false) (E : ps_E p s m c code 7 "PromiseScopesLaw" D ca) {b n : Nat} {xs : Nat → Int32} (hX : va_X b n xs s s.heap) (hbl : b < s.heap.size) (hbA : ¬ A b) (hZ : ps_Z A s) (hYs : ps_Y s) {σ : ps_S} {t : tT} {g : gT} (hI : LI σ t g) {i : Nat} (hin : i + 7 ≤ n) (hn84 : n ≤ 3584) {ce sl : Nat} (hce : ce + 8 ≤ 601024) (hsl : sl + 64 ≤ 7293034) (hb : a_frk t (xs (i + 1)) (xs (i + 2)) (xs (i + 3))) (hn : uN t < 30) (kk : ∀ σ' t' g' ce' sl', LI σ' t' g' → ce' ≤ ce + 8 → sl' ≤ sl + 64 → ps_V p l e room_1 s m args below meth c 7 D ca A s.heap adr0 σ0 Q 1214 [(0, ps_raw b), (1, ps_ref (some (0, 0))), (2, ps_ref (some (13, 0))), (3, ps_ref (some (12, 0))), (4, ps_int (nI i))] [] σ' ce' sl') : ps_V p l e room_1 s m args below meth c 7 D ca A s.heap adr0 σ0 Q 905 [(0, ps_raw b), (1, ps_ref (some (0, 0))), (2, ps_ref (some (13, 0))), (3, ps_ref (some (12, 0))), (4, ps_int (nI i))] [] σ ce sl := by
  have hP := hI.1
  have hM := hI.2.1
  have hV := hI.2.2.1
  have hl12 := hI.2.2.2
  have hC := hV.C
  have hY := hV.Y
  have hW := hC.2.1
  refine pv_aload_n E d_Law_law_905 rfl rfl ?_
  refine pv_aloadR E d_Law_law_906 rfl rfl ?_
  refine pv_iload E d_Law_law_907 rfl ?_
  refine pv_iconst (v := 1) E d_Law_law_909 (by decide) ?_
  refine pv_iadd E d_Law_law_910 ?_
  refine pv_top (congrArg ps_int (nI_add i 1)) ?_
  refine pv_sld E hX hbl hbA (vp_in_nI (show i + 1 < n by omega) (by omega)) d_Law_law_911 ?_
  refine pv_top (congrArg ps_int (congrArg xs (nI_clamp (show i + 1 < 2 ^ 31 by omega)))) ?_
  refine pv_aloadR E d_Law_law_912 rfl rfl ?_
  refine pv_iload E d_Law_law_913 rfl ?_
  refine pv_iconst (v := 2) E d_Law_law_915 (by decide) ?_
  refine pv_iadd E d_Law_law_916 ?_
  refine pv_top (congrArg ps_int (nI_add i 2)) ?_
  refine pv_sld E hX hbl hbA (vp_in_nI (show i + 2 < n by omega) (by omega)) d_Law_law_917 ?_
  refine pv_top (congrArg ps_int (congrArg xs (nI_clamp (show i + 2 < 2 ^ 31 by omega)))) ?_
  refine pv_aloadR E d_Law_law_918 rfl rfl ?_
  refine pv_iload E d_Law_law_919 rfl ?_
  refine pv_iconst (v := 3) E d_Law_law_921 (by decide) ?_
  refine pv_iadd E d_Law_law_922 ?_
  refine pv_top (congrArg ps_int (nI_add i 3)) ?_
  refine pv_sld E hX hbl hbA (vp_in_nI (show i + 3 < n by omega) (by omega)) d_Law_law_923 ?_
  refine pv_top (congrArg ps_int (congrArg xs (nI_clamp (show i + 3 < 2 ^ 31 by omega)))) ?_
  refine pv_aloadR E d_Law_law_924 rfl rfl ?_
  refine pv_iload E d_Law_law_925 rfl ?_
  refine pv_iconst (v := 4) E d_Law_law_927 (by decide) ?_
  refine pv_iadd E d_Law_law_928 ?_
  refine pv_top (congrArg ps_int (nI_add i 4)) ?_
  refine pv_sld E hX hbl hbA (vp_in_nI (show i + 4 < n by omega) (by omega)) d_Law_law_929 ?_
  refine pv_top (congrArg ps_int (congrArg xs (nI_clamp (show i + 4 < 2 ^ 31 by omega)))) ?_
  refine pv_aload_n E d_Law_law_930 rfl rfl ?_
  refine pv_callSW (n := 6) E rfl hZ hYs (fun adr => k_Law_fork_0 l htr D ca A _ (xs (i + 1)) (xs (i + 2)) (xs (i + 3)) (xs (i + 4)) t g hP hC hb hn hl12 adr) wx_684 wd_0 wd_683 wd_682 (by decide +kernel) (by decide +kernel) (by decide +kernel) rfl rfl ⟨by decide, by decide⟩ (Nat.le_of_ble_eq_true rfl) d_Law_law_931 ⟨by show _ ≤ 601024; dsimp only; omega, by show _ ≤ 7293034; dsimp only; omega⟩ (fun r931 σ931 hq931 => ?_)
  obtain ⟨hr931, σ1, hP1, hf1, hs1⟩ := hq931
  subst r931
  subst hs1
  have hM1 := (hM.fc hf1).sJ (v := Int32.toInt64 (nI (uN t)))
  refine pv_istore E d_Law_law_934 (by decide) ?_
  refine pv_aload_n E d_Law_law_936 rfl rfl ?_
  refine pv_aloadR E d_Law_law_937 rfl rfl ?_
  refine pv_iload E d_Law_law_938 rfl ?_
  refine pv_iconst (v := 1) E d_Law_law_940 (by decide) ?_
  refine pv_iadd E d_Law_law_941 ?_
  refine pv_top (congrArg ps_int (nI_add i 1)) ?_
  refine pv_sld E hX hbl hbA (vp_in_nI (show i + 1 < n by omega) (by omega)) d_Law_law_942 ?_
  refine pv_top (congrArg ps_int (congrArg xs (nI_clamp (show i + 1 < 2 ^ 31 by omega)))) ?_
  refine pv_aloadR E d_Law_law_943 rfl rfl ?_
  refine pv_iload E d_Law_law_944 rfl ?_
  refine pv_iconst (v := 2) E d_Law_law_946 (by decide) ?_
  refine pv_iadd E d_Law_law_947 ?_
  refine pv_top (congrArg ps_int (nI_add i 2)) ?_
  refine pv_sld E hX hbl hbA (vp_in_nI (show i + 2 < n by omega) (by omega)) d_Law_law_948 ?_
  refine pv_top (congrArg ps_int (congrArg xs (nI_clamp (show i + 2 < 2 ^ 31 by omega)))) ?_
  refine pv_aloadR E d_Law_law_949 rfl rfl ?_
  refine pv_iload E d_Law_law_950 rfl ?_
  refine pv_iconst (v := 3) E d_Law_law_952 (by decide) ?_
  refine pv_iadd E d_Law_law_953 ?_
  refine pv_top (congrArg ps_int (nI_add i 3)) ?_
  refine pv_sld E hX hbl hbA (vp_in_nI (show i + 3 < n by omega) (by omega)) d_Law_law_954 ?_
  refine pv_top (congrArg ps_int (congrArg xs (nI_clamp (show i + 3 < 2 ^ 31 by omega)))) ?_
  refine pv_aloadR E d_Law_law_955 rfl rfl ?_
  refine pv_iload E d_Law_law_956 rfl ?_
  refine pv_iconst (v := 4) E d_Law_law_958 (by decide) ?_
  refine pv_iadd E d_Law_law_959 ?_
  refine pv_top (congrArg ps_int (nI_add i 4)) ?_
  refine pv_sld E hX hbl hbA (vp_in_nI (show i + 4 < n by omega) (by omega)) d_Law_law_960 ?_
  refine pv_top (congrArg ps_int (congrArg xs (nI_clamp (show i + 4 < 2 ^ 31 by omega)))) ?_
  refine pv_callV E (fun adr => k_Mod_fork_0 l D ca A _ (xs (i + 1)) (xs (i + 2)) (xs (i + 3)) (xs (i + 4)) t g hM1 hW hb hn adr) yv_Mod_fork wd_1032 rfl rfl (fun _ => ⟨_, rfl⟩) rfl ⟨by decide, by decide⟩ (Nat.le_of_ble_eq_true rfl) d_Law_law_961 ⟨by show _ ≤ 601024; dsimp only; omega, by show _ ≤ 7293034; dsimp only; omega⟩ (fun r961 σ961 hq961 => ?_)
  obtain ⟨hr961, hM2, ht2, hf2⟩ := hq961
  subst r961
  refine pv_istore E d_Law_law_964 (by decide) ?_
  refine pv_aload_n E d_Law_law_966 rfl rfl ?_
  refine pv_callV E (fun adr => k_Mod_thrown l D ca A _ adr) yv_Mod_thrown wd_896 rfl rfl (fun _ => ⟨_, rfl⟩) rfl ⟨by decide, by decide⟩ (Nat.le_of_ble_eq_true rfl) d_Law_law_967 ⟨by show _ ≤ 601024; dsimp only; omega, by show _ ≤ 7293034; dsimp only; omega⟩ (fun r967 σ967 hq967 => ?_)
  obtain ⟨hr967, hs967⟩ := hq967
  subst r967
  subst σ967
  refine pv_top (congrArg ps_int ht2) ?_
  refine pv_iload E d_Law_law_970 rfl ?_
  refine pv_icmp_eq (tgt := 977) E d_Law_law_972 rfl (fun h972 => ?_) (fun h972 => ?_)
  · skip
    refine pv_iload E d_Law_law_977 rfl ?_
    refine pv_if_ne (tgt := 994) E d_Law_law_979 rfl (fun h979 => ?_) (fun h979 => ?_)
    · skip
      exact absurd rfl h979
    · skip
      refine pv_aload_n E d_Law_law_982 rfl rfl ?_
      refine pv_iconst (v := 0) E d_Law_law_983 (by decide) ?_
      refine pv_laload (t0 := 5) E 12 _ (fun _ _ _ _ _ => rfl) rfl (l12_in (hf2.l12 (hf1.l12 hl12))) d_Law_law_984 ?_
      refine pv_top (congrArg ps_lng (hf2.j12 (sJ_J _ _))) ?_
      refine pv_iload E d_Law_law_985 rfl ?_
      refine pv_i2l E d_Law_law_987 ?_
      refine pv_lcmp E d_Law_law_988 ?_
      refine pv_if_eq (tgt := 994) E d_Law_law_989 rfl (fun h989 => ?_) (fun h989 => ?_)
      · skip
        refine pv_goto (tgt := 1214) E d_Law_law_994 rfl ?_
        exact pv_sub (L' := [(0, ps_raw b), (1, ps_ref (some (0, 0))), (2, ps_ref (some (13, 0))), (3, ps_ref (some (12, 0))), (4, ps_int (nI i))]) ⟨rfl, rfl, rfl, rfl, rfl, trivial⟩ (kk _ _ _ _ _ (LI.fin hP1.sJ (hf1.l12 hl12) hM2 hf2 (hV.fk hn hb.1.1.2 hb.1.2 (cost_ok hb.2.1) hb.2.2)) (by dsimp only; omega) (by dsimp only; omega))
      · skip
        exact absurd (cmp0 _) h989
  · skip
    exact absurd rfl h972
set_option maxHeartbeats 8000000 in
set_option maxRecDepth 100000 in
theorem lc_fork_A {p : Program} {e : Env} {s : State} {m : MethodId} {args : Array Value} {below : List Frame} {meth : Method} {c : Code} {D : va_G} {ca : Nat → ClassId} {A : Nat → Prop} {adr0 : Nat → Nat → Nat} {σ0 : ps_S} {Q : State → Prop} (l : Launch) (htr : l.stackTraces = false) (E : ps_E p s m c code 7 "PromiseScopesLaw" D ca) {b n : Nat} {xs : Nat → Int32} (hX : va_X b n xs s s.heap) (hbl : b < s.heap.size) (hbA : ¬ A b) (hZ : ps_Z A s) (hYs : ps_Y s) {σ : ps_S} {t : tT} {g : gT} (hI : LI σ t g) {i : Nat} (hin : i + 7 ≤ n) (hn84 : n ≤ 3584) {ce sl : Nat} (hce : ce + 8 ≤ 601024) (hsl : sl + 64 ≤ 7293034) (hb : ¬ a_frk t (xs (i + 1)) (xs (i + 2)) (xs (i + 3))) (kk : ∀ σ' t' g' ce' sl', LI σ' t' g' → ce' ≤ ce + 8 → sl' ≤ sl + 64 → ps_V p l e room_1 s m args below meth c 7 D ca A s.heap adr0 σ0 Q 1214 [(0, ps_raw b), (1, ps_ref (some (0, 0))), (2, ps_ref (some (13, 0))), (3, ps_ref (some (12, 0))), (4, ps_int (nI i))] [] σ' ce' sl') : ps_V p l e room_1 s m args below meth c 7 D ca A s.heap adr0 σ0 Q 905 [(0, ps_raw b), (1, ps_ref (some (0, 0))), (2, ps_ref (some (13, 0))), (3, ps_ref (some (12, 0))), (4, ps_int (nI i))] [] σ ce sl := by
  have hP := hI.1
  have hM := hI.2.1
  have hV := hI.2.2.1
  have hl12 := hI.2.2.2
  have hC := hV.C
  have hY := hV.Y
  have hW := hC.2.1
  refine pv_aload_n E d_Law_law_905 rfl rfl ?_
  refine pv_aloadR E d_Law_law_906 rfl rfl ?_
  refine pv_iload E d_Law_law_907 rfl ?_
  refine pv_iconst (v := 1) E d_Law_law_909 (by decide) ?_
  refine pv_iadd E d_Law_law_910 ?_
  refine pv_top (congrArg ps_int (nI_add i 1)) ?_
  refine pv_sld E hX hbl hbA (vp_in_nI (show i + 1 < n by omega) (by omega)) d_Law_law_911 ?_
  refine pv_top (congrArg ps_int (congrArg xs (nI_clamp (show i + 1 < 2 ^ 31 by omega)))) ?_
  refine pv_aloadR E d_Law_law_912 rfl rfl ?_
  refine pv_iload E d_Law_law_913 rfl ?_
  refine pv_iconst (v := 2) E d_Law_law_915 (by decide) ?_
  refine pv_iadd E d_Law_law_916 ?_
  refine pv_top (congrArg ps_int (nI_add i 2)) ?_
  refine pv_sld E hX hbl hbA (vp_in_nI (show i + 2 < n by omega) (by omega)) d_Law_law_917 ?_
  refine pv_top (congrArg ps_int (congrArg xs (nI_clamp (show i + 2 < 2 ^ 31 by omega)))) ?_
  refine pv_aloadR E d_Law_law_918 rfl rfl ?_
  refine pv_iload E d_Law_law_919 rfl ?_
  refine pv_iconst (v := 3) E d_Law_law_921 (by decide) ?_
  refine pv_iadd E d_Law_law_922 ?_
  refine pv_top (congrArg ps_int (nI_add i 3)) ?_
  refine pv_sld E hX hbl hbA (vp_in_nI (show i + 3 < n by omega) (by omega)) d_Law_law_923 ?_
  refine pv_top (congrArg ps_int (congrArg xs (nI_clamp (show i + 3 < 2 ^ 31 by omega)))) ?_
  refine pv_aloadR E d_Law_law_924 rfl rfl ?_
  refine pv_iload E d_Law_law_925 rfl ?_
  refine pv_iconst (v := 4) E d_Law_law_927 (by decide) ?_
  refine pv_iadd E d_Law_law_928 ?_
  refine pv_top (congrArg ps_int (nI_add i 4)) ?_
  refine pv_sld E hX hbl hbA (vp_in_nI (show i + 4 < n by omega) (by omega)) d_Law_law_929 ?_
  refine pv_top (congrArg ps_int (congrArg xs (nI_clamp (show i + 4 < 2 ^ 31 by omega)))) ?_
  refine pv_aload_n E d_Law_law_930 rfl rfl ?_
  refine pv_callSW (n := 6) E rfl hZ hYs (fun adr => k_Law_fork_A l htr D ca A _ (xs (i + 1)) (xs (i + 2)) (xs (i + 3)) (xs (i + 4)) t g hP hC hb adr) wx_684 wd_0 wd_683 wd_682 (by decide +kernel) (by decide +kernel) (by decide +kernel) rfl rfl ⟨by decide, by decide⟩ (Nat.le_of_ble_eq_true rfl) d_Law_law_931 ⟨by show _ ≤ 601024; dsimp only; omega, by show _ ≤ 7293034; dsimp only; omega⟩ (fun r931 σ931 hq931 => ?_)
  obtain ⟨hr931, hs931⟩ := hq931
  subst r931
  subst σ931
  refine pv_istore E d_Law_law_934 (by decide) ?_
  refine pv_aload_n E d_Law_law_936 rfl rfl ?_
  refine pv_aloadR E d_Law_law_937 rfl rfl ?_
  refine pv_iload E d_Law_law_938 rfl ?_
  refine pv_iconst (v := 1) E d_Law_law_940 (by decide) ?_
  refine pv_iadd E d_Law_law_941 ?_
  refine pv_top (congrArg ps_int (nI_add i 1)) ?_
  refine pv_sld E hX hbl hbA (vp_in_nI (show i + 1 < n by omega) (by omega)) d_Law_law_942 ?_
  refine pv_top (congrArg ps_int (congrArg xs (nI_clamp (show i + 1 < 2 ^ 31 by omega)))) ?_
  refine pv_aloadR E d_Law_law_943 rfl rfl ?_
  refine pv_iload E d_Law_law_944 rfl ?_
  refine pv_iconst (v := 2) E d_Law_law_946 (by decide) ?_
  refine pv_iadd E d_Law_law_947 ?_
  refine pv_top (congrArg ps_int (nI_add i 2)) ?_
  refine pv_sld E hX hbl hbA (vp_in_nI (show i + 2 < n by omega) (by omega)) d_Law_law_948 ?_
  refine pv_top (congrArg ps_int (congrArg xs (nI_clamp (show i + 2 < 2 ^ 31 by omega)))) ?_
  refine pv_aloadR E d_Law_law_949 rfl rfl ?_
  refine pv_iload E d_Law_law_950 rfl ?_
  refine pv_iconst (v := 3) E d_Law_law_952 (by decide) ?_
  refine pv_iadd E d_Law_law_953 ?_
  refine pv_top (congrArg ps_int (nI_add i 3)) ?_
  refine pv_sld E hX hbl hbA (vp_in_nI (show i + 3 < n by omega) (by omega)) d_Law_law_954 ?_
  refine pv_top (congrArg ps_int (congrArg xs (nI_clamp (show i + 3 < 2 ^ 31 by omega)))) ?_
  refine pv_aloadR E d_Law_law_955 rfl rfl ?_
  refine pv_iload E d_Law_law_956 rfl ?_
  refine pv_iconst (v := 4) E d_Law_law_958 (by decide) ?_
  refine pv_iadd E d_Law_law_959 ?_
  refine pv_top (congrArg ps_int (nI_add i 4)) ?_
  refine pv_sld E hX hbl hbA (vp_in_nI (show i + 4 < n by omega) (by omega)) d_Law_law_960 ?_
  refine pv_top (congrArg ps_int (congrArg xs (nI_clamp (show i + 4 < 2 ^ 31 by omega)))) ?_
  refine pv_callV E (fun adr => k_Mod_fork_1 l D ca A _ (xs (i + 1)) (xs (i + 2)) (xs (i + 3)) (xs (i + 4)) t g hM hW hb adr) yv_Mod_fork wd_1032 rfl rfl (fun _ => ⟨_, rfl⟩) rfl ⟨by decide, by decide⟩ (Nat.le_of_ble_eq_true rfl) d_Law_law_961 ⟨by show _ ≤ 601024; dsimp only; omega, by show _ ≤ 7293034; dsimp only; omega⟩ (fun r961 σ961 hq961 => ?_)
  obtain ⟨hr961, hM2, ht2, hf2⟩ := hq961
  subst r961
  refine pv_istore E d_Law_law_964 (by decide) ?_
  refine pv_aload_n E d_Law_law_966 rfl rfl ?_
  refine pv_callV E (fun adr => k_Mod_thrown l D ca A _ adr) yv_Mod_thrown wd_896 rfl rfl (fun _ => ⟨_, rfl⟩) rfl ⟨by decide, by decide⟩ (Nat.le_of_ble_eq_true rfl) d_Law_law_967 ⟨by show _ ≤ 601024; dsimp only; omega, by show _ ≤ 7293034; dsimp only; omega⟩ (fun r967 σ967 hq967 => ?_)
  obtain ⟨hr967, hs967⟩ := hq967
  subst r967
  subst σ967
  refine pv_top (congrArg ps_int ht2) ?_
  refine pv_iload E d_Law_law_970 rfl ?_
  refine pv_icmp_eq (tgt := 977) E d_Law_law_972 rfl (fun h972 => ?_) (fun h972 => ?_)
  · skip
    refine pv_iload E d_Law_law_977 rfl ?_
    refine pv_if_ne (tgt := 994) E d_Law_law_979 rfl (fun h979 => ?_) (fun h979 => ?_)
    · skip
      refine pv_goto (tgt := 1214) E d_Law_law_994 rfl ?_
      exact pv_sub (L' := [(0, ps_raw b), (1, ps_ref (some (0, 0))), (2, ps_ref (some (13, 0))), (3, ps_ref (some (12, 0))), (4, ps_int (nI i))]) ⟨rfl, rfl, rfl, rfl, rfl, trivial⟩ (kk _ _ _ _ _ (LI.fin hP hl12 hM2 hf2 hV) (by dsimp only; omega) (by dsimp only; omega))
    · skip
      exact absurd h979 (by decide)
  · skip
    exact absurd rfl h972
set_option maxHeartbeats 8000000 in
set_option maxRecDepth 100000 in
theorem lc_fork_S {p : Program} {e : Env} {s : State} {m : MethodId} {args : Array Value} {below : List Frame} {meth : Method} {c : Code} {D : va_G} {ca : Nat → ClassId} {A : Nat → Prop} {adr0 : Nat → Nat → Nat} {σ0 : ps_S} {Q : State → Prop} (l : Launch) (htr : l.stackTraces = false) (E : ps_E p s m c code 7 "PromiseScopesLaw" D ca) {b n : Nat} {xs : Nat → Int32} (hX : va_X b n xs s s.heap) (hbl : b < s.heap.size) (hbA : ¬ A b) (hZ : ps_Z A s) (hYs : ps_Y s) {σ : ps_S} {t : tT} {g : gT} (hI : LI σ t g) {i : Nat} (hin : i + 7 ≤ n) (hn84 : n ≤ 3584) {ce sl : Nat} (hce : ce + 8 ≤ 601024) (hsl : sl + 64 ≤ 7293034) (hb : a_frk t (xs (i + 1)) (xs (i + 2)) (xs (i + 3))) (hn : ¬ uN t < 30) (kk : ∀ σ' t' g' ce' sl', LI σ' t' g' → ce' ≤ ce + 8 → sl' ≤ sl + 64 → ps_V p l e room_1 s m args below meth c 7 D ca A s.heap adr0 σ0 Q 1214 [(0, ps_raw b), (1, ps_ref (some (0, 0))), (2, ps_ref (some (13, 0))), (3, ps_ref (some (12, 0))), (4, ps_int (nI i))] [] σ' ce' sl') : ps_V p l e room_1 s m args below meth c 7 D ca A s.heap adr0 σ0 Q 905 [(0, ps_raw b), (1, ps_ref (some (0, 0))), (2, ps_ref (some (13, 0))), (3, ps_ref (some (12, 0))), (4, ps_int (nI i))] [] σ ce sl := by
  have hP := hI.1
  have hM := hI.2.1
  have hV := hI.2.2.1
  have hl12 := hI.2.2.2
  have hC := hV.C
  have hY := hV.Y
  have hW := hC.2.1
  refine pv_aload_n E d_Law_law_905 rfl rfl ?_
  refine pv_aloadR E d_Law_law_906 rfl rfl ?_
  refine pv_iload E d_Law_law_907 rfl ?_
  refine pv_iconst (v := 1) E d_Law_law_909 (by decide) ?_
  refine pv_iadd E d_Law_law_910 ?_
  refine pv_top (congrArg ps_int (nI_add i 1)) ?_
  refine pv_sld E hX hbl hbA (vp_in_nI (show i + 1 < n by omega) (by omega)) d_Law_law_911 ?_
  refine pv_top (congrArg ps_int (congrArg xs (nI_clamp (show i + 1 < 2 ^ 31 by omega)))) ?_
  refine pv_aloadR E d_Law_law_912 rfl rfl ?_
  refine pv_iload E d_Law_law_913 rfl ?_
  refine pv_iconst (v := 2) E d_Law_law_915 (by decide) ?_
  refine pv_iadd E d_Law_law_916 ?_
  refine pv_top (congrArg ps_int (nI_add i 2)) ?_
  refine pv_sld E hX hbl hbA (vp_in_nI (show i + 2 < n by omega) (by omega)) d_Law_law_917 ?_
  refine pv_top (congrArg ps_int (congrArg xs (nI_clamp (show i + 2 < 2 ^ 31 by omega)))) ?_
  refine pv_aloadR E d_Law_law_918 rfl rfl ?_
  refine pv_iload E d_Law_law_919 rfl ?_
  refine pv_iconst (v := 3) E d_Law_law_921 (by decide) ?_
  refine pv_iadd E d_Law_law_922 ?_
  refine pv_top (congrArg ps_int (nI_add i 3)) ?_
  refine pv_sld E hX hbl hbA (vp_in_nI (show i + 3 < n by omega) (by omega)) d_Law_law_923 ?_
  refine pv_top (congrArg ps_int (congrArg xs (nI_clamp (show i + 3 < 2 ^ 31 by omega)))) ?_
  refine pv_aloadR E d_Law_law_924 rfl rfl ?_
  refine pv_iload E d_Law_law_925 rfl ?_
  refine pv_iconst (v := 4) E d_Law_law_927 (by decide) ?_
  refine pv_iadd E d_Law_law_928 ?_
  refine pv_top (congrArg ps_int (nI_add i 4)) ?_
  refine pv_sld E hX hbl hbA (vp_in_nI (show i + 4 < n by omega) (by omega)) d_Law_law_929 ?_
  refine pv_top (congrArg ps_int (congrArg xs (nI_clamp (show i + 4 < 2 ^ 31 by omega)))) ?_
  refine pv_aload_n E d_Law_law_930 rfl rfl ?_
  refine pv_callSW (n := 6) E rfl hZ hYs (fun adr => k_Law_fork_S l htr D ca A _ (xs (i + 1)) (xs (i + 2)) (xs (i + 3)) (xs (i + 4)) t g hP hC hb hn adr) wx_684 wd_0 wd_683 wd_682 (by decide +kernel) (by decide +kernel) (by decide +kernel) rfl rfl ⟨by decide, by decide⟩ (Nat.le_of_ble_eq_true rfl) d_Law_law_931 ⟨by show _ ≤ 601024; dsimp only; omega, by show _ ≤ 7293034; dsimp only; omega⟩ (fun r931 σ931 hq931 => ?_)
  obtain ⟨hr931, hs931⟩ := hq931
  subst r931
  subst σ931
  refine pv_istore E d_Law_law_934 (by decide) ?_
  refine pv_aload_n E d_Law_law_936 rfl rfl ?_
  refine pv_aloadR E d_Law_law_937 rfl rfl ?_
  refine pv_iload E d_Law_law_938 rfl ?_
  refine pv_iconst (v := 1) E d_Law_law_940 (by decide) ?_
  refine pv_iadd E d_Law_law_941 ?_
  refine pv_top (congrArg ps_int (nI_add i 1)) ?_
  refine pv_sld E hX hbl hbA (vp_in_nI (show i + 1 < n by omega) (by omega)) d_Law_law_942 ?_
  refine pv_top (congrArg ps_int (congrArg xs (nI_clamp (show i + 1 < 2 ^ 31 by omega)))) ?_
  refine pv_aloadR E d_Law_law_943 rfl rfl ?_
  refine pv_iload E d_Law_law_944 rfl ?_
  refine pv_iconst (v := 2) E d_Law_law_946 (by decide) ?_
  refine pv_iadd E d_Law_law_947 ?_
  refine pv_top (congrArg ps_int (nI_add i 2)) ?_
  refine pv_sld E hX hbl hbA (vp_in_nI (show i + 2 < n by omega) (by omega)) d_Law_law_948 ?_
  refine pv_top (congrArg ps_int (congrArg xs (nI_clamp (show i + 2 < 2 ^ 31 by omega)))) ?_
  refine pv_aloadR E d_Law_law_949 rfl rfl ?_
  refine pv_iload E d_Law_law_950 rfl ?_
  refine pv_iconst (v := 3) E d_Law_law_952 (by decide) ?_
  refine pv_iadd E d_Law_law_953 ?_
  refine pv_top (congrArg ps_int (nI_add i 3)) ?_
  refine pv_sld E hX hbl hbA (vp_in_nI (show i + 3 < n by omega) (by omega)) d_Law_law_954 ?_
  refine pv_top (congrArg ps_int (congrArg xs (nI_clamp (show i + 3 < 2 ^ 31 by omega)))) ?_
  refine pv_aloadR E d_Law_law_955 rfl rfl ?_
  refine pv_iload E d_Law_law_956 rfl ?_
  refine pv_iconst (v := 4) E d_Law_law_958 (by decide) ?_
  refine pv_iadd E d_Law_law_959 ?_
  refine pv_top (congrArg ps_int (nI_add i 4)) ?_
  refine pv_sld E hX hbl hbA (vp_in_nI (show i + 4 < n by omega) (by omega)) d_Law_law_960 ?_
  refine pv_top (congrArg ps_int (congrArg xs (nI_clamp (show i + 4 < 2 ^ 31 by omega)))) ?_
  refine pv_callV E (fun adr => k_Mod_fork_2 l D ca A _ (xs (i + 1)) (xs (i + 2)) (xs (i + 3)) (xs (i + 4)) t g hM hW hb hn adr) yv_Mod_fork wd_1032 rfl rfl (fun _ => ⟨_, rfl⟩) rfl ⟨by decide, by decide⟩ (Nat.le_of_ble_eq_true rfl) d_Law_law_961 ⟨by show _ ≤ 601024; dsimp only; omega, by show _ ≤ 7293034; dsimp only; omega⟩ (fun r961 σ961 hq961 => ?_)
  obtain ⟨hr961, hM2, ht2, hf2⟩ := hq961
  subst r961
  refine pv_istore E d_Law_law_964 (by decide) ?_
  refine pv_aload_n E d_Law_law_966 rfl rfl ?_
  refine pv_callV E (fun adr => k_Mod_thrown l D ca A _ adr) yv_Mod_thrown wd_896 rfl rfl (fun _ => ⟨_, rfl⟩) rfl ⟨by decide, by decide⟩ (Nat.le_of_ble_eq_true rfl) d_Law_law_967 ⟨by show _ ≤ 601024; dsimp only; omega, by show _ ≤ 7293034; dsimp only; omega⟩ (fun r967 σ967 hq967 => ?_)
  obtain ⟨hr967, hs967⟩ := hq967
  subst r967
  subst σ967
  refine pv_top (congrArg ps_int ht2) ?_
  refine pv_iload E d_Law_law_970 rfl ?_
  refine pv_icmp_eq (tgt := 977) E d_Law_law_972 rfl (fun h972 => ?_) (fun h972 => ?_)
  · skip
    refine pv_iload E d_Law_law_977 rfl ?_
    refine pv_if_ne (tgt := 994) E d_Law_law_979 rfl (fun h979 => ?_) (fun h979 => ?_)
    · skip
      refine pv_goto (tgt := 1214) E d_Law_law_994 rfl ?_
      exact pv_sub (L' := [(0, ps_raw b), (1, ps_ref (some (0, 0))), (2, ps_ref (some (13, 0))), (3, ps_ref (some (12, 0))), (4, ps_int (nI i))]) ⟨rfl, rfl, rfl, rfl, rfl, trivial⟩ (kk _ _ _ _ _ (LI.fin hP hl12 hM2 hf2 hV) (by dsimp only; omega) (by dsimp only; omega))
    · skip
      exact absurd h979 (by decide)
  · skip
    exact absurd rfl h972
set_option maxHeartbeats 8000000 in
set_option maxRecDepth 100000 in
theorem lc_bound_0 {p : Program} {e : Env} {s : State} {m : MethodId} {args : Array Value} {below : List Frame} {meth : Method} {c : Code} {D : va_G} {ca : Nat → ClassId} {A : Nat → Prop} {adr0 : Nat → Nat → Nat} {σ0 : ps_S} {Q : State → Prop} (l : Launch) (htr : l.stackTraces = false) (E : ps_E p s m c code 7 "PromiseScopesLaw" D ca) {b n : Nat} {xs : Nat → Int32} (hX : va_X b n xs s s.heap) (hbl : b < s.heap.size) (hbA : ¬ A b) (hZ : ps_Z A s) (hYs : ps_Y s) {σ : ps_S} {t : tT} {g : gT} (hI : LI σ t g) {i : Nat} (hin : i + 7 ≤ n) (hn84 : n ≤ 3584) {ce sl : Nat} (hce : ce + 8 ≤ 601024) (hsl : sl + 64 ≤ 7293034) (hb : a_bnd t (xs (i + 1)) (xs (i + 2))) (kk : ∀ σ' t' g' ce' sl', LI σ' t' g' → ce' ≤ ce + 8 → sl' ≤ sl + 64 → ps_V p l e room_1 s m args below meth c 7 D ca A s.heap adr0 σ0 Q 1214 [(0, ps_raw b), (1, ps_ref (some (0, 0))), (2, ps_ref (some (13, 0))), (3, ps_ref (some (12, 0))), (4, ps_int (nI i))] [] σ' ce' sl') : ps_V p l e room_1 s m args below meth c 7 D ca A s.heap adr0 σ0 Q 1109 [(0, ps_raw b), (1, ps_ref (some (0, 0))), (2, ps_ref (some (13, 0))), (3, ps_ref (some (12, 0))), (4, ps_int (nI i))] [] σ ce sl := by
  have hP := hI.1
  have hM := hI.2.1
  have hV := hI.2.2.1
  have hl12 := hI.2.2.2
  have hC := hV.C
  have hY := hV.Y
  have hW := hC.2.1
  refine pv_aload_n E d_Law_law_1109 rfl rfl ?_
  refine pv_aloadR E d_Law_law_1110 rfl rfl ?_
  refine pv_iload E d_Law_law_1111 rfl ?_
  refine pv_iconst (v := 1) E d_Law_law_1113 (by decide) ?_
  refine pv_iadd E d_Law_law_1114 ?_
  refine pv_top (congrArg ps_int (nI_add i 1)) ?_
  refine pv_sld E hX hbl hbA (vp_in_nI (show i + 1 < n by omega) (by omega)) d_Law_law_1115 ?_
  refine pv_top (congrArg ps_int (congrArg xs (nI_clamp (show i + 1 < 2 ^ 31 by omega)))) ?_
  refine pv_aloadR E d_Law_law_1116 rfl rfl ?_
  refine pv_iload E d_Law_law_1117 rfl ?_
  refine pv_iconst (v := 2) E d_Law_law_1119 (by decide) ?_
  refine pv_iadd E d_Law_law_1120 ?_
  refine pv_top (congrArg ps_int (nI_add i 2)) ?_
  refine pv_sld E hX hbl hbA (vp_in_nI (show i + 2 < n by omega) (by omega)) d_Law_law_1121 ?_
  refine pv_top (congrArg ps_int (congrArg xs (nI_clamp (show i + 2 < 2 ^ 31 by omega)))) ?_
  refine pv_aload_n E d_Law_law_1122 rfl rfl ?_
  refine pv_callSW (n := 4) E rfl hZ hYs (fun adr => k_Law_bound_0 l htr D ca A _ (xs (i + 1)) (xs (i + 2)) t g hP hC hb hl12 adr) wx_749 wd_0 wd_748 wd_747 (by decide +kernel) (by decide +kernel) (by decide +kernel) rfl rfl ⟨by decide, by decide⟩ (Nat.le_of_ble_eq_true rfl) d_Law_law_1123 ⟨by show _ ≤ 601024; dsimp only; omega, by show _ ≤ 7293034; dsimp only; omega⟩ (fun r1123 σ1123 hq1123 => ?_)
  obtain ⟨hr1123, hs1⟩ := hq1123
  subst r1123
  subst hs1
  have hM1 := hM.sJ (v := Int32.toInt64 (t_look t (xs (i + 1)).toNatClampNeg (xs (i + 2)).toNatClampNeg))
  refine pv_istore E d_Law_law_1126 (by decide) ?_
  refine pv_aload_n E d_Law_law_1128 rfl rfl ?_
  refine pv_aloadR E d_Law_law_1129 rfl rfl ?_
  refine pv_iload E d_Law_law_1130 rfl ?_
  refine pv_iconst (v := 1) E d_Law_law_1132 (by decide) ?_
  refine pv_iadd E d_Law_law_1133 ?_
  refine pv_top (congrArg ps_int (nI_add i 1)) ?_
  refine pv_sld E hX hbl hbA (vp_in_nI (show i + 1 < n by omega) (by omega)) d_Law_law_1134 ?_
  refine pv_top (congrArg ps_int (congrArg xs (nI_clamp (show i + 1 < 2 ^ 31 by omega)))) ?_
  refine pv_aloadR E d_Law_law_1135 rfl rfl ?_
  refine pv_iload E d_Law_law_1136 rfl ?_
  refine pv_iconst (v := 2) E d_Law_law_1138 (by decide) ?_
  refine pv_iadd E d_Law_law_1139 ?_
  refine pv_top (congrArg ps_int (nI_add i 2)) ?_
  refine pv_sld E hX hbl hbA (vp_in_nI (show i + 2 < n by omega) (by omega)) d_Law_law_1140 ?_
  refine pv_top (congrArg ps_int (congrArg xs (nI_clamp (show i + 2 < 2 ^ 31 by omega)))) ?_
  refine pv_callV E (fun adr => k_Mod_bound_0 l D ca A _ (xs (i + 1)) (xs (i + 2)) t g hM1 hW hb adr) yv_Mod_bound wd_1024 rfl rfl (fun _ => ⟨_, rfl⟩) rfl ⟨by decide, by decide⟩ (Nat.le_of_ble_eq_true rfl) d_Law_law_1141 ⟨by show _ ≤ 601024; dsimp only; omega, by show _ ≤ 7293034; dsimp only; omega⟩ (fun r1141 σ1141 hq1141 => ?_)
  obtain ⟨hr1141, hM2, ht2, hf2⟩ := hq1141
  subst r1141
  refine pv_istore E d_Law_law_1144 (by decide) ?_
  refine pv_aload_n E d_Law_law_1146 rfl rfl ?_
  refine pv_callV E (fun adr => k_Mod_thrown l D ca A _ adr) yv_Mod_thrown wd_896 rfl rfl (fun _ => ⟨_, rfl⟩) rfl ⟨by decide, by decide⟩ (Nat.le_of_ble_eq_true rfl) d_Law_law_1147 ⟨by show _ ≤ 601024; dsimp only; omega, by show _ ≤ 7293034; dsimp only; omega⟩ (fun r1147 σ1147 hq1147 => ?_)
  obtain ⟨hr1147, hs1147⟩ := hq1147
  subst r1147
  subst σ1147
  refine pv_top (congrArg ps_int ht2) ?_
  refine pv_iload E d_Law_law_1150 rfl ?_
  refine pv_icmp_eq (tgt := 1157) E d_Law_law_1152 rfl (fun h1152 => ?_) (fun h1152 => ?_)
  · skip
    refine pv_iload E d_Law_law_1157 rfl ?_
    refine pv_if_ne (tgt := 1174) E d_Law_law_1159 rfl (fun h1159 => ?_) (fun h1159 => ?_)
    · skip
      exact absurd rfl h1159
    · skip
      refine pv_aload_n E d_Law_law_1162 rfl rfl ?_
      refine pv_iconst (v := 0) E d_Law_law_1163 (by decide) ?_
      refine pv_laload (t0 := 5) E 12 _ (fun _ _ _ _ _ => rfl) rfl (l12_in (hf2.l12 hl12)) d_Law_law_1164 ?_
      refine pv_top (congrArg ps_lng (hf2.j12 (sJ_J _ _))) ?_
      refine pv_iload E d_Law_law_1165 rfl ?_
      refine pv_i2l E d_Law_law_1167 ?_
      refine pv_lcmp E d_Law_law_1168 ?_
      refine pv_if_eq (tgt := 1174) E d_Law_law_1169 rfl (fun h1169 => ?_) (fun h1169 => ?_)
      · skip
        refine pv_goto (tgt := 1214) E d_Law_law_1174 rfl ?_
        exact pv_sub (L' := [(0, ps_raw b), (1, ps_ref (some (0, 0))), (2, ps_ref (some (13, 0))), (3, ps_ref (some (12, 0))), (4, ps_int (nI i))]) ⟨rfl, rfl, rfl, rfl, rfl, trivial⟩ (kk _ _ _ _ _ (LI.fin hP.sJ hl12 hM2 hf2 hV) (by dsimp only; omega) (by dsimp only; omega))
      · skip
        exact absurd (cmp0 _) h1169
  · skip
    exact absurd rfl h1152
set_option maxHeartbeats 8000000 in
set_option maxRecDepth 100000 in
theorem lc_bound_A {p : Program} {e : Env} {s : State} {m : MethodId} {args : Array Value} {below : List Frame} {meth : Method} {c : Code} {D : va_G} {ca : Nat → ClassId} {A : Nat → Prop} {adr0 : Nat → Nat → Nat} {σ0 : ps_S} {Q : State → Prop} (l : Launch) (htr : l.stackTraces = false) (E : ps_E p s m c code 7 "PromiseScopesLaw" D ca) {b n : Nat} {xs : Nat → Int32} (hX : va_X b n xs s s.heap) (hbl : b < s.heap.size) (hbA : ¬ A b) (hZ : ps_Z A s) (hYs : ps_Y s) {σ : ps_S} {t : tT} {g : gT} (hI : LI σ t g) {i : Nat} (hin : i + 7 ≤ n) (hn84 : n ≤ 3584) {ce sl : Nat} (hce : ce + 8 ≤ 601024) (hsl : sl + 64 ≤ 7293034) (hb : ¬ a_bnd t (xs (i + 1)) (xs (i + 2))) (kk : ∀ σ' t' g' ce' sl', LI σ' t' g' → ce' ≤ ce + 8 → sl' ≤ sl + 64 → ps_V p l e room_1 s m args below meth c 7 D ca A s.heap adr0 σ0 Q 1214 [(0, ps_raw b), (1, ps_ref (some (0, 0))), (2, ps_ref (some (13, 0))), (3, ps_ref (some (12, 0))), (4, ps_int (nI i))] [] σ' ce' sl') : ps_V p l e room_1 s m args below meth c 7 D ca A s.heap adr0 σ0 Q 1109 [(0, ps_raw b), (1, ps_ref (some (0, 0))), (2, ps_ref (some (13, 0))), (3, ps_ref (some (12, 0))), (4, ps_int (nI i))] [] σ ce sl := by
  have hP := hI.1
  have hM := hI.2.1
  have hV := hI.2.2.1
  have hl12 := hI.2.2.2
  have hC := hV.C
  have hY := hV.Y
  have hW := hC.2.1
  refine pv_aload_n E d_Law_law_1109 rfl rfl ?_
  refine pv_aloadR E d_Law_law_1110 rfl rfl ?_
  refine pv_iload E d_Law_law_1111 rfl ?_
  refine pv_iconst (v := 1) E d_Law_law_1113 (by decide) ?_
  refine pv_iadd E d_Law_law_1114 ?_
  refine pv_top (congrArg ps_int (nI_add i 1)) ?_
  refine pv_sld E hX hbl hbA (vp_in_nI (show i + 1 < n by omega) (by omega)) d_Law_law_1115 ?_
  refine pv_top (congrArg ps_int (congrArg xs (nI_clamp (show i + 1 < 2 ^ 31 by omega)))) ?_
  refine pv_aloadR E d_Law_law_1116 rfl rfl ?_
  refine pv_iload E d_Law_law_1117 rfl ?_
  refine pv_iconst (v := 2) E d_Law_law_1119 (by decide) ?_
  refine pv_iadd E d_Law_law_1120 ?_
  refine pv_top (congrArg ps_int (nI_add i 2)) ?_
  refine pv_sld E hX hbl hbA (vp_in_nI (show i + 2 < n by omega) (by omega)) d_Law_law_1121 ?_
  refine pv_top (congrArg ps_int (congrArg xs (nI_clamp (show i + 2 < 2 ^ 31 by omega)))) ?_
  refine pv_aload_n E d_Law_law_1122 rfl rfl ?_
  refine pv_callSW (n := 4) E rfl hZ hYs (fun adr => k_Law_bound_A l htr D ca A _ (xs (i + 1)) (xs (i + 2)) t g hP hC hb adr) wx_749 wd_0 wd_748 wd_747 (by decide +kernel) (by decide +kernel) (by decide +kernel) rfl rfl ⟨by decide, by decide⟩ (Nat.le_of_ble_eq_true rfl) d_Law_law_1123 ⟨by show _ ≤ 601024; dsimp only; omega, by show _ ≤ 7293034; dsimp only; omega⟩ (fun r1123 σ1123 hq1123 => ?_)
  obtain ⟨hr1123, hs1123⟩ := hq1123
  subst r1123
  subst σ1123
  refine pv_istore E d_Law_law_1126 (by decide) ?_
  refine pv_aload_n E d_Law_law_1128 rfl rfl ?_
  refine pv_aloadR E d_Law_law_1129 rfl rfl ?_
  refine pv_iload E d_Law_law_1130 rfl ?_
  refine pv_iconst (v := 1) E d_Law_law_1132 (by decide) ?_
  refine pv_iadd E d_Law_law_1133 ?_
  refine pv_top (congrArg ps_int (nI_add i 1)) ?_
  refine pv_sld E hX hbl hbA (vp_in_nI (show i + 1 < n by omega) (by omega)) d_Law_law_1134 ?_
  refine pv_top (congrArg ps_int (congrArg xs (nI_clamp (show i + 1 < 2 ^ 31 by omega)))) ?_
  refine pv_aloadR E d_Law_law_1135 rfl rfl ?_
  refine pv_iload E d_Law_law_1136 rfl ?_
  refine pv_iconst (v := 2) E d_Law_law_1138 (by decide) ?_
  refine pv_iadd E d_Law_law_1139 ?_
  refine pv_top (congrArg ps_int (nI_add i 2)) ?_
  refine pv_sld E hX hbl hbA (vp_in_nI (show i + 2 < n by omega) (by omega)) d_Law_law_1140 ?_
  refine pv_top (congrArg ps_int (congrArg xs (nI_clamp (show i + 2 < 2 ^ 31 by omega)))) ?_
  refine pv_callV E (fun adr => k_Mod_bound_1 l D ca A _ (xs (i + 1)) (xs (i + 2)) t g hM hW hb adr) yv_Mod_bound wd_1024 rfl rfl (fun _ => ⟨_, rfl⟩) rfl ⟨by decide, by decide⟩ (Nat.le_of_ble_eq_true rfl) d_Law_law_1141 ⟨by show _ ≤ 601024; dsimp only; omega, by show _ ≤ 7293034; dsimp only; omega⟩ (fun r1141 σ1141 hq1141 => ?_)
  obtain ⟨hr1141, hM2, ht2, hf2⟩ := hq1141
  subst r1141
  refine pv_istore E d_Law_law_1144 (by decide) ?_
  refine pv_aload_n E d_Law_law_1146 rfl rfl ?_
  refine pv_callV E (fun adr => k_Mod_thrown l D ca A _ adr) yv_Mod_thrown wd_896 rfl rfl (fun _ => ⟨_, rfl⟩) rfl ⟨by decide, by decide⟩ (Nat.le_of_ble_eq_true rfl) d_Law_law_1147 ⟨by show _ ≤ 601024; dsimp only; omega, by show _ ≤ 7293034; dsimp only; omega⟩ (fun r1147 σ1147 hq1147 => ?_)
  obtain ⟨hr1147, hs1147⟩ := hq1147
  subst r1147
  subst σ1147
  refine pv_top (congrArg ps_int ht2) ?_
  refine pv_iload E d_Law_law_1150 rfl ?_
  refine pv_icmp_eq (tgt := 1157) E d_Law_law_1152 rfl (fun h1152 => ?_) (fun h1152 => ?_)
  · skip
    refine pv_iload E d_Law_law_1157 rfl ?_
    refine pv_if_ne (tgt := 1174) E d_Law_law_1159 rfl (fun h1159 => ?_) (fun h1159 => ?_)
    · skip
      refine pv_goto (tgt := 1214) E d_Law_law_1174 rfl ?_
      exact pv_sub (L' := [(0, ps_raw b), (1, ps_ref (some (0, 0))), (2, ps_ref (some (13, 0))), (3, ps_ref (some (12, 0))), (4, ps_int (nI i))]) ⟨rfl, rfl, rfl, rfl, rfl, trivial⟩ (kk _ _ _ _ _ (LI.fin hP hl12 hM2 hf2 hV) (by dsimp only; omega) (by dsimp only; omega))
    · skip
      exact absurd h1159 (by decide)
  · skip
    exact absurd rfl h1152
