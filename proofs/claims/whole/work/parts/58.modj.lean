set_option maxHeartbeats 8000000 in
set_option maxRecDepth 100000 in
theorem k_Mod_below (l : Launch) (D : va_G) (ca : Nat → ClassId) (A : Nat → Prop) (σ : ps_S) (c o : Nat) (t : tT) (h0 : RM0 σ) (hB : RMB σ t) (hW : tW t) (hc : c < tN t) (ho : o < tN t) : ∀ adr, ps_M l y_Mod_below c_Mod_below 4 (Option.some Jvm.ClassFile.FieldType.boolean) { frames := 0, cells := 0, slots := 0, locals := 0 } D ca A adr σ [ps_ref (some (13, 0)), ps_int (nI c), ps_int (nI o)] (fun rv σ' => rv = some (ps_int (if t_low t c o = true then 1 else 0)) ∧ σ' = σ) := by
  intro adr
  refine ps_M.of (by decide +kernel) (Nat.le_of_ble_eq_true rfl) ?_
  intro p_ e_ s_ m_ args_ below_ meth_ c_ E hr hlk hnm
  have hw12 := hW.1.1
  have hc12 : c < 12 := Nat.lt_of_lt_of_le hc hW.1.1
  refine pv_aload_n E d_Mod_below_0 rfl rfl ?_
  refine gf_Mod_parent E wd_785 d_Mod_below_1 ?_
  refine pv_top (congrArg ps_ref (m_f h0 23 rfl)) ?_
  refine pv_iload_n E d_Mod_below_4 rfl rfl ?_
  refine pv_iaload (t0 := 6) E 14 _ (fun _ _ _ _ _ => rfl) rfl (m_ix h0 14 11 (by decide) (by decide) hc12) d_Mod_below_5 ?_
  refine pv_top (congrArg ps_int ((congrArg (ps_I _ 14 11) (nI_clamp (Nat.lt_trans hc12 (by decide)))).trans (hB.1.2.1 c hc).1.1)) ?_
  refine pv_istore_n E d_Mod_below_6 rfl (by decide) ?_
  refine pv_sub (L' := [(0, ps_ref (some (13, 0))), (1, ps_int (nI c)), (2, ps_int (nI o)), (3, ps_int (m_opt (tP t c)))]) ⟨rfl, rfl, rfl, rfl, trivial⟩ ?_
  refine pv_loop (ι := Option Nat) rk (fun r => [(0, ps_ref (some (13, 0))), (1, ps_int (nI c)), (2, ps_int (nI o)), (3, ps_int (m_opt r))]) (fun _ => σ) (fun r => (∀ y, r = some y → y < tN t) ∧ ∃ m, t_low t c o = t_bel (tP t) m r o ∧ ∀ y, r = some y → y < m) (fun r hr_ ih => ?_) (tP t c) ⟨fun y hy => by have := hW.2.1 c hc y hy; omega, tN t, rfl, fun y hy => by have := hW.2.1 c hc y hy; omega⟩
  obtain ⟨hrl, m, hm, hrm⟩ := hr_
  dsimp only at ih ⊢
  refine pv_iload_n E d_Mod_below_7 rfl rfl ?_
  refine pv_iload_n E d_Mod_below_8 rfl rfl ?_
  refine pv_icmp_le (tgt := 22) E d_Mod_below_9 rfl (fun h9 => ?_) (fun h9 => ?_)
  · skip
    refine pv_iload_n E d_Mod_below_22 rfl rfl ?_
    refine pv_iload_n E d_Mod_below_23 rfl rfl ?_
    refine pv_icmp_ne (tgt := 31) E d_Mod_below_24 rfl (fun h24 => ?_) (fun h24 => ?_)
    · skip
      refine pv_iconst (v := 0) E d_Mod_below_31 (by decide) ?_
      exact pv_zret E hr hlk d_Mod_below_32 (by first | rfl | (apply ps_zb; assumption)) (by decide) (by decide) ⟨by rw [if_neg (by rw [hm]; cases r with | none => rw [t_bel_none]; decide | some y => rw [bel_lt hW.2.1 m y (hrl y rfl) (Nat.lt_of_le_of_ne ((nI_leI (by have := hrl y rfl; omega) (by omega)).mp h9) (fun z => h24 (by rw [z]; rfl)))]; decide)], rfl⟩
    · skip
      refine pv_iconst (v := 1) E d_Mod_below_27 (by decide) ?_
      refine pv_goto (tgt := 32) E d_Mod_below_28 rfl ?_
      exact pv_zret E hr hlk d_Mod_below_32 (by first | rfl | (apply ps_zb; assumption)) (by decide) (by decide) ⟨by rw [if_pos (by rw [hm]; cases r with | none => exact absurd h24 (fun z => absurd (show (-1 : Int32) = nI o from z) (fun q => absurd (show (-1 : Int32) < 0 by decide) (by rw [q]; exact nI_nlt (b := 0) (Nat.zero_le _) (by omega)))) | some y => have e : y = o := (nI_eq (by have := hrl y rfl; omega) (by omega)).mp h24; have := hrm y rfl; rw [show m = (m - 1) + 1 by omega, t_bel, if_pos e])], rfl⟩
  · skip
    obtain ⟨y, hy⟩ : ∃ y, r = some y := m_opt_some (fun z => h9 (Int32.le_of_lt (Int32.lt_of_lt_of_le z (by rw [show (0 : Int32) = nI 0 from rfl, nI_leI (by decide) (by omega)]; exact Nat.zero_le _))))
    have hyN := hrl y hy
    have hy12 : y < 12 := by omega
    have hoy : o < y := Nat.lt_of_not_le (fun z => h9 (by rw [hy]; exact (nI_leI (by omega) (by omega)).mpr z))
    refine pv_aload_n E d_Mod_below_12 rfl rfl ?_
    refine gf_Mod_parent E wd_785 d_Mod_below_13 ?_
    refine pv_top (congrArg ps_ref (m_f h0 23 rfl)) ?_
    refine pv_iload_n E d_Mod_below_16 rfl rfl ?_
    refine pv_top (congrArg ps_int (show m_opt r = nI y from congrArg m_opt hy)) ?_
    refine pv_iaload (t0 := 6) E 14 _ (fun _ _ _ _ _ => rfl) rfl (m_ix h0 14 11 (by decide) (by decide) hy12) d_Mod_below_17 ?_
    refine pv_top (congrArg ps_int ((congrArg (ps_I _ 14 11) (nI_clamp (Nat.lt_trans hy12 (by decide)))).trans (hB.1.2.1 y hyN).1.1)) ?_
    refine pv_istore_n E d_Mod_below_18 rfl (by decide) ?_
    refine pv_goto (tgt := 7) E d_Mod_below_19 rfl ?_
    exact pv_back (ih (tP t y) ⟨fun z hz => by have := hW.2.1 y hyN z hz; omega, m - 1, by have hmy := hrm y hy; rw [hm, hy, show m = (m - 1) + 1 by omega, t_bel, if_neg (by omega)]; rfl, fun z hz => by have := hW.2.1 y hyN z hz; have := hrm y hy; omega⟩ (by rw [hy]; cases hz : tP t y with | none => exact Nat.succ_pos _ | some z => have := hW.2.1 y hyN z hz; show z + 1 < y + 1; omega)) ⟨rfl, rfl, rfl, rfl, trivial⟩
set_option maxHeartbeats 8000000 in
set_option maxRecDepth 100000 in
theorem k_Mod_look (l : Launch) (D : va_G) (ca : Nat → ClassId) (A : Nat → Prop) (σ : ps_S) (c k : Nat) (t : tT) (h0 : RM0 σ) (hS : RMS σ t) (hW : tW t) (hc : c < tN t) (hk : k < 4) : ∀ adr, ps_M l y_Mod_look c_Mod_look 4 (Option.some Jvm.ClassFile.FieldType.int) { frames := 0, cells := 0, slots := 0, locals := 0 } D ca A adr σ [ps_ref (some (13, 0)), ps_int (nI c), ps_int (nI k)] (fun rv σ' => rv = some (ps_int (t_look t c k)) ∧ σ' = σ) := by
  intro adr
  refine ps_M.of (by decide +kernel) (Nat.le_of_ble_eq_true rfl) ?_
  intro p_ e_ s_ m_ args_ below_ meth_ c_ E hr hlk hnm
  have hw12 := hW.1.1
  have hc12 : c < 12 := Nat.lt_of_lt_of_le hc hW.1.1
  refine pv_iload_n E d_Mod_look_0 rfl rfl ?_
  refine pv_istore_n E d_Mod_look_1 rfl (by decide) ?_
  refine pv_sub (L' := [(0, ps_ref (some (13, 0))), (1, ps_int (nI c)), (2, ps_int (nI k)), (3, ps_int (m_opt (some c)))]) ⟨rfl, rfl, rfl, rfl, trivial⟩ ?_
  refine pv_loop (ι := Option Nat) rk (fun r => [(0, ps_ref (some (13, 0))), (1, ps_int (nI c)), (2, ps_int (nI k)), (3, ps_int (m_opt r))]) (fun _ => σ) (fun r => (∀ y, r = some y → y < tN t) ∧ ∃ m, t_look t c k = t_lk t m r k ∧ ∀ y, r = some y → y < m) (fun r hr_ ih => ?_) (some c) ⟨fun y hy => by cases hy; exact hc, tN t, rfl, fun y hy => by cases hy; exact hc⟩
  obtain ⟨hrl, m, hm, hrm⟩ := hr_
  dsimp only at ih ⊢
  refine pv_iload_n E d_Mod_look_2 rfl rfl ?_
  refine pv_if_lt (tgt := 37) E d_Mod_look_3 rfl (fun h3 => ?_) (fun h3 => ?_)
  · skip
    have hrn : r = none := (m_opt_neg (fun j hj => by have := hrl j hj; omega)).mp h3
    refine pv_iload_n E d_Mod_look_37 rfl rfl ?_
    refine pv_if_ge (tgt := 45) E d_Mod_look_38 rfl (fun h38 => ?_) (fun h38 => ?_)
    · skip
      exact absurd h3 (Int32.not_lt.mpr h38)
    · skip
      refine pv_iconst (v := 0) E d_Mod_look_41 (by decide) ?_
      refine pv_goto (tgt := 55) E d_Mod_look_42 rfl ?_
      exact pv_iret E hr hlk d_Mod_look_55 (by decide) (by decide) ⟨by rw [hm, hrn, t_lk_none], rfl⟩
  · skip
    obtain ⟨y, hy⟩ := m_opt_some h3
    have hyN := hrl y hy
    have hy12 : y < 12 := by omega
    refine pv_aload_n E d_Mod_look_6 rfl rfl ?_
    refine gf_Mod_binds E wd_794 d_Mod_look_7 ?_
    refine pv_top (congrArg ps_ref (m_f h0 32 rfl)) ?_
    refine pv_iload_n E d_Mod_look_10 rfl rfl ?_
    refine pv_if_lt (tgt := 22) E d_Mod_look_11 rfl (fun h11 => ?_) (fun h11 => ?_)
    · skip
      exact absurd h11 h3
    · skip
      refine pv_iconst (v := 4) E d_Mod_look_14 (by decide) ?_
      refine pv_iload_n E d_Mod_look_15 rfl rfl ?_
      refine pv_top (congrArg ps_int (show m_opt r = nI y from congrArg m_opt hy)) ?_
      refine pv_imul E d_Mod_look_16 ?_
      refine pv_top (congrArg ps_int (nI_mul4 y)) ?_
      refine pv_iload_n E d_Mod_look_17 rfl rfl ?_
      refine pv_iadd E d_Mod_look_18 ?_
      refine pv_top (congrArg ps_int (nI_add _ _)) ?_
      refine pv_goto (tgt := 23) E d_Mod_look_19 rfl ?_
      refine pv_baload (t0 := 7) E 15 _ (fun _ _ _ _ _ => rfl) rfl (m_ix h0 15 4 (by decide) (by decide) (show 4 * y + k < 48 by omega)) d_Mod_look_23 ?_
      refine pv_top (congrArg ps_int ((congrArg (ps_I _ 15 4) (nI_clamp (Nat.lt_trans (show 4 * y + k < 48 by omega) (by decide)))).trans ((hS.2.1 y hyN).2.2 k hk).1)) ?_
      refine pv_if_ne (tgt := 37) E d_Mod_look_24 rfl (fun h24 => ?_) (fun h24 => ?_)
      · skip
        refine pv_iload_n E d_Mod_look_37 rfl rfl ?_
        refine pv_if_ge (tgt := 45) E d_Mod_look_38 rfl (fun h38 => ?_) (fun h38 => ?_)
        · skip
          refine pv_aload_n E d_Mod_look_45 rfl rfl ?_
          refine gf_Mod_bound E wd_795 d_Mod_look_46 ?_
          refine pv_top (congrArg ps_ref (m_f h0 33 rfl)) ?_
          refine pv_iconst (v := 4) E d_Mod_look_49 (by decide) ?_
          refine pv_iload_n E d_Mod_look_50 rfl rfl ?_
          refine pv_top (congrArg ps_int (show m_opt r = nI y from congrArg m_opt hy)) ?_
          refine pv_imul E d_Mod_look_51 ?_
          refine pv_top (congrArg ps_int (nI_mul4 y)) ?_
          refine pv_iload_n E d_Mod_look_52 rfl rfl ?_
          refine pv_iadd E d_Mod_look_53 ?_
          refine pv_top (congrArg ps_int (nI_add _ _)) ?_
          refine pv_iaload (t0 := 6) E 14 _ (fun _ _ _ _ _ => rfl) rfl (m_ix h0 14 18 (by decide) (by decide) (show 4 * y + k < 48 by omega)) d_Mod_look_54 ?_
          refine pv_top (congrArg ps_int ((congrArg (ps_I _ 14 18) (nI_clamp (Nat.lt_trans (show 4 * y + k < 48 by omega) (by decide)))).trans ((hS.2.1 y hyN).2.2 k hk).2)) ?_
          exact pv_iret E hr hlk d_Mod_look_55 (by decide) (by decide) ⟨by have hmy := hrm y hy; rw [hm, hy, show m = (m - 1) + 1 by omega, t_lk, if_neg h24], rfl⟩
        · skip
          exact absurd (Int32.not_lt.mp h3) h38
      · skip
        refine pv_aload_n E d_Mod_look_27 rfl rfl ?_
        refine gf_Mod_parent E wd_785 d_Mod_look_28 ?_
        refine pv_top (congrArg ps_ref (m_f h0 23 rfl)) ?_
        refine pv_iload_n E d_Mod_look_31 rfl rfl ?_
        refine pv_top (congrArg ps_int (show m_opt r = nI y from congrArg m_opt hy)) ?_
        refine pv_iaload (t0 := 6) E 14 _ (fun _ _ _ _ _ => rfl) rfl (m_ix h0 14 11 (by decide) (by decide) hy12) d_Mod_look_32 ?_
        refine pv_top (congrArg ps_int ((congrArg (ps_I _ 14 11) (nI_clamp (Nat.lt_trans hy12 (by decide)))).trans (hS.2.1 y hyN).1.1)) ?_
        refine pv_istore_n E d_Mod_look_33 rfl (by decide) ?_
        refine pv_goto (tgt := 2) E d_Mod_look_34 rfl ?_
        exact pv_back (ih (tP t y) ⟨fun z hz => by have := hW.2.1 y hyN z hz; omega, m - 1, by have hmy := hrm y hy; rw [hm, hy, show m = (m - 1) + 1 by omega, t_lk, if_pos h24]; rfl, fun z hz => by have := hW.2.1 y hyN z hz; have := hrm y hy; omega⟩ (by rw [hy]; cases hz : tP t y with | none => exact Nat.succ_pos _ | some z => have := hW.2.1 y hyN z hz; show z + 1 < y + 1; omega)) ⟨rfl, rfl, rfl, rfl, trivial⟩
set_option maxHeartbeats 8000000 in
set_option maxRecDepth 100000 in
theorem k_Mod_running (l : Launch) (D : va_G) (ca : Nat → ClassId) (A : Nat → Prop) (σ : ps_S) (c : Nat) (t : tT) (h0 : RM0 σ) (hB : RMB σ t) (hW : tW t) (hc : c < tN t) : ∀ adr, ps_M l y_Mod_running c_Mod_running 4 (Option.some Jvm.ClassFile.FieldType.int) { frames := 0, cells := 0, slots := 0, locals := 0 } D ca A adr σ [ps_ref (some (13, 0)), ps_int (nI c)] (fun rv σ' => rv = some (ps_int (nI (u_cnt t c 0 (uN t)))) ∧ σ' = σ) := by
  intro adr
  refine ps_M.of (by decide +kernel) (Nat.le_of_ble_eq_true rfl) ?_
  intro p_ e_ s_ m_ args_ below_ meth_ c_ E hr hlk hnm
  have hw12 := hW.1.1
  have hc12 : c < 12 := Nat.lt_of_lt_of_le hc hW.1.1
  have hu30 := hW.1.2
  refine pv_iconst (v := 0) E d_Mod_running_0 (by decide) ?_
  refine pv_istore_n E d_Mod_running_1 rfl (by decide) ?_
  refine pv_iconst (v := 0) E d_Mod_running_2 (by decide) ?_
  refine pv_istore_n E d_Mod_running_3 rfl (by decide) ?_
  refine pv_sub (L' := [(0, ps_ref (some (13, 0))), (1, ps_int (nI c)), (2, ps_int (nI (u_cnt t c 0 0))), (3, ps_int (nI 0))]) ⟨rfl, rfl, rfl, rfl, trivial⟩ ?_
  refine pv_loop (ι := Nat) (fun j => uN t - j) (fun j => [(0, ps_ref (some (13, 0))), (1, ps_int (nI c)), (2, ps_int (nI (u_cnt t c 0 j))), (3, ps_int (nI j))]) (fun _ => σ) (fun j => j ≤ uN t) (fun j hj ih => ?_) 0 (Nat.zero_le _)
  dsimp only at ih ⊢
  refine pv_iload_n E d_Mod_running_4 rfl rfl ?_
  refine pv_aload_n E d_Mod_running_5 rfl rfl ?_
  refine gf_Mod_tasks E wd_797 d_Mod_running_6 ?_
  refine pv_top (congrArg ps_int hB.2.1) ?_
  refine pv_icmp_ge (tgt := 45) E d_Mod_running_9 rfl (fun h9 => ?_) (fun h9 => ?_)
  · skip
    have hj2 : uN t ≤ j := (nI_leI (by omega) (by omega)).mp h9
    have hj3 : j = uN t := by omega
    subst hj3
    refine pv_iload_n E d_Mod_running_45 rfl rfl ?_
    exact pv_iret E hr hlk d_Mod_running_46 (by decide) (by decide) ⟨rfl, rfl⟩
  · skip
    have hj2 : j < uN t := Nat.lt_of_not_le (fun z => h9 ((nI_leI (by omega) (by omega)).mpr z))
    have hoj := hW.2.2.1 j hj2
    refine pv_iload_n E d_Mod_running_12 rfl rfl ?_
    refine pv_aload_n E d_Mod_running_13 rfl rfl ?_
    refine gf_Mod_home E wd_798 d_Mod_running_14 ?_
    refine pv_top (congrArg ps_ref (m_f h0 36 rfl)) ?_
    refine pv_iload_n E d_Mod_running_17 rfl rfl ?_
    refine pv_iaload (t0 := 6) E 14 _ (fun _ _ _ _ _ => rfl) rfl (m_ix h0 14 19 (by decide) (by decide) (show j < 30 by omega)) d_Mod_running_18 ?_
    refine pv_top (congrArg ps_int ((congrArg (ps_I _ 14 19) (nI_clamp (Nat.lt_trans (show j < 30 by omega) (by decide)))).trans (hB.2.2.2.1 j hj2).1)) ?_
    refine pv_iload_n E d_Mod_running_19 rfl rfl ?_
    refine pv_icmp_ne (tgt := 36) E d_Mod_running_20 rfl (fun h20 => ?_) (fun h20 => ?_)
    · skip
      have hne : ¬ uO t j = c := fun z => h20 (by rw [z])
      refine pv_iconst (v := 0) E d_Mod_running_36 (by decide) ?_
      refine pv_iadd E d_Mod_running_37 ?_
      refine pv_istore_n E d_Mod_running_38 rfl (by decide) ?_
      refine pv_inc1 E d_Mod_running_39 rfl (by decide) ?_
      refine pv_goto (tgt := 4) E d_Mod_running_42 rfl ?_
      exact pv_back (ih (j + 1) (by omega) (by omega)) ⟨rfl, rfl, congrArg (fun z : Int32 => some (ps_int z)) (by rw [u_cnt, if_neg (fun z => hne z.1)]; exact Int32.add_zero _), congrArg (fun z : Int32 => some (ps_int z)) (nI_1 j), trivial⟩
    · skip
      have heq : uO t j = c := (nI_eq (by omega) (by omega)).mp h20
      refine pv_aload_n E d_Mod_running_23 rfl rfl ?_
      refine gf_Mod_how E wd_803 d_Mod_running_24 ?_
      refine pv_top (congrArg ps_ref (m_f h0 41 rfl)) ?_
      refine pv_iload_n E d_Mod_running_27 rfl rfl ?_
      refine pv_iaload (t0 := 6) E 14 _ (fun _ _ _ _ _ => rfl) rfl (m_ix h0 14 24 (by decide) (by decide) (show j < 30 by omega)) d_Mod_running_28 ?_
      refine pv_top (congrArg ps_int ((congrArg (ps_I _ 14 24) (nI_clamp (Nat.lt_trans (show j < 30 by omega) (by decide)))).trans (hB.2.2.2.1 j hj2).2.2.2.2.2.1)) ?_
      refine pv_if_ne (tgt := 36) E d_Mod_running_29 rfl (fun h29 => ?_) (fun h29 => ?_)
      · skip
        refine pv_iconst (v := 0) E d_Mod_running_36 (by decide) ?_
        refine pv_iadd E d_Mod_running_37 ?_
        refine pv_istore_n E d_Mod_running_38 rfl (by decide) ?_
        refine pv_inc1 E d_Mod_running_39 rfl (by decide) ?_
        refine pv_goto (tgt := 4) E d_Mod_running_42 rfl ?_
        exact pv_back (ih (j + 1) (by omega) (by omega)) ⟨rfl, rfl, congrArg (fun z : Int32 => some (ps_int z)) (by rw [u_cnt, if_neg (fun z => h29 z.2)]; exact Int32.add_zero _), congrArg (fun z : Int32 => some (ps_int z)) (nI_1 j), trivial⟩
      · skip
        refine pv_iconst (v := 1) E d_Mod_running_32 (by decide) ?_
        refine pv_goto (tgt := 37) E d_Mod_running_33 rfl ?_
        refine pv_iadd E d_Mod_running_37 ?_
        refine pv_istore_n E d_Mod_running_38 rfl (by decide) ?_
        refine pv_inc1 E d_Mod_running_39 rfl (by decide) ?_
        refine pv_goto (tgt := 4) E d_Mod_running_42 rfl ?_
        exact pv_back (ih (j + 1) (by omega) (by omega)) ⟨rfl, rfl, congrArg (fun z : Int32 => some (ps_int z)) (by rw [u_cnt, if_pos ⟨heq, h29⟩]; exact nI_1 _), congrArg (fun z : Int32 => some (ps_int z)) (nI_1 j), trivial⟩
