set_option maxHeartbeats 8000000 in
set_option maxRecDepth 100000 in
theorem k_Mod_workOff (l : Launch) (D : va_G) (ca : Nat → ClassId) (A : Nat → Prop) (σ : ps_S)  (g : gT) (h0 : RM0 σ) (hA : RMA σ g 0) (hO : gOK g) (hX : gX g) : ∀ adr, ps_M l y_Mod_workOff c_Mod_workOff 2 (Option.none : Option Jvm.ClassFile.FieldType) { frames := 8, cells := 0, slots := 0, locals := 185 } D ca A adr σ [ps_ref (some (13, 0))] (fun rv σ' => rv = none ∧ RMA σ' (g_work 96 g) 0 ∧ gL (g_work 96 g) = [] ∧ gX (g_work 96 g) ∧ FrA σ σ') := by
  intro adr
  refine ps_M.of (by decide +kernel) (Nat.le_of_ble_eq_true rfl) ?_
  intro p_ e_ s_ m_ args_ below_ meth_ c_ E hr hlk hnm
  refine pv_loop (ι := Nat × ps_S × gT) (fun x => 96 - x.1) (fun x => [(0, ps_ref (some (13, 0)))]) (fun x => x.2.1) (fun x => RMA x.2.1 x.2.2 x.1 ∧ gOK x.2.2 ∧ gX x.2.2 ∧ FrA σ x.2.1 ∧ x.1 + sumN (g_ph x.2.2) (gN x.2.2) ≤ 96 ∧ g_work 96 g = g_work (96 - x.1) x.2.2) (fun x hx_ ih => ?_) (0, σ, g) ⟨hA, hO, hX, FrA.rf σ, by have := ph_96 hO.1; show 0 + sumN (g_ph g) (gN g) ≤ 96; omega, rfl⟩
  obtain ⟨p, τ, γ⟩ := x
  obtain ⟨hT, hOg, hXg, hFr, hph0, hw⟩ := hx_
  dsimp only at hT hOg hXg hFr hph0 hw ih ⊢
  have h0t := h0.A hFr
  have hp200 : p < 200 := by omega
  have hlen : (gL γ).length ≤ 48 := Nat.le_trans (nodup_le (gN γ) (gL γ) (List.nodup_append.mp hOg.2.2.1).1 (fun y hy => (hOg.2.2.2 y (List.mem_append_left _ hy)).1)) hOg.1.1
  refine pv_aload_n E d_Mod_workOff_0 rfl rfl ?_
  refine gf_Mod_lineFrom E wd_777 d_Mod_workOff_1 ?_
  refine pv_top (congrArg ps_int hT.2.1.1) ?_
  refine pv_aload_n E d_Mod_workOff_4 rfl rfl ?_
  refine gf_Mod_lineTo E wd_778 d_Mod_workOff_5 ?_
  refine pv_top (congrArg ps_int hT.2.1.2.1) ?_
  refine pv_icmp_ge (tgt := 39) E d_Mod_workOff_8 rfl (fun h8 => ?_) (fun h8 => ?_)
  · skip
    have hnil : gL γ = [] := by
      have := (nI_leI (by omega) (by omega)).mp h8
      exact List.length_eq_zero_iff.mp (by omega)
    refine pv_aload_n E d_Mod_workOff_39 rfl rfl ?_
    refine pv_iconst (v := 0) E d_Mod_workOff_40 (by decide) ?_
    refine pf_Mod_lineFrom E wd_777 d_Mod_workOff_41 ?_
    refine pv_aload_n E d_Mod_workOff_44 rfl rfl ?_
    refine pv_iconst (v := 0) E d_Mod_workOff_45 (by decide) ?_
    refine pf_Mod_lineTo E wd_778 d_Mod_workOff_46 ?_
    exact pv_vret E hr hlk d_Mod_workOff_49 (by decide) (by decide) ⟨rfl, by rw [hw, work_nil hnil]; exact hT.endL hnil, by rw [hw, work_nil hnil]; exact hnil, by rw [hw, work_nil hnil]; exact hXg, (hFr.tr (FrA.a13 (by decide))).tr (FrA.a13 (by decide))⟩
  · skip
    obtain ⟨k, x, hx⟩ : ∃ k x, gL γ = k :: x := by
      cases z : gL γ with
      | nil => rw [z] at h8; exact absurd (Int32.le_refl _) h8
      | cons k x => exact ⟨k, x, rfl⟩
    have hmL : k ∈ gL γ := by rw [hx]; exact List.mem_cons_self
    have hm := List.mem_append_left (gP γ) hmL
    have hkN := (hOg.2.2.2 k hm).1
    have hof := hXg.2.2 k hmL
    have hph := ph_res (g := gsL γ x) hkN (off_0 hof)
    have hph2 : sumN (g_ph (g_res (gsL γ x) k)) (gN γ) + 1 ≤ sumN (g_ph γ) (gN γ) := hph
    have hnk : k ∉ gL (gsL γ x) ++ gP (gsL γ x) := by
      have hq := hOg.2.2.1
      rw [hx] at hq
      exact (List.nodup_cons.mp hq).1
    refine pv_aload_n E d_Mod_workOff_11 rfl rfl ?_
    refine gf_Mod_line E wd_779 d_Mod_workOff_12 ?_
    refine pv_top (congrArg ps_ref (m_f h0t 17 rfl)) ?_
    refine pv_aload_n E d_Mod_workOff_15 rfl rfl ?_
    refine gf_Mod_lineFrom E wd_777 d_Mod_workOff_16 ?_
    refine pv_top (congrArg ps_int hT.2.1.1) ?_
    refine pv_iaload (t0 := 6) E 14 _ (fun _ _ _ _ _ => rfl) rfl (m_ix h0t 14 9 (by decide) (by decide) hp200) d_Mod_workOff_19 ?_
    refine pv_top (congrArg ps_int ((congrArg (ps_I _ 14 9) (nI_clamp (Nat.lt_trans hp200 (by decide)))).trans (hT.2.1.2.2 0 k (by rw [hx]; rfl)))) ?_
    refine pv_istore_n E d_Mod_workOff_20 rfl (by decide) ?_
    refine pv_aload_n E d_Mod_workOff_21 rfl rfl ?_
    refine pv_dup E d_Mod_workOff_22 rfl ?_
    refine gf_Mod_lineFrom E wd_777 d_Mod_workOff_23 ?_
    refine pv_top (congrArg ps_int hT.2.1.1) ?_
    refine pv_iconst (v := 1) E d_Mod_workOff_26 (by decide) ?_
    refine pv_iadd E d_Mod_workOff_27 ?_
    refine pv_top (congrArg ps_int (nI_1 _)) ?_
    refine pf_Mod_lineFrom E wd_777 d_Mod_workOff_28 ?_
    have hT1 := hT.popL hx
    refine pv_aload_n E d_Mod_workOff_31 rfl rfl ?_
    refine pv_iload_n E d_Mod_workOff_32 rfl rfl ?_
    refine pv_callV E (fun adr => k_Mod_resolve l D ca A _ k (gsL γ x) (p + 1) (h0t.A (FrA.a13 (by decide))) hT1 (hOg.tline hx) (by omega) hkN (fun _ => (hXg.2.1 k hm).resolve_left (by rw [hof]; decide)) (fun j hj => hXg.1 k j hj) adr) yv_Mod_resolve wd_936 rfl rfl (fun _ => ⟨_, rfl⟩) rfl ⟨by decide, by decide⟩ (Nat.le_of_ble_eq_true rfl) d_Mod_workOff_33 ⟨by decide, by decide⟩ (fun r33 σ33 hq33 => ?_)
    obtain ⟨hr33, hA33, hf33⟩ := hq33
    subst r33
    refine pv_goto (tgt := 0) E d_Mod_workOff_36 rfl ?_
    exact pv_back (ih (p + 1, σ33, g_res (gsL γ x) k) ⟨hA33, gOK.res (hOg.tline hx) hkN, (hXg.tl hx).res hnk, (hFr.tr (FrA.a13 (by decide))).tr hf33, by show p + 1 + sumN (g_ph (g_res (gsL γ x) k)) (gN (g_res (gsL γ x) k)) ≤ 96; rw [gN_res]; show p + 1 + sumN (g_ph (g_res (gsL γ x) k)) (gN γ) ≤ 96; omega, by rw [hw, show 96 - p = (96 - (p + 1)) + 1 by omega, work_cons hx]⟩ (by show 96 - (p + 1) < 96 - p; omega)) ⟨rfl, trivial⟩
set_option maxHeartbeats 8000000 in
set_option maxRecDepth 100000 in
theorem k_Mod_make (l : Launch) (D : va_G) (ca : Nat → ClassId) (A : Nat → Prop) (σ : ps_S) (kd s u : Int32) (set : Int64) (f a as fn : Int32) (ins : List Nat) (g : gT) (p : Nat) (h0 : RM0 σ) (hA : RMA σ g p) (hO : gOK g) (hp : p ≤ 150) (hn : gN g < 48) (hO2 : gOK (g_mk g kd fn a as ins)) (hm : m_sh g kd s u set f fn ins) (hb : as = 0 ∨ as = 1) : ∀ adr, ps_M l y_Mod_make c_Mod_make 10 (Option.some Jvm.ClassFile.FieldType.int) { frames := 4, cells := 0, slots := 0, locals := 90 } D ca A adr σ [ps_ref (some (13, 0)), ps_int kd, ps_int s, ps_int u, ps_lng set, ps_int f, ps_int a, ps_int as] (fun rv σ' => rv = some (ps_int (nI (gN g))) ∧ RMA σ' (g_new g kd fn a as ins) p ∧ FrA σ σ') := by
  intro adr
  refine ps_M.of (by decide +kernel) (Nat.le_of_ble_eq_true rfl) ?_
  intro p_ e_ s_ m_ args_ below_ meth_ c_ E hr hlk hnm
  refine pv_aload_n E d_Mod_make_0 rfl rfl ?_
  refine gf_Mod_stages E wd_763 d_Mod_make_1 ?_
  refine pv_top (congrArg ps_int hA.1.1) ?_
  refine pv_istore E d_Mod_make_4 (by decide) ?_
  refine pv_aload_n E d_Mod_make_6 rfl rfl ?_
  refine pv_dup E d_Mod_make_7 rfl ?_
  refine gf_Mod_stages E wd_763 d_Mod_make_8 ?_
  refine pv_top (congrArg ps_int hA.1.1) ?_
  refine pv_iconst (v := 1) E d_Mod_make_11 (by decide) ?_
  refine pv_iadd E d_Mod_make_12 ?_
  refine pv_top (congrArg ps_int (nI_1 _)) ?_
  refine pf_Mod_stages E wd_763 d_Mod_make_13 ?_
  refine pv_aload_n E d_Mod_make_16 rfl rfl ?_
  refine gf_Mod_kind E wd_768 d_Mod_make_17 ?_
  refine pv_top (congrArg ps_ref (m_f h0 6 rfl)) ?_
  refine pv_iload E d_Mod_make_20 rfl ?_
  refine pv_iload_n E d_Mod_make_22 rfl rfl ?_
  refine pv_iastore (t0 := 6) E 14 _ (fun _ _ _ _ _ => rfl) rfl (m_ix h0 14 3 (by decide) (by decide) hn) d_Mod_make_23 ?_
  rw [nI_clamp (Nat.lt_trans hn (by decide))]
  refine pv_aload_n E d_Mod_make_24 rfl rfl ?_
  refine gf_Mod_first E wd_771 d_Mod_make_25 ?_
  refine pv_top (congrArg ps_ref (m_f h0 9 rfl)) ?_
  refine pv_iload E d_Mod_make_28 rfl ?_
  refine pv_iload_n E d_Mod_make_30 rfl rfl ?_
  refine pv_iastore (t0 := 6) E 14 _ (fun _ _ _ _ _ => rfl) rfl (m_ix h0 14 6 (by decide) (by decide) hn) d_Mod_make_31 ?_
  rw [nI_clamp (Nat.lt_trans hn (by decide))]
  refine pv_aload_n E d_Mod_make_32 rfl rfl ?_
  refine gf_Mod_second E wd_772 d_Mod_make_33 ?_
  refine pv_top (congrArg ps_ref (m_f h0 10 rfl)) ?_
  refine pv_iload E d_Mod_make_36 rfl ?_
  refine pv_iload_n E d_Mod_make_38 rfl rfl ?_
  refine pv_iastore (t0 := 6) E 14 _ (fun _ _ _ _ _ => rfl) rfl (m_ix h0 14 7 (by decide) (by decide) hn) d_Mod_make_39 ?_
  rw [nI_clamp (Nat.lt_trans hn (by decide))]
  refine pv_aload_n E d_Mod_make_40 rfl rfl ?_
  refine gf_Mod_inputs E wd_773 d_Mod_make_41 ?_
  refine pv_top (congrArg ps_ref (m_f h0 11 rfl)) ?_
  refine pv_iload E d_Mod_make_44 rfl ?_
  refine pv_lload E d_Mod_make_46 rfl ?_
  refine pv_lastore (t0 := 8) E 16 _ (fun _ _ _ _ _ => rfl) rfl (m_ix h0 16 0 (by decide) (by decide) hn) d_Mod_make_48 ?_
  rw [nI_clamp (Nat.lt_trans hn (by decide))]
  refine pv_aload_n E d_Mod_make_49 rfl rfl ?_
  refine gf_Mod_function E wd_769 d_Mod_make_50 ?_
  refine pv_top (congrArg ps_ref (m_f h0 7 rfl)) ?_
  refine pv_iload E d_Mod_make_53 rfl ?_
  refine pv_iload E d_Mod_make_55 rfl ?_
  refine pv_iastore (t0 := 6) E 14 _ (fun _ _ _ _ _ => rfl) rfl (m_ix h0 14 4 (by decide) (by decide) hn) d_Mod_make_57 ?_
  rw [nI_clamp (Nat.lt_trans hn (by decide))]
  refine pv_aload_n E d_Mod_make_58 rfl rfl ?_
  refine gf_Mod_number E wd_770 d_Mod_make_59 ?_
  refine pv_top (congrArg ps_ref (m_f h0 8 rfl)) ?_
  refine pv_iload E d_Mod_make_62 rfl ?_
  refine pv_iload E d_Mod_make_64 rfl ?_
  refine pv_iastore (t0 := 6) E 14 _ (fun _ _ _ _ _ => rfl) rfl (m_ix h0 14 5 (by decide) (by decide) hn) d_Mod_make_66 ?_
  rw [nI_clamp (Nat.lt_trans hn (by decide))]
  refine pv_aload_n E d_Mod_make_67 rfl rfl ?_
  refine gf_Mod_apart E wd_774 d_Mod_make_68 ?_
  refine pv_top (congrArg ps_ref (m_f h0 12 rfl)) ?_
  refine pv_iload E d_Mod_make_71 rfl ?_
  refine pv_iload E d_Mod_make_73 rfl ?_
  refine pv_bastore (t0 := 7) E 15 _ (fun _ _ _ _ _ => rfl) rfl (m_ix h0 15 0 (by decide) (by decide) hn) (by rcases hb with rfl | rfl <;> rfl) d_Mod_make_75 ?_
  rw [nI_clamp (Nat.lt_trans hn (by decide))]
  refine pv_aload_n E d_Mod_make_76 rfl rfl ?_
  refine gf_Mod_awaits E wd_775 d_Mod_make_77 ?_
  refine pv_top (congrArg ps_ref (m_f h0 13 rfl)) ?_
  refine pv_iload E d_Mod_make_80 rfl ?_
  refine pv_iconst (v := -1) E d_Mod_make_82 (by decide) ?_
  refine pv_iastore (t0 := 6) E 14 _ (fun _ _ _ _ _ => rfl) rfl (m_ix h0 14 8 (by decide) (by decide) hn) d_Mod_make_83 ?_
  rw [nI_clamp (Nat.lt_trans hn (by decide))]
  refine pv_aload_n E d_Mod_make_84 rfl rfl ?_
  refine pv_callV E (fun adr => k_Mod_scan l D ca A _ (g_mk g kd fn a as ins) p (h0.A FrA.mkS) (hA.mk hm) hO2 hp adr) yv_Mod_scan wd_908 rfl rfl (fun _ => ⟨_, rfl⟩) rfl ⟨by decide, by decide⟩ (Nat.le_of_ble_eq_true rfl) d_Mod_make_85 ⟨by decide, by decide⟩ (fun r85 σ85 hq85 => ?_)
  obtain ⟨hr85, hA85, hf85⟩ := hq85
  subst r85
  refine pv_iload E d_Mod_make_88 rfl ?_
  exact pv_iret E hr hlk d_Mod_make_90 (by decide) (by decide) ⟨rfl, hA85, FrA.mkS.tr hf85⟩
