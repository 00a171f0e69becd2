theorem off_0 {g : gT} {k : Nat} (h : g_on g k = false) : gF g k 0 = 0 := by
  unfold g_on at h
  simpa using h
set_option maxHeartbeats 8000000 in
set_option maxRecDepth 100000 in
theorem k_Mod_resolve (l : Launch) (D : va_G) (ca : Nat → ClassId) (A : Nat → Prop) (σ : ps_S) (k : Nat) (g : gT) (p : Nat) (h0 : RM0 σ) (hA : RMA σ g p) (hO : gOK (gsF g k 6 0)) (hp : p ≤ 150) (hk : k < gN g) (hab : gF g k 0 = 0 → g_abl g k = true) (hA4 : ∀ j, gA g k = some j → gF g k 2 = 4) : ∀ adr, ps_M l y_Mod_resolve c_Mod_resolve 6 (Option.none : Option Jvm.ClassFile.FieldType) { frames := 7, cells := 0, slots := 0, locals := 160 } D ca A adr σ [ps_ref (some (13, 0)), ps_int (nI k)] (fun rv σ' => rv = none ∧ RMA σ' (g_res g k) p ∧ FrA σ σ') := by
  intro adr
  refine ps_M.of (by decide +kernel) (Nat.le_of_ble_eq_true rfl) ?_
  intro p_ e_ s_ m_ args_ below_ meth_ c_ E hr hlk hnm
  have hk48 : k < 48 := Nat.lt_of_lt_of_le hk hO.1.1
  refine pv_aload_n E d_Mod_resolve_0 rfl rfl ?_
  refine gf_Mod_queued E wd_776 d_Mod_resolve_1 ?_
  refine pv_top (congrArg ps_ref (m_f h0 14 rfl)) ?_
  refine pv_iload_n E d_Mod_resolve_4 rfl rfl ?_
  refine pv_iconst (v := 0) E d_Mod_resolve_5 (by decide) ?_
  refine pv_bastore (t0 := 7) E 15 _ (fun _ _ _ _ _ => rfl) rfl (m_ix h0 15 1 (by decide) (by decide) hk48) (rfl) d_Mod_resolve_6 ?_
  rw [nI_clamp (Nat.lt_trans hk48 (by decide))]
  have hA0 := hA.que 0 hk
  have h01 := h0.A (FrA.que (σ := σ) (k := k) (v := 0))
  refine pv_aload_n E d_Mod_resolve_7 rfl rfl ?_
  refine pv_iload_n E d_Mod_resolve_8 rfl rfl ?_
  refine pv_callV E (fun adr => k_Mod_settled l D ca A _ k (gsF g k 6 0) h01 hA0.1 hO.1 hk adr) yv_Mod_settled wd_912 rfl rfl (fun _ => ⟨_, rfl⟩) rfl ⟨by decide, by decide⟩ (Nat.le_of_ble_eq_true rfl) d_Mod_resolve_9 ⟨by decide, by decide⟩ (fun r9 σ9 hq9 => ?_)
  obtain ⟨hr9, hs9⟩ := hq9
  subst r9
  subst σ9
  refine pv_if_eq (tgt := 16) E d_Mod_resolve_12 rfl (fun h12 => ?_) (fun h12 => ?_)
  · skip
    have hz0 : gF (gsF g k 6 0) k 0 = 0 := off_0 (if10b h12)
    have hgz : gF g k 0 = 0 := (gF_f g k (by decide)).symm.trans hz0
    obtain ⟨⟨r1, r2, r3, r4, r5, r6, r7⟩, r8, r9⟩ := hA0.1.2.2.1 k hk
    obtain ⟨w1, w2, w3⟩ := hO.1.2.2 k hk
    have hb0 : g_abl (gsF g k 6 0) k = true := (g_abl_que g k 0 k).trans (hab hgz)
    have h9 : ¬ gF (gsF g k 6 0) k 2 = 9 := fun z => by simp [g_abl, z] at hb0
    have hu := hO.1.2.1.2
    refine pv_aload_n E d_Mod_resolve_16 rfl rfl ?_
    refine gf_Mod_kind E wd_768 d_Mod_resolve_17 ?_
    refine pv_top (congrArg ps_ref (m_f h0 6 rfl)) ?_
    refine pv_iload_n E d_Mod_resolve_20 rfl rfl ?_
    refine pv_iaload (t0 := 6) E 14 _ (fun _ _ _ _ _ => rfl) rfl (m_ix h0 14 3 (by decide) (by decide) hk48) d_Mod_resolve_21 ?_
    refine pv_top (congrArg ps_int ((congrArg (ps_I _ 14 3) (nI_clamp (Nat.lt_trans hk48 (by decide)))).trans r4)) ?_
    refine pv_istore_n E d_Mod_resolve_22 rfl (by decide) ?_
    refine pv_aload_n E d_Mod_resolve_23 rfl rfl ?_
    refine gf_Mod_first E wd_771 d_Mod_resolve_24 ?_
    refine pv_top (congrArg ps_ref (m_f h0 9 rfl)) ?_
    refine pv_iload_n E d_Mod_resolve_27 rfl rfl ?_
    refine pv_iaload (t0 := 6) E 14 _ (fun _ _ _ _ _ => rfl) rfl (m_ix h0 14 6 (by decide) (by decide) hk48) d_Mod_resolve_28 ?_
    refine pv_top (congrArg ps_int ((congrArg (ps_I _ 14 6) (nI_clamp (Nat.lt_trans hk48 (by decide)))))) ?_
    refine pv_istore_n E d_Mod_resolve_29 rfl (by decide) ?_
    refine pv_aload_n E d_Mod_resolve_30 rfl rfl ?_
    refine gf_Mod_second E wd_772 d_Mod_resolve_31 ?_
    refine pv_top (congrArg ps_ref (m_f h0 10 rfl)) ?_
    refine pv_iload_n E d_Mod_resolve_34 rfl rfl ?_
    refine pv_iaload (t0 := 6) E 14 _ (fun _ _ _ _ _ => rfl) rfl (m_ix h0 14 7 (by decide) (by decide) hk48) d_Mod_resolve_35 ?_
    refine pv_top (congrArg ps_int ((congrArg (ps_I _ 14 7) (nI_clamp (Nat.lt_trans hk48 (by decide)))))) ?_
    refine pv_istore E d_Mod_resolve_36 (by decide) ?_
    refine pv_aload_n E d_Mod_resolve_38 rfl rfl ?_
    refine gf_Mod_awaits E wd_775 d_Mod_resolve_39 ?_
    refine pv_top (congrArg ps_ref (m_f h0 13 rfl)) ?_
    refine pv_iload_n E d_Mod_resolve_42 rfl rfl ?_
    refine pv_iaload (t0 := 6) E 14 _ (fun _ _ _ _ _ => rfl) rfl (m_ix h0 14 8 (by decide) (by decide) hk48) d_Mod_resolve_43 ?_
    refine pv_top (congrArg ps_int ((congrArg (ps_I _ 14 8) (nI_clamp (Nat.lt_trans hk48 (by decide)))).trans r5)) ?_
    refine pv_if_lt (tgt := 61) E d_Mod_resolve_44 rfl (fun h44 => ?_) (fun h44 => ?_)
    · skip
      have hAn : gA (gsF g k 6 0) k = none := (m_opt_neg (fun j hj => by have := w3 j hj; have := hO.1.1; have : gN (gsF g k 6 0) ≤ 48 := hO.1.1; omega)).mp h44
      refine pv_iload_n E d_Mod_resolve_61 rfl rfl ?_
      refine pv_iconst (v := 5) E d_Mod_resolve_62 (by decide) ?_
      refine pv_icmp_ge (tgt := 75) E d_Mod_resolve_63 rfl (fun h63 => ?_) (fun h63 => ?_)
      · skip
        refine pv_iload_n E d_Mod_resolve_75 rfl rfl ?_
        refine pv_iconst (v := 5) E d_Mod_resolve_76 (by decide) ?_
        refine pv_icmp_ne (tgt := 139) E d_Mod_resolve_77 rfl (fun h77 => ?_) (fun h77 => ?_)
        · skip
          refine pv_iload_n E d_Mod_resolve_139 rfl rfl ?_
          refine pv_iconst (v := 5) E d_Mod_resolve_140 (by decide) ?_
          refine pv_icmp_ne (tgt := 168) E d_Mod_resolve_141 rfl (fun h141 => ?_) (fun h141 => ?_)
          · skip
            refine pv_iload_n E d_Mod_resolve_168 rfl rfl ?_
            refine pv_bipush (v := 6) E d_Mod_resolve_169 (by decide) ?_
            refine pv_icmp_ne (tgt := 233) E d_Mod_resolve_171 rfl (fun h171 => ?_) (fun h171 => ?_)
            · skip
              have h78 := m_kind r9 (fun z => (m_kind2 r9 h63 z).elim h77 h171) h9
              obtain ⟨hx1, hx2⟩ := r9.2.2.2 h78
              refine pv_iload_n E d_Mod_resolve_233 rfl rfl ?_
              refine pv_bipush (v := 7) E d_Mod_resolve_234 (by decide) ?_
              refine pv_icmp_ne (tgt := 247) E d_Mod_resolve_236 rfl (fun h236 => ?_) (fun h236 => ?_)
              · skip
                have h8 := h78.resolve_left h236
                obtain ⟨he, hfl⟩ := m_e_ok hu hx2 (abl_any hb0 hAn (Or.inr h8))
                refine pv_aload_n E d_Mod_resolve_247 rfl rfl ?_
                refine pv_iload_n E d_Mod_resolve_248 rfl rfl ?_
                refine pv_aload_n E d_Mod_resolve_249 rfl rfl ?_
                refine pv_iload_n E d_Mod_resolve_250 rfl rfl ?_
                refine pv_callV E (fun adr => k_Mod_earliest l D ca A _ k (gsF g k 6 0) h01 hA0.1 hO.1 hk hx1 adr) yv_Mod_earliest wd_964 rfl rfl (fun _ => ⟨_, rfl⟩) rfl ⟨by decide, by decide⟩ (Nat.le_of_ble_eq_true rfl) d_Mod_resolve_251 ⟨by decide, by decide⟩ (fun r251 σ251 hq251 => ?_)
                obtain ⟨hr251, hs251⟩ := hq251
                subst r251
                subst σ251
                refine pv_top (congrArg ps_int (show m_opt (m_e (gsF g k 6 0) (l_N (ps_J (ps_sI σ 15 1 k 0) 16 0 k)) (gN (gsF g k 6 0))) = nI (g_first (gsF g k 6 0) k) from congrArg m_opt he)) ?_
                refine pv_callV E (fun adr => k_Mod_copy l D ca A _ k (g_first (gsF g k 6 0) k) (gsF g k 6 0) p h01 hA0 hO hp hk hz0 hfl adr) yv_Mod_copy wd_940 rfl rfl (fun _ => ⟨_, rfl⟩) rfl ⟨by decide, by decide⟩ (Nat.le_of_ble_eq_true rfl) d_Mod_resolve_254 ⟨by decide, by decide⟩ (fun r254 σ254 hq254 => ?_)
                obtain ⟨hr254, hA254, hf254⟩ := hq254
                subst r254
                exact pv_vret E hr hlk d_Mod_resolve_257 (by decide) (by decide) ⟨rfl, by rw [g_res_put hgz, dec_8 h8]; exact hA254, FrA.que.tr hf254⟩
              · skip
                refine pv_aload_n E d_Mod_resolve_239 rfl rfl ?_
                refine pv_iload_n E d_Mod_resolve_240 rfl rfl ?_
                refine pv_callV E (fun adr => k_Mod_all l D ca A _ k (gsF g k 6 0) p h01 hA0 hO hp hk hz0 hx1 adr) yv_Mod_all wd_960 rfl rfl (fun _ => ⟨_, rfl⟩) rfl ⟨by decide, by decide⟩ (Nat.le_of_ble_eq_true rfl) d_Mod_resolve_241 ⟨by decide, by decide⟩ (fun r241 σ241 hq241 => ?_)
                obtain ⟨hr241, hA241, hf241⟩ := hq241
                subst r241
                refine pv_goto (tgt := 257) E d_Mod_resolve_244 rfl ?_
                exact pv_vret E hr hlk d_Mod_resolve_257 (by decide) (by decide) ⟨rfl, by rw [g_res_put hgz, dec_7 h236, hx2]; exact hA241, FrA.que.tr hf241⟩
            · skip
              obtain ⟨a, b, hI, ea, eb⟩ := r9.2.2.1 (Or.inr h171)
              have la := w2 a (by rw [hI]; exact List.mem_cons_self)
              have lb := w2 b (by rw [hI]; exact List.mem_cons_of_mem _ List.mem_cons_self)
              have la48 : a < 48 := Nat.lt_of_lt_of_le la hO.1.1
              have lb48 : b < 48 := Nat.lt_of_lt_of_le lb hO.1.1
              have hany := abl_any hb0 hAn (Or.inl h171)
              rw [hI] at hany
              refine pv_aload_n E d_Mod_resolve_174 rfl rfl ?_
              refine pv_iload_n E d_Mod_resolve_175 rfl rfl ?_
              refine pv_top (congrArg ps_int ea) ?_
              refine pv_callV E (fun adr => k_Mod_settled l D ca A _ a (gsF g k 6 0) h01 hA0.1 hO.1 la adr) yv_Mod_settled wd_912 rfl rfl (fun _ => ⟨_, rfl⟩) rfl ⟨by decide, by decide⟩ (Nat.le_of_ble_eq_true rfl) d_Mod_resolve_176 ⟨by decide, by decide⟩ (fun r176 σ176 hq176 => ?_)
              obtain ⟨hr176, hs176⟩ := hq176
              subst r176
              subst σ176
              refine pv_if_eq (tgt := 207) E d_Mod_resolve_179 rfl (fun h179 => ?_) (fun h179 => ?_)
              · skip
                refine pv_iconst (v := 1) E d_Mod_resolve_207 (by decide) ?_
                refine pv_goto (tgt := 212) E d_Mod_resolve_208 rfl ?_
                refine pv_istore E d_Mod_resolve_212 (by decide) ?_
                refine pv_aload_n E d_Mod_resolve_214 rfl rfl ?_
                refine pv_iload_n E d_Mod_resolve_215 rfl rfl ?_
                refine pv_iload E d_Mod_resolve_216 rfl ?_
                refine pv_if_eq (tgt := 226) E d_Mod_resolve_218 rfl (fun h218 => ?_) (fun h218 => ?_)
                · skip
                  exact absurd h218 (by decide)
                · skip
                  refine pv_iload E d_Mod_resolve_221 rfl ?_
                  refine pv_top (congrArg ps_int eb) ?_
                  refine pv_goto (tgt := 227) E d_Mod_resolve_223 rfl ?_
                  refine pv_callV E (fun adr => k_Mod_one l D ca A _ k b (gsF g k 6 0) p h01 hA0 hO hp hk hz0 lb (Or.inr h171) hAn adr) yv_Mod_one wd_948 rfl rfl (fun _ => ⟨_, rfl⟩) rfl ⟨by decide, by decide⟩ (Nat.le_of_ble_eq_true rfl) d_Mod_resolve_227 ⟨by decide, by decide⟩ (fun r227 σ227 hq227 => ?_)
                  obtain ⟨hr227, hA227, hf227⟩ := hq227
                  subst r227
                  refine pv_goto (tgt := 257) E d_Mod_resolve_230 rfl ?_
                  exact pv_vret E hr hlk d_Mod_resolve_257 (by decide) (by decide) ⟨rfl, by rw [g_res_put hgz, dec_6 h171, first6 hI, if_pos (by rw [tv_off (if10b h179), tv_on (any2 hany (if10b h179))]; have := hu b; omega)]; exact hA227, FrA.que.tr hf227⟩
              · skip
                refine pv_aload_n E d_Mod_resolve_182 rfl rfl ?_
                refine pv_iload E d_Mod_resolve_183 rfl ?_
                refine pv_top (congrArg ps_int eb) ?_
                refine pv_callV E (fun adr => k_Mod_settled l D ca A _ b (gsF g k 6 0) h01 hA0.1 hO.1 lb adr) yv_Mod_settled wd_912 rfl rfl (fun _ => ⟨_, rfl⟩) rfl ⟨by decide, by decide⟩ (Nat.le_of_ble_eq_true rfl) d_Mod_resolve_185 ⟨by decide, by decide⟩ (fun r185 σ185 hq185 => ?_)
                obtain ⟨hr185, hs185⟩ := hq185
                subst r185
                subst σ185
                refine pv_if_eq (tgt := 211) E d_Mod_resolve_188 rfl (fun h188 => ?_) (fun h188 => ?_)
                · skip
                  refine pv_iconst (v := 0) E d_Mod_resolve_211 (by decide) ?_
                  refine pv_istore E d_Mod_resolve_212 (by decide) ?_
                  refine pv_aload_n E d_Mod_resolve_214 rfl rfl ?_
                  refine pv_iload_n E d_Mod_resolve_215 rfl rfl ?_
                  refine pv_iload E d_Mod_resolve_216 rfl ?_
                  refine pv_if_eq (tgt := 226) E d_Mod_resolve_218 rfl (fun h218 => ?_) (fun h218 => ?_)
                  · skip
                    refine pv_iload_n E d_Mod_resolve_226 rfl rfl ?_
                    refine pv_top (congrArg ps_int ea) ?_
                    refine pv_callV E (fun adr => k_Mod_one l D ca A _ k a (gsF g k 6 0) p h01 hA0 hO hp hk hz0 la (Or.inr h171) hAn adr) yv_Mod_one wd_948 rfl rfl (fun _ => ⟨_, rfl⟩) rfl ⟨by decide, by decide⟩ (Nat.le_of_ble_eq_true rfl) d_Mod_resolve_227 ⟨by decide, by decide⟩ (fun r227 σ227 hq227 => ?_)
                    obtain ⟨hr227, hA227, hf227⟩ := hq227
                    subst r227
                    refine pv_goto (tgt := 257) E d_Mod_resolve_230 rfl ?_
                    exact pv_vret E hr hlk d_Mod_resolve_257 (by decide) (by decide) ⟨rfl, by rw [g_res_put hgz, dec_6 h171, first6 hI, if_neg (by rw [tv_off (if10b h188), tv_on (if10t h179)]; have := hu a; omega)]; exact hA227, FrA.que.tr hf227⟩
                  · skip
                    exact absurd rfl h218
                · skip
                  refine pv_aload_n E d_Mod_resolve_191 rfl rfl ?_
                  refine gf_Mod_came E wd_766 d_Mod_resolve_192 ?_
                  refine pv_top (congrArg ps_ref (m_f h0 4 rfl)) ?_
                  refine pv_iload E d_Mod_resolve_195 rfl ?_
                  refine pv_top (congrArg ps_int eb) ?_
                  refine pv_iaload (t0 := 6) E 14 _ (fun _ _ _ _ _ => rfl) rfl (m_ix h0 14 2 (by decide) (by decide) lb48) d_Mod_resolve_197 ?_
                  refine pv_top (congrArg ps_int ((congrArg (ps_I _ 14 2) (nI_clamp (Nat.lt_trans lb48 (by decide)))).trans ((hA0.1.2.2.1 b lb).1.2.2.1 ((g_on_eq _ b).mp (if10t h188))))) ?_
                  refine pv_aload_n E d_Mod_resolve_198 rfl rfl ?_
                  refine gf_Mod_came E wd_766 d_Mod_resolve_199 ?_
                  refine pv_top (congrArg ps_ref (m_f h0 4 rfl)) ?_
                  refine pv_iload_n E d_Mod_resolve_202 rfl rfl ?_
                  refine pv_top (congrArg ps_int ea) ?_
                  refine pv_iaload (t0 := 6) E 14 _ (fun _ _ _ _ _ => rfl) rfl (m_ix h0 14 2 (by decide) (by decide) la48) d_Mod_resolve_203 ?_
                  refine pv_top (congrArg ps_int ((congrArg (ps_I _ 14 2) (nI_clamp (Nat.lt_trans la48 (by decide)))).trans ((hA0.1.2.2.1 a la).1.2.2.1 ((g_on_eq _ a).mp (if10t h179))))) ?_
                  refine pv_icmp_ge (tgt := 211) E d_Mod_resolve_204 rfl (fun h204 => ?_) (fun h204 => ?_)
                  · skip
                    refine pv_iconst (v := 0) E d_Mod_resolve_211 (by decide) ?_
                    refine pv_istore E d_Mod_resolve_212 (by decide) ?_
                    refine pv_aload_n E d_Mod_resolve_214 rfl rfl ?_
                    refine pv_iload_n E d_Mod_resolve_215 rfl rfl ?_
                    refine pv_iload E d_Mod_resolve_216 rfl ?_
                    refine pv_if_eq (tgt := 226) E d_Mod_resolve_218 rfl (fun h218 => ?_) (fun h218 => ?_)
                    · skip
                      refine pv_iload_n E d_Mod_resolve_226 rfl rfl ?_
                      refine pv_top (congrArg ps_int ea) ?_
                      refine pv_callV E (fun adr => k_Mod_one l D ca A _ k a (gsF g k 6 0) p h01 hA0 hO hp hk hz0 la (Or.inr h171) hAn adr) yv_Mod_one wd_948 rfl rfl (fun _ => ⟨_, rfl⟩) rfl ⟨by decide, by decide⟩ (Nat.le_of_ble_eq_true rfl) d_Mod_resolve_227 ⟨by decide, by decide⟩ (fun r227 σ227 hq227 => ?_)
                      obtain ⟨hr227, hA227, hf227⟩ := hq227
                      subst r227
                      refine pv_goto (tgt := 257) E d_Mod_resolve_230 rfl ?_
                      exact pv_vret E hr hlk d_Mod_resolve_257 (by decide) (by decide) ⟨rfl, by rw [g_res_put hgz, dec_6 h171, first6 hI, if_neg (by rw [tv_on (if10t h188), tv_on (if10t h179)]; intro z; exact absurd ((nI_leI (by have := hu a; omega) (by have := hu b; omega)).mp h204) (by omega))]; exact hA227, FrA.que.tr hf227⟩
                    · skip
                      exact absurd rfl h218
                  · skip
                    refine pv_iconst (v := 1) E d_Mod_resolve_207 (by decide) ?_
                    refine pv_goto (tgt := 212) E d_Mod_resolve_208 rfl ?_
                    refine pv_istore E d_Mod_resolve_212 (by decide) ?_
                    refine pv_aload_n E d_Mod_resolve_214 rfl rfl ?_
                    refine pv_iload_n E d_Mod_resolve_215 rfl rfl ?_
                    refine pv_iload E d_Mod_resolve_216 rfl ?_
                    refine pv_if_eq (tgt := 226) E d_Mod_resolve_218 rfl (fun h218 => ?_) (fun h218 => ?_)
                    · skip
                      exact absurd h218 (by decide)
                    · skip
                      refine pv_iload E d_Mod_resolve_221 rfl ?_
                      refine pv_top (congrArg ps_int eb) ?_
                      refine pv_goto (tgt := 227) E d_Mod_resolve_223 rfl ?_
                      refine pv_callV E (fun adr => k_Mod_one l D ca A _ k b (gsF g k 6 0) p h01 hA0 hO hp hk hz0 lb (Or.inr h171) hAn adr) yv_Mod_one wd_948 rfl rfl (fun _ => ⟨_, rfl⟩) rfl ⟨by decide, by decide⟩ (Nat.le_of_ble_eq_true rfl) d_Mod_resolve_227 ⟨by decide, by decide⟩ (fun r227 σ227 hq227 => ?_)
                      obtain ⟨hr227, hA227, hf227⟩ := hq227
                      subst r227
                      refine pv_goto (tgt := 257) E d_Mod_resolve_230 rfl ?_
                      exact pv_vret E hr hlk d_Mod_resolve_257 (by decide) (by decide) ⟨rfl, by rw [g_res_put hgz, dec_6 h171, first6 hI, if_pos (by rw [tv_on (if10t h188), tv_on (if10t h179)]; have := Nat.lt_of_not_le (fun z => h204 ((nI_leI (by have := hu a; omega) (by have := hu b; omega)).mpr z)); omega)]; exact hA227, FrA.que.tr hf227⟩
          · skip
            exact absurd h141 h77
        · skip
          obtain ⟨a, b, hI, ea, eb⟩ := r9.2.2.1 (Or.inl h77)
          have la := w2 a (by rw [hI]; exact List.mem_cons_self)
          have lb := w2 b (by rw [hI]; exact List.mem_cons_of_mem _ List.mem_cons_self)
          have la48 : a < 48 := Nat.lt_of_lt_of_le la hO.1.1
          have lb48 : b < 48 := Nat.lt_of_lt_of_le lb hO.1.1
          obtain ⟨q1, q2, q3⟩ := r8 (by rw [h77]; decide)
          refine pv_aload_n E d_Mod_resolve_80 rfl rfl ?_
          refine gf_Mod_state E wd_764 d_Mod_resolve_81 ?_
          refine pv_top (congrArg ps_ref (m_f h0 2 rfl)) ?_
          refine pv_iload_n E d_Mod_resolve_84 rfl rfl ?_
          refine pv_top (congrArg ps_int ea) ?_
          refine pv_iaload (t0 := 6) E 14 _ (fun _ _ _ _ _ => rfl) rfl (m_ix h0 14 0 (by decide) (by decide) la48) d_Mod_resolve_85 ?_
          refine pv_top (congrArg ps_int ((congrArg (ps_I _ 14 0) (nI_clamp (Nat.lt_trans la48 (by decide)))).trans (hA0.1.2.2.1 a la).1.1)) ?_
          refine pv_iconst (v := 1) E d_Mod_resolve_86 (by decide) ?_
          refine pv_icmp_ne (tgt := 139) E d_Mod_resolve_87 rfl (fun h87 => ?_) (fun h87 => ?_)
          · skip
            refine pv_iload_n E d_Mod_resolve_139 rfl rfl ?_
            refine pv_iconst (v := 5) E d_Mod_resolve_140 (by decide) ?_
            refine pv_icmp_ne (tgt := 168) E d_Mod_resolve_141 rfl (fun h141 => ?_) (fun h141 => ?_)
            · skip
              exact absurd h77 h141
            · skip
              refine pv_aload_n E d_Mod_resolve_144 rfl rfl ?_
              refine pv_iload_n E d_Mod_resolve_145 rfl rfl ?_
              refine pv_aload_n E d_Mod_resolve_146 rfl rfl ?_
              refine gf_Mod_state E wd_764 d_Mod_resolve_147 ?_
              refine pv_top (congrArg ps_ref (m_f h0 2 rfl)) ?_
              refine pv_iload_n E d_Mod_resolve_150 rfl rfl ?_
              refine pv_top (congrArg ps_int ea) ?_
              refine pv_iaload (t0 := 6) E 14 _ (fun _ _ _ _ _ => rfl) rfl (m_ix h0 14 0 (by decide) (by decide) la48) d_Mod_resolve_151 ?_
              refine pv_top (congrArg ps_int ((congrArg (ps_I _ 14 0) (nI_clamp (Nat.lt_trans la48 (by decide)))).trans (hA0.1.2.2.1 a la).1.1)) ?_
              refine pv_iconst (v := 1) E d_Mod_resolve_152 (by decide) ?_
              refine pv_icmp_eq (tgt := 160) E d_Mod_resolve_153 rfl (fun h153 => ?_) (fun h153 => ?_)
              · skip
                exact absurd h153 h87
              · skip
                refine pv_iload_n E d_Mod_resolve_156 rfl rfl ?_
                refine pv_top (congrArg ps_int ea) ?_
                refine pv_goto (tgt := 162) E d_Mod_resolve_157 rfl ?_
                refine pv_callV E (fun adr => k_Mod_copy l D ca A _ k a (gsF g k 6 0) p h01 hA0 hO hp hk hz0 la adr) yv_Mod_copy wd_940 rfl rfl (fun _ => ⟨_, rfl⟩) rfl ⟨by decide, by decide⟩ (Nat.le_of_ble_eq_true rfl) d_Mod_resolve_162 ⟨by decide, by decide⟩ (fun r162 σ162 hq162 => ?_)
                obtain ⟨hr162, hA162, hf162⟩ := hq162
                subst r162
                refine pv_goto (tgt := 257) E d_Mod_resolve_165 rfl ?_
                exact pv_vret E hr hlk d_Mod_resolve_257 (by decide) (by decide) ⟨rfl, by rw [g_res_put hgz, dec_5 h77 hI, if_neg h87]; exact hA162, FrA.que.tr hf162⟩
          · skip
            refine pv_aload_n E d_Mod_resolve_90 rfl rfl ?_
            refine gf_Mod_state E wd_764 d_Mod_resolve_91 ?_
            refine pv_top (congrArg ps_ref (m_f h0 2 rfl)) ?_
            refine pv_iload E d_Mod_resolve_94 rfl ?_
            refine pv_top (congrArg ps_int eb) ?_
            refine pv_iaload (t0 := 6) E 14 _ (fun _ _ _ _ _ => rfl) rfl (m_ix h0 14 0 (by decide) (by decide) lb48) d_Mod_resolve_96 ?_
            refine pv_top (congrArg ps_int ((congrArg (ps_I _ 14 0) (nI_clamp (Nat.lt_trans lb48 (by decide)))).trans (hA0.1.2.2.1 b lb).1.1)) ?_
            refine pv_iconst (v := 1) E d_Mod_resolve_97 (by decide) ?_
            refine pv_icmp_ne (tgt := 139) E d_Mod_resolve_98 rfl (fun h98 => ?_) (fun h98 => ?_)
            · skip
              refine pv_iload_n E d_Mod_resolve_139 rfl rfl ?_
              refine pv_iconst (v := 5) E d_Mod_resolve_140 (by decide) ?_
              refine pv_icmp_ne (tgt := 168) E d_Mod_resolve_141 rfl (fun h141 => ?_) (fun h141 => ?_)
              · skip
                exact absurd h77 h141
              · skip
                refine pv_aload_n E d_Mod_resolve_144 rfl rfl ?_
                refine pv_iload_n E d_Mod_resolve_145 rfl rfl ?_
                refine pv_aload_n E d_Mod_resolve_146 rfl rfl ?_
                refine gf_Mod_state E wd_764 d_Mod_resolve_147 ?_
                refine pv_top (congrArg ps_ref (m_f h0 2 rfl)) ?_
                refine pv_iload_n E d_Mod_resolve_150 rfl rfl ?_
                refine pv_top (congrArg ps_int ea) ?_
                refine pv_iaload (t0 := 6) E 14 _ (fun _ _ _ _ _ => rfl) rfl (m_ix h0 14 0 (by decide) (by decide) la48) d_Mod_resolve_151 ?_
                refine pv_top (congrArg ps_int ((congrArg (ps_I _ 14 0) (nI_clamp (Nat.lt_trans la48 (by decide)))).trans (hA0.1.2.2.1 a la).1.1)) ?_
                refine pv_iconst (v := 1) E d_Mod_resolve_152 (by decide) ?_
                refine pv_icmp_eq (tgt := 160) E d_Mod_resolve_153 rfl (fun h153 => ?_) (fun h153 => ?_)
                · skip
                  refine pv_iload E d_Mod_resolve_160 rfl ?_
                  refine pv_top (congrArg ps_int eb) ?_
                  refine pv_callV E (fun adr => k_Mod_copy l D ca A _ k b (gsF g k 6 0) p h01 hA0 hO hp hk hz0 lb adr) yv_Mod_copy wd_940 rfl rfl (fun _ => ⟨_, rfl⟩) rfl ⟨by decide, by decide⟩ (Nat.le_of_ble_eq_true rfl) d_Mod_resolve_162 ⟨by decide, by decide⟩ (fun r162 σ162 hq162 => ?_)
                  obtain ⟨hr162, hA162, hf162⟩ := hq162
                  subst r162
                  refine pv_goto (tgt := 257) E d_Mod_resolve_165 rfl ?_
                  exact pv_vret E hr hlk d_Mod_resolve_257 (by decide) (by decide) ⟨rfl, by rw [g_res_put hgz, dec_5 h77 hI, if_pos h87, if_neg h98]; exact hA162, FrA.que.tr hf162⟩
                · skip
                  exact absurd h87 h153
            · skip
              refine pv_aload_n E d_Mod_resolve_101 rfl rfl ?_
              refine pv_aload_n E d_Mod_resolve_102 rfl rfl ?_
              refine gf_Mod_function E wd_769 d_Mod_resolve_103 ?_
              refine pv_top (congrArg ps_ref (m_f h0 7 rfl)) ?_
              refine pv_iload_n E d_Mod_resolve_106 rfl rfl ?_
              refine pv_iaload (t0 := 6) E 14 _ (fun _ _ _ _ _ => rfl) rfl (m_ix h0 14 4 (by decide) (by decide) hk48) d_Mod_resolve_107 ?_
              refine pv_top (congrArg ps_int ((congrArg (ps_I _ 14 4) (nI_clamp (Nat.lt_trans hk48 (by decide)))).trans q1)) ?_
              refine pv_aload_n E d_Mod_resolve_108 rfl rfl ?_
              refine gf_Mod_number E wd_770 d_Mod_resolve_109 ?_
              refine pv_top (congrArg ps_ref (m_f h0 8 rfl)) ?_
              refine pv_iload_n E d_Mod_resolve_112 rfl rfl ?_
              refine pv_iaload (t0 := 6) E 14 _ (fun _ _ _ _ _ => rfl) rfl (m_ix h0 14 5 (by decide) (by decide) hk48) d_Mod_resolve_113 ?_
              refine pv_top (congrArg ps_int ((congrArg (ps_I _ 14 5) (nI_clamp (Nat.lt_trans hk48 (by decide)))).trans q2)) ?_
              refine pv_aload_n E d_Mod_resolve_114 rfl rfl ?_
              refine gf_Mod_value E wd_765 d_Mod_resolve_115 ?_
              refine pv_top (congrArg ps_ref (m_f h0 3 rfl)) ?_
              refine pv_iload_n E d_Mod_resolve_118 rfl rfl ?_
              refine pv_top (congrArg ps_int ea) ?_
              refine pv_iaload (t0 := 6) E 14 _ (fun _ _ _ _ _ => rfl) rfl (m_ix h0 14 1 (by decide) (by decide) la48) d_Mod_resolve_119 ?_
              refine pv_top (congrArg ps_int ((congrArg (ps_I _ 14 1) (nI_clamp (Nat.lt_trans la48 (by decide)))).trans (hA0.1.2.2.1 a la).1.2.1)) ?_
              refine pv_aload_n E d_Mod_resolve_120 rfl rfl ?_
              refine gf_Mod_value E wd_765 d_Mod_resolve_121 ?_
              refine pv_top (congrArg ps_ref (m_f h0 3 rfl)) ?_
              refine pv_iload E d_Mod_resolve_124 rfl ?_
              refine pv_top (congrArg ps_int eb) ?_
              refine pv_iaload (t0 := 6) E 14 _ (fun _ _ _ _ _ => rfl) rfl (m_ix h0 14 1 (by decide) (by decide) lb48) d_Mod_resolve_126 ?_
              refine pv_top (congrArg ps_int ((congrArg (ps_I _ 14 1) (nI_clamp (Nat.lt_trans lb48 (by decide)))).trans (hA0.1.2.2.1 b lb).1.2.1)) ?_
              refine pv_iadd E d_Mod_resolve_127 ?_
              refine pv_callV E (fun adr => k_Mod_apply l D ca A _ (gF (gsF g k 6 0) k 3) (gF (gsF g k 6 0) k 4) (gF (gsF g k 6 0) a 1 + gF (gsF g k 6 0) b 1) adr) yv_Mod_apply wd_952 rfl rfl (fun _ => ⟨_, rfl⟩) rfl ⟨by decide, by decide⟩ (Nat.le_of_ble_eq_true rfl) d_Mod_resolve_128 ⟨by decide, by decide⟩ (fun r128 σ128 hq128 => ?_)
              obtain ⟨hr128, hs128⟩ := hq128
              subst r128
              subst σ128
              have h0a := h01.A (FrA.app (σ := ps_sI σ 15 1 k 0) (f := gF (gsF g k 6 0) k 3) (a := gF (gsF g k 6 0) k 4) (x := (gF (gsF g k 6 0) a 1 + gF (gsF g k 6 0) b 1)))
              have hAa := hA0.app (f := gF (gsF g k 6 0) k 3) (a := gF (gsF g k 6 0) k 4) (x := (gF (gsF g k 6 0) a 1 + gF (gsF g k 6 0) b 1))
              refine pv_aload_n E d_Mod_resolve_131 rfl rfl ?_
              refine pv_iload_n E d_Mod_resolve_132 rfl rfl ?_
              refine pv_callV E (fun adr => k_Mod_giveMade l D ca A _ k (fn_thr (gF (gsF g k 6 0) k 3) (gF (gsF g k 6 0) k 4) (gF (gsF g k 6 0) a 1 + gF (gsF g k 6 0) b 1)) (m_mk (gF (gsF g k 6 0) k 3) (gF (gsF g k 6 0) k 4) (gF (gsF g k 6 0) a 1 + gF (gsF g k 6 0) b 1)) (gsF g k 6 0) p h0a hAa hO hp hk hz0 (app_21 _ _ _ _) (app_20 _ _ _ _) fn_thr_pos adr) yv_Mod_giveMade wd_956 rfl rfl (fun _ => ⟨_, rfl⟩) rfl ⟨by decide, by decide⟩ (Nat.le_of_ble_eq_true rfl) d_Mod_resolve_133 ⟨by decide, by decide⟩ (fun r133 σ133 hq133 => ?_)
              obtain ⟨hr133, hA133, hf133⟩ := hq133
              subst r133
              refine pv_goto (tgt := 257) E d_Mod_resolve_136 rfl ?_
              exact pv_vret E hr hlk d_Mod_resolve_257 (by decide) (by decide) ⟨rfl, by rw [g_res_put hgz, dec_5 h77 hI, if_pos h87, if_pos h98]; show RMA _ (g_give (gsF g k 6 0) k (g_use (gsF g k 6 0) k (gF (gsF g k 6 0) a 1 + gF (gsF g k 6 0) b 1)).1 (g_use (gsF g k 6 0) k (gF (gsF g k 6 0) a 1 + gF (gsF g k 6 0) b 1)).2) p; rw [← use_mk q3]; exact hA133, (FrA.que.tr FrA.app).tr hf133⟩
      · skip
        obtain ⟨a, hI, ea⟩ := r9.2.1 (Int32.not_le.mp h63)
        have la := w2 a (by rw [hI]; exact List.mem_cons_self)
        refine pv_aload_n E d_Mod_resolve_66 rfl rfl ?_
        refine pv_iload_n E d_Mod_resolve_67 rfl rfl ?_
        refine pv_iload_n E d_Mod_resolve_68 rfl rfl ?_
        refine pv_top (congrArg ps_int ea) ?_
        refine pv_callV E (fun adr => k_Mod_one l D ca A _ k a (gsF g k 6 0) p h01 hA0 hO hp hk hz0 la (Or.inl (Int32.not_le.mp h63)) hAn adr) yv_Mod_one wd_948 rfl rfl (fun _ => ⟨_, rfl⟩) rfl ⟨by decide, by decide⟩ (Nat.le_of_ble_eq_true rfl) d_Mod_resolve_69 ⟨by decide, by decide⟩ (fun r69 σ69 hq69 => ?_)
        obtain ⟨hr69, hA69, hf69⟩ := hq69
        subst r69
        refine pv_goto (tgt := 257) E d_Mod_resolve_72 rfl ?_
        exact pv_vret E hr hlk d_Mod_resolve_257 (by decide) (by decide) ⟨rfl, by rw [g_res_put hgz, dec_one r9.1.1 (Int32.not_le.mp h63) hI]; exact hA69, FrA.que.tr hf69⟩
    · skip
      obtain ⟨j, hAj⟩ : ∃ j, gA (gsF g k 6 0) k = some j := by
        cases z : gA (gsF g k 6 0) k with
        | none => rw [z] at h44; exact absurd (by decide) h44
        | some j => exact ⟨j, rfl⟩
      have hj := w3 j hAj
      refine pv_aload_n E d_Mod_resolve_47 rfl rfl ?_
      refine pv_iload_n E d_Mod_resolve_48 rfl rfl ?_
      refine pv_aload_n E d_Mod_resolve_49 rfl rfl ?_
      refine gf_Mod_awaits E wd_775 d_Mod_resolve_50 ?_
      refine pv_top (congrArg ps_ref (m_f h0 13 rfl)) ?_
      refine pv_iload_n E d_Mod_resolve_53 rfl rfl ?_
      refine pv_iaload (t0 := 6) E 14 _ (fun _ _ _ _ _ => rfl) rfl (m_ix h0 14 8 (by decide) (by decide) hk48) d_Mod_resolve_54 ?_
      refine pv_top (congrArg ps_int ((congrArg (ps_I _ 14 8) (nI_clamp (Nat.lt_trans hk48 (by decide)))).trans (r5.trans (congrArg m_opt hAj)))) ?_
      refine pv_callV E (fun adr => k_Mod_copy l D ca A _ k j (gsF g k 6 0) p h01 hA0 hO hp hk hz0 hj adr) yv_Mod_copy wd_940 rfl rfl (fun _ => ⟨_, rfl⟩) rfl ⟨by decide, by decide⟩ (Nat.le_of_ble_eq_true rfl) d_Mod_resolve_55 ⟨by decide, by decide⟩ (fun r55 σ55 hq55 => ?_)
      obtain ⟨hr55, hA55, hf55⟩ := hq55
      subst r55
      refine pv_goto (tgt := 257) E d_Mod_resolve_58 rfl ?_
      exact pv_vret E hr hlk d_Mod_resolve_257 (by decide) (by decide) ⟨rfl, by rw [g_res_put hgz, dec_aw ((gF_f g k (by decide)).trans (hA4 j hAj)) hAj]; exact hA55, FrA.que.tr hf55⟩
  · skip
    exact pv_vret E hr hlk d_Mod_resolve_15 (by decide) (by decide) ⟨rfl, by unfold g_res; rw [if_neg (fun z => (g_on_eq _ k).mp (if10t h12) ((gF_f g k (by decide)).trans z))]; exact hA0, FrA.que⟩
