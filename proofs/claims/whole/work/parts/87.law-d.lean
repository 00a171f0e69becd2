theorem st_gt1 {x : Int32} (h : 0 ≤ x) (h0 : ¬ x = 0) (h1 : ¬ x = 1) : 1 < x := by
  obtain ⟨j, hj, rfl⟩ := nI_of (Int32.not_lt.mpr h)
  have h0' : ¬ j = 0 := fun z => h0 (by rw [z]; rfl)
  have h1' : ¬ j = 1 := fun z => h1 (by rw [z]; rfl)
  rw [show (1 : Int32) = nI 1 from rfl, nI_ltI (by decide) hj]
  omega
theorem sev_kd {g : gT} {set : Int64} {k : Int32} (hb : a_sev g set k) (h48 : gN g ≤ 48) : (k = 9 ∨ 0 < (l_set (l_N set) (gN g)).length) ∧ (k = 5 → 1 < (l_set (l_N set) (gN g)).length) := by
  refine ⟨Or.inr ?_, fun z => absurd hb.2.1 (by rw [z]; decide)⟩
  obtain ⟨hx0, hx1⟩ := hasAll_N hb.1 h48
  rw [l_set_len]
  exact l_cnt_pos hx1 hx0
set_option maxHeartbeats 8000000 in
set_option maxRecDepth 100000 in
theorem lc_source_0 {p : Program} {e : Env} {s : State} {m : MethodId} {args : Array Value} {below : List Frame} {meth : Method} {c : Code} {D : va_G} {ca : Nat → ClassId} {A : Nat → Prop} {adr0 : Nat → Nat → Nat} {σ0 : ps_S} {Q : State → Prop} (l : Launch) (htr : l.stackTraces = false) (E : ps_E p s m c code 7 "PromiseScopesLaw" D ca) {b n : Nat} {xs : Nat → Int32} (hX : va_X b n xs s s.heap) (hbl : b < s.heap.size) (hbA : ¬ A b) (hZ : ps_Z A s) (hYs : ps_Y s) {σ : ps_S} {t : tT} {g : gT} (hI : LI σ t g) {i : Nat} (hin : i + 7 ≤ n) (hn84 : n ≤ 3584) {ce sl : Nat} (hce : ce + 8 ≤ 601024) (hsl : sl + 64 ≤ 7293034) (hn : gN g < 48) (kk : ∀ σ' t' g' ce' sl', LI σ' t' g' → ce' ≤ ce + 8 → sl' ≤ sl + 64 → ps_V p l e room_1 s m args below meth c 7 D ca A s.heap adr0 σ0 Q 1214 [(0, ps_raw b), (1, ps_ref (some (0, 0))), (2, ps_ref (some (13, 0))), (3, ps_ref (some (12, 0))), (4, ps_int (nI i))] [] σ' ce' sl') : ps_V p l e room_1 s m args below meth c 7 D ca A s.heap adr0 σ0 Q 136 [(0, ps_raw b), (1, ps_ref (some (0, 0))), (2, ps_ref (some (13, 0))), (3, ps_ref (some (12, 0))), (4, ps_int (nI i))] [] σ ce sl := by
  have hP := hI.1
  have hM := hI.2.1
  have hV := hI.2.2.1
  have hl12 := hI.2.2.2
  have hC := hV.C
  have hY := hV.Y
  have hW := hC.2.1
  refine pv_aload_n E d_Law_law_136 rfl rfl ?_
  refine pv_aload_n E d_Law_law_137 rfl rfl ?_
  refine pv_callSW (n := 2) E rfl hZ hYs (fun adr => k_Law_source_0 l htr D ca A _  t g hP hC hn hl12 adr) wx_380 wd_0 wd_379 wd_378 (by decide +kernel) (by decide +kernel) (by decide +kernel) rfl rfl ⟨by decide, by decide⟩ (Nat.le_of_ble_eq_true rfl) d_Law_law_138 ⟨by show _ ≤ 601024; dsimp only; omega, by show _ ≤ 7293034; dsimp only; omega⟩ (fun r138 σ138 hq138 => ?_)
  obtain ⟨hr138, σ1, hP1, hf1, hs1⟩ := hq138
  subst r138
  subst hs1
  have hM1 := (hM.fc hf1).sJ (v := Int32.toInt64 (nI (gN g)))
  refine pv_istore E d_Law_law_141 (by decide) ?_
  refine pv_aload_n E d_Law_law_143 rfl rfl ?_
  refine pv_callV E (fun adr => k_Mod_source_0 l D ca A _  t g hM1 hC.1 hY hn adr) yv_Mod_source wd_900 rfl rfl (fun _ => ⟨_, rfl⟩) rfl ⟨by decide, by decide⟩ (Nat.le_of_ble_eq_true rfl) d_Law_law_144 ⟨by show _ ≤ 601024; dsimp only; omega, by show _ ≤ 7293034; dsimp only; omega⟩ (fun r144 σ144 hq144 => ?_)
  obtain ⟨hr144, hM2, hX2, ht2, hf2⟩ := hq144
  subst r144
  refine pv_istore E d_Law_law_147 (by decide) ?_
  refine pv_aload_n E d_Law_law_149 rfl rfl ?_
  refine pv_callV E (fun adr => k_Mod_thrown l D ca A _ adr) yv_Mod_thrown wd_896 rfl rfl (fun _ => ⟨_, rfl⟩) rfl ⟨by decide, by decide⟩ (Nat.le_of_ble_eq_true rfl) d_Law_law_150 ⟨by show _ ≤ 601024; dsimp only; omega, by show _ ≤ 7293034; dsimp only; omega⟩ (fun r150 σ150 hq150 => ?_)
  obtain ⟨hr150, hs150⟩ := hq150
  subst r150
  subst σ150
  refine pv_top (congrArg ps_int ht2) ?_
  refine pv_iload E d_Law_law_153 rfl ?_
  refine pv_icmp_eq (tgt := 160) E d_Law_law_155 rfl (fun h155 => ?_) (fun h155 => ?_)
  · skip
    refine pv_iload E d_Law_law_160 rfl ?_
    refine pv_if_ne (tgt := 177) E d_Law_law_162 rfl (fun h162 => ?_) (fun h162 => ?_)
    · skip
      exact absurd rfl h162
    · skip
      refine pv_aload_n E d_Law_law_165 rfl rfl ?_
      refine pv_iconst (v := 0) E d_Law_law_166 (by decide) ?_
      refine pv_laload (t0 := 5) E 12 _ (fun _ _ _ _ _ => rfl) rfl (l12_in (hf2.l12 (hf1.l12 hl12))) d_Law_law_167 ?_
      refine pv_top (congrArg ps_lng (hf2.j12 (sJ_J _ _))) ?_
      refine pv_iload E d_Law_law_168 rfl ?_
      refine pv_i2l E d_Law_law_170 ?_
      refine pv_lcmp E d_Law_law_171 ?_
      refine pv_if_eq (tgt := 177) E d_Law_law_172 rfl (fun h172 => ?_) (fun h172 => ?_)
      · skip
        refine pv_goto (tgt := 1214) E d_Law_law_177 rfl ?_
        exact pv_sub (L' := [(0, ps_raw b), (1, ps_ref (some (0, 0))), (2, ps_ref (some (13, 0))), (3, ps_ref (some (12, 0))), (4, ps_int (nI i))]) ⟨rfl, rfl, rfl, rfl, rfl, trivial⟩ (kk _ _ _ _ _ (LI.fin hP1.sJ (hf1.l12 hl12) hM2 hf2 (hV.src hn)) (by dsimp only; omega) (by dsimp only; omega))
      · skip
        exact absurd (cmp0 _) h172
  · skip
    exact absurd rfl h155
set_option maxHeartbeats 8000000 in
set_option maxRecDepth 100000 in
theorem lc_source_S {p : Program} {e : Env} {s : State} {m : MethodId} {args : Array Value} {below : List Frame} {meth : Method} {c : Code} {D : va_G} {ca : Nat → ClassId} {A : Nat → Prop} {adr0 : Nat → Nat → Nat} {σ0 : ps_S} {Q : State → Prop} (l : Launch) (htr : l.stackTraces = false) (E : ps_E p s m c code 7 "PromiseScopesLaw" D ca) {b n : Nat} {xs : Nat → Int32} (hX : va_X b n xs s s.heap) (hbl : b < s.heap.size) (hbA : ¬ A b) (hZ : ps_Z A s) (hYs : ps_Y s) {σ : ps_S} {t : tT} {g : gT} (hI : LI σ t g) {i : Nat} (hin : i + 7 ≤ n) (hn84 : n ≤ 3584) {ce sl : Nat} (hce : ce + 8 ≤ 601024) (hsl : sl + 64 ≤ 7293034) (hn : ¬ gN g < 48) (kk : ∀ σ' t' g' ce' sl', LI σ' t' g' → ce' ≤ ce + 8 → sl' ≤ sl + 64 → ps_V p l e room_1 s m args below meth c 7 D ca A s.heap adr0 σ0 Q 1214 [(0, ps_raw b), (1, ps_ref (some (0, 0))), (2, ps_ref (some (13, 0))), (3, ps_ref (some (12, 0))), (4, ps_int (nI i))] [] σ' ce' sl') : ps_V p l e room_1 s m args below meth c 7 D ca A s.heap adr0 σ0 Q 136 [(0, ps_raw b), (1, ps_ref (some (0, 0))), (2, ps_ref (some (13, 0))), (3, ps_ref (some (12, 0))), (4, ps_int (nI i))] [] σ ce sl := by
  have hP := hI.1
  have hM := hI.2.1
  have hV := hI.2.2.1
  have hl12 := hI.2.2.2
  have hC := hV.C
  have hY := hV.Y
  have hW := hC.2.1
  refine pv_aload_n E d_Law_law_136 rfl rfl ?_
  refine pv_aload_n E d_Law_law_137 rfl rfl ?_
  refine pv_callSW (n := 2) E rfl hZ hYs (fun adr => k_Law_source_S l htr D ca A _  t g hP hC hn adr) wx_380 wd_0 wd_379 wd_378 (by decide +kernel) (by decide +kernel) (by decide +kernel) rfl rfl ⟨by decide, by decide⟩ (Nat.le_of_ble_eq_true rfl) d_Law_law_138 ⟨by show _ ≤ 601024; dsimp only; omega, by show _ ≤ 7293034; dsimp only; omega⟩ (fun r138 σ138 hq138 => ?_)
  obtain ⟨hr138, hs138⟩ := hq138
  subst r138
  subst σ138
  refine pv_istore E d_Law_law_141 (by decide) ?_
  refine pv_aload_n E d_Law_law_143 rfl rfl ?_
  refine pv_callV E (fun adr => k_Mod_source_1 l D ca A _  t g hM hC.1 hY hn adr) yv_Mod_source wd_900 rfl rfl (fun _ => ⟨_, rfl⟩) rfl ⟨by decide, by decide⟩ (Nat.le_of_ble_eq_true rfl) d_Law_law_144 ⟨by show _ ≤ 601024; dsimp only; omega, by show _ ≤ 7293034; dsimp only; omega⟩ (fun r144 σ144 hq144 => ?_)
  obtain ⟨hr144, hs144⟩ := hq144
  subst r144
  subst σ144
  refine pv_istore E d_Law_law_147 (by decide) ?_
  refine pv_aload_n E d_Law_law_149 rfl rfl ?_
  refine pv_callV E (fun adr => k_Mod_thrown l D ca A _ adr) yv_Mod_thrown wd_896 rfl rfl (fun _ => ⟨_, rfl⟩) rfl ⟨by decide, by decide⟩ (Nat.le_of_ble_eq_true rfl) d_Law_law_150 ⟨by show _ ≤ 601024; dsimp only; omega, by show _ ≤ 7293034; dsimp only; omega⟩ (fun r150 σ150 hq150 => ?_)
  obtain ⟨hr150, hs150⟩ := hq150
  subst r150
  subst σ150
  refine pv_top (congrArg ps_int (ps_I_eq _ _ _ _ _)) ?_
  refine pv_iload E d_Law_law_153 rfl ?_
  refine pv_icmp_eq (tgt := 160) E d_Law_law_155 rfl (fun h155 => ?_) (fun h155 => ?_)
  · skip
    refine pv_iload E d_Law_law_160 rfl ?_
    refine pv_if_ne (tgt := 177) E d_Law_law_162 rfl (fun h162 => ?_) (fun h162 => ?_)
    · skip
      refine pv_goto (tgt := 1214) E d_Law_law_177 rfl ?_
      exact pv_sub (L' := [(0, ps_raw b), (1, ps_ref (some (0, 0))), (2, ps_ref (some (13, 0))), (3, ps_ref (some (12, 0))), (4, ps_int (nI i))]) ⟨rfl, rfl, rfl, rfl, rfl, trivial⟩ (kk _ _ _ _ _ (hI.thr) (by dsimp only; omega) (by dsimp only; omega))
    · skip
      exact absurd h162 (by decide)
  · skip
    exact absurd rfl h155
set_option maxHeartbeats 8000000 in
set_option maxRecDepth 100000 in
theorem lc_then_0 {p : Program} {e : Env} {s : State} {m : MethodId} {args : Array Value} {below : List Frame} {meth : Method} {c : Code} {D : va_G} {ca : Nat → ClassId} {A : Nat → Prop} {adr0 : Nat → Nat → Nat} {σ0 : ps_S} {Q : State → Prop} (l : Launch) (htr : l.stackTraces = false) (E : ps_E p s m c code 7 "PromiseScopesLaw" D ca) {b n : Nat} {xs : Nat → Int32} (hX : va_X b n xs s s.heap) (hbl : b < s.heap.size) (hbA : ¬ A b) (hZ : ps_Z A s) (hYs : ps_Y s) {σ : ps_S} {t : tT} {g : gT} (hI : LI σ t g) {i : Nat} (hin : i + 7 ≤ n) (hn84 : n ≤ 3584) {ce sl : Nat} (hce : ce + 8 ≤ 601024) (hsl : sl + 64 ≤ 7293034) (hb : a_then g (xs (i + 1)) (xs (i + 2)) (xs (i + 3))) (hn : gN g < 48) (kk : ∀ σ' t' g' ce' sl', LI σ' t' g' → ce' ≤ ce + 8 → sl' ≤ sl + 64 → ps_V p l e room_1 s m args below meth c 7 D ca A s.heap adr0 σ0 Q 1214 [(0, ps_raw b), (1, ps_ref (some (0, 0))), (2, ps_ref (some (13, 0))), (3, ps_ref (some (12, 0))), (4, ps_int (nI i))] [] σ' ce' sl') : ps_V p l e room_1 s m args below meth c 7 D ca A s.heap adr0 σ0 Q 180 [(0, ps_raw b), (1, ps_ref (some (0, 0))), (2, ps_ref (some (13, 0))), (3, ps_ref (some (12, 0))), (4, ps_int (nI i))] [] σ ce sl := by
  have hP := hI.1
  have hM := hI.2.1
  have hV := hI.2.2.1
  have hl12 := hI.2.2.2
  have hC := hV.C
  have hY := hV.Y
  have hW := hC.2.1
  refine pv_aload_n E d_Law_law_180 rfl rfl ?_
  refine pv_aloadR E d_Law_law_181 rfl rfl ?_
  refine pv_iload E d_Law_law_182 rfl ?_
  refine pv_iconst (v := 1) E d_Law_law_184 (by decide) ?_
  refine pv_iadd E d_Law_law_185 ?_
  refine pv_top (congrArg ps_int (nI_add i 1)) ?_
  refine pv_sld E hX hbl hbA (vp_in_nI (show i + 1 < n by omega) (by omega)) d_Law_law_186 ?_
  refine pv_top (congrArg ps_int (congrArg xs (nI_clamp (show i + 1 < 2 ^ 31 by omega)))) ?_
  refine pv_aloadR E d_Law_law_187 rfl rfl ?_
  refine pv_iload E d_Law_law_188 rfl ?_
  refine pv_iconst (v := 2) E d_Law_law_190 (by decide) ?_
  refine pv_iadd E d_Law_law_191 ?_
  refine pv_top (congrArg ps_int (nI_add i 2)) ?_
  refine pv_sld E hX hbl hbA (vp_in_nI (show i + 2 < n by omega) (by omega)) d_Law_law_192 ?_
  refine pv_top (congrArg ps_int (congrArg xs (nI_clamp (show i + 2 < 2 ^ 31 by omega)))) ?_
  refine pv_aloadR E d_Law_law_193 rfl rfl ?_
  refine pv_iload E d_Law_law_194 rfl ?_
  refine pv_iconst (v := 3) E d_Law_law_196 (by decide) ?_
  refine pv_iadd E d_Law_law_197 ?_
  refine pv_top (congrArg ps_int (nI_add i 3)) ?_
  refine pv_sld E hX hbl hbA (vp_in_nI (show i + 3 < n by omega) (by omega)) d_Law_law_198 ?_
  refine pv_top (congrArg ps_int (congrArg xs (nI_clamp (show i + 3 < 2 ^ 31 by omega)))) ?_
  refine pv_aloadR E d_Law_law_199 rfl rfl ?_
  refine pv_iload E d_Law_law_200 rfl ?_
  refine pv_iconst (v := 4) E d_Law_law_202 (by decide) ?_
  refine pv_iadd E d_Law_law_203 ?_
  refine pv_top (congrArg ps_int (nI_add i 4)) ?_
  refine pv_sld E hX hbl hbA (vp_in_nI (show i + 4 < n by omega) (by omega)) d_Law_law_204 ?_
  refine pv_top (congrArg ps_int (congrArg xs (nI_clamp (show i + 4 < 2 ^ 31 by omega)))) ?_
  refine pv_aloadR E d_Law_law_205 rfl rfl ?_
  refine pv_iload E d_Law_law_206 rfl ?_
  refine pv_iconst (v := 5) E d_Law_law_208 (by decide) ?_
  refine pv_iadd E d_Law_law_209 ?_
  refine pv_top (congrArg ps_int (nI_add i 5)) ?_
  refine pv_sld E hX hbl hbA (vp_in_nI (show i + 5 < n by omega) (by omega)) d_Law_law_210 ?_
  refine pv_top (congrArg ps_int (congrArg xs (nI_clamp (show i + 5 < 2 ^ 31 by omega)))) ?_
  refine pv_if_eq (tgt := 218) E d_Law_law_211 rfl (fun h211 => ?_) (fun h211 => ?_)
  · skip
    refine pv_iconst (v := 0) E d_Law_law_218 (by decide) ?_
    refine pv_aload_n E d_Law_law_219 rfl rfl ?_
    refine pv_callSW (n := 7) E rfl hZ hYs (fun adr => k_Law_then_0 l htr D ca A _ (xs (i + 1)) (xs (i + 2)) (xs (i + 3)) (xs (i + 4)) 0 t g hP hC hb hn (Or.inl rfl) hl12 adr) wx_521 wd_0 wd_520 wd_519 (by decide +kernel) (by decide +kernel) (by decide +kernel) rfl rfl ⟨by decide, by decide⟩ (Nat.le_of_ble_eq_true rfl) d_Law_law_220 ⟨by show _ ≤ 601024; dsimp only; omega, by show _ ≤ 7293034; dsimp only; omega⟩ (fun r220 σ220 hq220 => ?_)
    obtain ⟨hr220, σ1, hP1, hf1, hs1⟩ := hq220
    subst r220
    subst hs1
    have hM1 := (hM.fc hf1).sJ (v := Int32.toInt64 (nI (gN g)))
    refine pv_istore E d_Law_law_223 (by decide) ?_
    refine pv_aload_n E d_Law_law_225 rfl rfl ?_
    refine pv_aloadR E d_Law_law_226 rfl rfl ?_
    refine pv_iload E d_Law_law_227 rfl ?_
    refine pv_iconst (v := 1) E d_Law_law_229 (by decide) ?_
    refine pv_iadd E d_Law_law_230 ?_
    refine pv_top (congrArg ps_int (nI_add i 1)) ?_
    refine pv_sld E hX hbl hbA (vp_in_nI (show i + 1 < n by omega) (by omega)) d_Law_law_231 ?_
    refine pv_top (congrArg ps_int (congrArg xs (nI_clamp (show i + 1 < 2 ^ 31 by omega)))) ?_
    refine pv_aloadR E d_Law_law_232 rfl rfl ?_
    refine pv_iload E d_Law_law_233 rfl ?_
    refine pv_iconst (v := 2) E d_Law_law_235 (by decide) ?_
    refine pv_iadd E d_Law_law_236 ?_
    refine pv_top (congrArg ps_int (nI_add i 2)) ?_
    refine pv_sld E hX hbl hbA (vp_in_nI (show i + 2 < n by omega) (by omega)) d_Law_law_237 ?_
    refine pv_top (congrArg ps_int (congrArg xs (nI_clamp (show i + 2 < 2 ^ 31 by omega)))) ?_
    refine pv_aloadR E d_Law_law_238 rfl rfl ?_
    refine pv_iload E d_Law_law_239 rfl ?_
    refine pv_iconst (v := 3) E d_Law_law_241 (by decide) ?_
    refine pv_iadd E d_Law_law_242 ?_
    refine pv_top (congrArg ps_int (nI_add i 3)) ?_
    refine pv_sld E hX hbl hbA (vp_in_nI (show i + 3 < n by omega) (by omega)) d_Law_law_243 ?_
    refine pv_top (congrArg ps_int (congrArg xs (nI_clamp (show i + 3 < 2 ^ 31 by omega)))) ?_
    refine pv_aloadR E d_Law_law_244 rfl rfl ?_
    refine pv_iload E d_Law_law_245 rfl ?_
    refine pv_iconst (v := 4) E d_Law_law_247 (by decide) ?_
    refine pv_iadd E d_Law_law_248 ?_
    refine pv_top (congrArg ps_int (nI_add i 4)) ?_
    refine pv_sld E hX hbl hbA (vp_in_nI (show i + 4 < n by omega) (by omega)) d_Law_law_249 ?_
    refine pv_top (congrArg ps_int (congrArg xs (nI_clamp (show i + 4 < 2 ^ 31 by omega)))) ?_
    refine pv_aloadR E d_Law_law_250 rfl rfl ?_
    refine pv_iload E d_Law_law_251 rfl ?_
    refine pv_iconst (v := 5) E d_Law_law_253 (by decide) ?_
    refine pv_iadd E d_Law_law_254 ?_
    refine pv_top (congrArg ps_int (nI_add i 5)) ?_
    refine pv_sld E hX hbl hbA (vp_in_nI (show i + 5 < n by omega) (by omega)) d_Law_law_255 ?_
    refine pv_top (congrArg ps_int (congrArg xs (nI_clamp (show i + 5 < 2 ^ 31 by omega)))) ?_
    refine pv_if_eq (tgt := 263) E d_Law_law_256 rfl (fun h256 => ?_) (fun h256 => ?_)
    · skip
      refine pv_iconst (v := 0) E d_Law_law_263 (by decide) ?_
      refine pv_callV E (fun adr => k_Mod_then_0 l D ca A _ (xs (i + 1)) (xs (i + 2)) (xs (i + 3)) (xs (i + 4)) 0 t g hM1 hC.1 hY hb hn (Or.inl rfl) adr) yv_Mod_then wd_924 rfl rfl (fun _ => ⟨_, rfl⟩) rfl ⟨by decide, by decide⟩ (Nat.le_of_ble_eq_true rfl) d_Law_law_264 ⟨by show _ ≤ 601024; dsimp only; omega, by show _ ≤ 7293034; dsimp only; omega⟩ (fun r264 σ264 hq264 => ?_)
      obtain ⟨hr264, hM2, hY2, ht2, hf2⟩ := hq264
      subst r264
      refine pv_istore E d_Law_law_267 (by decide) ?_
      refine pv_aload_n E d_Law_law_269 rfl rfl ?_
      refine pv_callV E (fun adr => k_Mod_thrown l D ca A _ adr) yv_Mod_thrown wd_896 rfl rfl (fun _ => ⟨_, rfl⟩) rfl ⟨by decide, by decide⟩ (Nat.le_of_ble_eq_true rfl) d_Law_law_270 ⟨by show _ ≤ 601024; dsimp only; omega, by show _ ≤ 7293034; dsimp only; omega⟩ (fun r270 σ270 hq270 => ?_)
      obtain ⟨hr270, hs270⟩ := hq270
      subst r270
      subst σ270
      refine pv_top (congrArg ps_int ht2) ?_
      refine pv_iload E d_Law_law_273 rfl ?_
      refine pv_icmp_eq (tgt := 280) E d_Law_law_275 rfl (fun h275 => ?_) (fun h275 => ?_)
      · skip
        refine pv_iload E d_Law_law_280 rfl ?_
        refine pv_if_ne (tgt := 297) E d_Law_law_282 rfl (fun h282 => ?_) (fun h282 => ?_)
        · skip
          exact absurd rfl h282
        · skip
          refine pv_aload_n E d_Law_law_285 rfl rfl ?_
          refine pv_iconst (v := 0) E d_Law_law_286 (by decide) ?_
          refine pv_laload (t0 := 5) E 12 _ (fun _ _ _ _ _ => rfl) rfl (l12_in (hf2.l12 (hf1.l12 hl12))) d_Law_law_287 ?_
          refine pv_top (congrArg ps_lng (hf2.j12 (sJ_J _ _))) ?_
          refine pv_iload E d_Law_law_288 rfl ?_
          refine pv_i2l E d_Law_law_290 ?_
          refine pv_lcmp E d_Law_law_291 ?_
          refine pv_if_eq (tgt := 297) E d_Law_law_292 rfl (fun h292 => ?_) (fun h292 => ?_)
          · skip
            refine pv_goto (tgt := 1214) E d_Law_law_297 rfl ?_
            exact pv_sub (L' := [(0, ps_raw b), (1, ps_ref (some (0, 0))), (2, ps_ref (some (13, 0))), (3, ps_ref (some (12, 0))), (4, ps_int (nI i))]) ⟨rfl, rfl, rfl, rfl, rfl, trivial⟩ (kk _ _ _ _ _ (LI.fin hP1.sJ (hf1.l12 hl12) hM2 hf2 (hV.nw (hC.1.mk hn (Nat.le_of_ble_eq_true rfl) (fun z hz => by rw [List.mem_singleton] at hz; rw [hz]; exact hb.1.2) ⟨Or.inr (Nat.succ_pos _), fun z => absurd hb.2.2.1 (by rw [z]; decide)⟩) hY2)) (by dsimp only; omega) (by dsimp only; omega))
          · skip
            exact absurd (cmp0 _) h292
      · skip
        exact absurd rfl h275
    · skip
      exact absurd h211 h256
  · skip
    refine pv_iconst (v := 1) E d_Law_law_214 (by decide) ?_
    refine pv_goto (tgt := 219) E d_Law_law_215 rfl ?_
    refine pv_aload_n E d_Law_law_219 rfl rfl ?_
    refine pv_callSW (n := 7) E rfl hZ hYs (fun adr => k_Law_then_0 l htr D ca A _ (xs (i + 1)) (xs (i + 2)) (xs (i + 3)) (xs (i + 4)) 1 t g hP hC hb hn (Or.inr rfl) hl12 adr) wx_521 wd_0 wd_520 wd_519 (by decide +kernel) (by decide +kernel) (by decide +kernel) rfl rfl ⟨by decide, by decide⟩ (Nat.le_of_ble_eq_true rfl) d_Law_law_220 ⟨by show _ ≤ 601024; dsimp only; omega, by show _ ≤ 7293034; dsimp only; omega⟩ (fun r220 σ220 hq220 => ?_)
    obtain ⟨hr220, σ1, hP1, hf1, hs1⟩ := hq220
    subst r220
    subst hs1
    have hM1 := (hM.fc hf1).sJ (v := Int32.toInt64 (nI (gN g)))
    refine pv_istore E d_Law_law_223 (by decide) ?_
    refine pv_aload_n E d_Law_law_225 rfl rfl ?_
    refine pv_aloadR E d_Law_law_226 rfl rfl ?_
    refine pv_iload E d_Law_law_227 rfl ?_
    refine pv_iconst (v := 1) E d_Law_law_229 (by decide) ?_
    refine pv_iadd E d_Law_law_230 ?_
    refine pv_top (congrArg ps_int (nI_add i 1)) ?_
    refine pv_sld E hX hbl hbA (vp_in_nI (show i + 1 < n by omega) (by omega)) d_Law_law_231 ?_
    refine pv_top (congrArg ps_int (congrArg xs (nI_clamp (show i + 1 < 2 ^ 31 by omega)))) ?_
    refine pv_aloadR E d_Law_law_232 rfl rfl ?_
    refine pv_iload E d_Law_law_233 rfl ?_
    refine pv_iconst (v := 2) E d_Law_law_235 (by decide) ?_
    refine pv_iadd E d_Law_law_236 ?_
    refine pv_top (congrArg ps_int (nI_add i 2)) ?_
    refine pv_sld E hX hbl hbA (vp_in_nI (show i + 2 < n by omega) (by omega)) d_Law_law_237 ?_
    refine pv_top (congrArg ps_int (congrArg xs (nI_clamp (show i + 2 < 2 ^ 31 by omega)))) ?_
    refine pv_aloadR E d_Law_law_238 rfl rfl ?_
    refine pv_iload E d_Law_law_239 rfl ?_
    refine pv_iconst (v := 3) E d_Law_law_241 (by decide) ?_
    refine pv_iadd E d_Law_law_242 ?_
    refine pv_top (congrArg ps_int (nI_add i 3)) ?_
    refine pv_sld E hX hbl hbA (vp_in_nI (show i + 3 < n by omega) (by omega)) d_Law_law_243 ?_
    refine pv_top (congrArg ps_int (congrArg xs (nI_clamp (show i + 3 < 2 ^ 31 by omega)))) ?_
    refine pv_aloadR E d_Law_law_244 rfl rfl ?_
    refine pv_iload E d_Law_law_245 rfl ?_
    refine pv_iconst (v := 4) E d_Law_law_247 (by decide) ?_
    refine pv_iadd E d_Law_law_248 ?_
    refine pv_top (congrArg ps_int (nI_add i 4)) ?_
    refine pv_sld E hX hbl hbA (vp_in_nI (show i + 4 < n by omega) (by omega)) d_Law_law_249 ?_
    refine pv_top (congrArg ps_int (congrArg xs (nI_clamp (show i + 4 < 2 ^ 31 by omega)))) ?_
    refine pv_aloadR E d_Law_law_250 rfl rfl ?_
    refine pv_iload E d_Law_law_251 rfl ?_
    refine pv_iconst (v := 5) E d_Law_law_253 (by decide) ?_
    refine pv_iadd E d_Law_law_254 ?_
    refine pv_top (congrArg ps_int (nI_add i 5)) ?_
    refine pv_sld E hX hbl hbA (vp_in_nI (show i + 5 < n by omega) (by omega)) d_Law_law_255 ?_
    refine pv_top (congrArg ps_int (congrArg xs (nI_clamp (show i + 5 < 2 ^ 31 by omega)))) ?_
    refine pv_if_eq (tgt := 263) E d_Law_law_256 rfl (fun h256 => ?_) (fun h256 => ?_)
    · skip
      exact absurd h256 h211
    · skip
      refine pv_iconst (v := 1) E d_Law_law_259 (by decide) ?_
      refine pv_goto (tgt := 264) E d_Law_law_260 rfl ?_
      refine pv_callV E (fun adr => k_Mod_then_0 l D ca A _ (xs (i + 1)) (xs (i + 2)) (xs (i + 3)) (xs (i + 4)) 1 t g hM1 hC.1 hY hb hn (Or.inr rfl) adr) yv_Mod_then wd_924 rfl rfl (fun _ => ⟨_, rfl⟩) rfl ⟨by decide, by decide⟩ (Nat.le_of_ble_eq_true rfl) d_Law_law_264 ⟨by show _ ≤ 601024; dsimp only; omega, by show _ ≤ 7293034; dsimp only; omega⟩ (fun r264 σ264 hq264 => ?_)
      obtain ⟨hr264, hM2, hY2, ht2, hf2⟩ := hq264
      subst r264
      refine pv_istore E d_Law_law_267 (by decide) ?_
      refine pv_aload_n E d_Law_law_269 rfl rfl ?_
      refine pv_callV E (fun adr => k_Mod_thrown l D ca A _ adr) yv_Mod_thrown wd_896 rfl rfl (fun _ => ⟨_, rfl⟩) rfl ⟨by decide, by decide⟩ (Nat.le_of_ble_eq_true rfl) d_Law_law_270 ⟨by show _ ≤ 601024; dsimp only; omega, by show _ ≤ 7293034; dsimp only; omega⟩ (fun r270 σ270 hq270 => ?_)
      obtain ⟨hr270, hs270⟩ := hq270
      subst r270
      subst σ270
      refine pv_top (congrArg ps_int ht2) ?_
      refine pv_iload E d_Law_law_273 rfl ?_
      refine pv_icmp_eq (tgt := 280) E d_Law_law_275 rfl (fun h275 => ?_) (fun h275 => ?_)
      · skip
        refine pv_iload E d_Law_law_280 rfl ?_
        refine pv_if_ne (tgt := 297) E d_Law_law_282 rfl (fun h282 => ?_) (fun h282 => ?_)
        · skip
          exact absurd rfl h282
        · skip
          refine pv_aload_n E d_Law_law_285 rfl rfl ?_
          refine pv_iconst (v := 0) E d_Law_law_286 (by decide) ?_
          refine pv_laload (t0 := 5) E 12 _ (fun _ _ _ _ _ => rfl) rfl (l12_in (hf2.l12 (hf1.l12 hl12))) d_Law_law_287 ?_
          refine pv_top (congrArg ps_lng (hf2.j12 (sJ_J _ _))) ?_
          refine pv_iload E d_Law_law_288 rfl ?_
          refine pv_i2l E d_Law_law_290 ?_
          refine pv_lcmp E d_Law_law_291 ?_
          refine pv_if_eq (tgt := 297) E d_Law_law_292 rfl (fun h292 => ?_) (fun h292 => ?_)
          · skip
            refine pv_goto (tgt := 1214) E d_Law_law_297 rfl ?_
            exact pv_sub (L' := [(0, ps_raw b), (1, ps_ref (some (0, 0))), (2, ps_ref (some (13, 0))), (3, ps_ref (some (12, 0))), (4, ps_int (nI i))]) ⟨rfl, rfl, rfl, rfl, rfl, trivial⟩ (kk _ _ _ _ _ (LI.fin hP1.sJ (hf1.l12 hl12) hM2 hf2 (hV.nw (hC.1.mk hn (Nat.le_of_ble_eq_true rfl) (fun z hz => by rw [List.mem_singleton] at hz; rw [hz]; exact hb.1.2) ⟨Or.inr (Nat.succ_pos _), fun z => absurd hb.2.2.1 (by rw [z]; decide)⟩) hY2)) (by dsimp only; omega) (by dsimp only; omega))
          · skip
            exact absurd (cmp0 _) h292
      · skip
        exact absurd rfl h275
set_option maxHeartbeats 8000000 in
set_option maxRecDepth 100000 in
theorem lc_then_A {p : Program} {e : Env} {s : State} {m : MethodId} {args : Array Value} {below : List Frame} {meth : Method} {c : Code} {D : va_G} {ca : Nat → ClassId} {A : Nat → Prop} {adr0 : Nat → Nat → Nat} {σ0 : ps_S} {Q : State → Prop} (l : Launch) (htr : l.stackTraces = false) (E : ps_E p s m c code 7 "PromiseScopesLaw" D ca) {b n : Nat} {xs : Nat → Int32} (hX : va_X b n xs s s.heap) (hbl : b < s.heap.size) (hbA : ¬ A b) (hZ : ps_Z A s) (hYs : ps_Y s) {σ : ps_S} {t : tT} {g : gT} (hI : LI σ t g) {i : Nat} (hin : i + 7 ≤ n) (hn84 : n ≤ 3584) {ce sl : Nat} (hce : ce + 8 ≤ 601024) (hsl : sl + 64 ≤ 7293034) (hb : ¬ a_then g (xs (i + 1)) (xs (i + 2)) (xs (i + 3))) (kk : ∀ σ' t' g' ce' sl', LI σ' t' g' → ce' ≤ ce + 8 → sl' ≤ sl + 64 → ps_V p l e room_1 s m args below meth c 7 D ca A s.heap adr0 σ0 Q 1214 [(0, ps_raw b), (1, ps_ref (some (0, 0))), (2, ps_ref (some (13, 0))), (3, ps_ref (some (12, 0))), (4, ps_int (nI i))] [] σ' ce' sl') : ps_V p l e room_1 s m args below meth c 7 D ca A s.heap adr0 σ0 Q 180 [(0, ps_raw b), (1, ps_ref (some (0, 0))), (2, ps_ref (some (13, 0))), (3, ps_ref (some (12, 0))), (4, ps_int (nI i))] [] σ ce sl := by
  have hP := hI.1
  have hM := hI.2.1
  have hV := hI.2.2.1
  have hl12 := hI.2.2.2
  have hC := hV.C
  have hY := hV.Y
  have hW := hC.2.1
  refine pv_aload_n E d_Law_law_180 rfl rfl ?_
  refine pv_aloadR E d_Law_law_181 rfl rfl ?_
  refine pv_iload E d_Law_law_182 rfl ?_
  refine pv_iconst (v := 1) E d_Law_law_184 (by decide) ?_
  refine pv_iadd E d_Law_law_185 ?_
  refine pv_top (congrArg ps_int (nI_add i 1)) ?_
  refine pv_sld E hX hbl hbA (vp_in_nI (show i + 1 < n by omega) (by omega)) d_Law_law_186 ?_
  refine pv_top (congrArg ps_int (congrArg xs (nI_clamp (show i + 1 < 2 ^ 31 by omega)))) ?_
  refine pv_aloadR E d_Law_law_187 rfl rfl ?_
  refine pv_iload E d_Law_law_188 rfl ?_
  refine pv_iconst (v := 2) E d_Law_law_190 (by decide) ?_
  refine pv_iadd E d_Law_law_191 ?_
  refine pv_top (congrArg ps_int (nI_add i 2)) ?_
  refine pv_sld E hX hbl hbA (vp_in_nI (show i + 2 < n by omega) (by omega)) d_Law_law_192 ?_
  refine pv_top (congrArg ps_int (congrArg xs (nI_clamp (show i + 2 < 2 ^ 31 by omega)))) ?_
  refine pv_aloadR E d_Law_law_193 rfl rfl ?_
  refine pv_iload E d_Law_law_194 rfl ?_
  refine pv_iconst (v := 3) E d_Law_law_196 (by decide) ?_
  refine pv_iadd E d_Law_law_197 ?_
  refine pv_top (congrArg ps_int (nI_add i 3)) ?_
  refine pv_sld E hX hbl hbA (vp_in_nI (show i + 3 < n by omega) (by omega)) d_Law_law_198 ?_
  refine pv_top (congrArg ps_int (congrArg xs (nI_clamp (show i + 3 < 2 ^ 31 by omega)))) ?_
  refine pv_aloadR E d_Law_law_199 rfl rfl ?_
  refine pv_iload E d_Law_law_200 rfl ?_
  refine pv_iconst (v := 4) E d_Law_law_202 (by decide) ?_
  refine pv_iadd E d_Law_law_203 ?_
  refine pv_top (congrArg ps_int (nI_add i 4)) ?_
  refine pv_sld E hX hbl hbA (vp_in_nI (show i + 4 < n by omega) (by omega)) d_Law_law_204 ?_
  refine pv_top (congrArg ps_int (congrArg xs (nI_clamp (show i + 4 < 2 ^ 31 by omega)))) ?_
  refine pv_aloadR E d_Law_law_205 rfl rfl ?_
  refine pv_iload E d_Law_law_206 rfl ?_
  refine pv_iconst (v := 5) E d_Law_law_208 (by decide) ?_
  refine pv_iadd E d_Law_law_209 ?_
  refine pv_top (congrArg ps_int (nI_add i 5)) ?_
  refine pv_sld E hX hbl hbA (vp_in_nI (show i + 5 < n by omega) (by omega)) d_Law_law_210 ?_
  refine pv_top (congrArg ps_int (congrArg xs (nI_clamp (show i + 5 < 2 ^ 31 by omega)))) ?_
  refine pv_if_eq (tgt := 218) E d_Law_law_211 rfl (fun h211 => ?_) (fun h211 => ?_)
  · skip
    refine pv_iconst (v := 0) E d_Law_law_218 (by decide) ?_
    refine pv_aload_n E d_Law_law_219 rfl rfl ?_
    refine pv_callSW (n := 7) E rfl hZ hYs (fun adr => k_Law_then_A l htr D ca A _ (xs (i + 1)) (xs (i + 2)) (xs (i + 3)) (xs (i + 4)) 0 t g hP hC hb adr) wx_521 wd_0 wd_520 wd_519 (by decide +kernel) (by decide +kernel) (by decide +kernel) rfl rfl ⟨by decide, by decide⟩ (Nat.le_of_ble_eq_true rfl) d_Law_law_220 ⟨by show _ ≤ 601024; dsimp only; omega, by show _ ≤ 7293034; dsimp only; omega⟩ (fun r220 σ220 hq220 => ?_)
    obtain ⟨hr220, hs220⟩ := hq220
    subst r220
    subst σ220
    refine pv_istore E d_Law_law_223 (by decide) ?_
    refine pv_aload_n E d_Law_law_225 rfl rfl ?_
    refine pv_aloadR E d_Law_law_226 rfl rfl ?_
    refine pv_iload E d_Law_law_227 rfl ?_
    refine pv_iconst (v := 1) E d_Law_law_229 (by decide) ?_
    refine pv_iadd E d_Law_law_230 ?_
    refine pv_top (congrArg ps_int (nI_add i 1)) ?_
    refine pv_sld E hX hbl hbA (vp_in_nI (show i + 1 < n by omega) (by omega)) d_Law_law_231 ?_
    refine pv_top (congrArg ps_int (congrArg xs (nI_clamp (show i + 1 < 2 ^ 31 by omega)))) ?_
    refine pv_aloadR E d_Law_law_232 rfl rfl ?_
    refine pv_iload E d_Law_law_233 rfl ?_
    refine pv_iconst (v := 2) E d_Law_law_235 (by decide) ?_
    refine pv_iadd E d_Law_law_236 ?_
    refine pv_top (congrArg ps_int (nI_add i 2)) ?_
    refine pv_sld E hX hbl hbA (vp_in_nI (show i + 2 < n by omega) (by omega)) d_Law_law_237 ?_
    refine pv_top (congrArg ps_int (congrArg xs (nI_clamp (show i + 2 < 2 ^ 31 by omega)))) ?_
    refine pv_aloadR E d_Law_law_238 rfl rfl ?_
    refine pv_iload E d_Law_law_239 rfl ?_
    refine pv_iconst (v := 3) E d_Law_law_241 (by decide) ?_
    refine pv_iadd E d_Law_law_242 ?_
    refine pv_top (congrArg ps_int (nI_add i 3)) ?_
    refine pv_sld E hX hbl hbA (vp_in_nI (show i + 3 < n by omega) (by omega)) d_Law_law_243 ?_
    refine pv_top (congrArg ps_int (congrArg xs (nI_clamp (show i + 3 < 2 ^ 31 by omega)))) ?_
    refine pv_aloadR E d_Law_law_244 rfl rfl ?_
    refine pv_iload E d_Law_law_245 rfl ?_
    refine pv_iconst (v := 4) E d_Law_law_247 (by decide) ?_
    refine pv_iadd E d_Law_law_248 ?_
    refine pv_top (congrArg ps_int (nI_add i 4)) ?_
    refine pv_sld E hX hbl hbA (vp_in_nI (show i + 4 < n by omega) (by omega)) d_Law_law_249 ?_
    refine pv_top (congrArg ps_int (congrArg xs (nI_clamp (show i + 4 < 2 ^ 31 by omega)))) ?_
    refine pv_aloadR E d_Law_law_250 rfl rfl ?_
    refine pv_iload E d_Law_law_251 rfl ?_
    refine pv_iconst (v := 5) E d_Law_law_253 (by decide) ?_
    refine pv_iadd E d_Law_law_254 ?_
    refine pv_top (congrArg ps_int (nI_add i 5)) ?_
    refine pv_sld E hX hbl hbA (vp_in_nI (show i + 5 < n by omega) (by omega)) d_Law_law_255 ?_
    refine pv_top (congrArg ps_int (congrArg xs (nI_clamp (show i + 5 < 2 ^ 31 by omega)))) ?_
    refine pv_if_eq (tgt := 263) E d_Law_law_256 rfl (fun h256 => ?_) (fun h256 => ?_)
    · skip
      refine pv_iconst (v := 0) E d_Law_law_263 (by decide) ?_
      refine pv_callV E (fun adr => k_Mod_then_1 l D ca A _ (xs (i + 1)) (xs (i + 2)) (xs (i + 3)) (xs (i + 4)) 0 t g hM hC.1 hY hb adr) yv_Mod_then wd_924 rfl rfl (fun _ => ⟨_, rfl⟩) rfl ⟨by decide, by decide⟩ (Nat.le_of_ble_eq_true rfl) d_Law_law_264 ⟨by show _ ≤ 601024; dsimp only; omega, by show _ ≤ 7293034; dsimp only; omega⟩ (fun r264 σ264 hq264 => ?_)
      obtain ⟨hr264, hs264⟩ := hq264
      subst r264
      subst σ264
      refine pv_istore E d_Law_law_267 (by decide) ?_
      refine pv_aload_n E d_Law_law_269 rfl rfl ?_
      refine pv_callV E (fun adr => k_Mod_thrown l D ca A _ adr) yv_Mod_thrown wd_896 rfl rfl (fun _ => ⟨_, rfl⟩) rfl ⟨by decide, by decide⟩ (Nat.le_of_ble_eq_true rfl) d_Law_law_270 ⟨by show _ ≤ 601024; dsimp only; omega, by show _ ≤ 7293034; dsimp only; omega⟩ (fun r270 σ270 hq270 => ?_)
      obtain ⟨hr270, hs270⟩ := hq270
      subst r270
      subst σ270
      refine pv_top (congrArg ps_int (ps_I_eq _ _ _ _ _)) ?_
      refine pv_iload E d_Law_law_273 rfl ?_
      refine pv_icmp_eq (tgt := 280) E d_Law_law_275 rfl (fun h275 => ?_) (fun h275 => ?_)
      · skip
        refine pv_iload E d_Law_law_280 rfl ?_
        refine pv_if_ne (tgt := 297) E d_Law_law_282 rfl (fun h282 => ?_) (fun h282 => ?_)
        · skip
          refine pv_goto (tgt := 1214) E d_Law_law_297 rfl ?_
          exact pv_sub (L' := [(0, ps_raw b), (1, ps_ref (some (0, 0))), (2, ps_ref (some (13, 0))), (3, ps_ref (some (12, 0))), (4, ps_int (nI i))]) ⟨rfl, rfl, rfl, rfl, rfl, trivial⟩ (kk _ _ _ _ _ (hI.thr) (by dsimp only; omega) (by dsimp only; omega))
        · skip
          exact absurd h282 (by decide)
      · skip
        exact absurd rfl h275
    · skip
      exact absurd h211 h256
  · skip
    refine pv_iconst (v := 1) E d_Law_law_214 (by decide) ?_
    refine pv_goto (tgt := 219) E d_Law_law_215 rfl ?_
    refine pv_aload_n E d_Law_law_219 rfl rfl ?_
    refine pv_callSW (n := 7) E rfl hZ hYs (fun adr => k_Law_then_A l htr D ca A _ (xs (i + 1)) (xs (i + 2)) (xs (i + 3)) (xs (i + 4)) 1 t g hP hC hb adr) wx_521 wd_0 wd_520 wd_519 (by decide +kernel) (by decide +kernel) (by decide +kernel) rfl rfl ⟨by decide, by decide⟩ (Nat.le_of_ble_eq_true rfl) d_Law_law_220 ⟨by show _ ≤ 601024; dsimp only; omega, by show _ ≤ 7293034; dsimp only; omega⟩ (fun r220 σ220 hq220 => ?_)
    obtain ⟨hr220, hs220⟩ := hq220
    subst r220
    subst σ220
    refine pv_istore E d_Law_law_223 (by decide) ?_
    refine pv_aload_n E d_Law_law_225 rfl rfl ?_
    refine pv_aloadR E d_Law_law_226 rfl rfl ?_
    refine pv_iload E d_Law_law_227 rfl ?_
    refine pv_iconst (v := 1) E d_Law_law_229 (by decide) ?_
    refine pv_iadd E d_Law_law_230 ?_
    refine pv_top (congrArg ps_int (nI_add i 1)) ?_
    refine pv_sld E hX hbl hbA (vp_in_nI (show i + 1 < n by omega) (by omega)) d_Law_law_231 ?_
    refine pv_top (congrArg ps_int (congrArg xs (nI_clamp (show i + 1 < 2 ^ 31 by omega)))) ?_
    refine pv_aloadR E d_Law_law_232 rfl rfl ?_
    refine pv_iload E d_Law_law_233 rfl ?_
    refine pv_iconst (v := 2) E d_Law_law_235 (by decide) ?_
    refine pv_iadd E d_Law_law_236 ?_
    refine pv_top (congrArg ps_int (nI_add i 2)) ?_
    refine pv_sld E hX hbl hbA (vp_in_nI (show i + 2 < n by omega) (by omega)) d_Law_law_237 ?_
    refine pv_top (congrArg ps_int (congrArg xs (nI_clamp (show i + 2 < 2 ^ 31 by omega)))) ?_
    refine pv_aloadR E d_Law_law_238 rfl rfl ?_
    refine pv_iload E d_Law_law_239 rfl ?_
    refine pv_iconst (v := 3) E d_Law_law_241 (by decide) ?_
    refine pv_iadd E d_Law_law_242 ?_
    refine pv_top (congrArg ps_int (nI_add i 3)) ?_
    refine pv_sld E hX hbl hbA (vp_in_nI (show i + 3 < n by omega) (by omega)) d_Law_law_243 ?_
    refine pv_top (congrArg ps_int (congrArg xs (nI_clamp (show i + 3 < 2 ^ 31 by omega)))) ?_
    refine pv_aloadR E d_Law_law_244 rfl rfl ?_
    refine pv_iload E d_Law_law_245 rfl ?_
    refine pv_iconst (v := 4) E d_Law_law_247 (by decide) ?_
    refine pv_iadd E d_Law_law_248 ?_
    refine pv_top (congrArg ps_int (nI_add i 4)) ?_
    refine pv_sld E hX hbl hbA (vp_in_nI (show i + 4 < n by omega) (by omega)) d_Law_law_249 ?_
    refine pv_top (congrArg ps_int (congrArg xs (nI_clamp (show i + 4 < 2 ^ 31 by omega)))) ?_
    refine pv_aloadR E d_Law_law_250 rfl rfl ?_
    refine pv_iload E d_Law_law_251 rfl ?_
    refine pv_iconst (v := 5) E d_Law_law_253 (by decide) ?_
    refine pv_iadd E d_Law_law_254 ?_
    refine pv_top (congrArg ps_int (nI_add i 5)) ?_
    refine pv_sld E hX hbl hbA (vp_in_nI (show i + 5 < n by omega) (by omega)) d_Law_law_255 ?_
    refine pv_top (congrArg ps_int (congrArg xs (nI_clamp (show i + 5 < 2 ^ 31 by omega)))) ?_
    refine pv_if_eq (tgt := 263) E d_Law_law_256 rfl (fun h256 => ?_) (fun h256 => ?_)
    · skip
      exact absurd h256 h211
    · skip
      refine pv_iconst (v := 1) E d_Law_law_259 (by decide) ?_
      refine pv_goto (tgt := 264) E d_Law_law_260 rfl ?_
      refine pv_callV E (fun adr => k_Mod_then_1 l D ca A _ (xs (i + 1)) (xs (i + 2)) (xs (i + 3)) (xs (i + 4)) 1 t g hM hC.1 hY hb adr) yv_Mod_then wd_924 rfl rfl (fun _ => ⟨_, rfl⟩) rfl ⟨by decide, by decide⟩ (Nat.le_of_ble_eq_true rfl) d_Law_law_264 ⟨by show _ ≤ 601024; dsimp only; omega, by show _ ≤ 7293034; dsimp only; omega⟩ (fun r264 σ264 hq264 => ?_)
      obtain ⟨hr264, hs264⟩ := hq264
      subst r264
      subst σ264
      refine pv_istore E d_Law_law_267 (by decide) ?_
      refine pv_aload_n E d_Law_law_269 rfl rfl ?_
      refine pv_callV E (fun adr => k_Mod_thrown l D ca A _ adr) yv_Mod_thrown wd_896 rfl rfl (fun _ => ⟨_, rfl⟩) rfl ⟨by decide, by decide⟩ (Nat.le_of_ble_eq_true rfl) d_Law_law_270 ⟨by show _ ≤ 601024; dsimp only; omega, by show _ ≤ 7293034; dsimp only; omega⟩ (fun r270 σ270 hq270 => ?_)
      obtain ⟨hr270, hs270⟩ := hq270
      subst r270
      subst σ270
      refine pv_top (congrArg ps_int (ps_I_eq _ _ _ _ _)) ?_
      refine pv_iload E d_Law_law_273 rfl ?_
      refine pv_icmp_eq (tgt := 280) E d_Law_law_275 rfl (fun h275 => ?_) (fun h275 => ?_)
      · skip
        refine pv_iload E d_Law_law_280 rfl ?_
        refine pv_if_ne (tgt := 297) E d_Law_law_282 rfl (fun h282 => ?_) (fun h282 => ?_)
        · skip
          refine pv_goto (tgt := 1214) E d_Law_law_297 rfl ?_
          exact pv_sub (L' := [(0, ps_raw b), (1, ps_ref (some (0, 0))), (2, ps_ref (some (13, 0))), (3, ps_ref (some (12, 0))), (4, ps_int (nI i))]) ⟨rfl, rfl, rfl, rfl, rfl, trivial⟩ (kk _ _ _ _ _ (hI.thr) (by dsimp only; omega) (by dsimp only; omega))
        · skip
          exact absurd h282 (by decide)
      · skip
        exact absurd rfl h275
set_option maxHeartbeats 8000000 in
set_option maxRecDepth 100000 in
theorem lc_then_S {p : Program} {e : Env} {s : State} {m : MethodId} {args : Array Value} {below : List Frame} {meth : Method} {c : Code} {D : va_G} {ca : Nat → ClassId} {A : Nat → Prop} {adr0 : Nat → Nat → Nat} {σ0 : ps_S} {Q : State → Prop} (l : Launch) (htr : l.stackTraces = false) (E : ps_E p s m c code 7 "PromiseScopesLaw" D ca) {b n : Nat} {xs : Nat → Int32} (hX : va_X b n xs s s.heap) (hbl : b < s.heap.size) (hbA : ¬ A b) (hZ : ps_Z A s) (hYs : ps_Y s) {σ : ps_S} {t : tT} {g : gT} (hI : LI σ t g) {i : Nat} (hin : i + 7 ≤ n) (hn84 : n ≤ 3584) {ce sl : Nat} (hce : ce + 8 ≤ 601024) (hsl : sl + 64 ≤ 7293034) (hb : a_then g (xs (i + 1)) (xs (i + 2)) (xs (i + 3))) (hn : ¬ gN g < 48) (kk : ∀ σ' t' g' ce' sl', LI σ' t' g' → ce' ≤ ce + 8 → sl' ≤ sl + 64 → ps_V p l e room_1 s m args below meth c 7 D ca A s.heap adr0 σ0 Q 1214 [(0, ps_raw b), (1, ps_ref (some (0, 0))), (2, ps_ref (some (13, 0))), (3, ps_ref (some (12, 0))), (4, ps_int (nI i))] [] σ' ce' sl') : ps_V p l e room_1 s m args below meth c 7 D ca A s.heap adr0 σ0 Q 180 [(0, ps_raw b), (1, ps_ref (some (0, 0))), (2, ps_ref (some (13, 0))), (3, ps_ref (some (12, 0))), (4, ps_int (nI i))] [] σ ce sl := by
  have hP := hI.1
  have hM := hI.2.1
  have hV := hI.2.2.1
  have hl12 := hI.2.2.2
  have hC := hV.C
  have hY := hV.Y
  have hW := hC.2.1
  refine pv_aload_n E d_Law_law_180 rfl rfl ?_
  refine pv_aloadR E d_Law_law_181 rfl rfl ?_
  refine pv_iload E d_Law_law_182 rfl ?_
  refine pv_iconst (v := 1) E d_Law_law_184 (by decide) ?_
  refine pv_iadd E d_Law_law_185 ?_
  refine pv_top (congrArg ps_int (nI_add i 1)) ?_
  refine pv_sld E hX hbl hbA (vp_in_nI (show i + 1 < n by omega) (by omega)) d_Law_law_186 ?_
  refine pv_top (congrArg ps_int (congrArg xs (nI_clamp (show i + 1 < 2 ^ 31 by omega)))) ?_
  refine pv_aloadR E d_Law_law_187 rfl rfl ?_
  refine pv_iload E d_Law_law_188 rfl ?_
  refine pv_iconst (v := 2) E d_Law_law_190 (by decide) ?_
  refine pv_iadd E d_Law_law_191 ?_
  refine pv_top (congrArg ps_int (nI_add i 2)) ?_
  refine pv_sld E hX hbl hbA (vp_in_nI (show i + 2 < n by omega) (by omega)) d_Law_law_192 ?_
  refine pv_top (congrArg ps_int (congrArg xs (nI_clamp (show i + 2 < 2 ^ 31 by omega)))) ?_
  refine pv_aloadR E d_Law_law_193 rfl rfl ?_
  refine pv_iload E d_Law_law_194 rfl ?_
  refine pv_iconst (v := 3) E d_Law_law_196 (by decide) ?_
  refine pv_iadd E d_Law_law_197 ?_
  refine pv_top (congrArg ps_int (nI_add i 3)) ?_
  refine pv_sld E hX hbl hbA (vp_in_nI (show i + 3 < n by omega) (by omega)) d_Law_law_198 ?_
  refine pv_top (congrArg ps_int (congrArg xs (nI_clamp (show i + 3 < 2 ^ 31 by omega)))) ?_
  refine pv_aloadR E d_Law_law_199 rfl rfl ?_
  refine pv_iload E d_Law_law_200 rfl ?_
  refine pv_iconst (v := 4) E d_Law_law_202 (by decide) ?_
  refine pv_iadd E d_Law_law_203 ?_
  refine pv_top (congrArg ps_int (nI_add i 4)) ?_
  refine pv_sld E hX hbl hbA (vp_in_nI (show i + 4 < n by omega) (by omega)) d_Law_law_204 ?_
  refine pv_top (congrArg ps_int (congrArg xs (nI_clamp (show i + 4 < 2 ^ 31 by omega)))) ?_
  refine pv_aloadR E d_Law_law_205 rfl rfl ?_
  refine pv_iload E d_Law_law_206 rfl ?_
  refine pv_iconst (v := 5) E d_Law_law_208 (by decide) ?_
  refine pv_iadd E d_Law_law_209 ?_
  refine pv_top (congrArg ps_int (nI_add i 5)) ?_
  refine pv_sld E hX hbl hbA (vp_in_nI (show i + 5 < n by omega) (by omega)) d_Law_law_210 ?_
  refine pv_top (congrArg ps_int (congrArg xs (nI_clamp (show i + 5 < 2 ^ 31 by omega)))) ?_
  refine pv_if_eq (tgt := 218) E d_Law_law_211 rfl (fun h211 => ?_) (fun h211 => ?_)
  · skip
    refine pv_iconst (v := 0) E d_Law_law_218 (by decide) ?_
    refine pv_aload_n E d_Law_law_219 rfl rfl ?_
    refine pv_callSW (n := 7) E rfl hZ hYs (fun adr => k_Law_then_S l htr D ca A _ (xs (i + 1)) (xs (i + 2)) (xs (i + 3)) (xs (i + 4)) 0 t g hP hC hb hn adr) wx_521 wd_0 wd_520 wd_519 (by decide +kernel) (by decide +kernel) (by decide +kernel) rfl rfl ⟨by decide, by decide⟩ (Nat.le_of_ble_eq_true rfl) d_Law_law_220 ⟨by show _ ≤ 601024; dsimp only; omega, by show _ ≤ 7293034; dsimp only; omega⟩ (fun r220 σ220 hq220 => ?_)
    obtain ⟨hr220, hs220⟩ := hq220
    subst r220
    subst σ220
    refine pv_istore E d_Law_law_223 (by decide) ?_
    refine pv_aload_n E d_Law_law_225 rfl rfl ?_
    refine pv_aloadR E d_Law_law_226 rfl rfl ?_
    refine pv_iload E d_Law_law_227 rfl ?_
    refine pv_iconst (v := 1) E d_Law_law_229 (by decide) ?_
    refine pv_iadd E d_Law_law_230 ?_
    refine pv_top (congrArg ps_int (nI_add i 1)) ?_
    refine pv_sld E hX hbl hbA (vp_in_nI (show i + 1 < n by omega) (by omega)) d_Law_law_231 ?_
    refine pv_top (congrArg ps_int (congrArg xs (nI_clamp (show i + 1 < 2 ^ 31 by omega)))) ?_
    refine pv_aloadR E d_Law_law_232 rfl rfl ?_
    refine pv_iload E d_Law_law_233 rfl ?_
    refine pv_iconst (v := 2) E d_Law_law_235 (by decide) ?_
    refine pv_iadd E d_Law_law_236 ?_
    refine pv_top (congrArg ps_int (nI_add i 2)) ?_
    refine pv_sld E hX hbl hbA (vp_in_nI (show i + 2 < n by omega) (by omega)) d_Law_law_237 ?_
    refine pv_top (congrArg ps_int (congrArg xs (nI_clamp (show i + 2 < 2 ^ 31 by omega)))) ?_
    refine pv_aloadR E d_Law_law_238 rfl rfl ?_
    refine pv_iload E d_Law_law_239 rfl ?_
    refine pv_iconst (v := 3) E d_Law_law_241 (by decide) ?_
    refine pv_iadd E d_Law_law_242 ?_
    refine pv_top (congrArg ps_int (nI_add i 3)) ?_
    refine pv_sld E hX hbl hbA (vp_in_nI (show i + 3 < n by omega) (by omega)) d_Law_law_243 ?_
    refine pv_top (congrArg ps_int (congrArg xs (nI_clamp (show i + 3 < 2 ^ 31 by omega)))) ?_
    refine pv_aloadR E d_Law_law_244 rfl rfl ?_
    refine pv_iload E d_Law_law_245 rfl ?_
    refine pv_iconst (v := 4) E d_Law_law_247 (by decide) ?_
    refine pv_iadd E d_Law_law_248 ?_
    refine pv_top (congrArg ps_int (nI_add i 4)) ?_
    refine pv_sld E hX hbl hbA (vp_in_nI (show i + 4 < n by omega) (by omega)) d_Law_law_249 ?_
    refine pv_top (congrArg ps_int (congrArg xs (nI_clamp (show i + 4 < 2 ^ 31 by omega)))) ?_
    refine pv_aloadR E d_Law_law_250 rfl rfl ?_
    refine pv_iload E d_Law_law_251 rfl ?_
    refine pv_iconst (v := 5) E d_Law_law_253 (by decide) ?_
    refine pv_iadd E d_Law_law_254 ?_
    refine pv_top (congrArg ps_int (nI_add i 5)) ?_
    refine pv_sld E hX hbl hbA (vp_in_nI (show i + 5 < n by omega) (by omega)) d_Law_law_255 ?_
    refine pv_top (congrArg ps_int (congrArg xs (nI_clamp (show i + 5 < 2 ^ 31 by omega)))) ?_
    refine pv_if_eq (tgt := 263) E d_Law_law_256 rfl (fun h256 => ?_) (fun h256 => ?_)
    · skip
      refine pv_iconst (v := 0) E d_Law_law_263 (by decide) ?_
      refine pv_callV E (fun adr => k_Mod_then_2 l D ca A _ (xs (i + 1)) (xs (i + 2)) (xs (i + 3)) (xs (i + 4)) 0 t g hM hC.1 hY hb hn adr) yv_Mod_then wd_924 rfl rfl (fun _ => ⟨_, rfl⟩) rfl ⟨by decide, by decide⟩ (Nat.le_of_ble_eq_true rfl) d_Law_law_264 ⟨by show _ ≤ 601024; dsimp only; omega, by show _ ≤ 7293034; dsimp only; omega⟩ (fun r264 σ264 hq264 => ?_)
      obtain ⟨hr264, hs264⟩ := hq264
      subst r264
      subst σ264
      refine pv_istore E d_Law_law_267 (by decide) ?_
      refine pv_aload_n E d_Law_law_269 rfl rfl ?_
      refine pv_callV E (fun adr => k_Mod_thrown l D ca A _ adr) yv_Mod_thrown wd_896 rfl rfl (fun _ => ⟨_, rfl⟩) rfl ⟨by decide, by decide⟩ (Nat.le_of_ble_eq_true rfl) d_Law_law_270 ⟨by show _ ≤ 601024; dsimp only; omega, by show _ ≤ 7293034; dsimp only; omega⟩ (fun r270 σ270 hq270 => ?_)
      obtain ⟨hr270, hs270⟩ := hq270
      subst r270
      subst σ270
      refine pv_top (congrArg ps_int (ps_I_eq _ _ _ _ _)) ?_
      refine pv_iload E d_Law_law_273 rfl ?_
      refine pv_icmp_eq (tgt := 280) E d_Law_law_275 rfl (fun h275 => ?_) (fun h275 => ?_)
      · skip
        refine pv_iload E d_Law_law_280 rfl ?_
        refine pv_if_ne (tgt := 297) E d_Law_law_282 rfl (fun h282 => ?_) (fun h282 => ?_)
        · skip
          refine pv_goto (tgt := 1214) E d_Law_law_297 rfl ?_
          exact pv_sub (L' := [(0, ps_raw b), (1, ps_ref (some (0, 0))), (2, ps_ref (some (13, 0))), (3, ps_ref (some (12, 0))), (4, ps_int (nI i))]) ⟨rfl, rfl, rfl, rfl, rfl, trivial⟩ (kk _ _ _ _ _ (hI.thr) (by dsimp only; omega) (by dsimp only; omega))
        · skip
          exact absurd h282 (by decide)
      · skip
        exact absurd rfl h275
    · skip
      exact absurd h211 h256
  · skip
    refine pv_iconst (v := 1) E d_Law_law_214 (by decide) ?_
    refine pv_goto (tgt := 219) E d_Law_law_215 rfl ?_
    refine pv_aload_n E d_Law_law_219 rfl rfl ?_
    refine pv_callSW (n := 7) E rfl hZ hYs (fun adr => k_Law_then_S l htr D ca A _ (xs (i + 1)) (xs (i + 2)) (xs (i + 3)) (xs (i + 4)) 1 t g hP hC hb hn adr) wx_521 wd_0 wd_520 wd_519 (by decide +kernel) (by decide +kernel) (by decide +kernel) rfl rfl ⟨by decide, by decide⟩ (Nat.le_of_ble_eq_true rfl) d_Law_law_220 ⟨by show _ ≤ 601024; dsimp only; omega, by show _ ≤ 7293034; dsimp only; omega⟩ (fun r220 σ220 hq220 => ?_)
    obtain ⟨hr220, hs220⟩ := hq220
    subst r220
    subst σ220
    refine pv_istore E d_Law_law_223 (by decide) ?_
    refine pv_aload_n E d_Law_law_225 rfl rfl ?_
    refine pv_aloadR E d_Law_law_226 rfl rfl ?_
    refine pv_iload E d_Law_law_227 rfl ?_
    refine pv_iconst (v := 1) E d_Law_law_229 (by decide) ?_
    refine pv_iadd E d_Law_law_230 ?_
    refine pv_top (congrArg ps_int (nI_add i 1)) ?_
    refine pv_sld E hX hbl hbA (vp_in_nI (show i + 1 < n by omega) (by omega)) d_Law_law_231 ?_
    refine pv_top (congrArg ps_int (congrArg xs (nI_clamp (show i + 1 < 2 ^ 31 by omega)))) ?_
    refine pv_aloadR E d_Law_law_232 rfl rfl ?_
    refine pv_iload E d_Law_law_233 rfl ?_
    refine pv_iconst (v := 2) E d_Law_law_235 (by decide) ?_
    refine pv_iadd E d_Law_law_236 ?_
    refine pv_top (congrArg ps_int (nI_add i 2)) ?_
    refine pv_sld E hX hbl hbA (vp_in_nI (show i + 2 < n by omega) (by omega)) d_Law_law_237 ?_
    refine pv_top (congrArg ps_int (congrArg xs (nI_clamp (show i + 2 < 2 ^ 31 by omega)))) ?_
    refine pv_aloadR E d_Law_law_238 rfl rfl ?_
    refine pv_iload E d_Law_law_239 rfl ?_
    refine pv_iconst (v := 3) E d_Law_law_241 (by decide) ?_
    refine pv_iadd E d_Law_law_242 ?_
    refine pv_top (congrArg ps_int (nI_add i 3)) ?_
    refine pv_sld E hX hbl hbA (vp_in_nI (show i + 3 < n by omega) (by omega)) d_Law_law_243 ?_
    refine pv_top (congrArg ps_int (congrArg xs (nI_clamp (show i + 3 < 2 ^ 31 by omega)))) ?_
    refine pv_aloadR E d_Law_law_244 rfl rfl ?_
    refine pv_iload E d_Law_law_245 rfl ?_
    refine pv_iconst (v := 4) E d_Law_law_247 (by decide) ?_
    refine pv_iadd E d_Law_law_248 ?_
    refine pv_top (congrArg ps_int (nI_add i 4)) ?_
    refine pv_sld E hX hbl hbA (vp_in_nI (show i + 4 < n by omega) (by omega)) d_Law_law_249 ?_
    refine pv_top (congrArg ps_int (congrArg xs (nI_clamp (show i + 4 < 2 ^ 31 by omega)))) ?_
    refine pv_aloadR E d_Law_law_250 rfl rfl ?_
    refine pv_iload E d_Law_law_251 rfl ?_
    refine pv_iconst (v := 5) E d_Law_law_253 (by decide) ?_
    refine pv_iadd E d_Law_law_254 ?_
    refine pv_top (congrArg ps_int (nI_add i 5)) ?_
    refine pv_sld E hX hbl hbA (vp_in_nI (show i + 5 < n by omega) (by omega)) d_Law_law_255 ?_
    refine pv_top (congrArg ps_int (congrArg xs (nI_clamp (show i + 5 < 2 ^ 31 by omega)))) ?_
    refine pv_if_eq (tgt := 263) E d_Law_law_256 rfl (fun h256 => ?_) (fun h256 => ?_)
    · skip
      exact absurd h256 h211
    · skip
      refine pv_iconst (v := 1) E d_Law_law_259 (by decide) ?_
      refine pv_goto (tgt := 264) E d_Law_law_260 rfl ?_
      refine pv_callV E (fun adr => k_Mod_then_2 l D ca A _ (xs (i + 1)) (xs (i + 2)) (xs (i + 3)) (xs (i + 4)) 1 t g hM hC.1 hY hb hn adr) yv_Mod_then wd_924 rfl rfl (fun _ => ⟨_, rfl⟩) rfl ⟨by decide, by decide⟩ (Nat.le_of_ble_eq_true rfl) d_Law_law_264 ⟨by show _ ≤ 601024; dsimp only; omega, by show _ ≤ 7293034; dsimp only; omega⟩ (fun r264 σ264 hq264 => ?_)
      obtain ⟨hr264, hs264⟩ := hq264
      subst r264
      subst σ264
      refine pv_istore E d_Law_law_267 (by decide) ?_
      refine pv_aload_n E d_Law_law_269 rfl rfl ?_
      refine pv_callV E (fun adr => k_Mod_thrown l D ca A _ adr) yv_Mod_thrown wd_896 rfl rfl (fun _ => ⟨_, rfl⟩) rfl ⟨by decide, by decide⟩ (Nat.le_of_ble_eq_true rfl) d_Law_law_270 ⟨by show _ ≤ 601024; dsimp only; omega, by show _ ≤ 7293034; dsimp only; omega⟩ (fun r270 σ270 hq270 => ?_)
      obtain ⟨hr270, hs270⟩ := hq270
      subst r270
      subst σ270
      refine pv_top (congrArg ps_int (ps_I_eq _ _ _ _ _)) ?_
      refine pv_iload E d_Law_law_273 rfl ?_
      refine pv_icmp_eq (tgt := 280) E d_Law_law_275 rfl (fun h275 => ?_) (fun h275 => ?_)
      · skip
        refine pv_iload E d_Law_law_280 rfl ?_
        refine pv_if_ne (tgt := 297) E d_Law_law_282 rfl (fun h282 => ?_) (fun h282 => ?_)
        · skip
          refine pv_goto (tgt := 1214) E d_Law_law_297 rfl ?_
          exact pv_sub (L' := [(0, ps_raw b), (1, ps_ref (some (0, 0))), (2, ps_ref (some (13, 0))), (3, ps_ref (some (12, 0))), (4, ps_int (nI i))]) ⟨rfl, rfl, rfl, rfl, rfl, trivial⟩ (kk _ _ _ _ _ (hI.thr) (by dsimp only; omega) (by dsimp only; omega))
        · skip
          exact absurd h282 (by decide)
      · skip
        exact absurd rfl h275
set_option maxHeartbeats 8000000 in
set_option maxRecDepth 100000 in
theorem lc_both_0 {p : Program} {e : Env} {s : State} {m : MethodId} {args : Array Value} {below : List Frame} {meth : Method} {c : Code} {D : va_G} {ca : Nat → ClassId} {A : Nat → Prop} {adr0 : Nat → Nat → Nat} {σ0 : ps_S} {Q : State → Prop} (l : Launch) (htr : l.stackTraces = false) (E : ps_E p s m c code 7 "PromiseScopesLaw" D ca) {b n : Nat} {xs : Nat → Int32} (hX : va_X b n xs s s.heap) (hbl : b < s.heap.size) (hbA : ¬ A b) (hZ : ps_Z A s) (hYs : ps_Y s) {σ : ps_S} {t : tT} {g : gT} (hI : LI σ t g) {i : Nat} (hin : i + 7 ≤ n) (hn84 : n ≤ 3584) {ce sl : Nat} (hce : ce + 8 ≤ 601024) (hsl : sl + 64 ≤ 7293034) (hb : a_both g (xs (i + 1)) (xs (i + 2)) (xs (i + 3)) (xs (i + 4))) (hn : gN g < 48) (kk : ∀ σ' t' g' ce' sl', LI σ' t' g' → ce' ≤ ce + 8 → sl' ≤ sl + 64 → ps_V p l e room_1 s m args below meth c 7 D ca A s.heap adr0 σ0 Q 1214 [(0, ps_raw b), (1, ps_ref (some (0, 0))), (2, ps_ref (some (13, 0))), (3, ps_ref (some (12, 0))), (4, ps_int (nI i))] [] σ' ce' sl') : ps_V p l e room_1 s m args below meth c 7 D ca A s.heap adr0 σ0 Q 300 [(0, ps_raw b), (1, ps_ref (some (0, 0))), (2, ps_ref (some (13, 0))), (3, ps_ref (some (12, 0))), (4, ps_int (nI i))] [] σ ce sl := by
  have hP := hI.1
  have hM := hI.2.1
  have hV := hI.2.2.1
  have hl12 := hI.2.2.2
  have hC := hV.C
  have hY := hV.Y
  have hW := hC.2.1
  refine pv_aload_n E d_Law_law_300 rfl rfl ?_
  refine pv_aloadR E d_Law_law_301 rfl rfl ?_
  refine pv_iload E d_Law_law_302 rfl ?_
  refine pv_iconst (v := 1) E d_Law_law_304 (by decide) ?_
  refine pv_iadd E d_Law_law_305 ?_
  refine pv_top (congrArg ps_int (nI_add i 1)) ?_
  refine pv_sld E hX hbl hbA (vp_in_nI (show i + 1 < n by omega) (by omega)) d_Law_law_306 ?_
  refine pv_top (congrArg ps_int (congrArg xs (nI_clamp (show i + 1 < 2 ^ 31 by omega)))) ?_
  refine pv_aloadR E d_Law_law_307 rfl rfl ?_
  refine pv_iload E d_Law_law_308 rfl ?_
  refine pv_iconst (v := 2) E d_Law_law_310 (by decide) ?_
  refine pv_iadd E d_Law_law_311 ?_
  refine pv_top (congrArg ps_int (nI_add i 2)) ?_
  refine pv_sld E hX hbl hbA (vp_in_nI (show i + 2 < n by omega) (by omega)) d_Law_law_312 ?_
  refine pv_top (congrArg ps_int (congrArg xs (nI_clamp (show i + 2 < 2 ^ 31 by omega)))) ?_
  refine pv_aloadR E d_Law_law_313 rfl rfl ?_
  refine pv_iload E d_Law_law_314 rfl ?_
  refine pv_iconst (v := 3) E d_Law_law_316 (by decide) ?_
  refine pv_iadd E d_Law_law_317 ?_
  refine pv_top (congrArg ps_int (nI_add i 3)) ?_
  refine pv_sld E hX hbl hbA (vp_in_nI (show i + 3 < n by omega) (by omega)) d_Law_law_318 ?_
  refine pv_top (congrArg ps_int (congrArg xs (nI_clamp (show i + 3 < 2 ^ 31 by omega)))) ?_
  refine pv_aloadR E d_Law_law_319 rfl rfl ?_
  refine pv_iload E d_Law_law_320 rfl ?_
  refine pv_iconst (v := 4) E d_Law_law_322 (by decide) ?_
  refine pv_iadd E d_Law_law_323 ?_
  refine pv_top (congrArg ps_int (nI_add i 4)) ?_
  refine pv_sld E hX hbl hbA (vp_in_nI (show i + 4 < n by omega) (by omega)) d_Law_law_324 ?_
  refine pv_top (congrArg ps_int (congrArg xs (nI_clamp (show i + 4 < 2 ^ 31 by omega)))) ?_
  refine pv_aloadR E d_Law_law_325 rfl rfl ?_
  refine pv_iload E d_Law_law_326 rfl ?_
  refine pv_iconst (v := 5) E d_Law_law_328 (by decide) ?_
  refine pv_iadd E d_Law_law_329 ?_
  refine pv_top (congrArg ps_int (nI_add i 5)) ?_
  refine pv_sld E hX hbl hbA (vp_in_nI (show i + 5 < n by omega) (by omega)) d_Law_law_330 ?_
  refine pv_top (congrArg ps_int (congrArg xs (nI_clamp (show i + 5 < 2 ^ 31 by omega)))) ?_
  refine pv_aloadR E d_Law_law_331 rfl rfl ?_
  refine pv_iload E d_Law_law_332 rfl ?_
  refine pv_bipush (v := 6) E d_Law_law_334 (by decide) ?_
  refine pv_iadd E d_Law_law_336 ?_
  refine pv_top (congrArg ps_int (nI_add i 6)) ?_
  refine pv_sld E hX hbl hbA (vp_in_nI (show i + 6 < n by omega) (by omega)) d_Law_law_337 ?_
  refine pv_top (congrArg ps_int (congrArg xs (nI_clamp (show i + 6 < 2 ^ 31 by omega)))) ?_
  refine pv_if_eq (tgt := 345) E d_Law_law_338 rfl (fun h338 => ?_) (fun h338 => ?_)
  · skip
    refine pv_iconst (v := 0) E d_Law_law_345 (by decide) ?_
    refine pv_aload_n E d_Law_law_346 rfl rfl ?_
    refine pv_callSW (n := 8) E rfl hZ hYs (fun adr => k_Law_both_0 l htr D ca A _ (xs (i + 1)) (xs (i + 2)) (xs (i + 3)) (xs (i + 4)) (xs (i + 5)) 0 t g hP hC hb hn (Or.inl rfl) hl12 adr) wx_554 wd_0 wd_553 wd_552 (by decide +kernel) (by decide +kernel) (by decide +kernel) rfl rfl ⟨by decide, by decide⟩ (Nat.le_of_ble_eq_true rfl) d_Law_law_347 ⟨by show _ ≤ 601024; dsimp only; omega, by show _ ≤ 7293034; dsimp only; omega⟩ (fun r347 σ347 hq347 => ?_)
    obtain ⟨hr347, σ1, hP1, hf1, hs1⟩ := hq347
    subst r347
    subst hs1
    have hM1 := (hM.fc hf1).sJ (v := Int32.toInt64 (nI (gN g)))
    refine pv_istore E d_Law_law_350 (by decide) ?_
    refine pv_aload_n E d_Law_law_352 rfl rfl ?_
    refine pv_aloadR E d_Law_law_353 rfl rfl ?_
    refine pv_iload E d_Law_law_354 rfl ?_
    refine pv_iconst (v := 1) E d_Law_law_356 (by decide) ?_
    refine pv_iadd E d_Law_law_357 ?_
    refine pv_top (congrArg ps_int (nI_add i 1)) ?_
    refine pv_sld E hX hbl hbA (vp_in_nI (show i + 1 < n by omega) (by omega)) d_Law_law_358 ?_
    refine pv_top (congrArg ps_int (congrArg xs (nI_clamp (show i + 1 < 2 ^ 31 by omega)))) ?_
    refine pv_aloadR E d_Law_law_359 rfl rfl ?_
    refine pv_iload E d_Law_law_360 rfl ?_
    refine pv_iconst (v := 2) E d_Law_law_362 (by decide) ?_
    refine pv_iadd E d_Law_law_363 ?_
    refine pv_top (congrArg ps_int (nI_add i 2)) ?_
    refine pv_sld E hX hbl hbA (vp_in_nI (show i + 2 < n by omega) (by omega)) d_Law_law_364 ?_
    refine pv_top (congrArg ps_int (congrArg xs (nI_clamp (show i + 2 < 2 ^ 31 by omega)))) ?_
    refine pv_aloadR E d_Law_law_365 rfl rfl ?_
    refine pv_iload E d_Law_law_366 rfl ?_
    refine pv_iconst (v := 3) E d_Law_law_368 (by decide) ?_
    refine pv_iadd E d_Law_law_369 ?_
    refine pv_top (congrArg ps_int (nI_add i 3)) ?_
    refine pv_sld E hX hbl hbA (vp_in_nI (show i + 3 < n by omega) (by omega)) d_Law_law_370 ?_
    refine pv_top (congrArg ps_int (congrArg xs (nI_clamp (show i + 3 < 2 ^ 31 by omega)))) ?_
    refine pv_aloadR E d_Law_law_371 rfl rfl ?_
    refine pv_iload E d_Law_law_372 rfl ?_
    refine pv_iconst (v := 4) E d_Law_law_374 (by decide) ?_
    refine pv_iadd E d_Law_law_375 ?_
    refine pv_top (congrArg ps_int (nI_add i 4)) ?_
    refine pv_sld E hX hbl hbA (vp_in_nI (show i + 4 < n by omega) (by omega)) d_Law_law_376 ?_
    refine pv_top (congrArg ps_int (congrArg xs (nI_clamp (show i + 4 < 2 ^ 31 by omega)))) ?_
    refine pv_aloadR E d_Law_law_377 rfl rfl ?_
    refine pv_iload E d_Law_law_378 rfl ?_
    refine pv_iconst (v := 5) E d_Law_law_380 (by decide) ?_
    refine pv_iadd E d_Law_law_381 ?_
    refine pv_top (congrArg ps_int (nI_add i 5)) ?_
    refine pv_sld E hX hbl hbA (vp_in_nI (show i + 5 < n by omega) (by omega)) d_Law_law_382 ?_
    refine pv_top (congrArg ps_int (congrArg xs (nI_clamp (show i + 5 < 2 ^ 31 by omega)))) ?_
    refine pv_aloadR E d_Law_law_383 rfl rfl ?_
    refine pv_iload E d_Law_law_384 rfl ?_
    refine pv_bipush (v := 6) E d_Law_law_386 (by decide) ?_
    refine pv_iadd E d_Law_law_388 ?_
    refine pv_top (congrArg ps_int (nI_add i 6)) ?_
    refine pv_sld E hX hbl hbA (vp_in_nI (show i + 6 < n by omega) (by omega)) d_Law_law_389 ?_
    refine pv_top (congrArg ps_int (congrArg xs (nI_clamp (show i + 6 < 2 ^ 31 by omega)))) ?_
    refine pv_if_eq (tgt := 397) E d_Law_law_390 rfl (fun h390 => ?_) (fun h390 => ?_)
    · skip
      refine pv_iconst (v := 0) E d_Law_law_397 (by decide) ?_
      refine pv_callV E (fun adr => k_Mod_both_0 l D ca A _ (xs (i + 1)) (xs (i + 2)) (xs (i + 3)) (xs (i + 4)) (xs (i + 5)) 0 t g hM1 hC.1 hY hb hn (Or.inl rfl) adr) yv_Mod_both wd_968 rfl rfl (fun _ => ⟨_, rfl⟩) rfl ⟨by decide, by decide⟩ (Nat.le_of_ble_eq_true rfl) d_Law_law_398 ⟨by show _ ≤ 601024; dsimp only; omega, by show _ ≤ 7293034; dsimp only; omega⟩ (fun r398 σ398 hq398 => ?_)
      obtain ⟨hr398, hM2, hY2, ht2, hf2⟩ := hq398
      subst r398
      refine pv_istore E d_Law_law_401 (by decide) ?_
      refine pv_aload_n E d_Law_law_403 rfl rfl ?_
      refine pv_callV E (fun adr => k_Mod_thrown l D ca A _ adr) yv_Mod_thrown wd_896 rfl rfl (fun _ => ⟨_, rfl⟩) rfl ⟨by decide, by decide⟩ (Nat.le_of_ble_eq_true rfl) d_Law_law_404 ⟨by show _ ≤ 601024; dsimp only; omega, by show _ ≤ 7293034; dsimp only; omega⟩ (fun r404 σ404 hq404 => ?_)
      obtain ⟨hr404, hs404⟩ := hq404
      subst r404
      subst σ404
      refine pv_top (congrArg ps_int ht2) ?_
      refine pv_iload E d_Law_law_407 rfl ?_
      refine pv_icmp_eq (tgt := 414) E d_Law_law_409 rfl (fun h409 => ?_) (fun h409 => ?_)
      · skip
        refine pv_iload E d_Law_law_414 rfl ?_
        refine pv_if_ne (tgt := 431) E d_Law_law_416 rfl (fun h416 => ?_) (fun h416 => ?_)
        · skip
          exact absurd rfl h416
        · skip
          refine pv_aload_n E d_Law_law_419 rfl rfl ?_
          refine pv_iconst (v := 0) E d_Law_law_420 (by decide) ?_
          refine pv_laload (t0 := 5) E 12 _ (fun _ _ _ _ _ => rfl) rfl (l12_in (hf2.l12 (hf1.l12 hl12))) d_Law_law_421 ?_
          refine pv_top (congrArg ps_lng (hf2.j12 (sJ_J _ _))) ?_
          refine pv_iload E d_Law_law_422 rfl ?_
          refine pv_i2l E d_Law_law_424 ?_
          refine pv_lcmp E d_Law_law_425 ?_
          refine pv_if_eq (tgt := 431) E d_Law_law_426 rfl (fun h426 => ?_) (fun h426 => ?_)
          · skip
            refine pv_goto (tgt := 1214) E d_Law_law_431 rfl ?_
            exact pv_sub (L' := [(0, ps_raw b), (1, ps_ref (some (0, 0))), (2, ps_ref (some (13, 0))), (3, ps_ref (some (12, 0))), (4, ps_int (nI i))]) ⟨rfl, rfl, rfl, rfl, rfl, trivial⟩ (kk _ _ _ _ _ (LI.fin hP1.sJ (hf1.l12 hl12) hM2 hf2 (hV.nw (hC.1.mk hn (Nat.le_of_ble_eq_true rfl) (fun z hz => by rcases List.mem_cons.mp hz with rfl | hz; exact hb.1.2; rw [List.mem_singleton] at hz; rw [hz]; exact hb.2.1.2) ⟨Or.inr (Nat.succ_pos _), fun _ => Nat.le_of_ble_eq_true rfl⟩) hY2)) (by dsimp only; omega) (by dsimp only; omega))
          · skip
            exact absurd (cmp0 _) h426
      · skip
        exact absurd rfl h409
    · skip
      exact absurd h338 h390
  · skip
    refine pv_iconst (v := 1) E d_Law_law_341 (by decide) ?_
    refine pv_goto (tgt := 346) E d_Law_law_342 rfl ?_
    refine pv_aload_n E d_Law_law_346 rfl rfl ?_
    refine pv_callSW (n := 8) E rfl hZ hYs (fun adr => k_Law_both_0 l htr D ca A _ (xs (i + 1)) (xs (i + 2)) (xs (i + 3)) (xs (i + 4)) (xs (i + 5)) 1 t g hP hC hb hn (Or.inr rfl) hl12 adr) wx_554 wd_0 wd_553 wd_552 (by decide +kernel) (by decide +kernel) (by decide +kernel) rfl rfl ⟨by decide, by decide⟩ (Nat.le_of_ble_eq_true rfl) d_Law_law_347 ⟨by show _ ≤ 601024; dsimp only; omega, by show _ ≤ 7293034; dsimp only; omega⟩ (fun r347 σ347 hq347 => ?_)
    obtain ⟨hr347, σ1, hP1, hf1, hs1⟩ := hq347
    subst r347
    subst hs1
    have hM1 := (hM.fc hf1).sJ (v := Int32.toInt64 (nI (gN g)))
    refine pv_istore E d_Law_law_350 (by decide) ?_
    refine pv_aload_n E d_Law_law_352 rfl rfl ?_
    refine pv_aloadR E d_Law_law_353 rfl rfl ?_
    refine pv_iload E d_Law_law_354 rfl ?_
    refine pv_iconst (v := 1) E d_Law_law_356 (by decide) ?_
    refine pv_iadd E d_Law_law_357 ?_
    refine pv_top (congrArg ps_int (nI_add i 1)) ?_
    refine pv_sld E hX hbl hbA (vp_in_nI (show i + 1 < n by omega) (by omega)) d_Law_law_358 ?_
    refine pv_top (congrArg ps_int (congrArg xs (nI_clamp (show i + 1 < 2 ^ 31 by omega)))) ?_
    refine pv_aloadR E d_Law_law_359 rfl rfl ?_
    refine pv_iload E d_Law_law_360 rfl ?_
    refine pv_iconst (v := 2) E d_Law_law_362 (by decide) ?_
    refine pv_iadd E d_Law_law_363 ?_
    refine pv_top (congrArg ps_int (nI_add i 2)) ?_
    refine pv_sld E hX hbl hbA (vp_in_nI (show i + 2 < n by omega) (by omega)) d_Law_law_364 ?_
    refine pv_top (congrArg ps_int (congrArg xs (nI_clamp (show i + 2 < 2 ^ 31 by omega)))) ?_
    refine pv_aloadR E d_Law_law_365 rfl rfl ?_
    refine pv_iload E d_Law_law_366 rfl ?_
    refine pv_iconst (v := 3) E d_Law_law_368 (by decide) ?_
    refine pv_iadd E d_Law_law_369 ?_
    refine pv_top (congrArg ps_int (nI_add i 3)) ?_
    refine pv_sld E hX hbl hbA (vp_in_nI (show i + 3 < n by omega) (by omega)) d_Law_law_370 ?_
    refine pv_top (congrArg ps_int (congrArg xs (nI_clamp (show i + 3 < 2 ^ 31 by omega)))) ?_
    refine pv_aloadR E d_Law_law_371 rfl rfl ?_
    refine pv_iload E d_Law_law_372 rfl ?_
    refine pv_iconst (v := 4) E d_Law_law_374 (by decide) ?_
    refine pv_iadd E d_Law_law_375 ?_
    refine pv_top (congrArg ps_int (nI_add i 4)) ?_
    refine pv_sld E hX hbl hbA (vp_in_nI (show i + 4 < n by omega) (by omega)) d_Law_law_376 ?_
    refine pv_top (congrArg ps_int (congrArg xs (nI_clamp (show i + 4 < 2 ^ 31 by omega)))) ?_
    refine pv_aloadR E d_Law_law_377 rfl rfl ?_
    refine pv_iload E d_Law_law_378 rfl ?_
    refine pv_iconst (v := 5) E d_Law_law_380 (by decide) ?_
    refine pv_iadd E d_Law_law_381 ?_
    refine pv_top (congrArg ps_int (nI_add i 5)) ?_
    refine pv_sld E hX hbl hbA (vp_in_nI (show i + 5 < n by omega) (by omega)) d_Law_law_382 ?_
    refine pv_top (congrArg ps_int (congrArg xs (nI_clamp (show i + 5 < 2 ^ 31 by omega)))) ?_
    refine pv_aloadR E d_Law_law_383 rfl rfl ?_
    refine pv_iload E d_Law_law_384 rfl ?_
    refine pv_bipush (v := 6) E d_Law_law_386 (by decide) ?_
    refine pv_iadd E d_Law_law_388 ?_
    refine pv_top (congrArg ps_int (nI_add i 6)) ?_
    refine pv_sld E hX hbl hbA (vp_in_nI (show i + 6 < n by omega) (by omega)) d_Law_law_389 ?_
    refine pv_top (congrArg ps_int (congrArg xs (nI_clamp (show i + 6 < 2 ^ 31 by omega)))) ?_
    refine pv_if_eq (tgt := 397) E d_Law_law_390 rfl (fun h390 => ?_) (fun h390 => ?_)
    · skip
      exact absurd h390 h338
    · skip
      refine pv_iconst (v := 1) E d_Law_law_393 (by decide) ?_
      refine pv_goto (tgt := 398) E d_Law_law_394 rfl ?_
      refine pv_callV E (fun adr => k_Mod_both_0 l D ca A _ (xs (i + 1)) (xs (i + 2)) (xs (i + 3)) (xs (i + 4)) (xs (i + 5)) 1 t g hM1 hC.1 hY hb hn (Or.inr rfl) adr) yv_Mod_both wd_968 rfl rfl (fun _ => ⟨_, rfl⟩) rfl ⟨by decide, by decide⟩ (Nat.le_of_ble_eq_true rfl) d_Law_law_398 ⟨by show _ ≤ 601024; dsimp only; omega, by show _ ≤ 7293034; dsimp only; omega⟩ (fun r398 σ398 hq398 => ?_)
      obtain ⟨hr398, hM2, hY2, ht2, hf2⟩ := hq398
      subst r398
      refine pv_istore E d_Law_law_401 (by decide) ?_
      refine pv_aload_n E d_Law_law_403 rfl rfl ?_
      refine pv_callV E (fun adr => k_Mod_thrown l D ca A _ adr) yv_Mod_thrown wd_896 rfl rfl (fun _ => ⟨_, rfl⟩) rfl ⟨by decide, by decide⟩ (Nat.le_of_ble_eq_true rfl) d_Law_law_404 ⟨by show _ ≤ 601024; dsimp only; omega, by show _ ≤ 7293034; dsimp only; omega⟩ (fun r404 σ404 hq404 => ?_)
      obtain ⟨hr404, hs404⟩ := hq404
      subst r404
      subst σ404
      refine pv_top (congrArg ps_int ht2) ?_
      refine pv_iload E d_Law_law_407 rfl ?_
      refine pv_icmp_eq (tgt := 414) E d_Law_law_409 rfl (fun h409 => ?_) (fun h409 => ?_)
      · skip
        refine pv_iload E d_Law_law_414 rfl ?_
        refine pv_if_ne (tgt := 431) E d_Law_law_416 rfl (fun h416 => ?_) (fun h416 => ?_)
        · skip
          exact absurd rfl h416
        · skip
          refine pv_aload_n E d_Law_law_419 rfl rfl ?_
          refine pv_iconst (v := 0) E d_Law_law_420 (by decide) ?_
          refine pv_laload (t0 := 5) E 12 _ (fun _ _ _ _ _ => rfl) rfl (l12_in (hf2.l12 (hf1.l12 hl12))) d_Law_law_421 ?_
          refine pv_top (congrArg ps_lng (hf2.j12 (sJ_J _ _))) ?_
          refine pv_iload E d_Law_law_422 rfl ?_
          refine pv_i2l E d_Law_law_424 ?_
          refine pv_lcmp E d_Law_law_425 ?_
          refine pv_if_eq (tgt := 431) E d_Law_law_426 rfl (fun h426 => ?_) (fun h426 => ?_)
          · skip
            refine pv_goto (tgt := 1214) E d_Law_law_431 rfl ?_
            exact pv_sub (L' := [(0, ps_raw b), (1, ps_ref (some (0, 0))), (2, ps_ref (some (13, 0))), (3, ps_ref (some (12, 0))), (4, ps_int (nI i))]) ⟨rfl, rfl, rfl, rfl, rfl, trivial⟩ (kk _ _ _ _ _ (LI.fin hP1.sJ (hf1.l12 hl12) hM2 hf2 (hV.nw (hC.1.mk hn (Nat.le_of_ble_eq_true rfl) (fun z hz => by rcases List.mem_cons.mp hz with rfl | hz; exact hb.1.2; rw [List.mem_singleton] at hz; rw [hz]; exact hb.2.1.2) ⟨Or.inr (Nat.succ_pos _), fun _ => Nat.le_of_ble_eq_true rfl⟩) hY2)) (by dsimp only; omega) (by dsimp only; omega))
          · skip
            exact absurd (cmp0 _) h426
      · skip
        exact absurd rfl h409
set_option maxHeartbeats 8000000 in
set_option maxRecDepth 100000 in
theorem lc_both_A {p : Program} {e : Env} {s : State} {m : MethodId} {args : Array Value} {below : List Frame} {meth : Method} {c : Code} {D : va_G} {ca : Nat → ClassId} {A : Nat → Prop} {adr0 : Nat → Nat → Nat} {σ0 : ps_S} {Q : State → Prop} (l : Launch) (htr : l.stackTraces = false) (E : ps_E p s m c code 7 "PromiseScopesLaw" D ca) {b n : Nat} {xs : Nat → Int32} (hX : va_X b n xs s s.heap) (hbl : b < s.heap.size) (hbA : ¬ A b) (hZ : ps_Z A s) (hYs : ps_Y s) {σ : ps_S} {t : tT} {g : gT} (hI : LI σ t g) {i : Nat} (hin : i + 7 ≤ n) (hn84 : n ≤ 3584) {ce sl : Nat} (hce : ce + 8 ≤ 601024) (hsl : sl + 64 ≤ 7293034) (hb : ¬ a_both g (xs (i + 1)) (xs (i + 2)) (xs (i + 3)) (xs (i + 4))) (kk : ∀ σ' t' g' ce' sl', LI σ' t' g' → ce' ≤ ce + 8 → sl' ≤ sl + 64 → ps_V p l e room_1 s m args below meth c 7 D ca A s.heap adr0 σ0 Q 1214 [(0, ps_raw b), (1, ps_ref (some (0, 0))), (2, ps_ref (some (13, 0))), (3, ps_ref (some (12, 0))), (4, ps_int (nI i))] [] σ' ce' sl') : ps_V p l e room_1 s m args below meth c 7 D ca A s.heap adr0 σ0 Q 300 [(0, ps_raw b), (1, ps_ref (some (0, 0))), (2, ps_ref (some (13, 0))), (3, ps_ref (some (12, 0))), (4, ps_int (nI i))] [] σ ce sl := by
  have hP := hI.1
  have hM := hI.2.1
  have hV := hI.2.2.1
  have hl12 := hI.2.2.2
  have hC := hV.C
  have hY := hV.Y
  have hW := hC.2.1
  refine pv_aload_n E d_Law_law_300 rfl rfl ?_
  refine pv_aloadR E d_Law_law_301 rfl rfl ?_
  refine pv_iload E d_Law_law_302 rfl ?_
  refine pv_iconst (v := 1) E d_Law_law_304 (by decide) ?_
  refine pv_iadd E d_Law_law_305 ?_
  refine pv_top (congrArg ps_int (nI_add i 1)) ?_
  refine pv_sld E hX hbl hbA (vp_in_nI (show i + 1 < n by omega) (by omega)) d_Law_law_306 ?_
  refine pv_top (congrArg ps_int (congrArg xs (nI_clamp (show i + 1 < 2 ^ 31 by omega)))) ?_
  refine pv_aloadR E d_Law_law_307 rfl rfl ?_
  refine pv_iload E d_Law_law_308 rfl ?_
  refine pv_iconst (v := 2) E d_Law_law_310 (by decide) ?_
  refine pv_iadd E d_Law_law_311 ?_
  refine pv_top (congrArg ps_int (nI_add i 2)) ?_
  refine pv_sld E hX hbl hbA (vp_in_nI (show i + 2 < n by omega) (by omega)) d_Law_law_312 ?_
  refine pv_top (congrArg ps_int (congrArg xs (nI_clamp (show i + 2 < 2 ^ 31 by omega)))) ?_
  refine pv_aloadR E d_Law_law_313 rfl rfl ?_
  refine pv_iload E d_Law_law_314 rfl ?_
  refine pv_iconst (v := 3) E d_Law_law_316 (by decide) ?_
  refine pv_iadd E d_Law_law_317 ?_
  refine pv_top (congrArg ps_int (nI_add i 3)) ?_
  refine pv_sld E hX hbl hbA (vp_in_nI (show i + 3 < n by omega) (by omega)) d_Law_law_318 ?_
  refine pv_top (congrArg ps_int (congrArg xs (nI_clamp (show i + 3 < 2 ^ 31 by omega)))) ?_
  refine pv_aloadR E d_Law_law_319 rfl rfl ?_
  refine pv_iload E d_Law_law_320 rfl ?_
  refine pv_iconst (v := 4) E d_Law_law_322 (by decide) ?_
  refine pv_iadd E d_Law_law_323 ?_
  refine pv_top (congrArg ps_int (nI_add i 4)) ?_
  refine pv_sld E hX hbl hbA (vp_in_nI (show i + 4 < n by omega) (by omega)) d_Law_law_324 ?_
  refine pv_top (congrArg ps_int (congrArg xs (nI_clamp (show i + 4 < 2 ^ 31 by omega)))) ?_
  refine pv_aloadR E d_Law_law_325 rfl rfl ?_
  refine pv_iload E d_Law_law_326 rfl ?_
  refine pv_iconst (v := 5) E d_Law_law_328 (by decide) ?_
  refine pv_iadd E d_Law_law_329 ?_
  refine pv_top (congrArg ps_int (nI_add i 5)) ?_
  refine pv_sld E hX hbl hbA (vp_in_nI (show i + 5 < n by omega) (by omega)) d_Law_law_330 ?_
  refine pv_top (congrArg ps_int (congrArg xs (nI_clamp (show i + 5 < 2 ^ 31 by omega)))) ?_
  refine pv_aloadR E d_Law_law_331 rfl rfl ?_
  refine pv_iload E d_Law_law_332 rfl ?_
  refine pv_bipush (v := 6) E d_Law_law_334 (by decide) ?_
  refine pv_iadd E d_Law_law_336 ?_
  refine pv_top (congrArg ps_int (nI_add i 6)) ?_
  refine pv_sld E hX hbl hbA (vp_in_nI (show i + 6 < n by omega) (by omega)) d_Law_law_337 ?_
  refine pv_top (congrArg ps_int (congrArg xs (nI_clamp (show i + 6 < 2 ^ 31 by omega)))) ?_
  refine pv_if_eq (tgt := 345) E d_Law_law_338 rfl (fun h338 => ?_) (fun h338 => ?_)
  · skip
    refine pv_iconst (v := 0) E d_Law_law_345 (by decide) ?_
    refine pv_aload_n E d_Law_law_346 rfl rfl ?_
    refine pv_callSW (n := 8) E rfl hZ hYs (fun adr => k_Law_both_A l htr D ca A _ (xs (i + 1)) (xs (i + 2)) (xs (i + 3)) (xs (i + 4)) (xs (i + 5)) 0 t g hP hC hb adr) wx_554 wd_0 wd_553 wd_552 (by decide +kernel) (by decide +kernel) (by decide +kernel) rfl rfl ⟨by decide, by decide⟩ (Nat.le_of_ble_eq_true rfl) d_Law_law_347 ⟨by show _ ≤ 601024; dsimp only; omega, by show _ ≤ 7293034; dsimp only; omega⟩ (fun r347 σ347 hq347 => ?_)
    obtain ⟨hr347, hs347⟩ := hq347
    subst r347
    subst σ347
    refine pv_istore E d_Law_law_350 (by decide) ?_
    refine pv_aload_n E d_Law_law_352 rfl rfl ?_
    refine pv_aloadR E d_Law_law_353 rfl rfl ?_
    refine pv_iload E d_Law_law_354 rfl ?_
    refine pv_iconst (v := 1) E d_Law_law_356 (by decide) ?_
    refine pv_iadd E d_Law_law_357 ?_
    refine pv_top (congrArg ps_int (nI_add i 1)) ?_
    refine pv_sld E hX hbl hbA (vp_in_nI (show i + 1 < n by omega) (by omega)) d_Law_law_358 ?_
    refine pv_top (congrArg ps_int (congrArg xs (nI_clamp (show i + 1 < 2 ^ 31 by omega)))) ?_
    refine pv_aloadR E d_Law_law_359 rfl rfl ?_
    refine pv_iload E d_Law_law_360 rfl ?_
    refine pv_iconst (v := 2) E d_Law_law_362 (by decide) ?_
    refine pv_iadd E d_Law_law_363 ?_
    refine pv_top (congrArg ps_int (nI_add i 2)) ?_
    refine pv_sld E hX hbl hbA (vp_in_nI (show i + 2 < n by omega) (by omega)) d_Law_law_364 ?_
    refine pv_top (congrArg ps_int (congrArg xs (nI_clamp (show i + 2 < 2 ^ 31 by omega)))) ?_
    refine pv_aloadR E d_Law_law_365 rfl rfl ?_
    refine pv_iload E d_Law_law_366 rfl ?_
    refine pv_iconst (v := 3) E d_Law_law_368 (by decide) ?_
    refine pv_iadd E d_Law_law_369 ?_
    refine pv_top (congrArg ps_int (nI_add i 3)) ?_
    refine pv_sld E hX hbl hbA (vp_in_nI (show i + 3 < n by omega) (by omega)) d_Law_law_370 ?_
    refine pv_top (congrArg ps_int (congrArg xs (nI_clamp (show i + 3 < 2 ^ 31 by omega)))) ?_
    refine pv_aloadR E d_Law_law_371 rfl rfl ?_
    refine pv_iload E d_Law_law_372 rfl ?_
    refine pv_iconst (v := 4) E d_Law_law_374 (by decide) ?_
    refine pv_iadd E d_Law_law_375 ?_
    refine pv_top (congrArg ps_int (nI_add i 4)) ?_
    refine pv_sld E hX hbl hbA (vp_in_nI (show i + 4 < n by omega) (by omega)) d_Law_law_376 ?_
    refine pv_top (congrArg ps_int (congrArg xs (nI_clamp (show i + 4 < 2 ^ 31 by omega)))) ?_
    refine pv_aloadR E d_Law_law_377 rfl rfl ?_
    refine pv_iload E d_Law_law_378 rfl ?_
    refine pv_iconst (v := 5) E d_Law_law_380 (by decide) ?_
    refine pv_iadd E d_Law_law_381 ?_
    refine pv_top (congrArg ps_int (nI_add i 5)) ?_
    refine pv_sld E hX hbl hbA (vp_in_nI (show i + 5 < n by omega) (by omega)) d_Law_law_382 ?_
    refine pv_top (congrArg ps_int (congrArg xs (nI_clamp (show i + 5 < 2 ^ 31 by omega)))) ?_
    refine pv_aloadR E d_Law_law_383 rfl rfl ?_
    refine pv_iload E d_Law_law_384 rfl ?_
    refine pv_bipush (v := 6) E d_Law_law_386 (by decide) ?_
    refine pv_iadd E d_Law_law_388 ?_
    refine pv_top (congrArg ps_int (nI_add i 6)) ?_
    refine pv_sld E hX hbl hbA (vp_in_nI (show i + 6 < n by omega) (by omega)) d_Law_law_389 ?_
    refine pv_top (congrArg ps_int (congrArg xs (nI_clamp (show i + 6 < 2 ^ 31 by omega)))) ?_
    refine pv_if_eq (tgt := 397) E d_Law_law_390 rfl (fun h390 => ?_) (fun h390 => ?_)
    · skip
      refine pv_iconst (v := 0) E d_Law_law_397 (by decide) ?_
      refine pv_callV E (fun adr => k_Mod_both_1 l D ca A _ (xs (i + 1)) (xs (i + 2)) (xs (i + 3)) (xs (i + 4)) (xs (i + 5)) 0 t g hM hC.1 hY hb adr) yv_Mod_both wd_968 rfl rfl (fun _ => ⟨_, rfl⟩) rfl ⟨by decide, by decide⟩ (Nat.le_of_ble_eq_true rfl) d_Law_law_398 ⟨by show _ ≤ 601024; dsimp only; omega, by show _ ≤ 7293034; dsimp only; omega⟩ (fun r398 σ398 hq398 => ?_)
      obtain ⟨hr398, hs398⟩ := hq398
      subst r398
      subst σ398
      refine pv_istore E d_Law_law_401 (by decide) ?_
      refine pv_aload_n E d_Law_law_403 rfl rfl ?_
      refine pv_callV E (fun adr => k_Mod_thrown l D ca A _ adr) yv_Mod_thrown wd_896 rfl rfl (fun _ => ⟨_, rfl⟩) rfl ⟨by decide, by decide⟩ (Nat.le_of_ble_eq_true rfl) d_Law_law_404 ⟨by show _ ≤ 601024; dsimp only; omega, by show _ ≤ 7293034; dsimp only; omega⟩ (fun r404 σ404 hq404 => ?_)
      obtain ⟨hr404, hs404⟩ := hq404
      subst r404
      subst σ404
      refine pv_top (congrArg ps_int (ps_I_eq _ _ _ _ _)) ?_
      refine pv_iload E d_Law_law_407 rfl ?_
      refine pv_icmp_eq (tgt := 414) E d_Law_law_409 rfl (fun h409 => ?_) (fun h409 => ?_)
      · skip
        refine pv_iload E d_Law_law_414 rfl ?_
        refine pv_if_ne (tgt := 431) E d_Law_law_416 rfl (fun h416 => ?_) (fun h416 => ?_)
        · skip
          refine pv_goto (tgt := 1214) E d_Law_law_431 rfl ?_
          exact pv_sub (L' := [(0, ps_raw b), (1, ps_ref (some (0, 0))), (2, ps_ref (some (13, 0))), (3, ps_ref (some (12, 0))), (4, ps_int (nI i))]) ⟨rfl, rfl, rfl, rfl, rfl, trivial⟩ (kk _ _ _ _ _ (hI.thr) (by dsimp only; omega) (by dsimp only; omega))
        · skip
          exact absurd h416 (by decide)
      · skip
        exact absurd rfl h409
    · skip
      exact absurd h338 h390
  · skip
    refine pv_iconst (v := 1) E d_Law_law_341 (by decide) ?_
    refine pv_goto (tgt := 346) E d_Law_law_342 rfl ?_
    refine pv_aload_n E d_Law_law_346 rfl rfl ?_
    refine pv_callSW (n := 8) E rfl hZ hYs (fun adr => k_Law_both_A l htr D ca A _ (xs (i + 1)) (xs (i + 2)) (xs (i + 3)) (xs (i + 4)) (xs (i + 5)) 1 t g hP hC hb adr) wx_554 wd_0 wd_553 wd_552 (by decide +kernel) (by decide +kernel) (by decide +kernel) rfl rfl ⟨by decide, by decide⟩ (Nat.le_of_ble_eq_true rfl) d_Law_law_347 ⟨by show _ ≤ 601024; dsimp only; omega, by show _ ≤ 7293034; dsimp only; omega⟩ (fun r347 σ347 hq347 => ?_)
    obtain ⟨hr347, hs347⟩ := hq347
    subst r347
    subst σ347
    refine pv_istore E d_Law_law_350 (by decide) ?_
    refine pv_aload_n E d_Law_law_352 rfl rfl ?_
    refine pv_aloadR E d_Law_law_353 rfl rfl ?_
    refine pv_iload E d_Law_law_354 rfl ?_
    refine pv_iconst (v := 1) E d_Law_law_356 (by decide) ?_
    refine pv_iadd E d_Law_law_357 ?_
    refine pv_top (congrArg ps_int (nI_add i 1)) ?_
    refine pv_sld E hX hbl hbA (vp_in_nI (show i + 1 < n by omega) (by omega)) d_Law_law_358 ?_
    refine pv_top (congrArg ps_int (congrArg xs (nI_clamp (show i + 1 < 2 ^ 31 by omega)))) ?_
    refine pv_aloadR E d_Law_law_359 rfl rfl ?_
    refine pv_iload E d_Law_law_360 rfl ?_
    refine pv_iconst (v := 2) E d_Law_law_362 (by decide) ?_
    refine pv_iadd E d_Law_law_363 ?_
    refine pv_top (congrArg ps_int (nI_add i 2)) ?_
    refine pv_sld E hX hbl hbA (vp_in_nI (show i + 2 < n by omega) (by omega)) d_Law_law_364 ?_
    refine pv_top (congrArg ps_int (congrArg xs (nI_clamp (show i + 2 < 2 ^ 31 by omega)))) ?_
    refine pv_aloadR E d_Law_law_365 rfl rfl ?_
    refine pv_iload E d_Law_law_366 rfl ?_
    refine pv_iconst (v := 3) E d_Law_law_368 (by decide) ?_
    refine pv_iadd E d_Law_law_369 ?_
    refine pv_top (congrArg ps_int (nI_add i 3)) ?_
    refine pv_sld E hX hbl hbA (vp_in_nI (show i + 3 < n by omega) (by omega)) d_Law_law_370 ?_
    refine pv_top (congrArg ps_int (congrArg xs (nI_clamp (show i + 3 < 2 ^ 31 by omega)))) ?_
    refine pv_aloadR E d_Law_law_371 rfl rfl ?_
    refine pv_iload E d_Law_law_372 rfl ?_
    refine pv_iconst (v := 4) E d_Law_law_374 (by decide) ?_
    refine pv_iadd E d_Law_law_375 ?_
    refine pv_top (congrArg ps_int (nI_add i 4)) ?_
    refine pv_sld E hX hbl hbA (vp_in_nI (show i + 4 < n by omega) (by omega)) d_Law_law_376 ?_
    refine pv_top (congrArg ps_int (congrArg xs (nI_clamp (show i + 4 < 2 ^ 31 by omega)))) ?_
    refine pv_aloadR E d_Law_law_377 rfl rfl ?_
    refine pv_iload E d_Law_law_378 rfl ?_
    refine pv_iconst (v := 5) E d_Law_law_380 (by decide) ?_
    refine pv_iadd E d_Law_law_381 ?_
    refine pv_top (congrArg ps_int (nI_add i 5)) ?_
    refine pv_sld E hX hbl hbA (vp_in_nI (show i + 5 < n by omega) (by omega)) d_Law_law_382 ?_
    refine pv_top (congrArg ps_int (congrArg xs (nI_clamp (show i + 5 < 2 ^ 31 by omega)))) ?_
    refine pv_aloadR E d_Law_law_383 rfl rfl ?_
    refine pv_iload E d_Law_law_384 rfl ?_
    refine pv_bipush (v := 6) E d_Law_law_386 (by decide) ?_
    refine pv_iadd E d_Law_law_388 ?_
    refine pv_top (congrArg ps_int (nI_add i 6)) ?_
    refine pv_sld E hX hbl hbA (vp_in_nI (show i + 6 < n by omega) (by omega)) d_Law_law_389 ?_
    refine pv_top (congrArg ps_int (congrArg xs (nI_clamp (show i + 6 < 2 ^ 31 by omega)))) ?_
    refine pv_if_eq (tgt := 397) E d_Law_law_390 rfl (fun h390 => ?_) (fun h390 => ?_)
    · skip
      exact absurd h390 h338
    · skip
      refine pv_iconst (v := 1) E d_Law_law_393 (by decide) ?_
      refine pv_goto (tgt := 398) E d_Law_law_394 rfl ?_
      refine pv_callV E (fun adr => k_Mod_both_1 l D ca A _ (xs (i + 1)) (xs (i + 2)) (xs (i + 3)) (xs (i + 4)) (xs (i + 5)) 1 t g hM hC.1 hY hb adr) yv_Mod_both wd_968 rfl rfl (fun _ => ⟨_, rfl⟩) rfl ⟨by decide, by decide⟩ (Nat.le_of_ble_eq_true rfl) d_Law_law_398 ⟨by show _ ≤ 601024; dsimp only; omega, by show _ ≤ 7293034; dsimp only; omega⟩ (fun r398 σ398 hq398 => ?_)
      obtain ⟨hr398, hs398⟩ := hq398
      subst r398
      subst σ398
      refine pv_istore E d_Law_law_401 (by decide) ?_
      refine pv_aload_n E d_Law_law_403 rfl rfl ?_
      refine pv_callV E (fun adr => k_Mod_thrown l D ca A _ adr) yv_Mod_thrown wd_896 rfl rfl (fun _ => ⟨_, rfl⟩) rfl ⟨by decide, by decide⟩ (Nat.le_of_ble_eq_true rfl) d_Law_law_404 ⟨by show _ ≤ 601024; dsimp only; omega, by show _ ≤ 7293034; dsimp only; omega⟩ (fun r404 σ404 hq404 => ?_)
      obtain ⟨hr404, hs404⟩ := hq404
      subst r404
      subst σ404
      refine pv_top (congrArg ps_int (ps_I_eq _ _ _ _ _)) ?_
      refine pv_iload E d_Law_law_407 rfl ?_
      refine pv_icmp_eq (tgt := 414) E d_Law_law_409 rfl (fun h409 => ?_) (fun h409 => ?_)
      · skip
        refine pv_iload E d_Law_law_414 rfl ?_
        refine pv_if_ne (tgt := 431) E d_Law_law_416 rfl (fun h416 => ?_) (fun h416 => ?_)
        · skip
          refine pv_goto (tgt := 1214) E d_Law_law_431 rfl ?_
          exact pv_sub (L' := [(0, ps_raw b), (1, ps_ref (some (0, 0))), (2, ps_ref (some (13, 0))), (3, ps_ref (some (12, 0))), (4, ps_int (nI i))]) ⟨rfl, rfl, rfl, rfl, rfl, trivial⟩ (kk _ _ _ _ _ (hI.thr) (by dsimp only; omega) (by dsimp only; omega))
        · skip
          exact absurd h416 (by decide)
      · skip
        exact absurd rfl h409
set_option maxHeartbeats 8000000 in
set_option maxRecDepth 100000 in
theorem lc_both_S {p : Program} {e : Env} {s : State} {m : MethodId} {args : Array Value} {below : List Frame} {meth : Method} {c : Code} {D : va_G} {ca : Nat → ClassId} {A : Nat → Prop} {adr0 : Nat → Nat → Nat} {σ0 : ps_S} {Q : State → Prop} (l : Launch) (htr : l.stackTraces = false) (E : ps_E p s m c code 7 "PromiseScopesLaw" D ca) {b n : Nat} {xs : Nat → Int32} (hX : va_X b n xs s s.heap) (hbl : b < s.heap.size) (hbA : ¬ A b) (hZ : ps_Z A s) (hYs : ps_Y s) {σ : ps_S} {t : tT} {g : gT} (hI : LI σ t g) {i : Nat} (hin : i + 7 ≤ n) (hn84 : n ≤ 3584) {ce sl : Nat} (hce : ce + 8 ≤ 601024) (hsl : sl + 64 ≤ 7293034) (hb : a_both g (xs (i + 1)) (xs (i + 2)) (xs (i + 3)) (xs (i + 4))) (hn : ¬ gN g < 48) (kk : ∀ σ' t' g' ce' sl', LI σ' t' g' → ce' ≤ ce + 8 → sl' ≤ sl + 64 → ps_V p l e room_1 s m args below meth c 7 D ca A s.heap adr0 σ0 Q 1214 [(0, ps_raw b), (1, ps_ref (some (0, 0))), (2, ps_ref (some (13, 0))), (3, ps_ref (some (12, 0))), (4, ps_int (nI i))] [] σ' ce' sl') : ps_V p l e room_1 s m args below meth c 7 D ca A s.heap adr0 σ0 Q 300 [(0, ps_raw b), (1, ps_ref (some (0, 0))), (2, ps_ref (some (13, 0))), (3, ps_ref (some (12, 0))), (4, ps_int (nI i))] [] σ ce sl := by
  have hP := hI.1
  have hM := hI.2.1
  have hV := hI.2.2.1
  have hl12 := hI.2.2.2
  have hC := hV.C
  have hY := hV.Y
  have hW := hC.2.1
  refine pv_aload_n E d_Law_law_300 rfl rfl ?_
  refine pv_aloadR E d_Law_law_301 rfl rfl ?_
  refine pv_iload E d_Law_law_302 rfl ?_
  refine pv_iconst (v := 1) E d_Law_law_304 (by decide) ?_
  refine pv_iadd E d_Law_law_305 ?_
  refine pv_top (congrArg ps_int (nI_add i 1)) ?_
  refine pv_sld E hX hbl hbA (vp_in_nI (show i + 1 < n by omega) (by omega)) d_Law_law_306 ?_
  refine pv_top (congrArg ps_int (congrArg xs (nI_clamp (show i + 1 < 2 ^ 31 by omega)))) ?_
  refine pv_aloadR E d_Law_law_307 rfl rfl ?_
  refine pv_iload E d_Law_law_308 rfl ?_
  refine pv_iconst (v := 2) E d_Law_law_310 (by decide) ?_
  refine pv_iadd E d_Law_law_311 ?_
  refine pv_top (congrArg ps_int (nI_add i 2)) ?_
  refine pv_sld E hX hbl hbA (vp_in_nI (show i + 2 < n by omega) (by omega)) d_Law_law_312 ?_
  refine pv_top (congrArg ps_int (congrArg xs (nI_clamp (show i + 2 < 2 ^ 31 by omega)))) ?_
  refine pv_aloadR E d_Law_law_313 rfl rfl ?_
  refine pv_iload E d_Law_law_314 rfl ?_
  refine pv_iconst (v := 3) E d_Law_law_316 (by decide) ?_
  refine pv_iadd E d_Law_law_317 ?_
  refine pv_top (congrArg ps_int (nI_add i 3)) ?_
  refine pv_sld E hX hbl hbA (vp_in_nI (show i + 3 < n by omega) (by omega)) d_Law_law_318 ?_
  refine pv_top (congrArg ps_int (congrArg xs (nI_clamp (show i + 3 < 2 ^ 31 by omega)))) ?_
  refine pv_aloadR E d_Law_law_319 rfl rfl ?_
  refine pv_iload E d_Law_law_320 rfl ?_
  refine pv_iconst (v := 4) E d_Law_law_322 (by decide) ?_
  refine pv_iadd E d_Law_law_323 ?_
  refine pv_top (congrArg ps_int (nI_add i 4)) ?_
  refine pv_sld E hX hbl hbA (vp_in_nI (show i + 4 < n by omega) (by omega)) d_Law_law_324 ?_
  refine pv_top (congrArg ps_int (congrArg xs (nI_clamp (show i + 4 < 2 ^ 31 by omega)))) ?_
  refine pv_aloadR E d_Law_law_325 rfl rfl ?_
  refine pv_iload E d_Law_law_326 rfl ?_
  refine pv_iconst (v := 5) E d_Law_law_328 (by decide) ?_
  refine pv_iadd E d_Law_law_329 ?_
  refine pv_top (congrArg ps_int (nI_add i 5)) ?_
  refine pv_sld E hX hbl hbA (vp_in_nI (show i + 5 < n by omega) (by omega)) d_Law_law_330 ?_
  refine pv_top (congrArg ps_int (congrArg xs (nI_clamp (show i + 5 < 2 ^ 31 by omega)))) ?_
  refine pv_aloadR E d_Law_law_331 rfl rfl ?_
  refine pv_iload E d_Law_law_332 rfl ?_
  refine pv_bipush (v := 6) E d_Law_law_334 (by decide) ?_
  refine pv_iadd E d_Law_law_336 ?_
  refine pv_top (congrArg ps_int (nI_add i 6)) ?_
  refine pv_sld E hX hbl hbA (vp_in_nI (show i + 6 < n by omega) (by omega)) d_Law_law_337 ?_
  refine pv_top (congrArg ps_int (congrArg xs (nI_clamp (show i + 6 < 2 ^ 31 by omega)))) ?_
  refine pv_if_eq (tgt := 345) E d_Law_law_338 rfl (fun h338 => ?_) (fun h338 => ?_)
  · skip
    refine pv_iconst (v := 0) E d_Law_law_345 (by decide) ?_
    refine pv_aload_n E d_Law_law_346 rfl rfl ?_
    refine pv_callSW (n := 8) E rfl hZ hYs (fun adr => k_Law_both_S l htr D ca A _ (xs (i + 1)) (xs (i + 2)) (xs (i + 3)) (xs (i + 4)) (xs (i + 5)) 0 t g hP hC hb hn adr) wx_554 wd_0 wd_553 wd_552 (by decide +kernel) (by decide +kernel) (by decide +kernel) rfl rfl ⟨by decide, by decide⟩ (Nat.le_of_ble_eq_true rfl) d_Law_law_347 ⟨by show _ ≤ 601024; dsimp only; omega, by show _ ≤ 7293034; dsimp only; omega⟩ (fun r347 σ347 hq347 => ?_)
    obtain ⟨hr347, hs347⟩ := hq347
    subst r347
    subst σ347
    refine pv_istore E d_Law_law_350 (by decide) ?_
    refine pv_aload_n E d_Law_law_352 rfl rfl ?_
    refine pv_aloadR E d_Law_law_353 rfl rfl ?_
    refine pv_iload E d_Law_law_354 rfl ?_
    refine pv_iconst (v := 1) E d_Law_law_356 (by decide) ?_
    refine pv_iadd E d_Law_law_357 ?_
    refine pv_top (congrArg ps_int (nI_add i 1)) ?_
    refine pv_sld E hX hbl hbA (vp_in_nI (show i + 1 < n by omega) (by omega)) d_Law_law_358 ?_
    refine pv_top (congrArg ps_int (congrArg xs (nI_clamp (show i + 1 < 2 ^ 31 by omega)))) ?_
    refine pv_aloadR E d_Law_law_359 rfl rfl ?_
    refine pv_iload E d_Law_law_360 rfl ?_
    refine pv_iconst (v := 2) E d_Law_law_362 (by decide) ?_
    refine pv_iadd E d_Law_law_363 ?_
    refine pv_top (congrArg ps_int (nI_add i 2)) ?_
    refine pv_sld E hX hbl hbA (vp_in_nI (show i + 2 < n by omega) (by omega)) d_Law_law_364 ?_
    refine pv_top (congrArg ps_int (congrArg xs (nI_clamp (show i + 2 < 2 ^ 31 by omega)))) ?_
    refine pv_aloadR E d_Law_law_365 rfl rfl ?_
    refine pv_iload E d_Law_law_366 rfl ?_
    refine pv_iconst (v := 3) E d_Law_law_368 (by decide) ?_
    refine pv_iadd E d_Law_law_369 ?_
    refine pv_top (congrArg ps_int (nI_add i 3)) ?_
    refine pv_sld E hX hbl hbA (vp_in_nI (show i + 3 < n by omega) (by omega)) d_Law_law_370 ?_
    refine pv_top (congrArg ps_int (congrArg xs (nI_clamp (show i + 3 < 2 ^ 31 by omega)))) ?_
    refine pv_aloadR E d_Law_law_371 rfl rfl ?_
    refine pv_iload E d_Law_law_372 rfl ?_
    refine pv_iconst (v := 4) E d_Law_law_374 (by decide) ?_
    refine pv_iadd E d_Law_law_375 ?_
    refine pv_top (congrArg ps_int (nI_add i 4)) ?_
    refine pv_sld E hX hbl hbA (vp_in_nI (show i + 4 < n by omega) (by omega)) d_Law_law_376 ?_
    refine pv_top (congrArg ps_int (congrArg xs (nI_clamp (show i + 4 < 2 ^ 31 by omega)))) ?_
    refine pv_aloadR E d_Law_law_377 rfl rfl ?_
    refine pv_iload E d_Law_law_378 rfl ?_
    refine pv_iconst (v := 5) E d_Law_law_380 (by decide) ?_
    refine pv_iadd E d_Law_law_381 ?_
    refine pv_top (congrArg ps_int (nI_add i 5)) ?_
    refine pv_sld E hX hbl hbA (vp_in_nI (show i + 5 < n by omega) (by omega)) d_Law_law_382 ?_
    refine pv_top (congrArg ps_int (congrArg xs (nI_clamp (show i + 5 < 2 ^ 31 by omega)))) ?_
    refine pv_aloadR E d_Law_law_383 rfl rfl ?_
    refine pv_iload E d_Law_law_384 rfl ?_
    refine pv_bipush (v := 6) E d_Law_law_386 (by decide) ?_
    refine pv_iadd E d_Law_law_388 ?_
    refine pv_top (congrArg ps_int (nI_add i 6)) ?_
    refine pv_sld E hX hbl hbA (vp_in_nI (show i + 6 < n by omega) (by omega)) d_Law_law_389 ?_
    refine pv_top (congrArg ps_int (congrArg xs (nI_clamp (show i + 6 < 2 ^ 31 by omega)))) ?_
    refine pv_if_eq (tgt := 397) E d_Law_law_390 rfl (fun h390 => ?_) (fun h390 => ?_)
    · skip
      refine pv_iconst (v := 0) E d_Law_law_397 (by decide) ?_
      refine pv_callV E (fun adr => k_Mod_both_2 l D ca A _ (xs (i + 1)) (xs (i + 2)) (xs (i + 3)) (xs (i + 4)) (xs (i + 5)) 0 t g hM hC.1 hY hb hn adr) yv_Mod_both wd_968 rfl rfl (fun _ => ⟨_, rfl⟩) rfl ⟨by decide, by decide⟩ (Nat.le_of_ble_eq_true rfl) d_Law_law_398 ⟨by show _ ≤ 601024; dsimp only; omega, by show _ ≤ 7293034; dsimp only; omega⟩ (fun r398 σ398 hq398 => ?_)
      obtain ⟨hr398, hs398⟩ := hq398
      subst r398
      subst σ398
      refine pv_istore E d_Law_law_401 (by decide) ?_
      refine pv_aload_n E d_Law_law_403 rfl rfl ?_
      refine pv_callV E (fun adr => k_Mod_thrown l D ca A _ adr) yv_Mod_thrown wd_896 rfl rfl (fun _ => ⟨_, rfl⟩) rfl ⟨by decide, by decide⟩ (Nat.le_of_ble_eq_true rfl) d_Law_law_404 ⟨by show _ ≤ 601024; dsimp only; omega, by show _ ≤ 7293034; dsimp only; omega⟩ (fun r404 σ404 hq404 => ?_)
      obtain ⟨hr404, hs404⟩ := hq404
      subst r404
      subst σ404
      refine pv_top (congrArg ps_int (ps_I_eq _ _ _ _ _)) ?_
      refine pv_iload E d_Law_law_407 rfl ?_
      refine pv_icmp_eq (tgt := 414) E d_Law_law_409 rfl (fun h409 => ?_) (fun h409 => ?_)
      · skip
        refine pv_iload E d_Law_law_414 rfl ?_
        refine pv_if_ne (tgt := 431) E d_Law_law_416 rfl (fun h416 => ?_) (fun h416 => ?_)
        · skip
          refine pv_goto (tgt := 1214) E d_Law_law_431 rfl ?_
          exact pv_sub (L' := [(0, ps_raw b), (1, ps_ref (some (0, 0))), (2, ps_ref (some (13, 0))), (3, ps_ref (some (12, 0))), (4, ps_int (nI i))]) ⟨rfl, rfl, rfl, rfl, rfl, trivial⟩ (kk _ _ _ _ _ (hI.thr) (by dsimp only; omega) (by dsimp only; omega))
        · skip
          exact absurd h416 (by decide)
      · skip
        exact absurd rfl h409
    · skip
      exact absurd h338 h390
  · skip
    refine pv_iconst (v := 1) E d_Law_law_341 (by decide) ?_
    refine pv_goto (tgt := 346) E d_Law_law_342 rfl ?_
    refine pv_aload_n E d_Law_law_346 rfl rfl ?_
    refine pv_callSW (n := 8) E rfl hZ hYs (fun adr => k_Law_both_S l htr D ca A _ (xs (i + 1)) (xs (i + 2)) (xs (i + 3)) (xs (i + 4)) (xs (i + 5)) 1 t g hP hC hb hn adr) wx_554 wd_0 wd_553 wd_552 (by decide +kernel) (by decide +kernel) (by decide +kernel) rfl rfl ⟨by decide, by decide⟩ (Nat.le_of_ble_eq_true rfl) d_Law_law_347 ⟨by show _ ≤ 601024; dsimp only; omega, by show _ ≤ 7293034; dsimp only; omega⟩ (fun r347 σ347 hq347 => ?_)
    obtain ⟨hr347, hs347⟩ := hq347
    subst r347
    subst σ347
    refine pv_istore E d_Law_law_350 (by decide) ?_
    refine pv_aload_n E d_Law_law_352 rfl rfl ?_
    refine pv_aloadR E d_Law_law_353 rfl rfl ?_
    refine pv_iload E d_Law_law_354 rfl ?_
    refine pv_iconst (v := 1) E d_Law_law_356 (by decide) ?_
    refine pv_iadd E d_Law_law_357 ?_
    refine pv_top (congrArg ps_int (nI_add i 1)) ?_
    refine pv_sld E hX hbl hbA (vp_in_nI (show i + 1 < n by omega) (by omega)) d_Law_law_358 ?_
    refine pv_top (congrArg ps_int (congrArg xs (nI_clamp (show i + 1 < 2 ^ 31 by omega)))) ?_
    refine pv_aloadR E d_Law_law_359 rfl rfl ?_
    refine pv_iload E d_Law_law_360 rfl ?_
    refine pv_iconst (v := 2) E d_Law_law_362 (by decide) ?_
    refine pv_iadd E d_Law_law_363 ?_
    refine pv_top (congrArg ps_int (nI_add i 2)) ?_
    refine pv_sld E hX hbl hbA (vp_in_nI (show i + 2 < n by omega) (by omega)) d_Law_law_364 ?_
    refine pv_top (congrArg ps_int (congrArg xs (nI_clamp (show i + 2 < 2 ^ 31 by omega)))) ?_
    refine pv_aloadR E d_Law_law_365 rfl rfl ?_
    refine pv_iload E d_Law_law_366 rfl ?_
    refine pv_iconst (v := 3) E d_Law_law_368 (by decide) ?_
    refine pv_iadd E d_Law_law_369 ?_
    refine pv_top (congrArg ps_int (nI_add i 3)) ?_
    refine pv_sld E hX hbl hbA (vp_in_nI (show i + 3 < n by omega) (by omega)) d_Law_law_370 ?_
    refine pv_top (congrArg ps_int (congrArg xs (nI_clamp (show i + 3 < 2 ^ 31 by omega)))) ?_
    refine pv_aloadR E d_Law_law_371 rfl rfl ?_
    refine pv_iload E d_Law_law_372 rfl ?_
    refine pv_iconst (v := 4) E d_Law_law_374 (by decide) ?_
    refine pv_iadd E d_Law_law_375 ?_
    refine pv_top (congrArg ps_int (nI_add i 4)) ?_
    refine pv_sld E hX hbl hbA (vp_in_nI (show i + 4 < n by omega) (by omega)) d_Law_law_376 ?_
    refine pv_top (congrArg ps_int (congrArg xs (nI_clamp (show i + 4 < 2 ^ 31 by omega)))) ?_
    refine pv_aloadR E d_Law_law_377 rfl rfl ?_
    refine pv_iload E d_Law_law_378 rfl ?_
    refine pv_iconst (v := 5) E d_Law_law_380 (by decide) ?_
    refine pv_iadd E d_Law_law_381 ?_
    refine pv_top (congrArg ps_int (nI_add i 5)) ?_
    refine pv_sld E hX hbl hbA (vp_in_nI (show i + 5 < n by omega) (by omega)) d_Law_law_382 ?_
    refine pv_top (congrArg ps_int (congrArg xs (nI_clamp (show i + 5 < 2 ^ 31 by omega)))) ?_
    refine pv_aloadR E d_Law_law_383 rfl rfl ?_
    refine pv_iload E d_Law_law_384 rfl ?_
    refine pv_bipush (v := 6) E d_Law_law_386 (by decide) ?_
    refine pv_iadd E d_Law_law_388 ?_
    refine pv_top (congrArg ps_int (nI_add i 6)) ?_
    refine pv_sld E hX hbl hbA (vp_in_nI (show i + 6 < n by omega) (by omega)) d_Law_law_389 ?_
    refine pv_top (congrArg ps_int (congrArg xs (nI_clamp (show i + 6 < 2 ^ 31 by omega)))) ?_
    refine pv_if_eq (tgt := 397) E d_Law_law_390 rfl (fun h390 => ?_) (fun h390 => ?_)
    · skip
      exact absurd h390 h338
    · skip
      refine pv_iconst (v := 1) E d_Law_law_393 (by decide) ?_
      refine pv_goto (tgt := 398) E d_Law_law_394 rfl ?_
      refine pv_callV E (fun adr => k_Mod_both_2 l D ca A _ (xs (i + 1)) (xs (i + 2)) (xs (i + 3)) (xs (i + 4)) (xs (i + 5)) 1 t g hM hC.1 hY hb hn adr) yv_Mod_both wd_968 rfl rfl (fun _ => ⟨_, rfl⟩) rfl ⟨by decide, by decide⟩ (Nat.le_of_ble_eq_true rfl) d_Law_law_398 ⟨by show _ ≤ 601024; dsimp only; omega, by show _ ≤ 7293034; dsimp only; omega⟩ (fun r398 σ398 hq398 => ?_)
      obtain ⟨hr398, hs398⟩ := hq398
      subst r398
      subst σ398
      refine pv_istore E d_Law_law_401 (by decide) ?_
      refine pv_aload_n E d_Law_law_403 rfl rfl ?_
      refine pv_callV E (fun adr => k_Mod_thrown l D ca A _ adr) yv_Mod_thrown wd_896 rfl rfl (fun _ => ⟨_, rfl⟩) rfl ⟨by decide, by decide⟩ (Nat.le_of_ble_eq_true rfl) d_Law_law_404 ⟨by show _ ≤ 601024; dsimp only; omega, by show _ ≤ 7293034; dsimp only; omega⟩ (fun r404 σ404 hq404 => ?_)
      obtain ⟨hr404, hs404⟩ := hq404
      subst r404
      subst σ404
      refine pv_top (congrArg ps_int (ps_I_eq _ _ _ _ _)) ?_
      refine pv_iload E d_Law_law_407 rfl ?_
      refine pv_icmp_eq (tgt := 414) E d_Law_law_409 rfl (fun h409 => ?_) (fun h409 => ?_)
      · skip
        refine pv_iload E d_Law_law_414 rfl ?_
        refine pv_if_ne (tgt := 431) E d_Law_law_416 rfl (fun h416 => ?_) (fun h416 => ?_)
        · skip
          refine pv_goto (tgt := 1214) E d_Law_law_431 rfl ?_
          exact pv_sub (L' := [(0, ps_raw b), (1, ps_ref (some (0, 0))), (2, ps_ref (some (13, 0))), (3, ps_ref (some (12, 0))), (4, ps_int (nI i))]) ⟨rfl, rfl, rfl, rfl, rfl, trivial⟩ (kk _ _ _ _ _ (hI.thr) (by dsimp only; omega) (by dsimp only; omega))
        · skip
          exact absurd h416 (by decide)
      · skip
        exact absurd rfl h409
set_option maxHeartbeats 8000000 in
set_option maxRecDepth 100000 in
theorem lc_several_0 {p : Program} {e : Env} {s : State} {m : MethodId} {args : Array Value} {below : List Frame} {meth : Method} {c : Code} {D : va_G} {ca : Nat → ClassId} {A : Nat → Prop} {adr0 : Nat → Nat → Nat} {σ0 : ps_S} {Q : State → Prop} (l : Launch) (htr : l.stackTraces = false) (E : ps_E p s m c code 7 "PromiseScopesLaw" D ca) {b n : Nat} {xs : Nat → Int32} (hX : va_X b n xs s s.heap) (hbl : b < s.heap.size) (hbA : ¬ A b) (hZ : ps_Z A s) (hYs : ps_Y s) {σ : ps_S} {t : tT} {g : gT} (hI : LI σ t g) {i : Nat} (hin : i + 7 ≤ n) (hn84 : n ≤ 3584) {ce sl : Nat} (hce : ce + 8 ≤ 601024) (hsl : sl + 64 ≤ 7293034) (hb : a_sev g (((xs (i + 1)).toInt64 <<< (((32 : Int32).toInt64) &&& 63)) ||| ((xs (i + 2)).toInt64 &&& 4294967295)) (xs (i + 3))) (hn : gN g < 48) (kk : ∀ σ' t' g' ce' sl', LI σ' t' g' → ce' ≤ ce + 8 → sl' ≤ sl + 64 → ps_V p l e room_1 s m args below meth c 7 D ca A s.heap adr0 σ0 Q 1214 [(0, ps_raw b), (1, ps_ref (some (0, 0))), (2, ps_ref (some (13, 0))), (3, ps_ref (some (12, 0))), (4, ps_int (nI i))] [] σ' ce' sl') : ps_V p l e room_1 s m args below meth c 7 D ca A s.heap adr0 σ0 Q 434 [(0, ps_raw b), (1, ps_ref (some (0, 0))), (2, ps_ref (some (13, 0))), (3, ps_ref (some (12, 0))), (4, ps_int (nI i))] [] σ ce sl := by
  have hP := hI.1
  have hM := hI.2.1
  have hV := hI.2.2.1
  have hl12 := hI.2.2.2
  have hC := hV.C
  have hY := hV.Y
  have hW := hC.2.1
  refine pv_aload_n E d_Law_law_434 rfl rfl ?_
  refine pv_aloadR E d_Law_law_435 rfl rfl ?_
  refine pv_iload E d_Law_law_436 rfl ?_
  refine pv_iconst (v := 1) E d_Law_law_438 (by decide) ?_
  refine pv_iadd E d_Law_law_439 ?_
  refine pv_top (congrArg ps_int (nI_add i 1)) ?_
  refine pv_sld E hX hbl hbA (vp_in_nI (show i + 1 < n by omega) (by omega)) d_Law_law_440 ?_
  refine pv_top (congrArg ps_int (congrArg xs (nI_clamp (show i + 1 < 2 ^ 31 by omega)))) ?_
  refine pv_i2l E d_Law_law_441 ?_
  refine pv_bipush (v := 32) E d_Law_law_442 (by decide) ?_
  refine pv_lshl E d_Law_law_444 ?_
  refine pv_aloadR E d_Law_law_445 rfl rfl ?_
  refine pv_iload E d_Law_law_446 rfl ?_
  refine pv_iconst (v := 2) E d_Law_law_448 (by decide) ?_
  refine pv_iadd E d_Law_law_449 ?_
  refine pv_top (congrArg ps_int (nI_add i 2)) ?_
  refine pv_sld E hX hbl hbA (vp_in_nI (show i + 2 < n by omega) (by omega)) d_Law_law_450 ?_
  refine pv_top (congrArg ps_int (congrArg xs (nI_clamp (show i + 2 < 2 ^ 31 by omega)))) ?_
  refine pv_i2l E d_Law_law_451 ?_
  refine pv_ldc2 (v := 4294967295) E wd_1088 d_Law_law_452 ?_
  refine pv_land E d_Law_law_455 ?_
  refine pv_lor E d_Law_law_456 ?_
  refine pv_aloadR E d_Law_law_457 rfl rfl ?_
  refine pv_iload E d_Law_law_458 rfl ?_
  refine pv_iconst (v := 3) E d_Law_law_460 (by decide) ?_
  refine pv_iadd E d_Law_law_461 ?_
  refine pv_top (congrArg ps_int (nI_add i 3)) ?_
  refine pv_sld E hX hbl hbA (vp_in_nI (show i + 3 < n by omega) (by omega)) d_Law_law_462 ?_
  refine pv_top (congrArg ps_int (congrArg xs (nI_clamp (show i + 3 < 2 ^ 31 by omega)))) ?_
  refine pv_aload_n E d_Law_law_463 rfl rfl ?_
  refine pv_callSW (n := 4) E rfl hZ hYs (fun adr => k_Law_several_0 l htr D ca A _ (((xs (i + 1)).toInt64 <<< (((32 : Int32).toInt64) &&& 63)) ||| ((xs (i + 2)).toInt64 &&& 4294967295)) (xs (i + 3)) t g hP hC hb hn hl12 adr) wx_565 wd_0 wd_564 wd_563 (by decide +kernel) (by decide +kernel) (by decide +kernel) rfl rfl ⟨by decide, by decide⟩ (Nat.le_of_ble_eq_true rfl) d_Law_law_464 ⟨by show _ ≤ 601024; dsimp only; omega, by show _ ≤ 7293034; dsimp only; omega⟩ (fun r464 σ464 hq464 => ?_)
  obtain ⟨hr464, σ1, hP1, hf1, hs1⟩ := hq464
  subst r464
  subst hs1
  have hM1 := (hM.fc hf1).sJ (v := Int32.toInt64 (nI (gN g)))
  refine pv_istore E d_Law_law_467 (by decide) ?_
  refine pv_aload_n E d_Law_law_469 rfl rfl ?_
  refine pv_aloadR E d_Law_law_470 rfl rfl ?_
  refine pv_iload E d_Law_law_471 rfl ?_
  refine pv_iconst (v := 1) E d_Law_law_473 (by decide) ?_
  refine pv_iadd E d_Law_law_474 ?_
  refine pv_top (congrArg ps_int (nI_add i 1)) ?_
  refine pv_sld E hX hbl hbA (vp_in_nI (show i + 1 < n by omega) (by omega)) d_Law_law_475 ?_
  refine pv_top (congrArg ps_int (congrArg xs (nI_clamp (show i + 1 < 2 ^ 31 by omega)))) ?_
  refine pv_i2l E d_Law_law_476 ?_
  refine pv_bipush (v := 32) E d_Law_law_477 (by decide) ?_
  refine pv_lshl E d_Law_law_479 ?_
  refine pv_aloadR E d_Law_law_480 rfl rfl ?_
  refine pv_iload E d_Law_law_481 rfl ?_
  refine pv_iconst (v := 2) E d_Law_law_483 (by decide) ?_
  refine pv_iadd E d_Law_law_484 ?_
  refine pv_top (congrArg ps_int (nI_add i 2)) ?_
  refine pv_sld E hX hbl hbA (vp_in_nI (show i + 2 < n by omega) (by omega)) d_Law_law_485 ?_
  refine pv_top (congrArg ps_int (congrArg xs (nI_clamp (show i + 2 < 2 ^ 31 by omega)))) ?_
  refine pv_i2l E d_Law_law_486 ?_
  refine pv_ldc2 (v := 4294967295) E wd_1088 d_Law_law_487 ?_
  refine pv_land E d_Law_law_490 ?_
  refine pv_lor E d_Law_law_491 ?_
  refine pv_aloadR E d_Law_law_492 rfl rfl ?_
  refine pv_iload E d_Law_law_493 rfl ?_
  refine pv_iconst (v := 3) E d_Law_law_495 (by decide) ?_
  refine pv_iadd E d_Law_law_496 ?_
  refine pv_top (congrArg ps_int (nI_add i 3)) ?_
  refine pv_sld E hX hbl hbA (vp_in_nI (show i + 3 < n by omega) (by omega)) d_Law_law_497 ?_
  refine pv_top (congrArg ps_int (congrArg xs (nI_clamp (show i + 3 < 2 ^ 31 by omega)))) ?_
  refine pv_callV E (fun adr => k_Mod_several_0 l D ca A _ (((xs (i + 1)).toInt64 <<< (((32 : Int32).toInt64) &&& 63)) ||| ((xs (i + 2)).toInt64 &&& 4294967295)) (xs (i + 3)) t g hM1 hC.1 hY hb hn adr) yv_Mod_several wd_972 rfl rfl (fun _ => ⟨_, rfl⟩) rfl ⟨by decide, by decide⟩ (Nat.le_of_ble_eq_true rfl) d_Law_law_498 ⟨by show _ ≤ 601024; dsimp only; omega, by show _ ≤ 7293034; dsimp only; omega⟩ (fun r498 σ498 hq498 => ?_)
  obtain ⟨hr498, hM2, hY2, ht2, hf2⟩ := hq498
  subst r498
  refine pv_istore E d_Law_law_501 (by decide) ?_
  refine pv_aload_n E d_Law_law_503 rfl rfl ?_
  refine pv_callV E (fun adr => k_Mod_thrown l D ca A _ adr) yv_Mod_thrown wd_896 rfl rfl (fun _ => ⟨_, rfl⟩) rfl ⟨by decide, by decide⟩ (Nat.le_of_ble_eq_true rfl) d_Law_law_504 ⟨by show _ ≤ 601024; dsimp only; omega, by show _ ≤ 7293034; dsimp only; omega⟩ (fun r504 σ504 hq504 => ?_)
  obtain ⟨hr504, hs504⟩ := hq504
  subst r504
  subst σ504
  refine pv_top (congrArg ps_int ht2) ?_
  refine pv_iload E d_Law_law_507 rfl ?_
  refine pv_icmp_eq (tgt := 514) E d_Law_law_509 rfl (fun h509 => ?_) (fun h509 => ?_)
  · skip
    refine pv_iload E d_Law_law_514 rfl ?_
    refine pv_if_ne (tgt := 531) E d_Law_law_516 rfl (fun h516 => ?_) (fun h516 => ?_)
    · skip
      exact absurd rfl h516
    · skip
      refine pv_aload_n E d_Law_law_519 rfl rfl ?_
      refine pv_iconst (v := 0) E d_Law_law_520 (by decide) ?_
      refine pv_laload (t0 := 5) E 12 _ (fun _ _ _ _ _ => rfl) rfl (l12_in (hf2.l12 (hf1.l12 hl12))) d_Law_law_521 ?_
      refine pv_top (congrArg ps_lng (hf2.j12 (sJ_J _ _))) ?_
      refine pv_iload E d_Law_law_522 rfl ?_
      refine pv_i2l E d_Law_law_524 ?_
      refine pv_lcmp E d_Law_law_525 ?_
      refine pv_if_eq (tgt := 531) E d_Law_law_526 rfl (fun h526 => ?_) (fun h526 => ?_)
      · skip
        refine pv_goto (tgt := 1214) E d_Law_law_531 rfl ?_
        exact pv_sub (L' := [(0, ps_raw b), (1, ps_ref (some (0, 0))), (2, ps_ref (some (13, 0))), (3, ps_ref (some (12, 0))), (4, ps_int (nI i))]) ⟨rfl, rfl, rfl, rfl, rfl, trivial⟩ (kk _ _ _ _ _ (LI.fin hP1.sJ (hf1.l12 hl12) hM2 hf2 (hV.nw (hC.1.mk hn (by rw [l_set_len]; exact Nat.le_trans (cnt_le _ _) hC.1.1.1) (l_set_lt _ _) (sev_kd hb hC.1.1.1)) hY2)) (by dsimp only; omega) (by dsimp only; omega))
      · skip
        exact absurd (cmp0 _) h526
  · skip
    exact absurd rfl h509
set_option maxHeartbeats 8000000 in
set_option maxRecDepth 100000 in
theorem lc_several_A {p : Program} {e : Env} {s : State} {m : MethodId} {args : Array Value} {below : List Frame} {meth : Method} {c : Code} {D : va_G} {ca : Nat → ClassId} {A : Nat → Prop} {adr0 : Nat → Nat → Nat} {σ0 : ps_S} {Q : State → Prop} (l : Launch) (htr : l.stackTraces = false) (E : ps_E p s m c code 7 "PromiseScopesLaw" D ca) {b n : Nat} {xs : Nat → Int32} (hX : va_X b n xs s s.heap) (hbl : b < s.heap.size) (hbA : ¬ A b) (hZ : ps_Z A s) (hYs : ps_Y s) {σ : ps_S} {t : tT} {g : gT} (hI : LI σ t g) {i : Nat} (hin : i + 7 ≤ n) (hn84 : n ≤ 3584) {ce sl : Nat} (hce : ce + 8 ≤ 601024) (hsl : sl + 64 ≤ 7293034) (hb : ¬ a_sev g (((xs (i + 1)).toInt64 <<< (((32 : Int32).toInt64) &&& 63)) ||| ((xs (i + 2)).toInt64 &&& 4294967295)) (xs (i + 3))) (kk : ∀ σ' t' g' ce' sl', LI σ' t' g' → ce' ≤ ce + 8 → sl' ≤ sl + 64 → ps_V p l e room_1 s m args below meth c 7 D ca A s.heap adr0 σ0 Q 1214 [(0, ps_raw b), (1, ps_ref (some (0, 0))), (2, ps_ref (some (13, 0))), (3, ps_ref (some (12, 0))), (4, ps_int (nI i))] [] σ' ce' sl') : ps_V p l e room_1 s m args below meth c 7 D ca A s.heap adr0 σ0 Q 434 [(0, ps_raw b), (1, ps_ref (some (0, 0))), (2, ps_ref (some (13, 0))), (3, ps_ref (some (12, 0))), (4, ps_int (nI i))] [] σ ce sl := by
  have hP := hI.1
  have hM := hI.2.1
  have hV := hI.2.2.1
  have hl12 := hI.2.2.2
  have hC := hV.C
  have hY := hV.Y
  have hW := hC.2.1
  refine pv_aload_n E d_Law_law_434 rfl rfl ?_
  refine pv_aloadR E d_Law_law_435 rfl rfl ?_
  refine pv_iload E d_Law_law_436 rfl ?_
  refine pv_iconst (v := 1) E d_Law_law_438 (by decide) ?_
  refine pv_iadd E d_Law_law_439 ?_
  refine pv_top (congrArg ps_int (nI_add i 1)) ?_
  refine pv_sld E hX hbl hbA (vp_in_nI (show i + 1 < n by omega) (by omega)) d_Law_law_440 ?_
  refine pv_top (congrArg ps_int (congrArg xs (nI_clamp (show i + 1 < 2 ^ 31 by omega)))) ?_
  refine pv_i2l E d_Law_law_441 ?_
  refine pv_bipush (v := 32) E d_Law_law_442 (by decide) ?_
  refine pv_lshl E d_Law_law_444 ?_
  refine pv_aloadR E d_Law_law_445 rfl rfl ?_
  refine pv_iload E d_Law_law_446 rfl ?_
  refine pv_iconst (v := 2) E d_Law_law_448 (by decide) ?_
  refine pv_iadd E d_Law_law_449 ?_
  refine pv_top (congrArg ps_int (nI_add i 2)) ?_
  refine pv_sld E hX hbl hbA (vp_in_nI (show i + 2 < n by omega) (by omega)) d_Law_law_450 ?_
  refine pv_top (congrArg ps_int (congrArg xs (nI_clamp (show i + 2 < 2 ^ 31 by omega)))) ?_
  refine pv_i2l E d_Law_law_451 ?_
  refine pv_ldc2 (v := 4294967295) E wd_1088 d_Law_law_452 ?_
  refine pv_land E d_Law_law_455 ?_
  refine pv_lor E d_Law_law_456 ?_
  refine pv_aloadR E d_Law_law_457 rfl rfl ?_
  refine pv_iload E d_Law_law_458 rfl ?_
  refine pv_iconst (v := 3) E d_Law_law_460 (by decide) ?_
  refine pv_iadd E d_Law_law_461 ?_
  refine pv_top (congrArg ps_int (nI_add i 3)) ?_
  refine pv_sld E hX hbl hbA (vp_in_nI (show i + 3 < n by omega) (by omega)) d_Law_law_462 ?_
  refine pv_top (congrArg ps_int (congrArg xs (nI_clamp (show i + 3 < 2 ^ 31 by omega)))) ?_
  refine pv_aload_n E d_Law_law_463 rfl rfl ?_
  refine pv_callSW (n := 4) E rfl hZ hYs (fun adr => k_Law_several_A l htr D ca A _ (((xs (i + 1)).toInt64 <<< (((32 : Int32).toInt64) &&& 63)) ||| ((xs (i + 2)).toInt64 &&& 4294967295)) (xs (i + 3)) t g hP hC hb adr) wx_565 wd_0 wd_564 wd_563 (by decide +kernel) (by decide +kernel) (by decide +kernel) rfl rfl ⟨by decide, by decide⟩ (Nat.le_of_ble_eq_true rfl) d_Law_law_464 ⟨by show _ ≤ 601024; dsimp only; omega, by show _ ≤ 7293034; dsimp only; omega⟩ (fun r464 σ464 hq464 => ?_)
  obtain ⟨hr464, hs464⟩ := hq464
  subst r464
  subst σ464
  refine pv_istore E d_Law_law_467 (by decide) ?_
  refine pv_aload_n E d_Law_law_469 rfl rfl ?_
  refine pv_aloadR E d_Law_law_470 rfl rfl ?_
  refine pv_iload E d_Law_law_471 rfl ?_
  refine pv_iconst (v := 1) E d_Law_law_473 (by decide) ?_
  refine pv_iadd E d_Law_law_474 ?_
  refine pv_top (congrArg ps_int (nI_add i 1)) ?_
  refine pv_sld E hX hbl hbA (vp_in_nI (show i + 1 < n by omega) (by omega)) d_Law_law_475 ?_
  refine pv_top (congrArg ps_int (congrArg xs (nI_clamp (show i + 1 < 2 ^ 31 by omega)))) ?_
  refine pv_i2l E d_Law_law_476 ?_
  refine pv_bipush (v := 32) E d_Law_law_477 (by decide) ?_
  refine pv_lshl E d_Law_law_479 ?_
  refine pv_aloadR E d_Law_law_480 rfl rfl ?_
  refine pv_iload E d_Law_law_481 rfl ?_
  refine pv_iconst (v := 2) E d_Law_law_483 (by decide) ?_
  refine pv_iadd E d_Law_law_484 ?_
  refine pv_top (congrArg ps_int (nI_add i 2)) ?_
  refine pv_sld E hX hbl hbA (vp_in_nI (show i + 2 < n by omega) (by omega)) d_Law_law_485 ?_
  refine pv_top (congrArg ps_int (congrArg xs (nI_clamp (show i + 2 < 2 ^ 31 by omega)))) ?_
  refine pv_i2l E d_Law_law_486 ?_
  refine pv_ldc2 (v := 4294967295) E wd_1088 d_Law_law_487 ?_
  refine pv_land E d_Law_law_490 ?_
  refine pv_lor E d_Law_law_491 ?_
  refine pv_aloadR E d_Law_law_492 rfl rfl ?_
  refine pv_iload E d_Law_law_493 rfl ?_
  refine pv_iconst (v := 3) E d_Law_law_495 (by decide) ?_
  refine pv_iadd E d_Law_law_496 ?_
  refine pv_top (congrArg ps_int (nI_add i 3)) ?_
  refine pv_sld E hX hbl hbA (vp_in_nI (show i + 3 < n by omega) (by omega)) d_Law_law_497 ?_
  refine pv_top (congrArg ps_int (congrArg xs (nI_clamp (show i + 3 < 2 ^ 31 by omega)))) ?_
  refine pv_callV E (fun adr => k_Mod_several_1 l D ca A _ (((xs (i + 1)).toInt64 <<< (((32 : Int32).toInt64) &&& 63)) ||| ((xs (i + 2)).toInt64 &&& 4294967295)) (xs (i + 3)) t g hM hC.1 hY hb adr) yv_Mod_several wd_972 rfl rfl (fun _ => ⟨_, rfl⟩) rfl ⟨by decide, by decide⟩ (Nat.le_of_ble_eq_true rfl) d_Law_law_498 ⟨by show _ ≤ 601024; dsimp only; omega, by show _ ≤ 7293034; dsimp only; omega⟩ (fun r498 σ498 hq498 => ?_)
  obtain ⟨hr498, hs498⟩ := hq498
  subst r498
  subst σ498
  refine pv_istore E d_Law_law_501 (by decide) ?_
  refine pv_aload_n E d_Law_law_503 rfl rfl ?_
  refine pv_callV E (fun adr => k_Mod_thrown l D ca A _ adr) yv_Mod_thrown wd_896 rfl rfl (fun _ => ⟨_, rfl⟩) rfl ⟨by decide, by decide⟩ (Nat.le_of_ble_eq_true rfl) d_Law_law_504 ⟨by show _ ≤ 601024; dsimp only; omega, by show _ ≤ 7293034; dsimp only; omega⟩ (fun r504 σ504 hq504 => ?_)
  obtain ⟨hr504, hs504⟩ := hq504
  subst r504
  subst σ504
  refine pv_top (congrArg ps_int (ps_I_eq _ _ _ _ _)) ?_
  refine pv_iload E d_Law_law_507 rfl ?_
  refine pv_icmp_eq (tgt := 514) E d_Law_law_509 rfl (fun h509 => ?_) (fun h509 => ?_)
  · skip
    refine pv_iload E d_Law_law_514 rfl ?_
    refine pv_if_ne (tgt := 531) E d_Law_law_516 rfl (fun h516 => ?_) (fun h516 => ?_)
    · skip
      refine pv_goto (tgt := 1214) E d_Law_law_531 rfl ?_
      exact pv_sub (L' := [(0, ps_raw b), (1, ps_ref (some (0, 0))), (2, ps_ref (some (13, 0))), (3, ps_ref (some (12, 0))), (4, ps_int (nI i))]) ⟨rfl, rfl, rfl, rfl, rfl, trivial⟩ (kk _ _ _ _ _ (hI.thr) (by dsimp only; omega) (by dsimp only; omega))
    · skip
      exact absurd h516 (by decide)
  · skip
    exact absurd rfl h509
set_option maxHeartbeats 8000000 in
set_option maxRecDepth 100000 in
theorem lc_several_S {p : Program} {e : Env} {s : State} {m : MethodId} {args : Array Value} {below : List Frame} {meth : Method} {c : Code} {D : va_G} {ca : Nat → ClassId} {A : Nat → Prop} {adr0 : Nat → Nat → Nat} {σ0 : ps_S} {Q : State → Prop} (l : Launch) (htr : l.stackTraces = false) (E : ps_E p s m c code 7 "PromiseScopesLaw" D ca) {b n : Nat} {xs : Nat → Int32} (hX : va_X b n xs s s.heap) (hbl : b < s.heap.size) (hbA : ¬ A b) (hZ : ps_Z A s) (hYs : ps_Y s) {σ : ps_S} {t : tT} {g : gT} (hI : LI σ t g) {i : Nat} (hin : i + 7 ≤ n) (hn84 : n ≤ 3584) {ce sl : Nat} (hce : ce + 8 ≤ 601024) (hsl : sl + 64 ≤ 7293034) (hb : a_sev g (((xs (i + 1)).toInt64 <<< (((32 : Int32).toInt64) &&& 63)) ||| ((xs (i + 2)).toInt64 &&& 4294967295)) (xs (i + 3))) (hn : ¬ gN g < 48) (kk : ∀ σ' t' g' ce' sl', LI σ' t' g' → ce' ≤ ce + 8 → sl' ≤ sl + 64 → ps_V p l e room_1 s m args below meth c 7 D ca A s.heap adr0 σ0 Q 1214 [(0, ps_raw b), (1, ps_ref (some (0, 0))), (2, ps_ref (some (13, 0))), (3, ps_ref (some (12, 0))), (4, ps_int (nI i))] [] σ' ce' sl') : ps_V p l e room_1 s m args below meth c 7 D ca A s.heap adr0 σ0 Q 434 [(0, ps_raw b), (1, ps_ref (some (0, 0))), (2, ps_ref (some (13, 0))), (3, ps_ref (some (12, 0))), (4, ps_int (nI i))] [] σ ce sl := by
  have hP := hI.1
  have hM := hI.2.1
  have hV := hI.2.2.1
  have hl12 := hI.2.2.2
  have hC := hV.C
  have hY := hV.Y
  have hW := hC.2.1
  refine pv_aload_n E d_Law_law_434 rfl rfl ?_
  refine pv_aloadR E d_Law_law_435 rfl rfl ?_
  refine pv_iload E d_Law_law_436 rfl ?_
  refine pv_iconst (v := 1) E d_Law_law_438 (by decide) ?_
  refine pv_iadd E d_Law_law_439 ?_
  refine pv_top (congrArg ps_int (nI_add i 1)) ?_
  refine pv_sld E hX hbl hbA (vp_in_nI (show i + 1 < n by omega) (by omega)) d_Law_law_440 ?_
  refine pv_top (congrArg ps_int (congrArg xs (nI_clamp (show i + 1 < 2 ^ 31 by omega)))) ?_
  refine pv_i2l E d_Law_law_441 ?_
  refine pv_bipush (v := 32) E d_Law_law_442 (by decide) ?_
  refine pv_lshl E d_Law_law_444 ?_
  refine pv_aloadR E d_Law_law_445 rfl rfl ?_
  refine pv_iload E d_Law_law_446 rfl ?_
  refine pv_iconst (v := 2) E d_Law_law_448 (by decide) ?_
  refine pv_iadd E d_Law_law_449 ?_
  refine pv_top (congrArg ps_int (nI_add i 2)) ?_
  refine pv_sld E hX hbl hbA (vp_in_nI (show i + 2 < n by omega) (by omega)) d_Law_law_450 ?_
  refine pv_top (congrArg ps_int (congrArg xs (nI_clamp (show i + 2 < 2 ^ 31 by omega)))) ?_
  refine pv_i2l E d_Law_law_451 ?_
  refine pv_ldc2 (v := 4294967295) E wd_1088 d_Law_law_452 ?_
  refine pv_land E d_Law_law_455 ?_
  refine pv_lor E d_Law_law_456 ?_
  refine pv_aloadR E d_Law_law_457 rfl rfl ?_
  refine pv_iload E d_Law_law_458 rfl ?_
  refine pv_iconst (v := 3) E d_Law_law_460 (by decide) ?_
  refine pv_iadd E d_Law_law_461 ?_
  refine pv_top (congrArg ps_int (nI_add i 3)) ?_
  refine pv_sld E hX hbl hbA (vp_in_nI (show i + 3 < n by omega) (by omega)) d_Law_law_462 ?_
  refine pv_top (congrArg ps_int (congrArg xs (nI_clamp (show i + 3 < 2 ^ 31 by omega)))) ?_
  refine pv_aload_n E d_Law_law_463 rfl rfl ?_
  refine pv_callSW (n := 4) E rfl hZ hYs (fun adr => k_Law_several_S l htr D ca A _ (((xs (i + 1)).toInt64 <<< (((32 : Int32).toInt64) &&& 63)) ||| ((xs (i + 2)).toInt64 &&& 4294967295)) (xs (i + 3)) t g hP hC hb hn adr) wx_565 wd_0 wd_564 wd_563 (by decide +kernel) (by decide +kernel) (by decide +kernel) rfl rfl ⟨by decide, by decide⟩ (Nat.le_of_ble_eq_true rfl) d_Law_law_464 ⟨by show _ ≤ 601024; dsimp only; omega, by show _ ≤ 7293034; dsimp only; omega⟩ (fun r464 σ464 hq464 => ?_)
  obtain ⟨hr464, hs464⟩ := hq464
  subst r464
  subst σ464
  refine pv_istore E d_Law_law_467 (by decide) ?_
  refine pv_aload_n E d_Law_law_469 rfl rfl ?_
  refine pv_aloadR E d_Law_law_470 rfl rfl ?_
  refine pv_iload E d_Law_law_471 rfl ?_
  refine pv_iconst (v := 1) E d_Law_law_473 (by decide) ?_
  refine pv_iadd E d_Law_law_474 ?_
  refine pv_top (congrArg ps_int (nI_add i 1)) ?_
  refine pv_sld E hX hbl hbA (vp_in_nI (show i + 1 < n by omega) (by omega)) d_Law_law_475 ?_
  refine pv_top (congrArg ps_int (congrArg xs (nI_clamp (show i + 1 < 2 ^ 31 by omega)))) ?_
  refine pv_i2l E d_Law_law_476 ?_
  refine pv_bipush (v := 32) E d_Law_law_477 (by decide) ?_
  refine pv_lshl E d_Law_law_479 ?_
  refine pv_aloadR E d_Law_law_480 rfl rfl ?_
  refine pv_iload E d_Law_law_481 rfl ?_
  refine pv_iconst (v := 2) E d_Law_law_483 (by decide) ?_
  refine pv_iadd E d_Law_law_484 ?_
  refine pv_top (congrArg ps_int (nI_add i 2)) ?_
  refine pv_sld E hX hbl hbA (vp_in_nI (show i + 2 < n by omega) (by omega)) d_Law_law_485 ?_
  refine pv_top (congrArg ps_int (congrArg xs (nI_clamp (show i + 2 < 2 ^ 31 by omega)))) ?_
  refine pv_i2l E d_Law_law_486 ?_
  refine pv_ldc2 (v := 4294967295) E wd_1088 d_Law_law_487 ?_
  refine pv_land E d_Law_law_490 ?_
  refine pv_lor E d_Law_law_491 ?_
  refine pv_aloadR E d_Law_law_492 rfl rfl ?_
  refine pv_iload E d_Law_law_493 rfl ?_
  refine pv_iconst (v := 3) E d_Law_law_495 (by decide) ?_
  refine pv_iadd E d_Law_law_496 ?_
  refine pv_top (congrArg ps_int (nI_add i 3)) ?_
  refine pv_sld E hX hbl hbA (vp_in_nI (show i + 3 < n by omega) (by omega)) d_Law_law_497 ?_
  refine pv_top (congrArg ps_int (congrArg xs (nI_clamp (show i + 3 < 2 ^ 31 by omega)))) ?_
  refine pv_callV E (fun adr => k_Mod_several_2 l D ca A _ (((xs (i + 1)).toInt64 <<< (((32 : Int32).toInt64) &&& 63)) ||| ((xs (i + 2)).toInt64 &&& 4294967295)) (xs (i + 3)) t g hM hC.1 hY hb hn adr) yv_Mod_several wd_972 rfl rfl (fun _ => ⟨_, rfl⟩) rfl ⟨by decide, by decide⟩ (Nat.le_of_ble_eq_true rfl) d_Law_law_498 ⟨by show _ ≤ 601024; dsimp only; omega, by show _ ≤ 7293034; dsimp only; omega⟩ (fun r498 σ498 hq498 => ?_)
  obtain ⟨hr498, hs498⟩ := hq498
  subst r498
  subst σ498
  refine pv_istore E d_Law_law_501 (by decide) ?_
  refine pv_aload_n E d_Law_law_503 rfl rfl ?_
  refine pv_callV E (fun adr => k_Mod_thrown l D ca A _ adr) yv_Mod_thrown wd_896 rfl rfl (fun _ => ⟨_, rfl⟩) rfl ⟨by decide, by decide⟩ (Nat.le_of_ble_eq_true rfl) d_Law_law_504 ⟨by show _ ≤ 601024; dsimp only; omega, by show _ ≤ 7293034; dsimp only; omega⟩ (fun r504 σ504 hq504 => ?_)
  obtain ⟨hr504, hs504⟩ := hq504
  subst r504
  subst σ504
  refine pv_top (congrArg ps_int (ps_I_eq _ _ _ _ _)) ?_
  refine pv_iload E d_Law_law_507 rfl ?_
  refine pv_icmp_eq (tgt := 514) E d_Law_law_509 rfl (fun h509 => ?_) (fun h509 => ?_)
  · skip
    refine pv_iload E d_Law_law_514 rfl ?_
    refine pv_if_ne (tgt := 531) E d_Law_law_516 rfl (fun h516 => ?_) (fun h516 => ?_)
    · skip
      refine pv_goto (tgt := 1214) E d_Law_law_531 rfl ?_
      exact pv_sub (L' := [(0, ps_raw b), (1, ps_ref (some (0, 0))), (2, ps_ref (some (13, 0))), (3, ps_ref (some (12, 0))), (4, ps_int (nI i))]) ⟨rfl, rfl, rfl, rfl, rfl, trivial⟩ (kk _ _ _ _ _ (hI.thr) (by dsimp only; omega) (by dsimp only; omega))
    · skip
      exact absurd h516 (by decide)
  · skip
    exact absurd rfl h509
