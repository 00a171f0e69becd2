/-! What stopping, closing, a tick keep. -/
theorem tL.U {t t' : tT} (h : tL t t') (hU : tU t) : tU t' := fun j hj => by
  rcases h.2.2.2.1 j with z | z
  · rw [z]; exact hU j (h.1.2.1 ▸ hj)
  · exact Or.inr (Or.inr (Or.inr z))
theorem zI.keep {t t' : tT} {g : gT} (h : zI t g) (hk : tKeep t t') (hU : tU t') : zI t' g := by
  obtain ⟨h1, h2, h3, h4⟩ := h
  obtain ⟨a1, a2, a3, a4, a5, a6⟩ := hk.1
  refine ⟨⟨h1.1, hk.W h1.2.1, fun c hc => ?_⟩, h2, hU, fun c hc => ?_⟩
  · rw [a3]; exact h1.2.2 c (a1 ▸ hc)
  · rw [(a6 c).1, a3]; exact h4 c (a1 ▸ hc)
theorem zI.L {t t' : tT} {g : gT} (h : zI t g) (hl : tL t t') : zI t' g := h.keep hl.1 (hl.U h.2.2.1)
theorem zI.mode {t : tT} {g : gT} {c : Nat} {v : Int32} (h : zI t g) : zI (tsS t c 2 v) g := h.keep (tKeep.sS t c 2 v (by omega)) h.2.2.1
theorem anyN_mono {p : Nat → Bool} {i : Nat} (h : anyN p i = true) : ∀ n, i ≤ n → anyN p n = true
  | 0, hi => by
    have : i = 0 := by omega
    rw [← this]; exact h
  | n + 1, hi => by
    by_cases hn : i = n + 1
    · rw [← hn]; exact h
    · rw [anyN, anyN_mono h n (by omega), Bool.true_or]
/-- a task ends -/
theorem tW.en {t : tT} {j : Nat} {s v : Int32} (h : tW t) (hj : j < uN t) (h0 : uK t j 4 = 0) (hs : ¬ s = 0) : tW (u_en t j s v) := by
  have h1 : uK (u_en t j s v) j 4 = s := by rw [en_K, if_neg (by omega), if_pos ⟨rfl, rfl⟩]
  refine ⟨h.1, h.2.1, h.2.2.1, ⟨?_, fun a => ?_⟩, h.2.2.2.2⟩
  · show uE t + 1 + sumN (u_run (u_en t j s v)) (uN t) ≤ uN t
    have hu := sumN_upd (f := u_run t) (f' := fun a => if a = j then 0 else u_run t a) (k := j) (fun a ha => if_neg ha) (uN t) hj
    have hm := sumN_mono (f := fun a => if a = j then 0 else u_run t a) (f' := u_run (u_en t j s v)) (fun a => by
      by_cases ha : a = j
      · subst ha
        unfold u_run
        rw [h1, if_neg hs]
        exact Nat.zero_le _
      · show u_run (u_en t j s v) a ≤ if a = j then 0 else u_run t a
        rw [if_neg ha]
        unfold u_run
        rw [en_K4 ha]
        exact Nat.le_refl _) (uN t)
    have h3 : u_run t j = 1 := if_pos h0
    have := h.2.2.2.1.1
    simp only [if_pos] at hu
    omega
  · rw [en_T]
    split
    · exact h.e30
    · exact h.2.2.2.1.2 a
theorem tI.en {t : tT} {j : Nat} {w s v : Int32} (h : tI t) (hj : j < uN t) (hs : s = 1 ∨ s = 2) : tI (u_en (usK t j 5 w) j s v) := by
  obtain ⟨i1, i2, i3, i4, i5⟩ := h
  have eK : ∀ a b, ¬ b = 4 → ¬ b = 5 → ¬ b = 6 → uK (u_en (usK t j 5 w) j s v) a b = uK t a b := fun a b n4 n5 n6 => by
    rw [en_K, if_neg (fun z => n6 z.2), if_neg (fun z => n4 z.2), usK_K, if_neg (fun z => n5 z.2)]
  have eN : ∀ a b, ¬ a = j → uK (u_en (usK t j 5 w) j s v) a b = uK t a b := fun a b n => by
    rw [en_K, if_neg (fun z => n z.1), if_neg (fun z => n z.1), usK_K, if_neg (fun z => n z.1)]
  have e4 : uK (u_en (usK t j 5 w) j s v) j 4 = s := by rw [en_K, if_neg (by omega), if_pos ⟨rfl, rfl⟩]
  refine ⟨i1, fun k hk => ?_, fun k hk => ?_, fun k hk h0 => ?_, fun k hk h0 => ?_⟩
  · by_cases hkj : k = j
    · rw [hkj, e4]
      rcases hs with z | z
      · exact Or.inr (Or.inl z)
      · exact Or.inr (Or.inr (Or.inl z))
    · rw [eN k 4 hkj]; exact i2 k hk
  · rw [eK k 1 (by decide) (by decide) (by decide)]; exact i3 k hk
  · by_cases hkj : k = j
    · rw [hkj, e4] at h0
      rcases hs with z | z <;> exact absurd (z.symm.trans h0) (by decide)
    · rw [eN k 4 hkj] at h0
      rw [eN k 5 hkj, eN k 0 hkj]
      exact i4 k hk h0
  · show _ < uE t + 1
    rw [en_T]
    by_cases hkj : k = j
    · rw [if_pos hkj]; exact Nat.lt_succ_self _
    · rw [if_neg hkj]
      rw [eN k 4 hkj] at h0
      exact Nat.lt_succ_of_lt (i5 k hk h0)
theorem tI.go {t : tT} {j : Nat} (h : tI t) (hj : j < uN t) (hl : uK t j 5 + 1 < uK t j 0) (h00 : uK t j 4 = 0) : tI (usK t j 5 (uK t j 5 + 1)) := by
  obtain ⟨i1, i2, i3, i4, i5⟩ := h
  have eK : ∀ a b, ¬ b = 5 → uK (usK t j 5 (uK t j 5 + 1)) a b = uK t a b := fun a b n => by rw [usK_K, if_neg (fun z => n z.2)]
  refine ⟨i1, fun k hk => ?_, fun k hk => ?_, fun k hk h0 => ?_, fun k hk h0 => ?_⟩
  · rw [eK k 4 (by decide)]; exact i2 k hk
  · rw [eK k 1 (by decide)]; exact i3 k hk
  · rw [eK k 4 (by decide)] at h0
    obtain ⟨p1, p2, p3, p4⟩ := i4 k hk h0
    rw [eK k 0 (by decide), usK_K]
    by_cases hkj : k = j
    · subst hkj
      rw [if_pos ⟨rfl, rfl⟩]
      refine ⟨p1, ?_, hl, p4⟩
      obtain ⟨a, ha, ea⟩ := nI_of (Int32.not_lt.mpr p2)
      rw [ea] at p3 ⊢
      have h50 : (50 : Int32) = nI 50 := rfl
      rw [h50] at p4
      have := Int32.lt_of_lt_of_le p3 p4
      rw [nI_ltI ha (by decide)] at this
      rw [nI_1, show (0 : Int32) = nI 0 from rfl, nI_leI (by decide) (by omega)]
      exact Nat.zero_le _
    · rw [if_neg (fun z => hkj z.1)]
      exact ⟨p1, p2, p3, p4⟩
  · rw [eK k 4 (by decide)] at h0
    exact i5 k hk h0
theorem wk_cmp {t : tT} {j : Nat} (h : tI t) (hj : j < uN t) (h0 : uK t j 4 = 0) : (uK t j 5 + 1 = uK t j 0) ↔ ¬ (uK t j 5 + 1 < uK t j 0) := by
  obtain ⟨p1, p2, p3, p4⟩ := h.2.2.2.1 j hj h0
  obtain ⟨a, ha, ea⟩ := nI_of (Int32.not_lt.mpr p2)
  obtain ⟨b, hb, eb⟩ := nI_of (Int32.not_lt.mpr (Int32.le_of_lt (Int32.lt_of_le_of_lt p2 p3)))
  rw [ea, eb] at p3
  rw [nI_ltI ha hb] at p3
  rw [eb, show (50 : Int32) = nI 50 from rfl, nI_leI hb (by decide)] at p4
  rw [ea, eb, nI_1, nI_eq (by omega) hb, nI_ltI (by omega) hb]
  omega
/-- one task's tick -/
theorem ps1_no {t : tT} {j : Nat} (h : ¬ uK t j 4 = 0) : u_ps1 t j = t ∧ u_pc1 t j = 0 := by
  unfold u_ps1 u_pc1
  rw [if_neg h, if_neg h]
  exact ⟨rfl, rfl⟩
theorem ps1_go {t : tT} {j : Nat} (h : uK t j 4 = 0) (hl : uK t j 5 + 1 < uK t j 0) : u_ps1 t j = usK t j 5 (uK t j 5 + 1) ∧ u_pc1 t j = 0 := by
  have e : u_wk t j = usK t j 5 (uK t j 5 + 1) := by unfold u_wk; rw [if_pos hl]
  have e4 : uK (u_wk t j) j 4 = 0 := by rw [e, usK_K, if_neg (by omega)]; exact h
  unfold u_ps1 u_pc1
  rw [if_pos h, if_pos h, if_pos e4, if_pos e4]
  exact ⟨e, rfl⟩
def u_s4 (t : tT) (j : Nat) : Int32 := if u_thr t j = 0 then 1 else 2
def u_s6 (t : tT) (j : Nat) : Int32 := if u_thr t j = 0 then fn_mk (uK t j 1) (uK t j 2) (uK t j 3) else u_thr t j
def u_do (t : tT) (j : Nat) : tT := if ((decide (tS t (uO t j) 0 = 1) && decide (u_s4 t j = 2)) || (decide (tS t (uO t j) 0 = 2) && decide (u_s4 t j = 1))) = true then t_stop (u_en t j (u_s4 t j) (u_s6 t j)) (uO t j) else u_en t j (u_s4 t j) (u_s6 t j)
theorem s4_12 (t : tT) (j : Nat) : u_s4 t j = 1 ∨ u_s4 t j = 2 := by
  unfold u_s4
  split
  · exact Or.inl rfl
  · exact Or.inr rfl
theorem s4_ne (t : tT) (j : Nat) : ¬ u_s4 t j = 0 := by rcases s4_12 t j with z | z <;> rw [z] <;> decide
theorem end_do (t : tT) (j : Nat) : u_end (usK (usK t j 4 (u_s4 t j)) j 6 (u_s6 t j)) j = u_do t j := by
  have e : uK (u_en t j (u_s4 t j) (u_s6 t j)) j 4 = u_s4 t j := by rw [en_K, if_neg (by omega), if_pos ⟨rfl, rfl⟩]
  have e2 : t_by (u_en t j (u_s4 t j) (u_s6 t j)) j = ((decide (tS t (uO t j) 0 = 1) && decide (u_s4 t j = 2)) || (decide (tS t (uO t j) 0 = 2) && decide (u_s4 t j = 1))) := by
    unfold t_by
    rw [e]
    rfl
  show (if t_by (u_en t j (u_s4 t j) (u_s6 t j)) j = true then t_stop (u_en t j (u_s4 t j) (u_s6 t j)) (uO t j) else u_en t j (u_s4 t j) (u_s6 t j)) = _
  rw [e2]
  rfl
theorem ps1_end {t : tT} {j : Nat} (h : uK t j 4 = 0) (hl : ¬ (uK t j 5 + 1 < uK t j 0)) : u_ps1 t j = u_do (usK t j 5 (uK t j 5 + 1)) j ∧ u_pc1 t j = 1 := by
  have et : u_thr (usK t j 5 (uK t j 5 + 1)) j = u_thr t j := by
    unfold u_thr
    rw [usK_K, usK_K, usK_K, if_neg (by omega), if_neg (by omega), if_neg (by omega)]
  have e6 : u_s6 (usK t j 5 (uK t j 5 + 1)) j = if u_thr t j = 0 then fn_mk (uK t j 1) (uK t j 2) (uK t j 3) else u_thr t j := by
    unfold u_s6
    rw [et, show ∀ b, ¬ b = 5 → uK (usK t j 5 (uK t j 5 + 1)) j b = uK t j b from fun b hb => by rw [usK_K, if_neg (fun z => hb z.2)]]
    · rw [usK_K, usK_K, if_neg (show ¬ (j = j ∧ 2 = 5) by omega), if_neg (show ¬ (j = j ∧ 3 = 5) by omega)]
    · decide
  have e4' : u_s4 (usK t j 5 (uK t j 5 + 1)) j = if u_thr t j = 0 then 1 else 2 := by unfold u_s4; rw [et]
  have e : u_wk t j = usK (usK (usK t j 5 (uK t j 5 + 1)) j 4 (u_s4 (usK t j 5 (uK t j 5 + 1)) j)) j 6 (u_s6 (usK t j 5 (uK t j 5 + 1)) j) := by
    unfold u_wk
    rw [if_neg hl, e4', e6]
  have e4 : ¬ uK (u_wk t j) j 4 = 0 := by
    rw [e, usK_K, if_neg (by omega), usK_K, if_pos ⟨rfl, rfl⟩]
    exact s4_ne _ _
  unfold u_ps1 u_pc1
  rw [if_pos h, if_pos h, if_neg e4, if_neg e4]
  refine ⟨?_, rfl⟩
  rw [e, end_do]
theorem tI.do {t : tT} {j : Nat} {w : Int32} (h : tI t) (hj : j < uN t) : tI (u_do (usK t j 5 w) j) := by
  have h1 := h.en (w := w) (v := u_s6 (usK t j 5 w) j) hj (s4_12 (usK t j 5 w) j)
  unfold u_do
  split
  · exact (tL.stop _ _).I h1
  · exact h1
theorem tI.ps1 {t : tT} {j : Nat} (h : tI t) (hj : j < uN t) : tI (u_ps1 t j) := by
  by_cases h0 : uK t j 4 = 0
  · by_cases hl : uK t j 5 + 1 < uK t j 0
    · rw [(ps1_go h0 hl).1]; exact h.go hj hl h0
    · rw [(ps1_end h0 hl).1]; exact h.do hj
  · rw [(ps1_no h0).1]; exact h
theorem tI.psN {t : tT} (h : tI t) : ∀ m, m ≤ uN t → tI (u_psN t m)
  | 0, _ => h
  | m + 1, hm => (tI.psN h m (by omega)).ps1 (by rw [(uN_psN t m).1]; omega)
theorem tI.tick {t : tT} (h : tI t) : tI (t_tick t) := (tL.laN (usC t (uC t + 1)) _).I h
theorem tI.pass {t : tT} (h : tI t) : tI (t_pass t) := h.tick.psN _ (by rw [(tKeep.tick t).2.1]; exact Nat.le_refl _)
theorem do_S0 (t : tT) (j c : Nat) : tS (u_do t j) c 0 = tS t c 0 := by
  unfold u_do
  split
  · exact ((tKeep.stop _ _).1.2.2.2.2.2 c).1
  · rfl
theorem ps1_S0 (t : tT) (j c : Nat) : tS (u_ps1 t j) c 0 = tS t c 0 := by
  by_cases h0 : uK t j 4 = 0
  · by_cases hl : uK t j 5 + 1 < uK t j 0
    · rw [(ps1_go h0 hl).1]; rfl
    · rw [(ps1_end h0 hl).1, do_S0]; rfl
  · rw [(ps1_no h0).1]
theorem psN_S0 (t : tT) (c : Nat) : ∀ m, tS (u_psN t m) c 0 = tS t c 0
  | 0 => rfl
  | m + 1 => (ps1_S0 _ _ _).trans (psN_S0 t c m)
theorem zI.pass {t : tT} {g : gT} (h : zI t g) (hI : tI t) : zI (t_pass t) g := by
  refine ⟨t_pass_ok h.1, h.2.1, hI.pass.2.1, fun c hc => ?_⟩
  have hk := tKeep.tick t
  have hc' : c < tN t := by
    have e : tN (t_pass t) = tN t := (uN_psN _ _).2.trans hk.1.1
    rw [← e]; exact hc
  rw [show tS (t_pass t) c 0 = tS t c 0 from (psN_S0 _ _ _).trans (hk.1.2.2.2.2.2 c).1, show tR (t_pass t) = tR t from (tR_psN _ _).trans hk.1.2.2.1]
  exact h.2.2.2 c hc'
/-- closing -/
theorem cnt_0 {t : tT} {c : Nat} {s : Int32} : ∀ m, u_cnt t c s m = 0 → ∀ j, j < m → ¬ (uO t j = c ∧ uK t j 4 = s)
  | 0, _, j, hj => by omega
  | m + 1, h, j, hj => by
    rw [cnt_s] at h
    by_cases hjm : j = m
    · subst hjm
      intro z
      rw [if_pos z] at h
      omega
    · exact cnt_0 m (by omega) j (by omega)
theorem tI.cl1 {x : tT × gT} {c : Nat} (h : tI x.1) : tI (t_cl1 x c).1 := by
  unfold t_cl1
  split
  next hc =>
    obtain ⟨i1, i2, i3, i4, i5⟩ := h
    have hrun : u_cnt x.1 c 0 (uN x.1) = 0 := by
      rw [can_eq, Bool.and_eq_true, Bool.and_eq_true] at hc
      exact of_decide_eq_true hc.1.2
    refine ⟨(tKeep.sS x.1 c 2 2 (by omega)).D i1, i2, i3, fun j hj h0 => ?_, i5⟩
    refine ⟨?_, (i4 j hj h0).2⟩
    show ¬ tS (tsS x.1 c 2 2) (uO x.1 j) 2 = 2
    rw [tsS_S, if_neg (fun z => cnt_0 _ hrun j hj ⟨z.1, h0⟩)]
    exact (i4 j hj h0).1
  next => exact h
theorem tI.clN : ∀ (m : Nat) {x : tT × gT}, tI x.1 → tI (t_clN x m).1
  | 0, _, h => h
  | m + 1, _, h => tI.clN m h.cl1
theorem tI.close {x : tT × gT} (h : tI x.1) : tI (x_close x).1 := tI.clN _ h
theorem zI.clN : ∀ (m : Nat) {x : tT × gT}, zI x.1 x.2 → m ≤ tN x.1 → zI (t_clN x m).1 (t_clN x m).2
  | 0, _, h, _ => h
  | m + 1, x, h, hm => zI.clN m (h.cl1 (c := m) (by omega)) (by rw [(t_cl1_ok h.1 (c := m) (by omega)).2.1]; omega)
theorem res_F2 (g : gT) (k a : Nat) : gF (g_res g k) a 2 = gF g a 2 := by
  unfold g_res
  split
  · split
    · rw [give_F2, gF_sF, if_neg (by omega)]
    · rw [(gSame.scan _).2.2.2.2.2 a 2 (by decide)]
      show gF (gsF g k 6 0) a 2 = _
      rw [gF_sF, if_neg (by omega)]
  · rw [gF_sF, if_neg (by omega)]
theorem work_F2 : ∀ (m : Nat) (g : gT) (a : Nat), gF (g_work m g) a 2 = gF g a 2
  | 0, _, _ => rfl
  | m + 1, g, a => by
    rw [g_work]
    split
    · rfl
    · exact (work_F2 m _ a).trans (res_F2 _ _ _)
theorem zI.close {x : tT × gT} (h : zI x.1 x.2) (hY : gY (x_close x).2) : zI (x_close x).1 (x_close x).2 := by
  have h1 : zI (t_close x).1 (t_close x).2 := zI.clN (tN x.1) h (Nat.le_refl _)
  refine ⟨(x_close_ok (t := x.1) (g := x.2) h.1).1, hY.1, h1.2.2.1, fun c hc => ⟨(h1.2.2.2 c hc).1, ?_⟩⟩
  show gF (g_work 96 (t_close x).2) (tR (t_close x).1 c) 2 = 9
  rw [work_F2]
  exact (h1.2.2.2 c hc).2
