/-! What every call keeps. -/
def gZ (g : gT) : Prop := ∀ k, k < gN g → ¬ (gF g k 6 = 0 ∧ g_able g k = true)
def gS (g : gT) : Prop := ∀ k, 0 ≤ gF g k 0
def zV (t : tT) (g : gT) : Prop := zI t g ∧ tI t ∧ gL g = [] ∧ gZ g ∧ gS g
theorem zV.Y {t : tT} {g : gT} (h : zV t g) : gY g := ⟨h.1.2.1, h.2.2.1⟩
theorem zV.C {t : tT} {g : gT} (h : zV t g) : cOK t g := h.1.1
theorem able_same {g g' : gT} (h : gSame g g') (k : Nat) : g_able g' k = g_able g k := by rw [g_able_abl, g_able_abl, h.on, h.abl]
theorem sc1_6 (g : gT) (k a : Nat) : gF (g_sc1 g k) a 6 = if a = k ∧ (gF g k 6 = 0 ∧ g_able g k = true) then 1 else gF g a 6 := by
  unfold g_sc1
  by_cases hc : gF g k 6 = 0 ∧ g_able g k = true
  · rw [if_pos hc]
    have e : gF (if ¬ gF g k 5 = 0 ∧ gA g k = none then gsP (gsF g k 6 1) (gP g ++ [k]) else gsL (gsF g k 6 1) (gL g ++ [k])) a 6 = gF (gsF g k 6 1) a 6 := by split <;> rfl
    rw [e, gF_sF]
    by_cases ha : a = k
    · rw [if_pos ⟨ha, rfl⟩, if_pos ⟨ha, hc⟩]
    · rw [if_neg (fun z => ha z.1), if_neg (fun z => ha z.1)]
  · rw [if_neg hc, if_neg (fun z => hc z.2)]
theorem gSame.scN' (g : gT) : ∀ m, gSame g (g_scN g m)
  | 0 => ⟨rfl, rfl, rfl, rfl, rfl, fun _ _ _ => rfl⟩
  | m + 1 => by
    have h1 := gSame.scN' g m
    have h2 := gSame.sc1 (g_scN g m) m
    exact ⟨h2.1.trans h1.1, h2.2.1.trans h1.2.1, h2.2.2.1.trans h1.2.2.1, h2.2.2.2.1.trans h1.2.2.2.1, h2.2.2.2.2.1.trans h1.2.2.2.2.1, fun a c hc => (h2.2.2.2.2.2 a c hc).trans (h1.2.2.2.2.2 a c hc)⟩
theorem scN_Z (g : gT) : ∀ m k, k < m → ¬ (gF (g_scN g m) k 6 = 0 ∧ g_able g k = true)
  | 0, k, h => by omega
  | m + 1, k, h => by
    rw [g_scN, sc1_6]
    intro z
    by_cases hk : k = m
    · subst hk
      by_cases hc : gF (g_scN g k) k 6 = 0 ∧ g_able (g_scN g k) k = true
      · rw [if_pos ⟨rfl, hc⟩] at z
        exact absurd z.1 (by decide)
      · rw [if_neg (fun y => hc y.2)] at z
        exact hc ⟨z.1, by rw [able_same (gSame.scN' g k)]; exact z.2⟩
    · rw [if_neg (fun y => hk y.1)] at z
      exact scN_Z g m k (by omega) z
theorem gZ.scan (g : gT) : gZ (g_scan g) := fun k hk => by
  have hs := gSame.scN' g (gN g)
  unfold g_scan at hk ⊢
  rw [hs.1] at hk
  rw [able_same hs]
  exact scN_Z g (gN g) k hk
theorem scan_id {g : gT} (h : gZ g) : g_scan g = g := by
  have key : ∀ m, m ≤ gN g → g_scN g m = g := by
    intro m
    induction m with
    | zero => intro _; rfl
    | succ m ih =>
      intro hm
      rw [g_scN, ih (by omega)]
      unfold g_sc1
      rw [if_neg (h m (by omega))]
  exact key _ (Nat.le_refl _)
theorem able_s6 (g : gT) (k a : Nat) (v : Int32) : g_able (gsF g k 6 v) a = g_able g a := by
  have eF : ∀ b c, ¬ c = 6 → gF (gsF g k 6 v) b c = gF g b c := fun b c hc => by rw [gF_sF, if_neg (fun z => hc z.2)]
  have on : g_on (gsF g k 6 v) = g_on g := by
    funext b
    unfold g_on
    rw [eF b 0 (by decide)]
  unfold g_able
  rw [on, eF a 2 (by decide)]
  rfl
theorem gZ.res {g : gT} {k : Nat} (h : gZ g) : gZ (g_res g k) := by
  unfold g_res
  split
  · split
    · exact gZ.scan _
    · exact gZ.scan _
  next hk0 =>
    intro a ha z
    rw [able_s6, gF_sF] at z
    by_cases hak : a = k
    · have hon : g_on g a = true := by
        unfold g_on
        rw [hak, decide_eq_false hk0]
        rfl
      have := z.2
      rw [g_able_abl, hon] at this
      exact absurd this (by simp)
    · rw [if_neg (fun y => hak y.1)] at z
      exact h a ha z
theorem gZ.sL {g : gT} (x : List Nat) (h : gZ g) : gZ (gsL g x) := h
theorem gZ.sP {g : gT} (x : List Nat) (h : gZ g) : gZ (gsP g x) := h
theorem gZ.work : ∀ (m : Nat) {g : gT}, gZ g → gZ (g_work m g)
  | 0, _, h => h
  | m + 1, g, h => by
    rw [g_work]
    split
    · exact h
    · exact gZ.work m (gZ.res (gZ.sL _ h))
theorem gZ.cpl {g : gT} {s u v : Int32} (h : gZ g) : gZ (g_cpl g s u v) := by
  unfold g_cpl
  split
  · exact gZ.scan _
  · exact h
theorem gZ.wrk : ∀ (m : Nat) {g : gT}, gZ g → gZ (g_wrk m g)
  | 0, _, h => h
  | m + 1, g, h => by
    rw [g_wrk]
    split
    · exact h
    · exact gZ.wrk m (gZ.work 96 (gZ.res (gZ.sP _ h)))
theorem gZ.tgive {t : tT} {g : gT} {c : Nat} (h : gZ g) : gZ (t_give t g c) := by
  unfold t_give
  split
  · exact gZ.scan _
  · exact h
theorem gZ.cl1 {x : tT × gT} {c : Nat} (h : gZ x.2) : gZ (t_cl1 x c).2 := by
  unfold t_cl1
  split
  · exact h.tgive
  · exact h
theorem gZ.clN : ∀ (m : Nat) {x : tT × gT}, gZ x.2 → gZ (t_clN x m).2
  | 0, _, h => h
  | m + 1, _, h => gZ.clN m (gZ.cl1 h)
theorem gZ.close {x : tT × gT} (h : gZ x.2) : gZ (x_close x).2 := gZ.work 96 (gZ.clN _ h)
/-- states -/
theorem gS.scan {g : gT} (h : gS g) : gS (g_scan g) := fun k => by
  rw [(gSame.scan g).2.2.2.2.2 k 0 (by decide)]
  exact h k
theorem gS.give {g : gT} {k : Nat} {u v : Int32} (h : gS g) (hu : 0 ≤ u) : gS (g_give g k u v) := by
  unfold g_give
  refine gS.scan (fun a => ?_)
  show 0 ≤ gF (gsS g k u v) a 0
  unfold gsS
  rw [gF_sF, if_neg (by omega), gF_sF]
  split
  · exact hu
  · exact h a
def s13 (x : Int32) : Prop := x = 1 ∨ x = 3
theorem s13.p {x : Int32} (h : s13 x) : 0 ≤ x := by rcases h with rfl | rfl <;> decide
theorem g_fol_p (g : gT) (j : Nat) : s13 (g_fol g j).1 := by
  show s13 (if gF g j 0 = 1 then (1 : Int32) else 3)
  split
  · exact Or.inl rfl
  · exact Or.inr rfl
theorem g_use_p (g : gT) (k : Nat) (x : Int32) : s13 (g_use g k x).1 := by
  unfold g_use
  split
  · exact Or.inl rfl
  · exact Or.inr rfl
theorem g_sum_p (g : gT) : ∀ (l : List Nat) (x : Int32), s13 (g_sum g x l).1
  | [], x => Or.inl rfl
  | i :: r, x => by
    rw [g_sum]
    split
    · exact g_sum_p g r _
    · exact g_fol_p g i
theorem g_app_p (g : gT) (k j : Nat) : s13 (g_app g k j).1 := by
  unfold g_app
  split
  · exact g_use_p g k _
  · exact g_fol_p g j
theorem g_dec_p {g : gT} {k : Nat} {q : Int32 × Int32} (h : g_dec g k = .inl q) : s13 q.1 := by
  unfold g_dec g_cmp at h
  dsimp only at h
  repeat' split at h
  all_goals first
    | (cases h; first | exact g_app_p g k _ | exact g_fol_p g _ | exact g_use_p g k _ | exact g_sum_p g _ _ | exact Or.inr rfl)
    | (cases h; done)
theorem gS.s6 {g : gT} {k : Nat} {v : Int32} (h : gS g) : gS (gsF g k 6 v) := fun a => by
  rw [gF_sF, if_neg (by omega)]
  exact h a
theorem gS.res {g : gT} {k : Nat} (h : gS g) : gS (g_res g k) := by
  unfold g_res
  split
  · split
    next q hq => exact h.s6.give (g_dec_p hq).p
    next => exact gS.scan (g := gsA (gsF g k 6 0) k _) h.s6
  · exact h.s6
theorem gS.work : ∀ (m : Nat) {g : gT}, gS g → gS (g_work m g)
  | 0, _, h => h
  | m + 1, g, h => by
    rw [g_work]
    split
    · exact h
    · exact gS.work m (gS.res (g := gsL g _) h)
theorem gS.cpl {g : gT} {s u v : Int32} (h : gS g) (hu : 0 ≤ u) : gS (g_cpl g s u v) := by
  unfold g_cpl
  split
  · exact h.give hu
  · exact h
theorem gS.wrk : ∀ (m : Nat) {g : gT}, gS g → gS (g_wrk m g)
  | 0, _, h => h
  | m + 1, g, h => by
    rw [g_wrk]
    split
    · exact h
    · exact gS.wrk m (gS.work 96 (gS.res (g := gsP g _) h))
theorem out_p (t : tT) (c : Nat) : 0 ≤ (t_out t c).1 := by
  unfold t_out
  split
  · split
    · show (0 : Int32) ≤ 1; decide
    · show (0 : Int32) ≤ 2; decide
  · show (0 : Int32) ≤ 2; decide
theorem gS.tgive {t : tT} {g : gT} {c : Nat} (h : gS g) : gS (t_give t g c) := by
  unfold t_give
  split
  · exact h.give (out_p t c)
  · exact h
theorem gS.cl1 {x : tT × gT} {c : Nat} (h : gS x.2) : gS (t_cl1 x c).2 := by
  unfold t_cl1
  split
  · exact h.tgive
  · exact h
theorem gS.clN : ∀ (m : Nat) {x : tT × gT}, gS x.2 → gS (t_clN x m).2
  | 0, _, h => h
  | m + 1, _, h => gS.clN m (gS.cl1 h)
theorem gS.close {x : tT × gT} (h : gS x.2) : gS (x_close x).2 := gS.work 96 (gS.clN _ h)
theorem gS.mk {g : gT} {kd fn a as : Int32} {ins : List Nat} (h : gS g) : gS (g_mk g kd fn a as ins) := fun k => by
  show 0 ≤ (if k = gN g then (fun c => if c = 2 then kd else if c = 3 then fn else if c = 4 then a else if c = 5 then as else 0) else gF g k) 0
  split
  · show (0 : Int32) ≤ 0; decide
  · exact h k
theorem gS.new {g : gT} {kd fn a as : Int32} {ins : List Nat} (h : gS g) : gS (g_new g kd fn a as ins) := (gS.mk h).scan
/-- kinds stay -/
theorem new_F2 {g : gT} {kd fn a as : Int32} {ins : List Nat} {k : Nat} (hk : k < gN g) : gF (g_new g kd fn a as ins) k 2 = gF g k 2 := by
  unfold g_new
  rw [(gSame.scan _).2.2.2.2.2 k 2 (by decide)]
  exact congrFun (if_neg (show ¬ k = gN g by omega)) 2
theorem cpl_F2 (g : gT) (s u v : Int32) (a : Nat) : gF (g_cpl g s u v) a 2 = gF g a 2 := by
  unfold g_cpl
  split
  · exact give_F2 _ _ _ _ _
  · rfl
theorem wrk_F2 : ∀ (m : Nat) (g : gT) (a : Nat), gF (g_wrk m g) a 2 = gF g a 2
  | 0, _, _ => rfl
  | m + 1, g, a => by
    rw [g_wrk]
    split
    · rfl
    · exact (wrk_F2 m _ a).trans ((work_F2 96 _ a).trans (res_F2 _ _ _))
theorem gN_wrk : ∀ (m : Nat) (g : gT), gN (g_wrk m g) = gN g
  | 0, _ => rfl
  | m + 1, g => by
    rw [g_wrk]
    split
    · rfl
    · exact (gN_wrk m _).trans ((gN_work 96 _).trans (gN_res _ _))
theorem gOK.wrk : ∀ (m : Nat) {g : gT}, gOK g → gOK (g_wrk m g)
  | 0, _, h => h
  | m + 1, g, h => by
    rw [g_wrk]
    split
    next => exact h
    next k x hx => exact gOK.wrk m (h.pl hx)
/-- a call that changes the graph alone -/
theorem zV.gr {t : tT} {g g' : gT} (h : zV t g) (hO : gOK g') (hY : gY g') (hZ : gZ g') (hS : gS g') (hn : gN g ≤ gN g') (hF : ∀ k, k < gN g → gF g' k 2 = gF g k 2) : zV t g' := by
  obtain ⟨⟨⟨c1, c2, c3⟩, h2, h3, h4⟩, h5, h6, h7, h8⟩ := h
  exact ⟨⟨⟨hO, c2, fun c hc => Nat.lt_of_lt_of_le (c3 c hc) hn⟩, hY.1, h3, fun c hc => ⟨(h4 c hc).1, by rw [hF _ (c3 c hc)]; exact (h4 c hc).2⟩⟩, h5, hY.2, hZ, hS⟩
theorem src_id {g : gT} (hO : gOK g) (hZ : gZ g) : g_new g 9 (-1) 0 0 [] = g_mk g 9 (-1) 0 0 [] := by
  unfold g_new
  refine scan_id (fun k hk z => ?_)
  have gFo : ∀ k c, k ≠ gN g → gF (g_mk g 9 (-1) 0 0 []) k c = gF g k c := fun k c hk => congrFun (if_neg hk) c
  have gAo : ∀ k, k ≠ gN g → gA (g_mk g 9 (-1) 0 0 []) k = gA g k := fun k hk => va_up_ne _ _ hk
  have on : ∀ k, k < gN g → g_on (g_mk g 9 (-1) 0 0 []) k = g_on g k := by
    intro k hk
    unfold g_on
    rw [gFo k 0 (by omega)]
  have hk' : k < gN g + 1 := hk
  by_cases hkn : k = gN g
  · have h9 : gF (g_mk g 9 (-1) 0 0 []) k 2 = 9 := by rw [hkn]; exact congrFun (if_pos rfl) 2
    have := z.2
    unfold g_able at this
    rw [h9] at this
    simp at this
  · have hkN : k < gN g := by omega
    rw [gFo k 6 hkn, g_able_abl, on k hkN, abl_congr (g := g) (gFo k 2 hkn) (gAo k hkn) (va_up_ne _ _ hkn) (fun b hb => on b (by
      rcases hb with hb | hb
      · exact (hO.1.2.2 k hkN).2.1 b hb
      · exact (hO.1.2.2 k hkN).2.2 b hb)), ← g_able_abl] at z
    exact hZ k hkN z
theorem zV.src {t : tT} {g : gT} (h : zV t g) (hn : gN g < 48) : zV t (g_new g 9 (-1) 0 0 []) := by
  have hO : gOK (g_mk g 9 (-1) 0 0 []) := h.C.1.mk hn (by decide) (fun i hi => by cases hi) ⟨Or.inl rfl, fun z => absurd z (by decide)⟩
  have e := src_id h.C.1 h.2.2.2.1
  refine h.gr hO.scan ⟨(h.1.2.1.mk h.C.1).scan, ?_⟩ (gZ.scan _) (gS.new h.2.2.2.2) (by rw [gN_new]; omega) (fun k hk => new_F2 hk)
  rw [e]
  exact h.2.2.1
/-- a call that makes a stage -/
theorem zV.nw {t : tT} {g : gT} {kd fn a as : Int32} {ins : List Nat} (h : zV t g) (hO : gOK (g_mk g kd fn a as ins)) (hY : gY (g_work 96 (g_new g kd fn a as ins))) : zV t (g_work 96 (g_new g kd fn a as ins)) :=
  h.gr (gOK.work 96 hO.scan) hY (gZ.work 96 (gZ.scan _)) (gS.work 96 (gS.new h.2.2.2.2)) (by rw [gN_work, gN_new]; omega) (fun k hk => by rw [work_F2, new_F2 hk])
theorem zV.cp {t : tT} {g : gT} {s u v : Int32} (h : zV t g) (h0 : ¬ u = 0) (hu : 0 ≤ u) (hY : gY (g_work 96 (g_cpl g s u v))) : zV t (g_work 96 (g_cpl g s u v)) :=
  h.gr (gOK.work 96 (h.C.1.cpl h0)) hY (gZ.work 96 h.2.2.2.1.cpl) (gS.work 96 (h.2.2.2.2.cpl hu)) (by rw [gN_work, gN_cpl]; omega) (fun k _ => by rw [work_F2, cpl_F2])
theorem work_id {g : gT} (h : gL g = []) : g_work 96 g = g := by
  rw [g_work, h]
theorem zV.wk {t : tT} {g : gT} {m : Nat} (h : zV t g) (hY : gY (g_wrk m g)) : zV t (g_wrk m g) :=
  h.gr (gOK.wrk m h.C.1) hY (gZ.wrk m h.2.2.2.1) (gS.wrk m h.2.2.2.2) (by rw [gN_wrk]; omega) (fun k _ => wrk_F2 m g k)
/-- closing -/
theorem zV.cl {t : tT} {g : gT} (h1 : zI t g) (h2 : tI t) (hZ : gZ g) (hS : gS g) (hY : gY (x_close (t, g)).2) : zV (x_close (t, g)).1 (x_close (t, g)).2 :=
  ⟨h1.close (x := (t, g)) hY, tI.close (x := (t, g)) h2, hY.2, gZ.close (x := (t, g)) hZ, gS.close (x := (t, g)) hS⟩
theorem tI.mode1 {t : tT} {c : Nat} (h : tI t) : tI (tsS t c 2 1) := by
  obtain ⟨i1, i2, i3, i4, i5⟩ := h
  refine ⟨(tKeep.sS t c 2 1 (by omega)).D i1, i2, i3, fun j hj h0 => ⟨?_, (i4 j hj h0).2⟩, i5⟩
  show ¬ tS (tsS t c 2 1) (uO t j) 2 = 2
  rw [tsS_S]
  split
  · decide
  · exact (i4 j hj h0).1
theorem zV.jn {t : tT} {g : gT} {c : Nat} (h : zV t g) (hY : gY (x_close (tsS t c 2 1, g)).2) : zV (x_close (tsS t c 2 1, g)).1 (x_close (tsS t c 2 1, g)).2 := zV.cl h.1.mode h.2.1.mode1 h.2.2.2.1 h.2.2.2.2 hY
theorem zV.cn {t : tT} {g : gT} {c : Nat} (h : zV t g) (hY : gY (x_close (t_stop t c, g)).2) : zV (x_close (t_stop t c, g)).1 (x_close (t_stop t c, g)).2 := zV.cl (h.1.L (tL.stop t c)) ((tL.stop t c).I h.2.1) h.2.2.2.1 h.2.2.2.2 hY
theorem gZ.tk : ∀ (m : Nat) {x : tT × gT}, gZ x.2 → gZ (x_tkN m x).2
  | 0, _, h => h
  | m + 1, x, h => gZ.tk m (x := x_tick1 x) (gZ.close (x := (t_pass x.1, x.2)) h)
theorem gS.tk : ∀ (m : Nat) {x : tT × gT}, gS x.2 → gS (x_tkN m x).2
  | 0, _, h => h
  | m + 1, x, h => gS.tk m (x := x_tick1 x) (gS.close (x := (t_pass x.1, x.2)) h)
/-- bind, fork, a new scope -/
theorem zV.bd {t : tT} {g : gT} {c k : Nat} {v : Int32} (h : zV t g) : zV (tsV t c k v) g := by
  obtain ⟨⟨⟨c1, c2, c3⟩, h2, h3, h4⟩, h5, h6⟩ := h
  refine ⟨⟨⟨c1, ⟨c2.1, c2.2.1, c2.2.2.1, c2.2.2.2.1, fun a b => ?_⟩, c3⟩, h2, h3, h4⟩, h5, h6⟩
  show f2 (tB t) c k 1 a b = 0 ∨ f2 (tB t) c k 1 a b = 1
  rw [f2_eq]
  split
  · exact Or.inr rfl
  · exact c2.2.2.2.2 a b
theorem cost_ok {co : Int32} (h : ¬ tk_cost co = 0) : 0 < co ∧ co ≤ 50 := by
  unfold tk_cost at h
  constructor
  · refine Int32.not_le.mp (fun z => h ?_)
    first
      | (rw [if_pos (Int32.lt_of_le_of_lt z (by decide))])
      | (simp only [ite_eq_left_iff]; intro q; exact absurd (Int32.lt_of_le_of_lt z (by decide)) q)
  · refine Int32.not_lt.mp (fun z => h ?_)
    split
    · rfl
    · first | rfl | (rw [if_pos z])
theorem zV.fk {t : tT} {g : gT} {c : Nat} {co fn a : Int32} (h : zV t g) (hn : uN t < 30) (hc : c < tN t) (hop : tS t c 2 = 0) (hco : 0 < co ∧ co ≤ 50) (hf : ¬ fn_has fn = 0) : zV (u_mk t c co fn a) g := by
  obtain ⟨⟨⟨c1, c2, c3⟩, h2, h3, h4⟩, ⟨i1, i2, i3, i4, i5⟩, h6⟩ := h
  have eK : ∀ j f, ¬ j = uN t → uK (u_mk t c co fn a) j f = uK t j f := fun j f hj => congrFun (if_neg hj) f
  have eN : ∀ f, uK (u_mk t c co fn a) (uN t) f = if f = 0 then co else if f = 1 then fn else if f = 2 then a else if f = 3 then t_look t c 0 else if f = 4 then (if tS t c 3 = 0 then 0 else 3) else 0 := fun f => congrFun (if_pos rfl) f
  have eO : ∀ j, ¬ j = uN t → uO (u_mk t c co fn a) j = uO t j := fun j hj => va_up_ne _ _ hj
  have hU : tU (u_mk t c co fn a) := fun j hj => by
    have hj' : j < uN t + 1 := hj
    by_cases hjn : j = uN t
    · rw [hjn, eN]
      show (if tS t c 3 = 0 then (0 : Int32) else 3) = 0 ∨ (if tS t c 3 = 0 then (0 : Int32) else 3) = 1 ∨ (if tS t c 3 = 0 then (0 : Int32) else 3) = 2 ∨ (if tS t c 3 = 0 then (0 : Int32) else 3) = 3
      split
      · exact Or.inl rfl
      · exact Or.inr (Or.inr (Or.inr rfl))
    · rw [eK j 4 hjn]; exact h3 j (by omega)
  refine ⟨⟨⟨c1, c2.mkk hn hc, c3⟩, h2, hU, h4⟩, ⟨i1, hU, fun j hj => ?_, fun j hj h0 => ?_, fun j hj h0 => ?_⟩, h6⟩
  · have hj' : j < uN t + 1 := hj
    by_cases hjn : j = uN t
    · rw [hjn, eN]; exact hf
    · rw [eK j 1 hjn]; exact i3 j (by omega)
  · have hj' : j < uN t + 1 := hj
    by_cases hjn : j = uN t
    · rw [hjn, eN, eN, show uO (u_mk t c co fn a) (uN t) = c from va_up_self _ _ _]
      refine ⟨?_, ?_, ?_, ?_⟩
      · show ¬ tS t c 2 = 2
        rw [hop]; decide
      · show (0 : Int32) ≤ 0; decide
      · exact hco.1
      · exact hco.2
    · rw [eK j 4 hjn] at h0
      rw [eK j 5 hjn, eK j 0 hjn, eO j hjn]
      exact i4 j (by omega) h0
  · have hj' : j < uN t + 1 := hj
    by_cases hjn : j = uN t
    · rw [hjn, eN] at h0
      have h0' : (if tS t c 3 = 0 then (0 : Int32) else 3) = 1 ∨ (if tS t c 3 = 0 then (0 : Int32) else 3) = 2 := h0
      split at h0'
      · rcases h0' with z | z <;> exact absurd z (by decide)
      · rcases h0' with z | z <;> exact absurd z (by decide)
    · rw [eK j 4 hjn] at h0
      show va_up (uT t) (uN t) 0 j < uE t
      rw [va_up_ne _ _ hjn]
      exact i5 j (by omega) h0
theorem eff_ok {t : tT} {p : Option Nat} {d : Int32} (hD : tD t) (hp : ∀ c, p = some c → c < tN t) : t_eff t p d = -1 ∨ 0 ≤ t_eff t p d := by
  unfold t_eff
  cases p with
  | none =>
    show (if 0 ≤ d then d else -1) = -1 ∨ 0 ≤ (if 0 ≤ d then d else -1)
    split
    next h => exact Or.inr h
    next => exact Or.inl rfl
  | some c =>
    have hc := (hD c (hp c rfl)).2.1
    show (if tS t c 1 = -1 then (if 0 ≤ d then d else -1) else (if 0 ≤ d then (if tS t c 1 < d then tS t c 1 else d) else tS t c 1)) = -1 ∨ 0 ≤ (if tS t c 1 = -1 then (if 0 ≤ d then d else -1) else (if 0 ≤ d then (if tS t c 1 < d then tS t c 1 else d) else tS t c 1))
    split
    · split
      next h => exact Or.inr h
      next => exact Or.inl rfl
    next hne =>
      have hc' := hc.resolve_left hne
      split
      next h =>
        split
        · exact Or.inr hc'
        · exact Or.inr h
      next => exact Or.inr hc'
theorem zV.op {t : tT} {g : gT} {p : Option Nat} {po d : Int32} (h : zV t g) (hm : tN t < 12) (hn : gN g < 48) (hp : ∀ c, p = some c → c < tN t) (hpo : po ≤ 2) : zV (t_mk t p po d (gN g)) (g_new g 9 (-1) 0 0 []) := by
  have hs := h.src hn
  obtain ⟨⟨⟨c1, c2, c3⟩, h2, h3, h4⟩, ⟨i1, i2, i3, i4, i5⟩, h6⟩ := hs
  have eS : ∀ c f, ¬ c = tN t → tS (t_mk t p po d (gN g)) c f = tS t c f := fun c f hc => congrFun (if_neg hc) f
  have eN : ∀ f, tS (t_mk t p po d (gN g)) (tN t) f = if f = 0 then po else if f = 1 then t_eff t p d else if f = 5 then (if 0 ≤ d then d else -1) else 0 := fun f => congrFun (if_pos rfl) f
  have eP : ∀ c, ¬ c = tN t → tP (t_mk t p po d (gN g)) c = tP t c := fun c hc => va_up_ne _ _ hc
  have ePn : tP (t_mk t p po d (gN g)) (tN t) = p := va_up_self _ _ _
  have eR : ∀ c, ¬ c = tN t → tR (t_mk t p po d (gN g)) c = tR t c := fun c hc => va_up_ne _ _ hc
  have eRn : tR (t_mk t p po d (gN g)) (tN t) = gN g := va_up_self _ _ _
  have eE : ∀ (q : Option Nat) (x : Int32), (∀ c, q = some c → c < tN t) → t_eff (t_mk t p po d (gN g)) q x = t_eff t q x := by
    intro q x hq
    unfold t_eff
    cases q with
    | none => rfl
    | some c =>
      have := hq c rfl
      simp only [eS c 1 (by omega)]
  refine ⟨⟨⟨c1, c2.mk hm hp, fun c hc => ?_⟩, h2, h3, fun c hc => ?_⟩, ⟨fun c hc => ?_, i2, i3, fun j hj h0 => ?_, i5⟩, h6⟩
  · have hc' : c < tN t + 1 := hc
    by_cases hcn : c = tN t
    · rw [hcn, eRn, gN_new]; exact Nat.lt_succ_self _
    · rw [eR c hcn]; exact c3 c (by omega)
  · have hc' : c < tN t + 1 := hc
    by_cases hcn : c = tN t
    · rw [hcn, eRn, eN]
      refine ⟨hpo, ?_⟩
      unfold g_new
      rw [(gSame.scan _).2.2.2.2.2 (gN g) 2 (by decide)]
      exact congrFun (if_pos rfl) 2
    · rw [eR c hcn, eS c 0 hcn]; exact h4 c (by omega)
  · have hc' : c < tN t + 1 := hc
    by_cases hcn : c = tN t
    · rw [hcn, eN, eN, ePn, eE p _ hp]
      refine ⟨?_, eff_ok i1 hp, ?_⟩
      · show (if 0 ≤ d then d else -1) = -1 ∨ 0 ≤ (if 0 ≤ d then d else -1)
        split
        next z => exact Or.inr z
        next => exact Or.inl rfl
      · show t_eff t p d = t_eff t p (if 0 ≤ d then d else -1)
        by_cases hd : 0 ≤ d
        · rw [show (if 0 ≤ d then d else -1) = d from if_pos hd]
        · have hd1 : ¬ (0 : Int32) ≤ -1 := by decide
          rw [show (if 0 ≤ d then d else (-1 : Int32)) = -1 from if_neg hd]
          unfold t_eff
          cases p with
          | none => show (if 0 ≤ d then d else -1) = (if (0 : Int32) ≤ -1 then -1 else -1); rw [if_neg hd, if_neg hd1]
          | some c => simp only [if_neg hd, if_neg hd1]
    · rw [eS c 5 hcn, eS c 1 hcn, eP c hcn, eE _ _ (fun q hq => by have := c2.2.1 c (by omega) q hq; omega)]
      exact i1 c (by omega)
  · have ho := c2.2.2.1 j hj
    show ¬ tS (t_mk t p po d (gN g)) (uO t j) 2 = 2 ∧ _
    rw [eS _ 2 (by omega)]
    exact i4 j hj h0
theorem zV_0 : zV t_0 g_0 := by
  refine ⟨⟨cOK_0, ⟨fun k j hj => ?_, fun k hk => ?_, fun k hk => ?_⟩, fun j hj => absurd hj (Nat.not_lt_zero j), fun c hc => absurd hc (Nat.not_lt_zero c)⟩, ⟨fun c hc => absurd hc (Nat.not_lt_zero c), fun j hj => absurd hj (Nat.not_lt_zero j), fun j hj => absurd hj (Nat.not_lt_zero j), fun j hj => absurd hj (Nat.not_lt_zero j), fun j hj => absurd hj (Nat.not_lt_zero j)⟩, rfl, fun k hk => absurd hk (Nat.not_lt_zero k), fun k => ?_⟩
  · cases hj
  · cases hk
  · cases hk
  · show (0 : Int32) ≤ 0; decide
