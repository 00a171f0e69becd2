/-! The whole class: graph and tree together. -/
def RP (σ : ps_S) (t : tT) (g : gT) : Prop := (ps_R σ 0 0 0 = some (1, 0) ∧ ps_R σ 0 0 1 = some (7, 0)) ∧ RC σ g ∧ RT σ t ∧ ps_N σ 4 = 3 + gN g
def cOK (t : tT) (g : gT) : Prop := gOK g ∧ tW t ∧ tgW t g
theorem RP.gf {σ σ' : ps_S} {t : tT} {g g' : gT} (h : RP σ t g) (hR : RC σ' g') (hf : FrG σ σ') (hN : ps_N σ' = ps_N σ) (hn : gN g' = gN g) : RP σ' t g' :=
  ⟨⟨(congrFun (congrFun (hf 0 (by decide)).2.2.1 0) 0).trans h.1.1, (congrFun (congrFun (hf 0 (by decide)).2.2.1 0) 1).trans h.1.2⟩, hR, h.2.2.1.fr hf, by rw [hN, hn]; exact h.2.2.2⟩
theorem RP.tf {σ σ' : ps_S} {t t' : tT} {g : gT} (h : RP σ t g) (hT : RT σ' t') (hf : FrT σ σ') : RP σ' t' g :=
  ⟨⟨(congrFun (congrFun (hf 0 (by decide)).2.2.1 0) 0).trans h.1.1, (congrFun (congrFun (hf 0 (by decide)).2.2.1 0) 1).trans h.1.2⟩, h.2.1.fr hf, hT, ((hf 4 (by decide)).2.2.2.2).trans h.2.2.2⟩
theorem RP.cf {σ σ' : ps_S} {t t' : tT} {g g' : gT} (h : RP σ t g) (hT : RT σ' t') (hR : RC σ' g') (hf : FrC σ σ') (hN : ps_N σ' = ps_N σ) (hn : gN g' = gN g) : RP σ' t' g' :=
  ⟨⟨(congrFun (congrFun (hf 0 (by decide)).2.2.1 0) 0).trans h.1.1, (congrFun (congrFun (hf 0 (by decide)).2.2.1 0) 1).trans h.1.2⟩, hR, hT, by rw [hN, hn]; exact h.2.2.2⟩
theorem gN_res (g : gT) (k : Nat) : gN (g_res g k) = gN g := by
  unfold g_res
  split
  · split
    · exact gN_give _ _ _ _
    · exact (gSame.scan _).1
  · rfl
theorem gN_work : ∀ (m : Nat) (g : gT), gN (g_work m g) = gN g
  | 0, _ => rfl
  | m + 1, g => by
    rw [g_work]
    split
    · rfl
    · exact (gN_work m _).trans (gN_res _ _)
theorem gOK.work : ∀ (m : Nat) {g : gT}, gOK g → gOK (g_work m g)
  | 0, _, h => h
  | m + 1, g, h => by
    rw [g_work]
    split
    next => exact h
    next k r hx =>
      have hk := h.2.2.2 k (by rw [hx]; exact List.mem_append_left _ List.mem_cons_self)
      exact gOK.work m (gOK.res (g := gsL g r) (h.tline hx) hk.1)
def g_cpl (g : gT) (s u v : Int32) : gT := if (¬ s < 0 ∧ s.toNatClampNeg < gN g) ∧ gF g s.toNatClampNeg 0 = 0 then g_give g s.toNatClampNeg u v else g
def g_cpa (g : gT) (s : Int32) : Int32 := if (¬ s < 0 ∧ s.toNatClampNeg < gN g) ∧ gF g s.toNatClampNeg 0 = 0 then 1 else 0
theorem gOK.cpl {g : gT} {s u v : Int32} (h : gOK g) (hu : ¬ u = 0) : gOK (g_cpl g s u v) := by
  unfold g_cpl
  split
  next hc => exact h.give hc.1.2 hc.2 hu
  next => exact h
theorem gN_cpl (g : gT) (s u v : Int32) : gN (g_cpl g s u v) = gN g := by
  unfold g_cpl
  split
  · exact gN_give _ _ _ _
  · rfl
theorem sip_post {σ σ' : ps_S} {g : gT} {s u v : Int32} {r : Option ps_A} (hR : RC σ g)
    (h : if (¬ s < 0 ∧ s.toNatClampNeg < gN g) ∧ gF g s.toNatClampNeg 0 = 0 then r = some (ps_int 1) ∧ RC σ' (g_give g s.toNatClampNeg u v) ∧ FrG σ σ' ∧ ps_N σ' = ps_N σ else r = some (ps_int 0) ∧ σ' = σ) :
    r = some (ps_int (g_cpa g s)) ∧ RC σ' (g_cpl g s u v) ∧ FrG σ σ' ∧ ps_N σ' = ps_N σ := by
  unfold g_cpl g_cpa
  by_cases hc : (¬ s < 0 ∧ s.toNatClampNeg < gN g) ∧ gF g s.toNatClampNeg 0 = 0
  · rw [if_pos hc] at h
    rw [if_pos hc, if_pos hc]
    exact h
  · rw [if_neg hc] at h
    rw [if_neg hc, if_neg hc, h.2]
    exact ⟨h.1, hR, FrG.rf σ, rfl⟩
theorem cpa_b (g : gT) (s : Int32) : g_cpa g s = 0 ∨ g_cpa g s = 1 := by
  unfold g_cpa
  split
  · exact Or.inr rfl
  · exact Or.inl rfl
/-- what work does, and how many it advances -/
def g_wrk : Nat → gT → gT
  | 0, g => g
  | m + 1, g => match gP g with
    | [] => g
    | k :: x => g_wrk m (g_work 96 (g_res (gsP g x) k))
def g_wrkc : Nat → gT → Nat
  | 0, _ => 0
  | m + 1, g => match gP g with
    | [] => 0
    | k :: x => g_wrkc m (g_work 96 (g_res (gsP g x) k)) + 1
theorem gOK.pl {g : gT} {k : Nat} {x : List Nat} (h : gOK g) (hx : gP g = k :: x) : gOK (g_work 96 (g_res (gsP g x) k)) :=
  gOK.work 96 (gOK.res (g := gsP g x) (h.tpool hx) (h.2.2.2 k (by rw [hx]; exact List.mem_append_right _ List.mem_cons_self)).1)
theorem t_cl1_ok {x : tT × gT} {c : Nat} (h : cOK x.1 x.2) (hc : c < tN x.1) : cOK (t_cl1 x c).1 (t_cl1 x c).2 ∧ tN (t_cl1 x c).1 = tN x.1 ∧ gN (t_cl1 x c).2 = gN x.2 := by
  unfold t_cl1
  split
  · refine ⟨⟨h.1.tgive (h.2.2 c hc), (tKeep.sS _ _ _ _ (by omega)).W h.2.1, fun y hy => ?_⟩, rfl, gN_tgive _ _ _⟩
    rw [gN_tgive]
    exact h.2.2 y hy
  · exact ⟨h, rfl, rfl⟩
theorem t_clN_ok : ∀ (m : Nat) {x : tT × gT}, cOK x.1 x.2 → m ≤ tN x.1 → cOK (t_clN x m).1 (t_clN x m).2 ∧ tN (t_clN x m).1 = tN x.1 ∧ gN (t_clN x m).2 = gN x.2
  | 0, x, h, _ => ⟨h, rfl, rfl⟩
  | m + 1, x, h, hm => by
    have h1 := t_cl1_ok (c := m) h (by omega)
    have h2 := t_clN_ok m (x := t_cl1 x m) h1.1 (by rw [h1.2.1]; omega)
    exact ⟨h2.1, h2.2.1.trans h1.2.1, h2.2.2.trans h1.2.2⟩
theorem t_close_ok {t : tT} {g : gT} (h : cOK t g) : cOK (t_close (t, g)).1 (t_close (t, g)).2 ∧ tN (t_close (t, g)).1 = tN t ∧ gN (t_close (t, g)).2 = gN g := t_clN_ok _ h (Nat.le_refl _)
/-- close what can be closed, work off the line -/
def x_close (x : tT × gT) : tT × gT := ((t_close x).1, g_work 96 (t_close x).2)
theorem x_close_ok {t : tT} {g : gT} (h : cOK t g) : cOK (x_close (t, g)).1 (x_close (t, g)).2 ∧ gN (x_close (t, g)).2 = gN g := by
  have h1 := t_close_ok h
  exact ⟨⟨gOK.work 96 h1.1.1, h1.1.2.1, fun c hc => by show _ < gN (g_work 96 _); rw [gN_work]; exact h1.1.2.2 c hc⟩, (gN_work _ _).trans h1.2.2⟩
def x_tick1 (x : tT × gT) : tT × gT := x_close (t_pass x.1, x.2)
def x_tkN : Nat → tT × gT → tT × gT
  | 0, x => x
  | m + 1, x => x_tkN m (x_tick1 x)
def x_tkc : Nat → tT × gT → Nat
  | 0, _ => 0
  | m + 1, x => u_pcN (t_tick x.1) (uN x.1) + x_tkc m (x_tick1 x)
theorem tR_end (t : tT) (j : Nat) : tR (u_end t j) = tR t := by
  unfold u_end
  split
  · exact (tKeep.stop _ _).1.2.2.1
  · rfl
theorem tR_ps1 (t : tT) (j : Nat) : tR (u_ps1 t j) = tR t := by
  unfold u_ps1
  split
  · split
    · exact (tKeep.wk t j).1.2.2.1
    · exact (tR_end _ _).trans (tKeep.wk t j).1.2.2.1
  · rfl
theorem tR_psN (t : tT) : ∀ m, tR (u_psN t m) = tR t
  | 0 => rfl
  | m + 1 => (tR_ps1 _ _).trans (tR_psN t m)
theorem t_pass_ok {t : tT} {g : gT} (h : cOK t g) : cOK (t_pass t) g := by
  have hk := tKeep.tick t
  refine ⟨h.1, (hk.W h.2.1).psN _ (by rw [hk.2.1]; exact Nat.le_refl _), fun c hc => ?_⟩
  unfold t_pass at hc ⊢
  rw [(uN_psN _ _).2, hk.1.1] at hc
  rw [tR_psN, hk.1.2.2.1]
  exact h.2.2 c hc
theorem x_tick1_ok {t : tT} {g : gT} (h : cOK t g) : cOK (x_tick1 (t, g)).1 (x_tick1 (t, g)).2 ∧ gN (x_tick1 (t, g)).2 = gN g := x_close_ok (t_pass_ok h)
def n_bad (n : Int32) : Prop := n < 0 ∨ 60 < n
def st_is (n : Int32) : Int32 := if n < 0 then 0 else if 60 < n then 0 else 1
theorem nI_of60 {n : Int32} (h1 : ¬ n < 0) (h2 : ¬ 60 < n) : n = nI n.toNatClampNeg ∧ n.toNatClampNeg ≤ 60 := by
  obtain ⟨j, hj, rfl⟩ := nI_of h1
  rw [nI_clamp hj]
  refine ⟨rfl, ?_⟩
  rw [show (60 : Int32) = nI 60 from rfl, nI_ltI (by decide) hj] at h2
  omega
/-! the answers that only read -/
def x_stage (g : gT) (s w : Int32) : Int32 := if ¬ s < 0 ∧ s.toNatClampNeg < gN g then (if w = 0 then gF g s.toNatClampNeg 0 else if w = 1 then gF g s.toNatClampNeg 1 else if w = 2 then gF g s.toNatClampNeg 2 else if w = 3 then g_ix s.toNatClampNeg (gP g) 0 else -1) else -1
def x_count (t : tT) (g : gT) (w : Int32) : Int32 := if w = 0 then nI (gN g) else if w = 1 then nI (gP g).length else if w = 2 then nI (tN t) else if w = 3 then nI (uN t) else if w = 4 then uC t else -1
def x_scope (t : tT) (s w : Int32) : Int32 := if ¬ s < 0 ∧ s.toNatClampNeg < tN t then (if w = 0 then tS t s.toNatClampNeg 2 else if w = 1 then nI (tR t s.toNatClampNeg) else if w = 2 then tS t s.toNatClampNeg 1 else if w = 3 then nI (u_cnt t s.toNatClampNeg 0 (uN t)) else if w = 4 then (if tS t s.toNatClampNeg 3 = 0 then 0 else 1) + (if tS t s.toNatClampNeg 4 = 0 then 0 else 2) else if w = 5 then nI (u_cnt t s.toNatClampNeg 2 (uN t)) else -1) else -1
def x_task (t : tT) (s w : Int32) : Int32 := if ¬ s < 0 ∧ s.toNatClampNeg < uN t then (if w = 0 then uK t s.toNatClampNeg 4 else if w = 1 then nI (uO t s.toNatClampNeg) else if w = 2 then uK t s.toNatClampNeg 5 else if w = 3 then uK t s.toNatClampNeg 6 else -1) else -1
