/-! Scopes and tasks in the store under writes. -/
theorem tS_sS (t : tT) (c f : Nat) (v : Int32) (a y : Nat) : tS (tsS t c f v) a y = if a = c ∧ y = f then v else tS t a y := f2_eq _ _ _ _ _ _
theorem uK_sK (t : tT) (c f : Nat) (v : Int32) (a y : Nat) : uK (usK t c f v) a y = if a = c ∧ y = f then v else uK t a y := f2_eq _ _ _ _ _ _
theorem RT0.I5 {σ : ps_S} {t t' : tT} {κ i f : Nat} {v : Int32} (h : RT0 σ t) (hκ : 7 ≠ κ) (h1 : tN t' = tN t) (h2 : t'.2.1 = t.2.1 ∧ uC t' = uC t ∧ uE t' = uE t) : RT0 (ps_sI σ κ i f v) t' := by
  obtain ⟨⟨a1, a2, a3, a4, a5, a6, a7, a8⟩, b1, b2, b3, b4⟩ := h
  have hu : uN t' = uN t := h2.1
  exact ⟨⟨a1, a2, a3, a4, by rw [h1]; exact a5, by rw [hu]; exact a6, by rw [h1]; exact a7, by rw [h1]; exact a8⟩, by rw [h1]; exact (ps_I_k σ hκ).trans b1, by rw [hu]; exact (ps_I_k σ hκ).trans b2, by rw [h2.2.1]; exact (ps_I_k σ hκ).trans b3, by rw [h2.2.2]; exact (ps_I_k σ hκ).trans b4⟩
theorem RT.sS {σ : ps_S} {t : tT} (h : RT σ t) (c : Nat) {s f : Nat} (hs : (s = 7 ∧ f = 2) ∨ (s = 8 ∧ f = 3) ∨ (s = 9 ∧ f = 4)) (v : Int32) : RT (ps_sI σ 5 c s v) (tsS t c f v) := by
  obtain ⟨h0, h1, h2⟩ := h
  refine ⟨h0.I5 (by decide) rfl ⟨rfl, rfl, rfl⟩, fun a ha => ?_, fun j hj => ?_⟩
  · obtain ⟨⟨b0, b1, b2, b3, b4, b5⟩, ⟨d1, d2, d3, d4, d5⟩, b6, b7, b8⟩ := h1 a ha
    have e5 : ∀ k, k < 4 → ps_I (ps_sI σ 5 c s v) 10 a k = tV t a k ∧ ps_I (ps_sI σ 5 c s v) 11 a k = tB t a k := fun k hk => ⟨(ps_I_k σ (by decide)).trans (d5 k hk).1, (ps_I_k σ (by decide)).trans (d5 k hk).2⟩
    rcases hs with ⟨rfl, rfl⟩ | ⟨rfl, rfl⟩ | ⟨rfl, rfl⟩ <;> by_cases hc : a = c <;>
      simp [RTs, ps_I_sI, tS_sS, ps_R_sI, ps_L_sI, hc, show tP (tsS t c _ v) = tP t from rfl, show tR (tsS t c _ v) = tR t from rfl, show tV (tsS t c _ v) = tV t from rfl, show tB (tsS t c _ v) = tB t from rfl] <;>
      first | (subst hc; exact ⟨⟨b0, b1, b2, b3, b4, b5⟩, ⟨d1, d2, d3, d4, d5⟩, b6, b7⟩) | (subst hc; exact ⟨⟨b0, b1, b2, b3, b4, b5⟩, ⟨d1, d2, d3, d4, d5⟩, b7, b8⟩) | (subst hc; exact ⟨⟨b0, b1, b2, b3, b4, b5⟩, ⟨d1, d2, d3, d4, d5⟩, b6, b8⟩) | exact ⟨⟨b0, b1, b2, b3, b4, b5⟩, ⟨d1, d2, d3, d4, d5⟩, b6, b7, b8⟩
  · obtain ⟨⟨b0, b1, b2, b3, b4, b5⟩, b6, b7, b8, b9⟩ := h2 j hj
    exact ⟨⟨b0, b1, (ps_I_k σ (by decide)).trans b2, (ps_I_k σ (by decide)).trans b3, (ps_I_k σ (by decide)).trans b4, (ps_I_k σ (by decide)).trans b5⟩, (ps_I_k σ (by decide)).trans b6, (ps_I_k σ (by decide)).trans b7, (ps_I_k σ (by decide)).trans b8, (ps_I_k σ (by decide)).trans b9⟩
theorem RTs.I6 {σ : ps_S} {t t' : tT} {a κ i f : Nat} {v : Int32} (h : RTs σ t a) (hκ : 5 ≠ κ ∧ 10 ≠ κ ∧ 11 ≠ κ) (ht : t'.1 = t.1) : RTs (ps_sI σ κ i f v) t' a := by
  obtain ⟨⟨b0, b1, b2, b3, b4, b5⟩, ⟨d1, d2, d3, d4, d5⟩, b6, b7, b8⟩ := h
  have g1 : tP t' = tP t := by unfold tP; rw [ht]
  have g2 : tS t' = tS t := by unfold tS; rw [ht]
  have g3 : tR t' = tR t := by unfold tR; rw [ht]
  have g4 : tV t' = tV t := by unfold tV; rw [ht]
  have g5 : tB t' = tB t := by unfold tB; rw [ht]
  unfold RTs
  rw [g1, g2, g3, g4, g5]
  exact ⟨⟨b0, (ps_I_k σ hκ.1).trans b1, b2, (ps_I_k σ hκ.1).trans b3, (ps_I_k σ hκ.1).trans b4, b5⟩, ⟨d1, d2, d3, d4, fun k hk => ⟨(ps_I_k σ hκ.2.1).trans (d5 k hk).1, (ps_I_k σ hκ.2.2).trans (d5 k hk).2⟩⟩, (ps_I_k σ hκ.1).trans b6, (ps_I_k σ hκ.1).trans b7, (ps_I_k σ hκ.1).trans b8⟩
theorem RT.sK {σ : ps_S} {t : tT} (h : RT σ t) (c : Nat) {s f : Nat} (hs : (s = 5 ∧ f = 4) ∨ (s = 6 ∧ f = 5) ∨ (s = 7 ∧ f = 6)) (v : Int32) : RT (ps_sI σ 6 c s v) (usK t c f v) := by
  obtain ⟨h0, h1, h2⟩ := h
  refine ⟨h0.I5 (by decide) rfl ⟨rfl, rfl, rfl⟩, fun a ha => (h1 a ha).I6 (by decide) rfl, fun j hj => ?_⟩
  obtain ⟨⟨b0, b1, b2, b3, b4, b5⟩, b6, b7, b8, b9⟩ := h2 j hj
  rcases hs with ⟨rfl, rfl⟩ | ⟨rfl, rfl⟩ | ⟨rfl, rfl⟩ <;> by_cases hc : j = c <;>
    simp [RTk, ps_I_sI, uK_sK, ps_R_sI, hc, show uO (usK t c _ v) = uO t from rfl, show uT (usK t c _ v) = uT t from rfl] <;>
    first | (subst hc; exact ⟨⟨b0, b1, b2, b3, b4, b5⟩, b7, b8, b9⟩) | (subst hc; exact ⟨⟨b0, b1, b2, b3, b4, b5⟩, b6, b8, b9⟩) | (subst hc; exact ⟨⟨b0, b1, b2, b3, b4, b5⟩, b6, b7, b9⟩) | exact ⟨⟨b0, b1, b2, b3, b4, b5⟩, b6, b7, b8, b9⟩
/-- the turn of a task that ends -/
def tk_note (σ : ps_S) (j : Nat) : ps_S := ps_sI (ps_sI σ 6 j 8 (ps_I σ 7 0 5)) 7 0 5 (ps_I σ 7 0 5 + 1)
theorem RT.end {σ : ps_S} {t : tT} (h : RT σ t) (c : Nat) : RT (tk_note σ c) (usE t c) := by
  obtain ⟨⟨⟨a1, a2, a3, a4, a5, a6, a7, a8⟩, b1, b2, b3, b4⟩, h1, h2⟩ := h
  refine ⟨⟨⟨a1, a2, a3, a4, a5, a6, a7, a8⟩, ?_, ?_, ?_, ?_⟩, fun a ha => ?_, fun j hj => ?_⟩
  · unfold tk_note; rw [ps_I_f _ _ (by decide), ps_I_k _ (by decide)]; exact b1
  · unfold tk_note; rw [ps_I_f _ _ (by decide), ps_I_k _ (by decide)]; exact b2
  · unfold tk_note; rw [ps_I_f _ _ (by decide), ps_I_k _ (by decide)]; exact b3
  · unfold tk_note; rw [ps_I_eq, b4, nI_1]; rfl
  · exact RTs.I6 (t := t) ((h1 a ha).I6 (by decide) rfl) (by decide) rfl
  · obtain ⟨⟨d0, d1, d2, d3, d4, d5⟩, d6, d7, d8, d9⟩ := h2 j hj
    have q : ∀ x, x ≠ 8 → ps_I (tk_note σ c) 6 j x = ps_I σ 6 j x := by
      intro x hx
      unfold tk_note
      rw [ps_I_k _ (by decide), ps_I_f _ _ hx]
    refine ⟨⟨d0, d1, (q 1 (by decide)).trans d2, (q 2 (by decide)).trans d3, (q 3 (by decide)).trans d4, (q 4 (by decide)).trans d5⟩, (q 5 (by decide)).trans d6, (q 6 (by decide)).trans d7, (q 7 (by decide)).trans d8, ?_⟩
    unfold tk_note
    rw [ps_I_k _ (by decide)]
    show _ = nI (va_up (uT t) c (uE t) j)
    by_cases hc : j = c
    · subst hc
      rw [ps_I_eq, va_up_self, b4]
    · rw [ps_I_ne _ _ hc, va_up_ne _ _ hc]
      exact d9
theorem RT.time {σ : ps_S} {t : tT} (h : RT σ t) (v : Int32) : RT (ps_sI σ 7 0 4 v) (usC t v) := by
  obtain ⟨⟨⟨a1, a2, a3, a4, a5, a6, a7, a8⟩, b1, b2, b3, b4⟩, h1, h2⟩ := h
  refine ⟨⟨⟨a1, a2, a3, a4, a5, a6, a7, a8⟩, (ps_I_f _ _ (by decide)).trans b1, (ps_I_f _ _ (by decide)).trans b2, ps_I_eq _ _ _ _ _, (ps_I_f _ _ (by decide)).trans b4⟩, fun a ha => (h1 a ha).I6 (by decide) rfl, fun j hj => ?_⟩
  obtain ⟨⟨d0, d1, d2, d3, d4, d5⟩, d6, d7, d8, d9⟩ := h2 j hj
  exact ⟨⟨d0, d1, (ps_I_k σ (by decide)).trans d2, (ps_I_k σ (by decide)).trans d3, (ps_I_k σ (by decide)).trans d4, (ps_I_k σ (by decide)).trans d5⟩, (ps_I_k σ (by decide)).trans d6, (ps_I_k σ (by decide)).trans d7, (ps_I_k σ (by decide)).trans d8, (ps_I_k σ (by decide)).trans d9⟩
theorem RT.keep {σ : ps_S} {t : tT} (h : RT σ t) (c : Nat) (k : Nat) (v : Int32) : RT (ps_sI (ps_sI σ 10 c k v) 11 c k 1) (tsV t c k v) := by
  obtain ⟨h0, h1, h2⟩ := h
  refine ⟨(RT0.I5 (t := t) (h0.I5 (by decide) rfl ⟨rfl, rfl, rfl⟩) (by decide) rfl ⟨rfl, rfl, rfl⟩), fun a ha => ?_, fun j hj => ?_⟩
  · obtain ⟨⟨b0, b1, b2, b3, b4, b5⟩, ⟨d1, d2, d3, d4, d5⟩, b6, b7, b8⟩ := h1 a ha
    have q : ∀ j, ps_I (ps_sI (ps_sI σ 10 c k v) 11 c k 1) 5 a j = ps_I σ 5 a j := fun j => by rw [ps_I_k _ (by decide), ps_I_k _ (by decide)]
    refine ⟨⟨b0, (q 0).trans b1, b2, (q 2).trans b3, (q 3).trans b4, b5⟩, ⟨d1, d2, d3, d4, fun y hy => ⟨?_, ?_⟩⟩, (q 7).trans b6, (q 8).trans b7, (q 9).trans b8⟩
    · rw [ps_I_k _ (by decide), ps_I_sI]
      show _ = f2 (tV t) c k v a y
      rw [f2_eq]
      by_cases hc : a = c ∧ y = k
      · rw [if_pos ⟨rfl, hc.1, hc.2⟩, if_pos hc]
      · rw [if_neg (fun z : 10 = 10 ∧ a = c ∧ y = k => hc z.2), if_neg hc]; exact (d5 y hy).1
    · rw [ps_I_sI, ps_I_k _ (by decide)]
      show _ = f2 (tB t) c k 1 a y
      rw [f2_eq]
      by_cases hc : a = c ∧ y = k
      · rw [if_pos ⟨rfl, hc.1, hc.2⟩, if_pos hc]
      · rw [if_neg (fun z : 11 = 11 ∧ a = c ∧ y = k => hc z.2), if_neg hc]; exact (d5 y hy).2
  · obtain ⟨⟨d0, d1, d2, d3, d4, d5⟩, d6, d7, d8, d9⟩ := h2 j hj
    have q : ∀ x, ps_I (ps_sI (ps_sI σ 10 c k v) 11 c k 1) 6 j x = ps_I σ 6 j x := fun x => by rw [ps_I_k _ (by decide), ps_I_k _ (by decide)]
    exact ⟨⟨d0, d1, (q 1).trans d2, (q 2).trans d3, (q 3).trans d4, (q 4).trans d5⟩, (q 5).trans d6, (q 6).trans d7, (q 7).trans d8, (q 8).trans d9⟩
theorem t_bel_none (pa : Nat → Option Nat) (c : Nat) : ∀ m, t_bel pa m none c = false
  | 0 => rfl
  | _ + 1 => rfl
theorem t_lk_none (t : tT) (k : Nat) : ∀ m, t_lk t m none k = 0
  | 0 => rfl
  | _ + 1 => rfl
/-! constructors of Scope and Task; what a task does -/
def sc_init (σ : ps_S) (c : Nat) (nu po d : Int32) (p r : Option (Nat × Nat)) : ps_S :=
  let σ1 := ps_sR (ps_sI (ps_sI (ps_sR (ps_sI σ 5 c 0 nu) 5 c 1 p) 5 c 2 po) 5 c 3 d) 5 c 4 r
  let σ2 := ps_sR (ps_mk σ1 10 4) 5 c 5 (some (10, ps_N σ1 10))
  ps_sI (ps_sR (ps_mk σ2 11 4) 5 c 6 (some (11, ps_N σ2 11))) 5 c 7 0
def tk_init (σ : ps_S) (j : Nat) (co fn a x : Int32) (o : Option (Nat × Nat)) (v : Int32) : ps_S :=
  ps_sI (ps_sI (ps_sI (ps_sI (ps_sI (ps_sR σ 6 j 0 o) 6 j 1 co) 6 j 2 fn) 6 j 3 a) 6 j 4 x) 6 j 5 v
def tk_work (σ : ps_S) (j : Nat) : ps_S := if ps_I σ 6 j 6 + 1 < ps_I σ 6 j 1 then ps_sI σ 6 j 6 (ps_I σ 6 j 6 + 1)
  else ps_sI (ps_sI (ps_sI σ 6 j 6 (ps_I σ 6 j 6 + 1)) 6 j 5 (if fn_thr (ps_I σ 6 j 2) (ps_I σ 6 j 3) (ps_I σ 6 j 4) = 0 then 1 else 2)) 6 j 7 (if fn_thr (ps_I σ 6 j 2) (ps_I σ 6 j 3) (ps_I σ 6 j 4) = 0 then fn_mk (ps_I σ 6 j 2) (ps_I σ 6 j 3) (ps_I σ 6 j 4) else fn_thr (ps_I σ 6 j 2) (ps_I σ 6 j 3) (ps_I σ 6 j 4))
theorem RT.work {σ : ps_S} {t : tT} {j : Nat} (h : RT σ t) (hj : j < uN t) : RT (tk_work σ j) (u_wk t j) := by
  obtain ⟨⟨d0, d1, d2, d3, d4, d5⟩, d6, d7, d8, d9⟩ := h.2.2 j hj
  rw [tk_work, u_wk, d2, d7, d3, d4, d5]
  by_cases hc : uK t j 5 + 1 < uK t j 0
  · rw [if_pos hc, if_pos hc]
    exact h.sK j (Or.inr (Or.inl ⟨rfl, rfl⟩)) _
  · rw [if_neg hc, if_neg hc]
    exact ((h.sK j (Or.inr (Or.inl ⟨rfl, rfl⟩)) _).sK j (Or.inl ⟨rfl, rfl⟩) _).sK j (Or.inr (Or.inr ⟨rfl, rfl⟩)) _
theorem FrT.work {σ : ps_S} {j : Nat} : FrT σ (tk_work σ j) := by
  unfold tk_work
  split
  · exact FrT.sI (by decide)
  · exact ((FrT.sI (by decide)).tr (FrT.sI (by decide))).tr (FrT.sI (by decide))
theorem N_work (σ : ps_S) (j : Nat) : ps_N (tk_work σ j) = ps_N σ := by unfold tk_work; split <;> rfl
theorem pv_min {p : Program} {l : Launch} {e : Env} {R : Room} {s : State} {m : MethodId} {args : Array Value} {below : List Frame} {meth : Method} {c : Code} {nL : Nat} {D : va_G} {ca : Nat → ClassId} {A : Nat → Prop} {H0 : Heap} {adr0 : Nat → Nat → Nat} {σ0 : ps_S} {Q : State → Prop} {cc : ByteArray} {own : String} {pc : Nat} {L : List (Nat × ps_A)} {st : List ps_A} {σ : ps_S} {ce sl : Nat}
    (E : ps_E p s m c cc nL own D ca) {index : Nat} {x y : Int32} (w1 : Cond.methodLink own index Lib.Math.min.name ∈ ps_T) (w2 : Cond.static Lib.Math.min.name ∈ ps_T) (w3 : Cond.initialized "java/lang/Math" ∈ ps_T) (w4 : Cond.code Lib.Math.min.name Lib.Math.min.code 2 (some .int) ∈ ps_T) (hfr : 1 ≤ R.frames) (hro : (st.map ps_cat).sum + 13 ≤ R.locals) (hce : ce ≤ R.cells) (hsl : sl ≤ R.slots) (hd : decode cc pc = .ok (.invokestatic index, 3))
    (kk : ps_V p l e R s m args below meth c nL D ca A H0 adr0 σ0 Q (pc + 3) L (ps_int (if y < x then y else x) :: st) σ ce sl) : ps_V p l e R s m args below meth c nL D ca A H0 adr0 σ0 Q pc L (ps_int y :: ps_int x :: st) σ ce sl := by
  intro adr H locs ls hB hs hL hls
  have ht := E.2.2.2.2.words args
  have e1 : ((st.map (ps_v adr)).map fun v => v.category).sum = (st.map ps_cat).sum := by
    rw [List.map_map]
    exact congrArg List.sum (List.map_congr_left fun a _ => ps_cat_v adr a)
  exact va_mmin (rest := st.map (ps_v adr)) E.1 E.2.1 (E.2.2.1.trans hls.1.symm) E.2.2.2.1 (ht _ w1) (ht _ w2) (ht _ w3) (ht _ w4) hfr (by rw [e1]; exact hro) hce hsl hd (kk adr H locs ls hB (ps_cn trivial (ps_tl (ps_tl hs))) hL hls)
