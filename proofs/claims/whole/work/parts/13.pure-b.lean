/-! Lists of inputs. -/
theorem pv_back {p : Program} {l : Launch} {e : Env} {R : Room} {s : State} {m : MethodId} {args : Array Value} {below : List Frame} {meth : Method} {c : Code} {nL : Nat} {D : va_G} {ca : Nat → ClassId} {A : Nat → Prop} {H0 : Heap} {adr0 : Nat → Nat → Nat} {σ0 : ps_S} {Q : State → Prop} {pc : Nat} {L L' : List (Nat × ps_A)} {st : List ps_A} {σ : ps_S} {ce sl : Nat}
    (kk : ps_V p l e R s m args below meth c nL D ca A H0 adr0 σ0 Q pc L' st σ ce sl) (h : ps_sub L L') : ps_V p l e R s m args below meth c nL D ca A H0 adr0 σ0 Q pc L st σ ce sl := pv_sub h kk
theorem nI_gt0 {n : Nat} (h : ¬ nI n ≤ 0) : 0 < n := Nat.pos_of_ne_zero (fun z => h (by rw [z]; decide))
theorem g_able_none {g : gT} {k : Nat} (h0 : gF g k 0 = 0) (h9 : ¬ gF g k 2 = 9) (hA : gA g k = none) : g_able g k = if gF g k 2 = 6 ∨ gF g k 2 = 8 then (gI g k).any (g_on g) else (gI g k).all (g_on g) := by
  simp [g_able, g_on, h0, h9, hA]
theorem g_any_f {g : gT} {l : List Nat} (h : ¬ 0 < g_cnt g 0 l) : l.any (g_on g) = false := by
  cases hb : l.any (g_on g) with
  | false => rfl
  | true => exact absurd ((g_cnt_eq g l 0).1.mpr (Or.inr hb)) h
theorem g_any_t {g : gT} {l : List Nat} (h : 0 < g_cnt g 0 l) : l.any (g_on g) = true := ((g_cnt_eq g l 0).1.mp h).resolve_left (by omega)
theorem g_all_f {g : gT} {l : List Nat} (h : ¬ g_cnt g 0 l = l.length) : l.all (g_on g) = false := by
  cases hb : l.all (g_on g) with
  | false => rfl
  | true => exact absurd ((g_cnt_eq g l 0).2.1.mpr hb) (by omega)
theorem g_all_t {g : gT} {l : List Nat} (h : g_cnt g 0 l = l.length) : l.all (g_on g) = true := (g_cnt_eq g l 0).2.1.mp (by omega)
theorem nI_le0 {n : Nat} (h : n < 2 ^ 31) (h2 : nI n ≤ 0) : n = 0 := by
  by_cases z : n = 0
  · exact z
  · exact absurd h2 (nI_nle (by omega) h)
theorem g_fol_st {σ : ps_S} {g : gT} {j : Nat} (k : Nat) (h : RS σ g j) : st_follow σ k j = st_become σ k (g_fol g j).1 (g_fol g j).2 := by
  rw [st_follow, h.2.1, h.2.2.1]
  rfl
theorem g_use_st {σ : ps_S} {g : gT} {k : Nat} (x : Int32) (h : RS σ g k) : st_use σ k x = st_become σ k (g_use g k x).1 (g_use g k x).2 := by
  obtain ⟨⟨e0, e1, e2, e3, e4, e5, e6, e7, e8⟩, e9, e10, e11, e12, e13⟩ := h
  rw [st_use, g_use, e3, e4]
  by_cases h : fn_thr (gF g k 3) (gF g k 4) x = 0
  · rw [if_pos h, if_pos h]
  · rw [if_neg h, if_neg h]
theorem g_first_0 {g : gT} {k x0 : Nat} (h : (gI g k)[0]? = some x0) : g_first g k = g_ft g x0 ((gI g k).drop 1) := by
  unfold g_first
  cases hl : gI g k with
  | nil => rw [hl] at h; cases h
  | cons a r =>
    rw [hl] at h
    cases h
    rfl
