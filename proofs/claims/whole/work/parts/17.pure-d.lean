/-! From the methods of Stage to the graph's outcome. -/
def st_dec (σ : ps_S) (k : Nat) (d : (Int32 × Int32) ⊕ Nat) : ps_S := match d with
  | .inl q => st_become σ k q.1 q.2
  | .inr a => ps_sR σ 3 k 9 (some (3, a))
def g_find (g : gT) (s : Int32) : Option (Nat × Nat) := if ¬ s < 0 ∧ s.toNatClampNeg < gN g then some (3, s.toNatClampNeg) else none
theorem nI_le_s {n : Nat} {s : Int32} (hn : n < 2 ^ 31) (h : ¬ s < 0) : nI n ≤ s ↔ n ≤ s.toNatClampNeg := by
  obtain ⟨j, hj, rfl⟩ := nI_of h
  rw [nI_leI hn hj, nI_clamp hj]
theorem g_app_st {σ : ps_S} {g : gT} {k j : Nat} (hk : RS σ g k) (hj : RS σ g j) : st_apply σ k j = st_become σ k (g_app g k j).1 (g_app g k j).2 := by
  rw [st_apply, g_app, hj.2.1, hj.2.2.1]
  by_cases h : gF g j 0 = 1
  · rw [if_pos h, if_pos h]; exact g_use_st _ hk
  · rw [if_neg h, if_neg h]; exact g_fol_st k hj
theorem g_rec_st {σ : ps_S} {g : gT} {k j : Nat} (hk : RS σ g k) (hj : RS σ g j) : st_recover σ k j = st_become σ k (if gF g j 0 = 1 then g_fol g j else g_use g k (gF g j 1)).1 (if gF g j 0 = 1 then g_fol g j else g_use g k (gF g j 1)).2 := by
  rw [st_recover, hj.2.1, hj.2.2.1]
  by_cases h : gF g j 0 = 1
  · rw [if_pos h, if_pos h]; exact g_fol_st k hj
  · rw [if_neg h, if_neg h]; exact g_use_st _ hk
theorem g_han_st {σ : ps_S} {g : gT} {k j : Nat} (hk : RS σ g k) (hj : RS σ g j) : st_handle σ k j = st_become σ k (g_use g k (if gF g j 0 = 1 then gF g j 1 else -1 - gF g j 1)).1 (g_use g k (if gF g j 0 = 1 then gF g j 1 else -1 - gF g j 1)).2 := by
  rw [st_handle, hj.2.1, hj.2.2.1]
  exact g_use_st _ hk
theorem g_wat_st {σ : ps_S} {g : gT} {k j : Nat} (hk : RS σ g k) (hj : RS σ g j) : st_watch σ k j = st_become σ k (if gF g j 0 = 1 ∧ ¬ fn_thr (gF g k 3) (gF g k 4) (gF g j 1) = 0 then (3, fn_thr (gF g k 3) (gF g k 4) (gF g j 1)) else g_fol g j).1 (if gF g j 0 = 1 ∧ ¬ fn_thr (gF g k 3) (gF g k 4) (gF g j 1) = 0 then (3, fn_thr (gF g k 3) (gF g k 4) (gF g j 1)) else g_fol g j).2 := by
  obtain ⟨⟨e0, e1, e2, e3, e4, e5, e6, e7, e8⟩, e9, e10, e11, e12, e13⟩ := hk
  rw [st_watch, hj.2.1, hj.2.2.1, e3, e4]
  by_cases h : gF g j 0 = 1 ∧ ¬ fn_thr (gF g k 3) (gF g k 4) (gF g j 1) = 0
  · rw [if_pos h, if_pos h]
  · rw [if_neg h, if_neg h]; exact g_fol_st k hj
theorem g_com_st {σ : ps_S} {g : gT} {k i j : Nat} (hk : RS σ g k) (hi : RS σ g i) (hj : RS σ g j) : st_combine σ k i j = st_become σ k (if gF g i 0 = 1 then (if gF g j 0 = 1 then g_use g k (gF g i 1 + gF g j 1) else g_fol g j) else g_fol g i).1 (if gF g i 0 = 1 then (if gF g j 0 = 1 then g_use g k (gF g i 1 + gF g j 1) else g_fol g j) else g_fol g i).2 := by
  rw [st_combine, hi.2.1, hj.2.1, hi.2.2.1, hj.2.2.1]
  by_cases h : gF g i 0 = 1
  · rw [if_pos h, if_pos h]
    by_cases h2 : gF g j 0 = 1
    · rw [if_pos h2, if_pos h2]; exact g_use_st _ hk
    · rw [if_neg h2, if_neg h2]; exact g_fol_st k hj
  · rw [if_neg h, if_neg h]; exact g_fol_st k hi
theorem st_pool_g {σ : ps_S} {g : gT} {k : Nat} (h : RS σ g k) : st_pool σ k = if gF g k 5 = 0 then 0 else if gA g k = none then 1 else 0 := by
  obtain ⟨⟨e0, e1, e2, e3, e4, e5, e6, e7, e8⟩, e9, e10, e11, e12, e13⟩ := h
  rw [st_pool, e5, e12]
  cases gA g k <;> simp
theorem FrG.app {σ : ps_S} {q r k f n : Nat} : FrG σ (q_app σ q r k f n) := by
  unfold q_app
  split
  · exact (FrG.sR (by decide)).tr (FrG.sI (by decide))
  · exact FrG.rf σ
theorem FrG.tk {σ : ps_S} {q f n : Nat} : FrG σ (q_take σ q f n) := by
  unfold q_take
  split
  · exact FrG.rf σ
  · exact (FrG.sI (by decide)).tr (FrG.sI (by decide))
theorem FrG.bec {σ : ps_S} {k : Nat} {u v : Int32} : FrG σ (st_become σ k u v) := (FrG.sI (by decide)).tr (FrG.sI (by decide))
theorem FrG.note {σ : ps_S} {k : Nat} : FrG σ (st_note σ k) := (FrG.sI (by decide)).tr (FrG.sI (by decide))
theorem FrG.dec {σ : ps_S} {k : Nat} {d : (Int32 × Int32) ⊕ Nat} : FrG σ (st_dec σ k d) := by
  cases d with
  | inl q => exact FrG.bec
  | inr a => exact FrG.sR (by decide)
theorem N_app (σ : ps_S) (q r k f n : Nat) : ps_N (q_app σ q r k f n) = ps_N σ := by unfold q_app; split <;> rfl
theorem N_tk (σ : ps_S) (q f n : Nat) : ps_N (q_take σ q f n) = ps_N σ := by unfold q_take; split <;> rfl
theorem N_dec (σ : ps_S) (k : Nat) (d : (Int32 × Int32) ⊕ Nat) : ps_N (st_dec σ k d) = ps_N σ := by cases d <;> rfl
theorem gT_tv {g : gT} (h : gW g) (j : Nat) : g_tv g j < 2 ^ 31 := g_tv_lt g j (by have := h.2.1.2 j; omega)
theorem dec_st {σ : ps_S} {g : gT} {k : Nat} (h : RC σ g) (hk : k < gN g) (h0 : gF g k 0 = 0) : ps_I (st_dec σ k (g_dec g k)) 3 k 6 = 0 ↔ ∃ a, g_dec g k = .inr a := by
  cases hd : g_dec g k with
  | inl q =>
    have e : ps_I (st_dec σ k (.inl q)) 3 k 6 = q.1 := by
      show ps_I (ps_sI (ps_sI σ 3 k 6 q.1) 3 k 7 q.2) 3 k 6 = q.1
      rw [ps_I_f _ _ (by decide), ps_I_eq]
    rw [e]
    exact ⟨fun z => absurd z (g_dec_ne hd), fun ⟨a, ha⟩ => by cases ha⟩
  | inr a =>
    have e : ps_I (st_dec σ k (.inr a)) 3 k 6 = 0 := by
      show ps_I σ 3 k 6 = 0
      rw [(h.2.1 k hk).2.1]
      exact h0
    exact ⟨fun _ => ⟨a, rfl⟩, fun _ => e⟩
theorem gOK.res {g : gT} {k : Nat} (h : gOK (gsF g k 6 0)) (hk : k < gN g) : gOK (g_res g k) := by
  unfold g_res
  split
  next h0 => exact gOK.dec h hk (by rw [gF_f _ _ (by decide)]; exact h0)
  next => exact h
theorem g_in1 {g : gT} {l : List Nat} (h : l.getD 1 0 = 0 ∨ True) : True := trivial
theorem ghead {l : List Nat} {x : Nat} (h : l[0]? = some x) : l.headD 0 = x := by
  cases l with
  | nil => cases h
  | cons a r => cases h; rfl
theorem gget1 {l : List Nat} {x : Nat} (h : l[1]? = some x) : l.getD 1 0 = x := by
  rw [List.getD_eq_getElem?_getD, h]
  rfl
/-! ends of compose -/
theorem comp_end_some {σ : ps_S} {g : gT} {k j : Nat} {q : Nat × Nat} (hA : gA g k = none) (h1 : gF g j 0 = 1) (h2 : fn_thr (gF g k 3) (gF g k 4) (gF g j 1) = 0) (h3 : g_find g (fn_mk (gF g k 3) (gF g k 4) (gF g j 1)) = some q) :
    ps_sR σ 3 k 9 (g_find g (fn_mk (gF g k 3) (gF g k 4) (gF g j 1))) = st_dec σ k (g_cmp g k j) := by
  rw [g_cmp, hA]
  dsimp only
  rw [if_pos h1, if_pos h2]
  unfold g_find at h3 ⊢
  split
  next hc => rfl
  next hc => rw [if_neg hc] at h3; cases h3
theorem comp_end_none {σ : ps_S} {g : gT} {k j : Nat} (hA : gA g k = none) (h1 : gF g j 0 = 1) (h2 : fn_thr (gF g k 3) (gF g k 4) (gF g j 1) = 0) (h3 : g_find g (fn_mk (gF g k 3) (gF g k 4) (gF g j 1)) = none) (hr : ps_R σ 3 k 9 = none) :
    st_become (ps_sR σ 3 k 9 (g_find g (fn_mk (gF g k 3) (gF g k 4) (gF g j 1)))) k 3 8 = st_dec σ k (g_cmp g k j) := by
  rw [g_cmp, hA]
  dsimp only
  rw [if_pos h1, if_pos h2, h3, ps_sR_self σ 3 k 9 hr]
  unfold g_find at h3
  split
  next hc => rw [if_pos hc] at h3; cases h3
  next hc => rfl
theorem g_ft_lt {g : gT} {n : Nat} : ∀ (l : List Nat) (b : Nat), b < n → (∀ x, x ∈ l → x < n) → g_ft g b l < n
  | [], b, hb, _ => hb
  | i :: r, b, hb, h => by
    rw [g_ft]
    refine g_ft_lt r _ ?_ (fun x hx => h x (List.mem_cons_of_mem _ hx))
    split
    · exact h i List.mem_cons_self
    · exact hb
theorem g_first_lt {g : gT} {k : Nat} (hW : gW g) (hk : k < gN g) (hne : 0 < (gI g k).length) : g_first g k < gN g := by
  obtain ⟨x0, hx0, hm0⟩ := lget hne
  rw [g_first_0 hx0]
  exact g_ft_lt _ _ ((hW.2.2 k hk).2.1 x0 hm0) (fun x hx => (hW.2.2 k hk).2.1 x (List.mem_of_mem_drop hx))
theorem pool_0 {g : gT} {k : Nat} {x : Int32} (h : x = if gF g k 5 = 0 then 0 else if gA (gsF g k 6 1) k = none then 1 else 0) (hz : ¬ (¬ gF g k 5 = 0 ∧ gA g k = none)) : x = 0 := by
  rw [h]
  by_cases h1 : gF g k 5 = 0
  · rw [if_pos h1]
  · rw [if_neg h1]
    exact if_neg (fun z : gA (gsF g k 6 1) k = none => hz ⟨h1, z⟩)
theorem g_work_nil {g : gT} {m : Nat} (h : gL g = []) : g_work m g = g := by
  cases m with
  | zero => rfl
  | succ m => rw [g_work, h]
