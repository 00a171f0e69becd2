/-! The reference's graph under its writes. -/
theorem gS_f (g : gT) (k : Nat) (u v : Int32) (a : Nat) {c : Nat} (h0 : c ≠ 0) (h1 : c ≠ 1) : gF (gsS g k u v) a c = gF g a c := by
  unfold gsS
  rw [gF_f _ a h1, gF_f _ a h0]
theorem gS_ne (g : gT) {k : Nat} (u v : Int32) {a : Nat} (c : Nat) (h : a ≠ k) : gF (gsS g k u v) a c = gF g a c := by
  unfold gsS
  rw [gF_ne _ c h, gF_ne _ c h]
theorem gS_0 (g : gT) (k : Nat) (u v : Int32) : gF (gsS g k u v) k 0 = u := by
  unfold gsS
  rw [gF_f _ k (by decide), gF_eq]
theorem gS_1 (g : gT) (k : Nat) (u v : Int32) : gF (gsS g k u v) k 1 = v := by
  unfold gsS
  rw [gF_eq]
theorem RMG.que {σ : ps_S} {g : gT} {k : Nat} (v : Int32) (h : RMG σ g) (hk : k < gN g) : RMG (ps_sI σ 15 1 k v) (gsF g k 6 v) := by
  obtain ⟨a1, a2, a3, a4⟩ := h
  have e13 : ∀ j, ps_I (ps_sI σ 15 1 k v) 13 0 j = ps_I σ 13 0 j := fun j => sI_ne (by omega)
  have e14 : ∀ i j, ps_I (ps_sI σ 15 1 k v) 14 i j = ps_I σ 14 i j := fun i j => sI_ne (by omega)
  have e15 : ∀ j, ps_I (ps_sI σ 15 1 k v) 15 0 j = ps_I σ 15 0 j := fun j => sI_ne (by omega)
  refine ⟨(e13 1).trans a1, (e13 5).trans a2, fun a ha => ?_, fun a ha => ?_⟩
  · obtain ⟨⟨r1, r2, r3, r4, r5, r6, r7⟩, r8, r9⟩ := a3 a ha
    have e : ∀ c, c ≠ 6 → gF (gsF g k 6 v) a c = gF g a c := fun c hc => gF_f g a hc
    unfold RMg m_in
    simp only [e13, e14, e15, ps_J_sI, e 0 (by decide), e 1 (by decide), e 2 (by decide), e 3 (by decide), e 4 (by decide), e 5 (by decide)]
    refine ⟨⟨r1, r2, r3, r4, r5, r6, ?_⟩, r8, r9⟩
    by_cases hak : a = k
    · subst hak
      rw [ps_I_eq, gF_eq]
    · rw [gF_ne g _ hak, sI_ne (by omega)]
      exact r7
  · have ha' : gN g ≤ a := ha
    obtain ⟨b1, b2, b3⟩ := a4 a ha'
    exact ⟨(e14 _ _).trans b1, (e14 _ _).trans b2, (sI_ne (by omega)).trans b3⟩
theorem RMA.que {σ : ps_S} {g : gT} {p k : Nat} (v : Int32) (h : RMA σ g p) (hk : k < gN g) : RMA (ps_sI σ 15 1 k v) (gsF g k 6 v) p := by
  have e13 : ∀ j, ps_I (ps_sI σ 15 1 k v) 13 0 j = ps_I σ 13 0 j := fun j => sI_ne (by omega)
  have e14 : ∀ i j, ps_I (ps_sI σ 15 1 k v) 14 i j = ps_I σ 14 i j := fun i j => sI_ne (by omega)
  exact ⟨h.1.que v hk, ⟨(e13 _).trans h.2.1.1, (e13 _).trans h.2.1.2.1, fun i j hi => (e14 _ _).trans (h.2.1.2.2 i j hi)⟩, (e13 _).trans h.2.2.1, fun i j hi => (e14 _ _).trans (h.2.2.2 i j hi)⟩
/-- a write that the graph itself doesn't see -/
theorem RMG.wr {σ : ps_S} {g g' : gT} {κ i j : Nat} {v : Int32} (h : RMG σ g) (hw : (κ = 13 ∧ ¬ j = 1 ∧ ¬ j = 5) ∨ (κ = 14 ∧ 9 ≤ i)) (hg : gN g' = gN g ∧ gF g' = gF g ∧ gI g' = gI g ∧ gA g' = gA g ∧ gU g' = gU g ∧ gC g' = gC g) : RMG (ps_sI σ κ i j v) g' := by
  obtain ⟨g1, g2, g3, g4, g5, g6⟩ := hg
  have e1 : ps_I (ps_sI σ κ i j v) 13 0 1 = ps_I σ 13 0 1 := sI_ne (by omega)
  have e5 : ps_I (ps_sI σ κ i j v) 13 0 5 = ps_I σ 13 0 5 := sI_ne (by omega)
  have e14 : ∀ a b, a ≤ 8 → ps_I (ps_sI σ κ i j v) 14 a b = ps_I σ 14 a b := fun a b ha => sI_ne (by omega)
  have e15 : ∀ a b, ps_I (ps_sI σ κ i j v) 15 a b = ps_I σ 15 a b := fun a b => sI_ne (by omega)
  unfold RMG RMg m_in at h ⊢
  simp only [g1, g2, g3, g4, g5, g6, e1, e5, ps_J_sI, e15, e14 0 _ (by decide), e14 1 _ (by decide), e14 2 _ (by decide), e14 3 _ (by decide), e14 4 _ (by decide), e14 5 _ (by decide), e14 6 _ (by decide), e14 7 _ (by decide), e14 8 _ (by decide)]
  exact h
theorem app_get {l : List Nat} {k i j : Nat} (h : (l ++ [k])[i]? = some j) : (i < l.length ∧ l[i]? = some j) ∨ (i = l.length ∧ j = k) := by
  by_cases hl : i < l.length
  · rw [List.getElem?_append_left hl] at h
    exact Or.inl ⟨hl, h⟩
  · rw [List.getElem?_append_right (by omega)] at h
    have := (List.getElem?_eq_some_iff.mp h).1
    simp at this
    have e : i = l.length := by omega
    subst e
    rw [Nat.sub_self] at h
    cases h
    exact Or.inr ⟨rfl, rfl⟩
theorem RMA.addP {σ : ps_S} {g : gT} {p k : Nat} (h : RMA σ g p) : RMA (ps_sI (ps_sI σ 14 10 (gP g).length (nI k)) 13 0 18 (nI ((gP g).length + 1))) (gsP g (gP g ++ [k])) p := by
  obtain ⟨h1, ⟨l1, l2, l3⟩, p1, p2⟩ := h
  refine ⟨(h1.wr (g' := g) (Or.inr ⟨rfl, by decide⟩) ⟨rfl, rfl, rfl, rfl, rfl, rfl⟩).wr (Or.inl ⟨rfl, by decide, by decide⟩) ⟨rfl, rfl, rfl, rfl, rfl, rfl⟩, ⟨?_, ?_, fun i j hi => ?_⟩, ?_, fun i j hi => ?_⟩
  · rw [sI_ne (by omega), sI_ne (by omega)]; exact l1
  · rw [sI_ne (by omega), sI_ne (by omega)]; exact l2
  · rw [sI_ne (by omega), sI_ne (by omega)]; exact l3 i j hi
  · rw [ps_I_eq]
    show _ = nI (gP g ++ [k]).length
    rw [List.length_append]; rfl
  · rw [sI_ne (by omega)]
    rcases app_get (show (gP g ++ [k])[i]? = some j from hi) with ⟨a, b⟩ | ⟨a, b⟩
    · rw [sI_ne (by omega)]; exact p2 i j b
    · rw [a, b, ps_I_eq]
theorem RMA.addL {σ : ps_S} {g : gT} {p k : Nat} (h : RMA σ g p) : RMA (ps_sI (ps_sI σ 14 9 (p + (gL g).length) (nI k)) 13 0 16 (nI (p + (gL g).length + 1))) (gsL g (gL g ++ [k])) p := by
  obtain ⟨h1, ⟨l1, l2, l3⟩, p1, p2⟩ := h
  refine ⟨(h1.wr (g' := g) (Or.inr ⟨rfl, by decide⟩) ⟨rfl, rfl, rfl, rfl, rfl, rfl⟩).wr (Or.inl ⟨rfl, by decide, by decide⟩) ⟨rfl, rfl, rfl, rfl, rfl, rfl⟩, ⟨?_, ?_, fun i j hi => ?_⟩, ?_, fun i j hi => ?_⟩
  · rw [sI_ne (by omega), sI_ne (by omega)]; exact l1
  · rw [ps_I_eq]
    show _ = nI (p + (gL g ++ [k]).length)
    rw [List.length_append]; rfl
  · rw [sI_ne (by omega)]
    rcases app_get (show (gL g ++ [k])[i]? = some j from hi) with ⟨a, b⟩ | ⟨a, b⟩
    · rw [sI_ne (by omega)]; exact l3 i j b
    · rw [a, b, ps_I_eq]
  · rw [sI_ne (by omega), sI_ne (by omega)]; exact p1
  · rw [sI_ne (by omega), sI_ne (by omega)]; exact p2 i j hi
def m_set (σ : ps_S) (k : Nat) (u v : Int32) (c : Int32) : ps_S := ps_sI (ps_sI (ps_sI (ps_sI σ 14 0 k u) 14 1 k v) 13 0 5 c) 14 2 k c
theorem gsU_F (g : gT) (k : Nat) : gF (gsU g k) = gF g := rfl
theorem RMG.set {σ : ps_S} {g : gT} {k : Nat} (u v : Int32) (h : RMG σ g) (hk : k < gN g) : RMG (m_set σ k u v (nI (gC g + 1))) (gsU (gsS g k u v) k) := by
  obtain ⟨a1, a2, a3, a4⟩ := h
  have e14 : ∀ i j, 3 ≤ i → ps_I (m_set σ k u v (nI (gC g + 1))) 14 i j = ps_I σ 14 i j := fun i j hi => by
    unfold m_set; rw [sI_ne (by omega), sI_ne (by omega), sI_ne (by omega), sI_ne (by omega)]
  have e15 : ∀ i j, ps_I (m_set σ k u v (nI (gC g + 1))) 15 i j = ps_I σ 15 i j := fun i j => by
    unfold m_set; rw [sI_ne (by omega), sI_ne (by omega), sI_ne (by omega), sI_ne (by omega)]
  have en : ∀ i j, j ≠ k → ps_I (m_set σ k u v (nI (gC g + 1))) 14 i j = ps_I σ 14 i j := fun i j hj => by
    unfold m_set; rw [sI_ne (by omega), sI_ne (by omega), sI_ne (by omega), sI_ne (by omega)]
  have eJ : ps_J (m_set σ k u v (nI (gC g + 1))) = ps_J σ := rfl
  refine ⟨?_, ?_, fun a ha => ?_, fun a ha => ?_⟩
  · unfold m_set; rw [sI_ne (by omega), sI_ne (by omega), sI_ne (by omega), sI_ne (by omega)]; exact a1
  · unfold m_set; rw [sI_ne (by omega), ps_I_eq]; rfl
  · obtain ⟨⟨r1, r2, r3, r4, r5, r6, r7⟩, r8, r9⟩ := a3 a ha
    have e : ∀ c, c ≠ 0 → c ≠ 1 → gF (gsU (gsS g k u v) k) a c = gF g a c := fun c h0 h1 => gS_f g k u v a h0 h1
    unfold RMg m_in
    simp only [eJ, e14 3 _ (by decide), e14 4 _ (by decide), e14 5 _ (by decide), e14 6 _ (by decide), e14 7 _ (by decide), e14 8 _ (by decide), e15, e 2 (by decide) (by decide), e 3 (by decide) (by decide), e 4 (by decide) (by decide), e 5 (by decide) (by decide), e 6 (by decide) (by decide)]
    refine ⟨⟨?_, ?_, fun hz => ?_, r4, r5, r6, r7⟩, r8, r9⟩
    · by_cases hak : a = k
      · subst hak
        rw [gsU_F, gS_0]
        unfold m_set; rw [sI_ne (by omega), sI_ne (by omega), sI_ne (by omega), ps_I_eq]
      · rw [gsU_F, gS_ne g u v 0 hak, en 0 a hak]; exact r1
    · by_cases hak : a = k
      · subst hak
        rw [gsU_F, gS_1]
        unfold m_set; rw [sI_ne (by omega), sI_ne (by omega), ps_I_eq]
      · rw [gsU_F, gS_ne g u v 1 hak, en 1 a hak]; exact r2
    · by_cases hak : a = k
      · subst hak
        unfold m_set; rw [ps_I_eq]
        show nI (gC g + 1) = nI (va_up (gU g) a (gC g) a + 1)
        rw [va_up_self]
      · rw [gsU_F, gS_ne g u v 0 hak] at hz
        rw [en 2 a hak, r3 hz]
        show nI (gU g a + 1) = nI (va_up (gU g) k (gC g) a + 1)
        rw [va_up_ne _ _ hak]
  · have ha' : gN g ≤ a := ha
    obtain ⟨b1, b2, b3⟩ := a4 a ha'
    exact ⟨(en 0 a (by omega)).trans b1, (en 1 a (by omega)).trans b2, (e15 _ _).trans b3⟩
theorem RMA.set {σ : ps_S} {g : gT} {p k : Nat} (u v : Int32) (h : RMA σ g p) (hk : k < gN g) : RMA (m_set σ k u v (nI (gC g + 1))) (gsU (gsS g k u v) k) p := by
  have e13 : ∀ j, j ≠ 5 → ps_I (m_set σ k u v (nI (gC g + 1))) 13 0 j = ps_I σ 13 0 j := fun j hj => by
    unfold m_set; rw [sI_ne (by omega), sI_ne (by omega), sI_ne (by omega), sI_ne (by omega)]
  have e14 : ∀ i j, 3 ≤ i → ps_I (m_set σ k u v (nI (gC g + 1))) 14 i j = ps_I σ 14 i j := fun i j hi => by
    unfold m_set; rw [sI_ne (by omega), sI_ne (by omega), sI_ne (by omega), sI_ne (by omega)]
  exact ⟨h.1.set u v hk, ⟨(e13 15 (by decide)).trans h.2.1.1, (e13 16 (by decide)).trans h.2.1.2.1, fun i j hi => (e14 9 _ (by decide)).trans (h.2.1.2.2 i j hi)⟩, (e13 18 (by decide)).trans h.2.2.1, fun i j hi => (e14 10 _ (by decide)).trans (h.2.2.2 i j hi)⟩
theorem FrA.set {σ : ps_S} {k : Nat} {u v c : Int32} : FrA σ (m_set σ k u v c) := by
  unfold m_set
  exact (((FrA.sI (Or.inr (Or.inl ⟨rfl, by decide⟩))).tr (FrA.sI (Or.inr (Or.inl ⟨rfl, by decide⟩)))).tr (FrA.sI (Or.inl ⟨rfl, by decide⟩))).tr (FrA.sI (Or.inr (Or.inl ⟨rfl, by decide⟩)))
theorem RMG.awt {σ : ps_S} {g : gT} {k j : Nat} (h : RMG σ g) : RMG (ps_sI σ 14 8 k (nI j)) (gsA g k (some j)) := by
  obtain ⟨a1, a2, a3, a4⟩ := h
  have e14 : ∀ i b, i ≠ 8 → ps_I (ps_sI σ 14 8 k (nI j)) 14 i b = ps_I σ 14 i b := fun i b hi => sI_ne (by omega)
  have e15 : ∀ i b, ps_I (ps_sI σ 14 8 k (nI j)) 15 i b = ps_I σ 15 i b := fun i b => sI_ne (by omega)
  refine ⟨(sI_ne (by omega)).trans a1, (sI_ne (by omega)).trans a2, fun a ha => ?_, fun a ha => ?_⟩
  · obtain ⟨⟨r1, r2, r3, r4, r5, r6, r7⟩, r8, r9⟩ := a3 a ha
    refine ⟨⟨(e14 0 a (by decide)).trans r1, (e14 1 a (by decide)).trans r2, fun hz => (e14 2 a (by decide)).trans (r3 hz), (e14 3 a (by decide)).trans r4, ?_, (e15 _ _).trans r6, (e15 _ _).trans r7⟩, fun hz => ⟨(e14 4 a (by decide)).trans (r8 hz).1, (e14 5 a (by decide)).trans (r8 hz).2.1, (r8 hz).2.2⟩, ?_⟩
    · by_cases hak : a = k
      · subst hak
        rw [ps_I_eq]
        show nI j = m_opt (va_up (gA g) a (some j) a)
        rw [va_up_self]; rfl
      · rw [sI_ne (by omega), r5]
        show _ = m_opt (va_up (gA g) k (some j) a)
        rw [va_up_ne _ _ hak]
    · unfold m_in at r9 ⊢
      simp only [e14 6 _ (by decide), e14 7 _ (by decide), ps_J_sI]
      exact r9
  · have ha' : gN g ≤ a := ha
    obtain ⟨b1, b2, b3⟩ := a4 a ha'
    exact ⟨(e14 0 a (by decide)).trans b1, (e14 1 a (by decide)).trans b2, (e15 _ _).trans b3⟩
theorem RMA.awt {σ : ps_S} {g : gT} {p k j : Nat} (h : RMA σ g p) : RMA (ps_sI σ 14 8 k (nI j)) (gsA g k (some j)) p :=
  ⟨h.1.awt, ⟨(sI_ne (by omega)).trans h.2.1.1, (sI_ne (by omega)).trans h.2.1.2.1, fun i j hi => (sI_ne (by omega)).trans (h.2.1.2.2 i j hi)⟩, (sI_ne (by omega)).trans h.2.2.1, fun i j hi => (sI_ne (by omega)).trans (h.2.2.2 i j hi)⟩
/-- the scratch fields -/
theorem RMA.sc {σ : ps_S} {g : gT} {p j : Nat} {v : Int32} (h : RMA σ g p) (hj : j = 0 ∨ j = 20 ∨ j = 21) : RMA (ps_sI σ 13 0 j v) g p :=
  ⟨h.1.wr (Or.inl ⟨rfl, by omega, by omega⟩) ⟨rfl, rfl, rfl, rfl, rfl, rfl⟩, ⟨(sI_ne (by omega)).trans h.2.1.1, (sI_ne (by omega)).trans h.2.1.2.1, fun i j hi => (sI_ne (by omega)).trans (h.2.1.2.2 i j hi)⟩, (sI_ne (by omega)).trans h.2.2.1, fun i j hi => (sI_ne (by omega)).trans (h.2.2.2 i j hi)⟩
theorem RMA.app {σ : ps_S} {g : gT} {p : Nat} {f a x : Int32} (h : RMA σ g p) : RMA (m_app σ f a x) g p := (h.sc (Or.inr (Or.inr rfl))).sc (Or.inr (Or.inl rfl))
theorem FrA.app {σ : ps_S} {f a x : Int32} : FrA σ (m_app σ f a x) := (FrA.sI (Or.inl ⟨rfl, by decide⟩)).tr (FrA.sI (Or.inl ⟨rfl, by decide⟩))
theorem app_21 (σ : ps_S) (f a x : Int32) : ps_I (m_app σ f a x) 13 0 21 = fn_thr f a x := by unfold m_app; rw [sI_ne (by omega), ps_I_eq]
theorem app_20 (σ : ps_S) (f a x : Int32) : ps_I (m_app σ f a x) 13 0 20 = m_mk f a x := by unfold m_app; rw [ps_I_eq]
theorem FrA.que {σ : ps_S} {k : Nat} {v : Int32} : FrA σ (ps_sI σ 15 1 k v) := FrA.sI (Or.inr (Or.inr ⟨rfl, by decide⟩))
theorem FrA.a14 {σ : ps_S} {i k : Nat} {v : Int32} (h : i ≤ 10) : FrA σ (ps_sI σ 14 i k v) := FrA.sI (Or.inr (Or.inl ⟨rfl, h⟩))
theorem FrA.a13 {σ : ps_S} {j : Nat} {v : Int32} (h : j = 1 ∨ j = 5 ∨ j = 15 ∨ j = 16 ∨ j = 18 ∨ j = 20 ∨ j = 21) : FrA σ (ps_sI σ 13 0 j v) := FrA.sI (Or.inl ⟨rfl, h⟩)
