/-! The reference: what a stage becomes is what the class makes of it. -/
theorem g_abl_que (g : gT) (k : Nat) (v : Int32) (a : Nat) : g_abl (gsF g k 6 v) a = g_abl g a := by
  have ho : g_on (gsF g k 6 v) = g_on g := by
    funext b
    unfold g_on
    rw [gF_f g b (by decide)]
  unfold g_abl
  rw [ho, gF_f g a (by decide)]
  rfl
theorem g_res_put {g : gT} {k : Nat} (h : gF g k 0 = 0) : g_res g k = g_put (gsF g k 6 0) k (g_dec (gsF g k 6 0) k) := by
  unfold g_res g_put
  rw [if_pos h]
  cases g_dec (gsF g k 6 0) k <;> rfl
theorem dec_aw {g : gT} {k j : Nat} (h : gF g k 2 = 4) (hA : gA g k = some j) : g_dec g k = .inl (g_fol g j) := by
  unfold g_dec
  simp only [h]
  unfold g_cmp
  rw [hA]
  rfl
theorem dec_one {g : gT} {k a : Nat} (h0 : 0 ≤ gF g k 2) (h5 : gF g k 2 < 5) (hI : gI g k = [a]) : g_dec g k = m_one g k a := by
  unfold g_dec m_one
  rw [hI]
  generalize hf : gF g k 2 = f at *
  obtain ⟨j, hj, rfl⟩ := nI_of (Int32.not_lt.mpr h0)
  rw [show (5 : Int32) = nI 5 from rfl, nI_ltI hj (by decide)] at h5
  have : j = 0 ∨ j = 1 ∨ j = 2 ∨ j = 3 ∨ j = 4 := by omega
  rcases this with rfl | rfl | rfl | rfl | rfl <;> rfl
theorem dec_5 {g : gT} {k a b : Nat} (h : gF g k 2 = 5) (hI : gI g k = [a, b]) : g_dec g k = .inl (if gF g a 0 = 1 then (if gF g b 0 = 1 then g_use g k (gF g a 1 + gF g b 1) else g_fol g b) else g_fol g a) := by
  unfold g_dec
  rw [hI]
  simp only [h]
  rfl
theorem dec_6 {g : gT} {k : Nat} (h : gF g k 2 = 6) : g_dec g k = m_one g k (g_first g k) := by
  unfold g_dec m_one
  simp only [h]
  rfl
theorem dec_7 {g : gT} {k : Nat} (h : gF g k 2 = 7) : g_dec g k = .inl (g_sum g 0 (gI g k)) := by
  unfold g_dec
  simp only [h]
  rfl
theorem dec_8 {g : gT} {k : Nat} (h : gF g k 2 = 8) : g_dec g k = .inl (g_fol g (g_first g k)) := by
  unfold g_dec
  simp only [h]
  rfl
theorem first6 {g : gT} {k a b : Nat} (hI : gI g k = [a, b]) : g_first g k = if g_tv g b < g_tv g a then b else a := by
  unfold g_first
  rw [hI]
  rfl
theorem tv_on {g : gT} {k : Nat} (h : g_on g k = true) : g_tv g k = gU g k := by
  unfold g_tv
  rw [if_neg ((g_on_eq g k).mp h)]
theorem tv_off {g : gT} {k : Nat} (h : g_on g k = false) : g_tv g k = 1073741824 := by
  unfold g_tv
  rw [if_pos]
  unfold g_on at h
  simpa using h
theorem abl_any {g : gT} {k : Nat} (h : g_abl g k = true) (hA : gA g k = none) (hk : gF g k 2 = 6 ∨ gF g k 2 = 8) : (gI g k).any (g_on g) = true := by
  unfold g_abl at h
  rw [hA] at h
  simp only [if_pos hk, Bool.and_eq_true] at h
  exact h.2
theorem ft_snoc (g : gT) : ∀ (l : List Nat) (b i : Nat), g_ft g b (l ++ [i]) = if g_tv g i < g_tv g (g_ft g b l) then i else g_ft g b l
  | [], b, i => rfl
  | j :: l, b, i => by
    rw [List.cons_append, g_ft, g_ft]
    exact ft_snoc g l _ i
def hd_ft (g : gT) (l : List Nat) : Nat := g_ft g (l.headD 0) l.tail
theorem hd_snoc (g : gT) (l : List Nat) (hl : l ≠ []) (i : Nat) : hd_ft g (l ++ [i]) = if g_tv g i < g_tv g (hd_ft g l) then i else hd_ft g l := by
  cases l with
  | nil => exact absurd rfl hl
  | cons j l => exact ft_snoc g l j i
theorem ft_mem (g : gT) : ∀ (l : List Nat) (b : Nat), g_ft g b l = b ∨ g_ft g b l ∈ l
  | [], b => Or.inl rfl
  | j :: l, b => by
    rw [g_ft]
    rcases ft_mem g l (if g_tv g j < g_tv g b then j else b) with h | h
    · rw [h]
      split
      · exact Or.inr List.mem_cons_self
      · exact Or.inl rfl
    · exact Or.inr (List.mem_cons_of_mem _ h)
theorem hd_mem (g : gT) (l : List Nat) (hl : l ≠ []) : hd_ft g l ∈ l := by
  cases l with
  | nil => exact absurd rfl hl
  | cons j l =>
    rcases ft_mem g l j with h | h
    · show g_ft g j l ∈ j :: l
      rw [h]; exact List.mem_cons_self
    · exact List.mem_cons_of_mem _ h
theorem m_e_first {g : gT} (hu : ∀ k, gU g k ≤ 96) (x : Nat) : ∀ i, (m_e g x i = none → ∀ j ∈ l_set x i, g_on g j = false) ∧ (∀ b, m_e g x i = some b → l_set x i ≠ [] ∧ hd_ft g (l_set x i) = b)
  | 0 => ⟨fun _ j hj => (by cases hj), fun b h => (by cases h)⟩
  | i + 1 => by
    obtain ⟨h1, h2⟩ := m_e_first hu x i
    cases hb : x.testBit i with
    | false =>
      rw [m_e_no (fun z => absurd (hb.symm.trans z.1) (by decide)), l_set, hb, if_neg (by decide)]
      exact ⟨h1, h2⟩
    | true =>
      rw [l_set, if_pos hb]
      cases ho : g_on g i with
      | false =>
        rw [m_e_no (fun z => absurd (ho.symm.trans z.2) (by decide))]
        refine ⟨fun hn j hj => ?_, fun b hbb => ?_⟩
        · rcases List.mem_append.mp hj with hj | hj
          · exact h1 hn j hj
          · rw [List.mem_singleton] at hj; rw [hj]; exact ho
        · obtain ⟨q1, q2⟩ := h2 b hbb
          refine ⟨(by intro z; cases hl : l_set x i <;> rw [hl] at z <;> cases z), ?_⟩
          rw [hd_snoc g _ q1, q2, if_neg]
          · rw [tv_off ho, tv_on (m_e_lt g x i b hbb).2]
            have := hu b
            omega
      | true =>
        refine ⟨fun hn => ?_, fun b hbb => ?_⟩
        · cases hm : m_e g x i with
          | none => rw [m_e_none ⟨hb, ho⟩ hm] at hn; cases hn
          | some b =>
            by_cases hlt : gU g i < gU g b
            · rw [m_e_lo ⟨hb, ho⟩ hm hlt] at hn; cases hn
            · rw [m_e_hi ⟨hb, ho⟩ hm hlt] at hn; cases hn
        · refine ⟨(by intro z; cases hl : l_set x i <;> rw [hl] at z <;> cases z), ?_⟩
          cases hm : m_e g x i with
          | none =>
            rw [m_e_none ⟨hb, ho⟩ hm] at hbb
            cases hbb
            by_cases hl : l_set x i = []
            · rw [hl]; rfl
            · rw [hd_snoc g _ hl, if_pos]
              rw [tv_off (h1 hm _ (hd_mem g _ hl)), tv_on ho]
              have := hu i
              omega
          | some c =>
            obtain ⟨q1, q2⟩ := h2 c hm
            rw [hd_snoc g _ q1, q2, tv_on ho, tv_on (m_e_lt g x i c hm).2]
            by_cases hlt : gU g i < gU g c
            · rw [m_e_lo ⟨hb, ho⟩ hm hlt] at hbb
              cases hbb
              rw [if_pos hlt]
            · rw [m_e_hi ⟨hb, ho⟩ hm hlt] at hbb
              cases hbb
              rw [if_neg hlt]
theorem m_e_ok {g : gT} (hu : ∀ k, gU g k ≤ 96) {k x n : Nat} (hI : gI g k = l_set x n) (ha : (gI g k).any (g_on g) = true) : m_e g x n = some (g_first g k) ∧ g_first g k < n := by
  obtain ⟨h1, h2⟩ := m_e_first hu x n
  cases hm : m_e g x n with
  | none =>
    rw [hI, List.any_eq_true] at ha
    obtain ⟨j, hj, ho⟩ := ha
    exact absurd ((h1 hm j hj).symm.trans ho) (by decide)
  | some b =>
    have e : g_first g k = b := by
      unfold g_first
      rw [hI]
      exact (h2 b hm).2
    rw [e]
    exact ⟨rfl, (m_e_lt g x n b hm).1⟩
theorem any2 {g : gT} {a b : Nat} (h : [a, b].any (g_on g) = true) (ha : g_on g a = false) : g_on g b = true := by
  simpa [ha] using h
/-- the line's front is taken -/
theorem RMA.popL {σ : ps_S} {g : gT} {p k : Nat} {x : List Nat} (h : RMA σ g p) (hx : gL g = k :: x) : RMA (ps_sI σ 13 0 15 (nI (p + 1))) (gsL g x) (p + 1) := by
  obtain ⟨h1, ⟨l1, l2, l3⟩, p1, p2⟩ := h
  refine ⟨h1.wr (Or.inl ⟨rfl, by decide, by decide⟩) ⟨rfl, rfl, rfl, rfl, rfl, rfl⟩, ⟨ps_I_eq _ _ _ _ _, ?_, fun i j hi => ?_⟩, ?_, fun i j hi => ?_⟩
  · rw [sI_ne (by omega), l2, hx, List.length_cons]
    show nI (p + (x.length + 1)) = nI (p + 1 + x.length)
    rw [show p + (x.length + 1) = p + 1 + x.length by omega]
  · rw [sI_ne (by omega), show p + 1 + i = p + (i + 1) by omega]
    exact l3 (i + 1) j (by rw [hx]; exact hi)
  · rw [sI_ne (by omega)]; exact p1
  · rw [sI_ne (by omega)]; exact p2 i j hi
theorem RMA.endL {σ : ps_S} {g : gT} {p : Nat} (h : RMA σ g p) (hx : gL g = []) : RMA (ps_sI (ps_sI σ 13 0 15 0) 13 0 16 0) g 0 := by
  obtain ⟨h1, ⟨l1, l2, l3⟩, p1, p2⟩ := h
  refine ⟨(h1.wr (g' := g) (Or.inl ⟨rfl, by decide, by decide⟩) ⟨rfl, rfl, rfl, rfl, rfl, rfl⟩).wr (Or.inl ⟨rfl, by decide, by decide⟩) ⟨rfl, rfl, rfl, rfl, rfl, rfl⟩, ⟨?_, ?_, fun i j hi => ?_⟩, ?_, fun i j hi => ?_⟩
  · rw [sI_ne (by omega), ps_I_eq]; rfl
  · rw [ps_I_eq, hx]; rfl
  · rw [hx] at hi; cases hi
  · rw [sI_ne (by omega), sI_ne (by omega)]; exact p1
  · rw [sI_ne (by omega), sI_ne (by omega)]; exact p2 i j hi
