/-! What the graph's own changes keep. -/
theorem sumN_le {f : Nat → Nat} {c : Nat} (h : ∀ k, f k ≤ c) : ∀ m, sumN f m ≤ c * m
  | 0 => by simp [sumN]
  | m + 1 => by
    have := sumN_le h m
    have := h m
    rw [sumN, Nat.mul_succ]
    omega
theorem sumN_congr {f f' : Nat → Nat} : ∀ m, (∀ k, k < m → f' k = f k) → sumN f' m = sumN f m
  | 0, _ => rfl
  | m + 1, h => by rw [sumN, sumN, sumN_congr m (fun k hk => h k (by omega)), h m (by omega)]
theorem sumN_upd {f f' : Nat → Nat} {k : Nat} (h : ∀ a, a ≠ k → f' a = f a) : ∀ m, k < m → sumN f' m + f k = sumN f m + f' k
  | 0, hk => by omega
  | m + 1, hk => by
    rw [sumN, sumN]
    by_cases hm : k = m
    · subst hm
      rw [sumN_congr k (fun a ha => h a (by omega))]
      omega
    · have := sumN_upd h m (by omega)
      rw [h m (fun z => hm z.symm)]
      omega
theorem nodup_le : ∀ (n : Nat) (l : List Nat), l.Nodup → (∀ x, x ∈ l → x < n) → l.length ≤ n
  | 0, l, _, h => by
    cases l with
    | nil => exact Nat.le_refl _
    | cons a r => exact absurd (h a List.mem_cons_self) (by omega)
  | n + 1, l, hn, h => by
    by_cases hm : n ∈ l
    · have h1 := nodup_le n (l.erase n) (hn.erase n) (fun x hx => by
        have h2 := (hn.mem_erase_iff).mp hx
        have := h x h2.2
        have := h2.1
        omega)
      rw [List.length_erase_of_mem hm] at h1
      omega
    · have := nodup_le n l hn (fun x hx => by
        have := h x hx
        have : x ≠ n := fun z => hm (z ▸ hx)
        omega)
      omega
theorem gW.c96 {g : gT} (h : gW g) : gC g ≤ 96 := by
  have := h.1
  have := h.2.1.1
  unfold gE at this
  omega
theorem gQ.lt {g : gT} (h : gQ g) (hn : gN g ≤ 48) {k : Nat} (hk : k < gN g) (h0 : gF g k 6 = 0) : (gL g).length < 48 ∧ (gP g).length < 48 := by
  have hno : k ∉ gL g ++ gP g := fun z => (h.2 k z).2.1 h0
  have h1 := nodup_le (gN g) (k :: (gL g ++ gP g)) (List.nodup_cons.mpr ⟨hno, h.1⟩) (fun x hx => by
    rcases List.mem_cons.mp hx with rfl | hx
    · exact hk
    · exact (h.2 x hx).1)
  rw [List.length_cons, List.length_append] at h1
  omega
theorem gN_sc1 (g : gT) (k : Nat) : gN (g_sc1 g k) = gN g := by
  unfold g_sc1
  split
  · split <;> rfl
  · rfl
theorem gN_scN (g : gT) : ∀ m, gN (g_scN g m) = gN g
  | 0 => rfl
  | m + 1 => by rw [g_scN, gN_sc1, gN_scN g m]
/-- a change that leaves all but 'queued' and the queues as it was -/
def gSame (g g' : gT) : Prop := gN g' = gN g ∧ gI g' = gI g ∧ gA g' = gA g ∧ gU g' = gU g ∧ gC g' = gC g ∧ ∀ a c, c ≠ 6 → gF g' a c = gF g a c
theorem gSame.rf (g : gT) : gSame g g := ⟨rfl, rfl, rfl, rfl, rfl, fun _ _ _ => rfl⟩
theorem gSame.tr {a b c : gT} (h1 : gSame a b) (h2 : gSame b c) : gSame a c :=
  ⟨h2.1.trans h1.1, h2.2.1.trans h1.2.1, h2.2.2.1.trans h1.2.2.1, h2.2.2.2.1.trans h1.2.2.2.1, h2.2.2.2.2.1.trans h1.2.2.2.2.1, fun a c h => (h2.2.2.2.2.2 a c h).trans (h1.2.2.2.2.2 a c h)⟩
theorem gSame.que (g : gT) (k : Nat) (v : Int32) : gSame g (gsF g k 6 v) := ⟨rfl, rfl, rfl, rfl, rfl, fun a c h => gF_f g a h⟩
theorem gSame.sc1 (g : gT) (k : Nat) : gSame g (g_sc1 g k) := by
  unfold g_sc1
  split
  · split
    · exact (gSame.que g k 1).tr ⟨rfl, rfl, rfl, rfl, rfl, fun _ _ _ => rfl⟩
    · exact (gSame.que g k 1).tr ⟨rfl, rfl, rfl, rfl, rfl, fun _ _ _ => rfl⟩
  · exact gSame.rf g
theorem gSame.scN (g : gT) : ∀ m, gSame g (g_scN g m)
  | 0 => gSame.rf g
  | m + 1 => (gSame.scN g m).tr (gSame.sc1 _ m)
theorem gSame.scan (g : gT) : gSame g (g_scan g) := gSame.scN g _
theorem gSame.ph {g g' : gT} (h : gSame g g') : g_ph g' = g_ph g := by
  funext k
  rw [g_ph, g_ph, h.2.2.1, h.2.2.2.2.2 k 0 (by decide)]
theorem gSame.W {g g' : gT} (h : gSame g g') (hW : gW g) : gW g' := by
  obtain ⟨h1, h2, h3, h4, h5, h6⟩ := h
  refine ⟨by rw [h1]; exact hW.1, ⟨?_, fun k => by rw [h4]; exact hW.2.1.2 k⟩, fun k hk => ?_⟩
  · unfold gE
    rw [gSame.ph ⟨h1, h2, h3, h4, h5, h6⟩, h1, h5]
    exact hW.2.1.1
  · rw [h1, h2, h3]
    rw [h1] at hk
    exact hW.2.2 k hk
theorem gSame.K {g g' : gT} (h : gSame g g') (hK : gK g) : gK g' := by
  intro k hk
  rw [h.1] at hk
  rw [h.2.1, h.2.2.2.2.2 k 2 (by decide)]
  exact hK k hk
theorem gQ.sc1 {g : gT} {k : Nat} (h : gQ g) (hk : k < gN g) : gQ (g_sc1 g k) := by
  unfold g_sc1
  split
  next hc =>
    have hno : k ∉ gL g ++ gP g := fun z => (h.2 k z).2.1 hc.1
    have h9 : ¬ gF g k 2 = 9 := by
      intro z
      have := hc.2
      simp [g_able, z] at this
    have hmem : ∀ x, (x ∈ gL g ++ gP g ∨ x = k) → x < gN g ∧ ¬ gF (gsF g k 6 1) x 6 = 0 ∧ ¬ gF (gsF g k 6 1) x 2 = 9 := by
      intro x hx
      rw [gF_f g x (show (2 : Nat) ≠ 6 by decide)]
      by_cases hxk : x = k
      · subst hxk
        rw [gF_eq]
        exact ⟨hk, by decide, h9⟩
      · rcases hx with hx | hx
        · rw [gF_ne g _ hxk]
          exact h.2 x hx
        · exact absurd hx hxk
    have hnd := List.nodup_append.mp h.1
    have hkL : k ∉ gL g := fun z => hno (List.mem_append_left _ z)
    have hkP : k ∉ gP g := fun z => hno (List.mem_append_right _ z)
    split
    · refine ⟨?_, fun x hx => hmem x ?_⟩
      · show (gL g ++ (gP g ++ [k])).Nodup
        rw [← List.append_assoc]
        refine List.nodup_append.mpr ⟨h.1, by simp, fun a ha b hb => ?_⟩
        rw [List.mem_singleton] at hb
        subst hb
        exact fun z => hno (z ▸ ha)
      · have hx' : x ∈ gL g ++ (gP g ++ [k]) := hx
        rw [← List.append_assoc] at hx'
        rcases List.mem_append.mp hx' with h1 | h1
        · exact Or.inl h1
        · exact Or.inr (List.mem_singleton.mp h1)
    · refine ⟨?_, fun x hx => hmem x ?_⟩
      · show ((gL g ++ [k]) ++ gP g).Nodup
        refine List.nodup_append.mpr ⟨List.nodup_append.mpr ⟨hnd.1, by simp, fun a ha b hb => ?_⟩, hnd.2.1, fun a ha b hb => ?_⟩
        · rw [List.mem_singleton] at hb
          subst hb
          exact fun z => hkL (z ▸ ha)
        · rcases List.mem_append.mp ha with h1 | h1
          · exact hnd.2.2 a h1 b hb
          · rw [List.mem_singleton] at h1
            subst h1
            exact fun z => hkP (z ▸ hb)
      · have hx' : x ∈ (gL g ++ [k]) ++ gP g := hx
        rcases List.mem_append.mp hx' with h1 | h1
        · rcases List.mem_append.mp h1 with h2 | h2
          · exact Or.inl (List.mem_append_left _ h2)
          · exact Or.inr (List.mem_singleton.mp h2)
        · exact Or.inl (List.mem_append_right _ h1)
  next hc => exact h
theorem gOK.scN {g : gT} (h : gOK g) : ∀ m, m ≤ gN g → gOK (g_scN g m)
  | 0, _ => h
  | m + 1, hm => by
    have ih := gOK.scN h m (by omega)
    exact ⟨(gSame.sc1 _ m).W ih.1, (gSame.sc1 _ m).K ih.2.1, gQ.sc1 ih.2.2 (by rw [gN_scN]; omega)⟩
theorem gOK.scan {g : gT} (h : gOK g) : gOK (g_scan g) := gOK.scN h _ (Nat.le_refl _)
/-- a pending stage gets its outcome -/
theorem gOK.set {g : gT} (h : gOK g) {k : Nat} {u v : Int32} (hk : k < gN g) (h0 : gF g k 0 = 0) (hu : ¬ u = 0) : gOK (gsU (gsS g k u v) k) := by
  obtain ⟨hW, hK, hQ⟩ := h
  have keyF : ∀ a c, c ≠ 0 → c ≠ 1 → gF (gsU (gsS g k u v) k) a c = gF g a c := by
    intro a c p1 p2
    show gF (gsF (gsF g k 0 u) k 1 v) a c = _
    rw [gF_f _ _ p2, gF_f _ _ p1]
  have hs : ∀ a, gF (gsU (gsS g k u v) k) a 0 = if a = k then u else gF g a 0 := by
    intro a
    show gF (gsF (gsF g k 0 u) k 1 v) a 0 = _
    rw [gF_f _ _ (by decide), gF_sF]
    by_cases ha : a = k
    · rw [if_pos ⟨ha, rfl⟩, if_pos ha]
    · rw [if_neg (fun z : a = k ∧ 0 = 0 => ha z.1), if_neg ha]
  refine ⟨⟨hW.1, ⟨?_, fun a => ?_⟩, hW.2.2⟩, fun a ha => ?_, hQ.1, fun a ha => ?_⟩
  · have h1 := sumN_upd (f := g_ph g) (f' := g_ph (gsU (gsS g k u v) k)) (k := k) (fun a ha => by
      rw [g_ph, g_ph, hs, if_neg ha]
      rfl) (gN g) hk
    have h2 : g_ph (gsU (gsS g k u v) k) k = 0 := by rw [g_ph, hs, if_pos rfl, if_neg hu]
    have h3 : 1 ≤ g_ph g k := by
      rw [g_ph, if_pos h0]
      split <;> omega
    have h4 := hW.2.1.1
    unfold gE at h4 ⊢
    show gC g + 1 + sumN (g_ph (gsU (gsS g k u v) k)) (gN g) ≤ 2 * gN g
    omega
  · show va_up (gU g) k (gC g) a ≤ 96
    by_cases ha : a = k
    · subst ha
      rw [va_up_self]
      exact hW.c96
    · rw [va_up_ne _ _ ha]
      exact hW.2.1.2 a
  · rw [keyF a 2 (by decide) (by decide)]
    exact hK a ha
  · rw [keyF a 6 (by decide) (by decide), keyF a 2 (by decide) (by decide)]
    exact hQ.2 a ha
theorem gOK.give {g : gT} (h : gOK g) {k : Nat} {u v : Int32} (hk : k < gN g) (h0 : gF g k 0 = 0) (hu : ¬ u = 0) : gOK (g_give g k u v) := (h.set hk h0 hu).scan
theorem gOK.awa {g : gT} (h : gOK g) {k j : Nat} (hj : j < gN g) (hn : gA g k = none) : gOK (gsA g k (some j)) := by
  obtain ⟨hW, hK, hQ⟩ := h
  refine ⟨⟨hW.1, ⟨?_, hW.2.1.2⟩, fun a ha => ⟨(hW.2.2 a ha).1, (hW.2.2 a ha).2.1, fun b hb => ?_⟩⟩, hK, hQ⟩
  · have h4 := hW.2.1.1
    unfold gE at h4 ⊢
    have h5 : ∀ m, sumN (g_ph (gsA g k (some j))) m ≤ sumN (g_ph g) m := by
      intro m
      induction m with
      | zero => exact Nat.le_refl _
      | succ m ih =>
        rw [sumN, sumN]
        have : g_ph (gsA g k (some j)) m ≤ g_ph g m := by
          show (if gF g m 0 = 0 then (if va_up (gA g) k (some j) m = none then 2 else 1) else 0) ≤ (if gF g m 0 = 0 then (if gA g m = none then 2 else 1) else 0)
          by_cases hm : m = k
          · subst hm
            rw [va_up_self, hn]
            split <;> simp
          · rw [va_up_ne _ _ hm]
            exact Nat.le_refl _
        omega
    have := h5 (gN g)
    show gC g + sumN (g_ph (gsA g k (some j))) (gN g) ≤ 2 * gN g
    omega
  · have hb' : va_up (gA g) k (some j) a = some b := hb
    by_cases hm : a = k
    · subst hm
      rw [va_up_self] at hb'
      cases hb'
      exact hj
    · rw [va_up_ne _ _ hm] at hb'
      exact (hW.2.2 a ha).2.2 b hb'
/-- the front of the line, or of the pool, goes -/
theorem gOK.tline {g : gT} (h : gOK g) {k : Nat} {x : List Nat} (hx : gL g = k :: x) : gOK (gsF (gsL g x) k 6 0) := by
  obtain ⟨hW, hK, hQ⟩ := h
  have hs : gSame g (gsF (gsL g x) k 6 0) := gSame.tr (b := gsL g x) ⟨rfl, rfl, rfl, rfl, rfl, fun _ _ _ => rfl⟩ (gSame.que _ k 0)
  have hq : (k :: (x ++ gP g)).Nodup := by have := hQ.1; rw [hx] at this; exact this
  obtain ⟨q1, q2⟩ := List.nodup_cons.mp hq
  refine ⟨hs.W hW, hs.K hK, q2, fun a ha => ?_⟩
  have ha' : a ∈ x ++ gP g := ha
  have hne : a ≠ k := fun z => q1 (z ▸ ha')
  rw [gF_ne _ _ hne, gF_ne _ _ hne]
  exact hQ.2 a (by rw [hx]; exact List.mem_cons_of_mem _ ha')
theorem gOK.tpool {g : gT} (h : gOK g) {k : Nat} {x : List Nat} (hx : gP g = k :: x) : gOK (gsF (gsP g x) k 6 0) := by
  obtain ⟨hW, hK, hQ⟩ := h
  have hs : gSame g (gsF (gsP g x) k 6 0) := gSame.tr (b := gsP g x) ⟨rfl, rfl, rfl, rfl, rfl, fun _ _ _ => rfl⟩ (gSame.que _ k 0)
  have hq := hQ.1
  rw [hx] at hq
  obtain ⟨q1, q2, q3⟩ := List.nodup_append.mp hq
  obtain ⟨r1, r2⟩ := List.nodup_cons.mp q2
  refine ⟨hs.W hW, hs.K hK, List.nodup_append.mpr ⟨q1, r2, fun a ha b hb => q3 a ha b (List.mem_cons_of_mem _ hb)⟩, fun a ha => ?_⟩
  have ha' : a ∈ gL g ++ x := ha
  have hne : a ≠ k := by
    rintro rfl
    rcases List.mem_append.mp ha' with h1 | h1
    · exact q3 a h1 a List.mem_cons_self rfl
    · exact r1 h1
  rw [gF_ne _ _ hne, gF_ne _ _ hne]
  refine hQ.2 a ?_
  rw [hx]
  rcases List.mem_append.mp ha' with h1 | h1
  · exact List.mem_append_left _ h1
  · exact List.mem_append_right _ (List.mem_cons_of_mem _ h1)
theorem g_fol_ne (g : gT) (j : Nat) : ¬ (g_fol g j).1 = 0 := by
  show ¬ (if gF g j 0 = 1 then (1 : Int32) else 3) = 0
  split <;> decide
theorem g_use_ne (g : gT) (k : Nat) (x : Int32) : ¬ (g_use g k x).1 = 0 := by
  unfold g_use
  split
  · show ¬ (1 : Int32) = 0
    decide
  · show ¬ (3 : Int32) = 0
    decide
theorem g_sum_ne (g : gT) : ∀ (l : List Nat) (x : Int32), ¬ (g_sum g x l).1 = 0
  | [], x => by
    rw [g_sum]
    show ¬ (1 : Int32) = 0
    decide
  | i :: r, x => by
    rw [g_sum]
    split
    · exact g_sum_ne g r _
    · exact g_fol_ne g i
theorem g_app_ne (g : gT) (k j : Nat) : ¬ (g_app g k j).1 = 0 := by
  unfold g_app
  split
  · exact g_use_ne g k _
  · exact g_fol_ne g j
theorem g_dec_ne {g : gT} {k : Nat} {q : Int32 × Int32} (h : g_dec g k = .inl q) : ¬ q.1 = 0 := by
  unfold g_dec g_cmp at h
  dsimp only at h
  repeat' split at h
  all_goals first
    | (cases h; first | exact g_app_ne g k _ | exact g_fol_ne g _ | exact g_use_ne g k _ | exact g_sum_ne g _ _ | (show ¬ (3 : Int32) = 0; decide))
    | (cases h; done)
theorem g_dec_lt {g : gT} {k j : Nat} (h : g_dec g k = .inr j) : j < gN g ∧ gA g k = none := by
  unfold g_dec g_cmp at h
  dsimp only at h
  repeat' split at h
  all_goals first
    | (cases h; done)
    | (cases h; exact ⟨by simp_all, by assumption⟩)
theorem gOK.dec {g : gT} (h : gOK g) {k : Nat} (hk : k < gN g) (h0 : gF g k 0 = 0) : gOK (match g_dec g k with
    | .inl q => g_give g k q.1 q.2
    | .inr j => g_scan (gsA g k (some j))) := by
  split
  next q hq => exact h.give hk h0 (g_dec_ne hq)
  next j hj => exact (h.awa (g_dec_lt hj).1 (g_dec_lt hj).2).scan
