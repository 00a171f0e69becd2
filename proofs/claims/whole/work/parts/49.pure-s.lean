/-! What holds of a graph beside gOK: who stands in the line or the pool can be worked on. -/
def gX (g : gT) : Prop := (∀ k j, gA g k = some j → gF g k 2 = 4) ∧ (∀ k, k ∈ gL g ++ gP g → g_on g k = true ∨ g_abl g k = true) ∧ ∀ k, k ∈ gL g → g_on g k = false
theorem gSame.on {g g' : gT} (h : gSame g g') : g_on g' = g_on g := by
  funext k
  unfold g_on
  rw [h.2.2.2.2.2 k 0 (by decide)]
theorem gSame.abl {g g' : gT} (h : gSame g g') (k : Nat) : g_abl g' k = g_abl g k := by
  unfold g_abl
  rw [h.on, h.2.2.1, h.2.1, h.2.2.2.2.2 k 2 (by decide)]
theorem gX.same {g g' : gT} (h : gX g) (hs : gSame g g') (hL : ∀ k, k ∈ gL g' → k ∈ gL g ∨ g_able g k = true) (hP : ∀ k, k ∈ gP g' → k ∈ gP g ∨ g_able g k = true) : gX g' := by
  have hb : ∀ k, g_able g k = true → g_on g k = false ∧ g_abl g k = true := by
    intro k hk
    rw [g_able_abl, Bool.and_eq_true, Bool.not_eq_true'] at hk
    exact hk
  refine ⟨fun k j hj => ?_, fun k hk => ?_, fun k hk => ?_⟩
  · rw [hs.2.2.1] at hj
    rw [hs.2.2.2.2.2 k 2 (by decide)]
    exact h.1 k j hj
  · rw [hs.on, hs.abl]
    rcases List.mem_append.mp hk with hk | hk
    · rcases hL k hk with z | z
      · exact h.2.1 k (List.mem_append_left _ z)
      · exact Or.inr (hb k z).2
    · rcases hP k hk with z | z
      · exact h.2.1 k (List.mem_append_right _ z)
      · exact Or.inr (hb k z).2
  · rw [hs.on]
    rcases hL k hk with z | z
    · exact h.2.2 k z
    · exact (hb k z).1
theorem gX.sc1 {g : gT} (h : gX g) (k : Nat) : gX (g_sc1 g k) := by
  refine h.same (gSame.sc1 g k) ?_ ?_
  · intro a ha
    unfold g_sc1 at ha
    split at ha
    next hc =>
      split at ha
      · exact Or.inl ha
      · rcases List.mem_append.mp (show a ∈ gL g ++ [k] from ha) with z | z
        · exact Or.inl z
        · rw [List.mem_singleton] at z
          rw [z]; exact Or.inr hc.2
    next => exact Or.inl ha
  · intro a ha
    unfold g_sc1 at ha
    split at ha
    next hc =>
      split at ha
      · rcases List.mem_append.mp (show a ∈ gP g ++ [k] from ha) with z | z
        · exact Or.inl z
        · rw [List.mem_singleton] at z
          rw [z]; exact Or.inr hc.2
      · exact Or.inl ha
    next => exact Or.inl ha
theorem gX.scN {g : gT} (h : gX g) : ∀ m, gX (g_scN g m)
  | 0 => h
  | m + 1 => (gX.scN h m).sc1 m
theorem gX.scan {g : gT} (h : gX g) : gX (g_scan g) := h.scN _
theorem any_mono {f f' : Nat → Bool} {l : List Nat} (h : ∀ a, f a = true → f' a = true) (ha : l.any f = true) : l.any f' = true := by
  rw [List.any_eq_true] at ha ⊢
  obtain ⟨x, hx, hf⟩ := ha
  exact ⟨x, hx, h x hf⟩
theorem all_mono {f f' : Nat → Bool} {l : List Nat} (h : ∀ a, f a = true → f' a = true) (ha : l.all f = true) : l.all f' = true := by
  rw [List.all_eq_true] at ha ⊢
  exact fun x hx => h x (ha x hx)
theorem abl_mono {g g' : gT} {k : Nat} (h2 : gF g' k 2 = gF g k 2) (hA : gA g' k = gA g k) (hI : gI g' k = gI g k) (ho : ∀ a, g_on g a = true → g_on g' a = true) (ha : g_abl g k = true) : g_abl g' k = true := by
  unfold g_abl at ha ⊢
  rw [h2, hA, hI]
  rw [Bool.and_eq_true] at ha ⊢
  refine ⟨ha.1, ?_⟩
  have ha2 := ha.2
  cases hz : gA g k with
  | some j =>
    rw [hz] at ha2
    exact ho j ha2
  | none =>
    rw [hz] at ha2
    by_cases hk : gF g k 2 = 6 ∨ gF g k 2 = 8
    · simp only [if_pos hk] at ha2 ⊢
      exact any_mono ho ha2
    · simp only [if_neg hk] at ha2 ⊢
      exact all_mono ho ha2
theorem gX.set {g : gT} {k : Nat} {u v : Int32} (h : gX g) (hu : ¬ u = 0) (hL : k ∉ gL g) : gX (gsU (gsS g k u v) k) := by
  have ho : ∀ a, a ≠ k → g_on (gsU (gsS g k u v) k) a = g_on g a := by
    intro a ha
    unfold g_on
    rw [gsU_F, gS_ne g u v 0 ha]
  have hk : g_on (gsU (gsS g k u v) k) k = true := (g_on_eq _ k).mpr (by rw [gsU_F, gS_0]; exact hu)
  have hm : ∀ a, g_on g a = true → g_on (gsU (gsS g k u v) k) a = true := by
    intro a ha
    by_cases hak : a = k
    · rw [hak]; exact hk
    · rw [ho a hak]; exact ha
  refine ⟨fun a j hj => ?_, fun a ha => ?_, fun a ha => ?_⟩
  · rw [gsU_F, gS_f g k u v a (by decide) (by decide)]
    exact h.1 a j hj
  · rcases h.2.1 a ha with z | z
    · exact Or.inl (hm a z)
    · exact Or.inr (abl_mono (g := g) (by rw [gsU_F, gS_f g k u v a (by decide) (by decide)]) rfl rfl hm z)
  · have hne : a ≠ k := fun z => hL (z ▸ ha)
    rw [ho a hne]
    exact h.2.2 a ha
theorem gX.give {g : gT} {k : Nat} {u v : Int32} (h : gX g) (hu : ¬ u = 0) (hL : k ∉ gL g) : gX (g_give g k u v) := (h.set hu hL).scan
theorem gX.awa {g : gT} {k j : Nat} (h : gX g) (h4 : gF g k 2 = 4) (hk : k ∉ gL g ++ gP g) : gX (gsA g k (some j)) := by
  have hA : ∀ a, a ≠ k → gA (gsA g k (some j)) a = gA g a := fun a ha => va_up_ne _ _ ha
  refine ⟨fun a b hb => ?_, fun a ha => ?_, fun a ha => h.2.2 a ha⟩
  · by_cases hak : a = k
    · rw [hak]; exact h4
    · rw [hA a hak] at hb
      exact h.1 a b hb
  · have hne : a ≠ k := fun z => hk (z ▸ ha)
    rcases h.2.1 a ha with z | z
    · exact Or.inl z
    · exact Or.inr (abl_mono (g := g) rfl (hA a hne) rfl (fun _ z => z) z)
theorem gX.tl {g : gT} {k : Nat} {x : List Nat} (h : gX g) (hx : gL g = k :: x) : gX (gsL g x) :=
  ⟨h.1, fun a ha => h.2.1 a (by rw [hx]; exact List.mem_cons_of_mem _ ha), fun a ha => h.2.2 a (by rw [hx]; exact List.mem_cons_of_mem _ ha)⟩
theorem gX.tp {g : gT} {k : Nat} {x : List Nat} (h : gX g) (hx : gP g = k :: x) : gX (gsP g x) :=
  ⟨h.1, fun a ha => h.2.1 a (by rw [hx]; rcases List.mem_append.mp ha with z | z; exact List.mem_append_left _ z; exact List.mem_append_right _ (List.mem_cons_of_mem _ z)), h.2.2⟩
theorem g_dec_4 {g : gT} {k j : Nat} (h : g_dec g k = .inr j) : gF g k 2 = 4 := by
  unfold g_dec at h
  dsimp only at h
  repeat' split at h
  all_goals first
    | assumption
    | (cases h; done)
theorem gX.put {g : gT} {k : Nat} (h : gX g) (hk : k ∉ gL g ++ gP g) : gX (g_put g k (g_dec g k)) := by
  cases hd : g_dec g k with
  | inl q => exact h.give (g_dec_ne hd) (fun z => hk (List.mem_append_left _ z))
  | inr j => exact (h.awa (g_dec_4 hd) hk).scan
theorem gX.res {g : gT} {k : Nat} (h : gX g) (hk : k ∉ gL g ++ gP g) : gX (g_res g k) := by
  have h0 : gX (gsF g k 6 0) := h.same (gSame.que g k 0) (fun a ha => Or.inl ha) (fun a ha => Or.inl ha)
  by_cases hz : gF g k 0 = 0
  · rw [g_res_put hz]
    exact h0.put hk
  · unfold g_res
    rw [if_neg hz]
    exact h0
theorem ph_res {g : gT} {k : Nat} (hk : k < gN g) (hz : gF g k 0 = 0) : sumN (g_ph (g_res g k)) (gN g) + 1 ≤ sumN (g_ph g) (gN g) := by
  rw [g_res_put hz]
  have e0 : g_ph (gsF g k 6 0) = g_ph g := (gSame.que g k 0).ph
  have hz0 : gF (gsF g k 6 0) k 0 = 0 := (gF_f g k (by decide)).trans hz
  cases hd : g_dec (gsF g k 6 0) k with
  | inl q =>
    show sumN (g_ph (g_give (gsF g k 6 0) k q.1 q.2)) (gN g) + 1 ≤ _
    unfold g_give
    rw [(gSame.scan _).ph]
    have h1 := sumN_upd (f := g_ph (gsF g k 6 0)) (f' := g_ph (gsU (gsS (gsF g k 6 0) k q.1 q.2) k)) (k := k) (fun a ha => by
      rw [g_ph, g_ph, gsU_F, gS_ne _ _ _ 0 ha]
      rfl) (gN g) hk
    have h2 : g_ph (gsU (gsS (gsF g k 6 0) k q.1 q.2) k) k = 0 := by rw [g_ph, gsU_F, gS_0, if_neg (g_dec_ne hd)]
    have h3 : 1 ≤ g_ph (gsF g k 6 0) k := by
      rw [g_ph, if_pos hz0]
      split <;> omega
    rw [e0] at h1 h3
    omega
  | inr j =>
    show sumN (g_ph (g_scan (gsA (gsF g k 6 0) k (some j)))) (gN g) + 1 ≤ _
    rw [(gSame.scan _).ph]
    have h1 := sumN_upd (f := g_ph (gsF g k 6 0)) (f' := g_ph (gsA (gsF g k 6 0) k (some j))) (k := k) (fun a ha => by
      rw [g_ph, g_ph]
      show (if gF (gsF g k 6 0) a 0 = 0 then (if va_up (gA (gsF g k 6 0)) k (some j) a = none then 2 else 1) else 0) = _
      rw [va_up_ne _ _ ha]) (gN g) hk
    have h2 : g_ph (gsA (gsF g k 6 0) k (some j)) k = 1 := by
      show (if gF (gsF g k 6 0) k 0 = 0 then (if va_up (gA (gsF g k 6 0)) k (some j) k = none then 2 else 1) else 0) = 1
      rw [va_up_self, if_pos hz0]
      rfl
    have h3 : g_ph (gsF g k 6 0) k = 2 := by rw [g_ph, if_pos hz0, (g_dec_lt hd).2]; rfl
    rw [e0] at h1 h3
    omega
theorem ph_96 {g : gT} (h : gW g) : sumN (g_ph g) (gN g) ≤ 96 := by
  have := h.2.1.1
  unfold gE at this
  have := h.1
  omega
theorem work_nil {g : gT} (h : gL g = []) : ∀ m, g_work m g = g
  | 0 => rfl
  | m + 1 => by rw [g_work, h]
theorem work_cons {g : gT} {k : Nat} {x : List Nat} (h : gL g = k :: x) (m : Nat) : g_work (m + 1) g = g_work m (g_res (gsL g x) k) := by rw [g_work, h]
