/-! the reference: the pool -/
theorem ix_no {k x : Nat} (h : ¬ x = k) : ∀ (a : List Nat) (b : Nat), g_ix k (a ++ [x]) b = g_ix k a b
  | [], b => by
    show (if x = k then nI b else -1) = -1
    rw [if_neg h]
  | y :: a, b => by
    rw [List.cons_append, g_ix, g_ix, ix_no h a (b + 1)]
theorem ix_yes {k : Nat} : ∀ (a : List Nat) (b : Nat), k ∉ a → g_ix k (a ++ [k]) b = nI (b + a.length)
  | [], b, _ => by
    show (if k = k then nI b else -1) = nI (b + 0)
    rw [if_pos rfl]
    rfl
  | y :: a, b, h => by
    have h1 : ¬ y = k := fun z => h (by rw [z]; exact List.mem_cons_self)
    rw [List.cons_append, g_ix, if_neg h1, ix_yes a (b + 1) (fun z => h (List.mem_cons_of_mem _ z)), List.length_cons]
    rw [show b + 1 + a.length = b + (a.length + 1) by omega]
theorem take_get {l : List Nat} {i j : Nat} (hj : l[i]? = some j) : l.take (i + 1) = l.take i ++ [j] := by
  rw [List.take_succ, hj]
  rfl
theorem take_new {l : List Nat} {i j : Nat} (hn : l.Nodup) (hj : l[i]? = some j) : j ∉ l.take i := by
  have h1 : (l.take (i + 1)).Nodup := hn.sublist (List.take_sublist _ _)
  rw [take_get hj] at h1
  exact fun z => (List.nodup_append.mp h1).2.2 j z j List.mem_cons_self rfl
theorem xs_out {g : gT} {s w : Int32} (h : w < 0 ∨ ¬ w ≤ 3) : x_stage g s w = -1 := by
  have key : ∀ c : Int32, 0 ≤ c → c ≤ 3 → ¬ w = c := by
    intro c h1 h2 z
    rcases h with h | h
    · rw [z] at h; exact absurd h (Int32.not_lt.mpr h1)
    · rw [z] at h; exact h h2
  unfold x_stage
  rw [if_neg (key 0 (by decide) (by decide)), if_neg (key 1 (by decide) (by decide)), if_neg (key 2 (by decide) (by decide)), if_neg (key 3 (by decide) (by decide))]
  split <;> rfl
theorem w_two {w : Int32} (h0 : ¬ w < 0) (h3 : w ≤ 3) (n0 : ¬ w = 0) (n1 : ¬ w = 1) (n3 : ¬ w = 3) : w = 2 := by
  obtain ⟨j, hj, rfl⟩ := nI_of h0
  rw [show (3 : Int32) = nI 3 from rfl, nI_leI hj (by decide)] at h3
  have : j = 0 ∨ j = 1 ∨ j = 2 ∨ j = 3 := by omega
  rcases this with rfl | rfl | rfl | rfl
  · exact absurd rfl n0
  · exact absurd rfl n1
  · rfl
  · exact absurd rfl n3
theorem gP_48 {g : gT} (h : gOK g) : (gP g).length ≤ 48 := Nat.le_trans (nodup_le (gN g) (gP g) (List.nodup_append.mp h.2.2.1).2.1 (fun y hy => (h.2.2.2 y (List.mem_append_right _ hy)).1)) h.1.1
/-- the pool, shifted so far -/
def RMq (σ : ps_S) (g : gT) (x : List Nat) (i : Nat) : Prop := RMG σ g ∧ RML σ g 0 ∧ ps_I σ 13 0 18 = nI x.length ∧ (∀ j k, x[j]? = some k → j < i → ps_I σ 14 10 j = nI k) ∧ ∀ j k, x[j]? = some k → i ≤ j → ps_I σ 14 10 (j + 1) = nI k
theorem RMq.of {σ : ps_S} {g : gT} {k : Nat} {x : List Nat} (h : RMA σ g 0) (hx : gP g = k :: x) : RMq (ps_sI σ 13 0 18 (nI x.length)) g x 0 := by
  refine ⟨h.1.wr (Or.inl ⟨rfl, by decide, by decide⟩) ⟨rfl, rfl, rfl, rfl, rfl, rfl⟩, ⟨(sI_ne (by omega)).trans h.2.1.1, (sI_ne (by omega)).trans h.2.1.2.1, fun i j hi => (sI_ne (by omega)).trans (h.2.1.2.2 i j hi)⟩, ps_I_eq _ _ _ _ _, fun j _ _ hj => absurd hj (Nat.not_lt_zero j), fun j b hj _ => ?_⟩
  rw [sI_ne (by omega)]
  exact h.2.2.2 (j + 1) b (by rw [hx]; exact hj)
theorem RMq.st {σ : ps_S} {g : gT} {x : List Nat} {i b : Nat} (h : RMq σ g x i) (hb : x[i]? = some b) : RMq (ps_sI σ 14 10 i (nI b)) g x (i + 1) := by
  obtain ⟨h1, ⟨l1, l2, l3⟩, h3, h4, h5⟩ := h
  refine ⟨h1.wr (Or.inr ⟨rfl, by decide⟩) ⟨rfl, rfl, rfl, rfl, rfl, rfl⟩, ⟨(sI_ne (by omega)).trans l1, (sI_ne (by omega)).trans l2, fun i j hi => (sI_ne (by omega)).trans (l3 i j hi)⟩, (sI_ne (by omega)).trans h3, fun j k hj hji => ?_, fun j k hj hji => ?_⟩
  · by_cases hji2 : j = i
    · subst hji2
      rw [hb] at hj
      cases hj
      exact ps_I_eq _ _ _ _ _
    · rw [sI_ne (by omega)]
      exact h4 j k hj (by omega)
  · rw [sI_ne (by omega)]
    exact h5 j k hj (by omega)
theorem RMq.to {σ : ps_S} {g : gT} {x : List Nat} (h : RMq σ g x x.length) : RMA σ (gsP g x) 0 := by
  obtain ⟨h1, h2, h3, h4, -⟩ := h
  exact ⟨h1, h2, h3, fun i k hi => h4 i k hi (List.getElem?_eq_some_iff.mp hi).1⟩
