/-! The class's graph under the writes of its methods. -/
theorem ps_I_f (σ : ps_S) {κ i f : Nat} {v : Int32} (a : Nat) {j : Nat} (h : j ≠ f) : ps_I (ps_sI σ κ i f v) κ a j = ps_I σ κ a j := by
  rw [ps_I_sI]
  exact if_neg (fun z : κ = κ ∧ a = i ∧ j = f => h z.2.2)
theorem ps_I_ne (σ : ps_S) {κ i f : Nat} {v : Int32} {a : Nat} (j : Nat) (h : a ≠ i) : ps_I (ps_sI σ κ i f v) κ a j = ps_I σ κ a j := by
  rw [ps_I_sI]
  exact if_neg (fun z : κ = κ ∧ a = i ∧ j = f => h z.2.1)
theorem ps_I_eq (σ : ps_S) (κ i f : Nat) (v : Int32) : ps_I (ps_sI σ κ i f v) κ i f = v := by
  rw [ps_I_sI]
  exact if_pos ⟨rfl, rfl, rfl⟩
theorem ps_I_k (σ : ps_S) {κ i f : Nat} {v : Int32} {a b c : Nat} (h : a ≠ κ) : ps_I (ps_sI σ κ i f v) a b c = ps_I σ a b c := by
  rw [ps_I_sI]
  exact if_neg (fun z : a = κ ∧ b = i ∧ c = f => h z.1)
theorem ps_R_k (σ : ps_S) {κ i f : Nat} {v : Option (Nat × Nat)} {a b c : Nat} (h : a ≠ κ) : ps_R (ps_sR σ κ i f v) a b c = ps_R σ a b c := by
  rw [ps_R_sR]
  exact if_neg (fun z : a = κ ∧ b = i ∧ c = f => h z.1)
theorem ps_R_f (σ : ps_S) {κ i f : Nat} {v : Option (Nat × Nat)} (a : Nat) {j : Nat} (h : j ≠ f) : ps_R (ps_sR σ κ i f v) κ a j = ps_R σ κ a j := by
  rw [ps_R_sR]
  exact if_neg (fun z : κ = κ ∧ a = i ∧ j = f => h z.2.2)
theorem ps_R_ne (σ : ps_S) {κ i f : Nat} {v : Option (Nat × Nat)} {a : Nat} (j : Nat) (h : a ≠ i) : ps_R (ps_sR σ κ i f v) κ a j = ps_R σ κ a j := by
  rw [ps_R_sR]
  exact if_neg (fun z : κ = κ ∧ a = i ∧ j = f => h z.2.1)
theorem ps_R_eq (σ : ps_S) (κ i f : Nat) (v : Option (Nat × Nat)) : ps_R (ps_sR σ κ i f v) κ i f = v := by
  rw [ps_R_sR]
  exact if_pos ⟨rfl, rfl, rfl⟩
theorem gF_f (g : gT) {k f : Nat} {v : Int32} (a : Nat) {c : Nat} (h : c ≠ f) : gF (gsF g k f v) a c = gF g a c := by
  rw [gF_sF]
  exact if_neg (fun z : a = k ∧ c = f => h z.2)
theorem gF_ne (g : gT) {k f : Nat} {v : Int32} {a : Nat} (c : Nat) (h : a ≠ k) : gF (gsF g k f v) a c = gF g a c := by
  rw [gF_sF]
  exact if_neg (fun z : a = k ∧ c = f => h z.1)
theorem gF_eq (g : gT) (k f : Nat) (v : Int32) : gF (gsF g k f v) k f = v := by
  rw [gF_sF]
  exact if_pos ⟨rfl, rfl⟩
theorem RQ.I {σ : ps_S} {q r i f : Nat} {x : List Nat} {v : Int32} {κ : Nat} (h : RQ σ q r x) (hκ : 2 ≠ κ) : RQ (ps_sI σ κ i f v) q r x := by
  obtain ⟨h1, h2, h3, h4, f0, h5, h6, h7⟩ := h
  exact ⟨h1, h2, h3, (ps_I_k σ hκ).trans h4, f0, h5, (ps_I_k σ hκ).trans h6, h7⟩
theorem RC0.I {σ : ps_S} {g g' : gT} {i f : Nat} {v : Int32} {κ : Nat} (h : RC0 σ g) (hκ : 1 ≠ κ) (h1 : gN g' = gN g) (h2 : gC g' = gC g) : RC0 (ps_sI σ κ i f v) g' := by
  obtain ⟨a1, a2, a3, a4, a5, a6, a7, a8, a9⟩ := h
  exact ⟨a1, a2, a3, by rw [h1]; exact (ps_I_k σ hκ).trans a4, by rw [h2]; exact (ps_I_k σ hκ).trans a5, a6, a7, a8, by rw [h1]; exact a9⟩
theorem RC.que {σ : ps_S} {g : gT} (h : RC σ g) (k : Nat) (v : Int32) : RC (ps_sI σ 3 k 10 v) (gsF g k 6 v) := by
  obtain ⟨h0, h1, h2, h3⟩ := h
  refine ⟨h0.I (by decide) rfl rfl, fun a ha => ?_, h2.I (by decide), h3.I (by decide)⟩
  obtain ⟨⟨e0, e1, e2, e3, e4, e5, e6, e7, e8⟩, e9, e10, e11, e12, e13⟩ := h1 a ha
  have et : g_tv (gsF g k 6 v) a = g_tv g a := by
    unfold g_tv
    rw [gF_f g a (by decide)]
    rfl
  refine ⟨⟨e0, (ps_I_f σ a (by decide)).trans e1, ?_, ?_, ?_, ?_, e6, e7, e8⟩, ?_, ?_, ?_, e12, ?_⟩
  · rw [gF_f g a (by decide)]; exact (ps_I_f σ a (by decide)).trans e2
  · rw [gF_f g a (by decide)]; exact (ps_I_f σ a (by decide)).trans e3
  · rw [gF_f g a (by decide)]; exact (ps_I_f σ a (by decide)).trans e4
  · rw [gF_f g a (by decide)]; exact (ps_I_f σ a (by decide)).trans e5
  · rw [gF_f g a (by decide)]; exact (ps_I_f σ a (by decide)).trans e9
  · rw [gF_f g a (by decide)]; exact (ps_I_f σ a (by decide)).trans e10
  · rw [et]; exact (ps_I_f σ a (by decide)).trans e11
  · by_cases hk : a = k
    · subst hk
      rw [ps_I_eq, gF_eq]
    · rw [ps_I_ne σ _ hk, gF_ne g _ hk]
      exact e13
/-- a stage awaits another -/
theorem RC.awa {σ : ps_S} {g : gT} (h : RC σ g) (k : Nat) (r : Option Nat) : RC (ps_sR σ 3 k 9 (r.map fun j => (3, j))) (gsA g k r) := by
  obtain ⟨⟨a1, a2, a3, a4, a5, a6, a7, a8, a9⟩, h1, h2, h3⟩ := h
  have rq : ∀ {q r0 : Nat} {x : List Nat}, RQ σ q r0 x → RQ (ps_sR σ 3 k 9 (r.map fun j => (3, j))) q r0 x := by
    intro q r0 x h
    obtain ⟨h1, h2, h3, h4, f0, h5, h6, h7⟩ := h
    exact ⟨(ps_R_k σ (by decide)).trans h1, h2, h3, h4, f0, h5, h6, fun i z hi => (ps_R_k σ (by decide)).trans (h7 i z hi)⟩
  refine ⟨⟨(ps_R_k σ (by decide)).trans a1, (ps_R_k σ (by decide)).trans a2, (ps_R_k σ (by decide)).trans a3, a4, a5, a6, a7, a8, a9⟩, fun a ha => ?_, rq h2, rq h3⟩
  obtain ⟨⟨e0, e1, e2, e3, e4, e5, e6, e7, e8⟩, e9, e10, e11, e12, e13⟩ := h1 a ha
  refine ⟨⟨(ps_R_k σ (by decide)).trans e0, e1, e2, e3, e4, e5, (ps_R_f σ a (by decide)).trans e6, e7, fun j i hj => (ps_R_k σ (by decide)).trans (e8 j i hj)⟩, e9, e10, e11, ?_, e13⟩
  by_cases hk : a = k
  · subst hk
    rw [ps_R_eq]
    show _ = (va_up (gA g) a r a).map _
    rw [va_up_self]
  · rw [ps_R_ne σ _ hk]
    show _ = (va_up (gA g) k r a).map _
    rw [va_up_ne _ _ hk]
    exact e12
/-- its outcome and its turn -/
def st_note (σ : ps_S) (k : Nat) : ps_S := ps_sI (ps_sI σ 3 k 8 (ps_I σ 1 0 4)) 1 0 4 (ps_I σ 1 0 4 + 1)
theorem RC.set {σ : ps_S} {g : gT} (h : RC σ g) (k : Nat) (u v : Int32) (hu : ¬ u = 0) : RC (st_note (st_become σ k u v) k) (gsU (gsS g k u v) k) := by
  obtain ⟨⟨a1, a2, a3, a4, a5, a6, a7, a8, a9⟩, h1, h2, h3⟩ := h
  have hc : ps_I (st_become σ k u v) 1 0 4 = nI (gC g) := by
    unfold st_become
    rw [ps_I_k _ (by decide), ps_I_k _ (by decide)]
    exact a5
  refine ⟨⟨a1, a2, a3, ?_, ?_, a6, a7, a8, a9⟩, fun a ha => ?_, ?_, ?_⟩
  · unfold st_note st_become
    rw [ps_I_f _ _ (by decide), ps_I_k _ (by decide), ps_I_k _ (by decide), ps_I_k _ (by decide)]
    exact a4
  · unfold st_note
    rw [ps_I_eq, hc, nI_1]
    rfl
  · obtain ⟨⟨e0, e1, e2, e3, e4, e5, e6, e7, e8⟩, e9, e10, e11, e12, e13⟩ := h1 a ha
    have key : ∀ j, j ≠ 6 → j ≠ 7 → j ≠ 8 → ps_I (st_note (st_become σ k u v) k) 3 a j = ps_I σ 3 a j := by
      intro j p1 p2 p3
      unfold st_note
      rw [ps_I_k _ (by decide), ps_I_f _ _ p3]
      unfold st_become
      rw [ps_I_f _ _ p2, ps_I_f _ _ p1]
    have keyF : ∀ c, c ≠ 0 → c ≠ 1 → gF (gsU (gsS g k u v) k) a c = gF g a c := by
      intro c p1 p2
      show gF (gsF (gsF g k 0 u) k 1 v) a c = _
      rw [gF_f _ _ p2, gF_f _ _ p1]
    refine ⟨⟨e0, (key 0 (by decide) (by decide) (by decide)).trans e1, ?_, ?_, ?_, ?_, e6, e7, e8⟩, ?_, ?_, ?_, e12, ?_⟩
    · rw [key 1 (by decide) (by decide) (by decide), keyF 2 (by decide) (by decide)]; exact e2
    · rw [key 2 (by decide) (by decide) (by decide), keyF 3 (by decide) (by decide)]; exact e3
    · rw [key 3 (by decide) (by decide) (by decide), keyF 4 (by decide) (by decide)]; exact e4
    · rw [key 4 (by decide) (by decide) (by decide), keyF 5 (by decide) (by decide)]; exact e5
    · unfold st_note
      rw [ps_I_k _ (by decide), ps_I_f _ _ (by decide)]
      unfold st_become
      rw [ps_I_f _ _ (by decide)]
      show _ = gF (gsF (gsF g k 0 u) k 1 v) a 0
      rw [gF_f _ _ (by decide)]
      by_cases hk : a = k
      · subst hk; rw [ps_I_eq, gF_eq]
      · rw [ps_I_ne _ _ hk, gF_ne _ _ hk]; exact e9
    · unfold st_note
      rw [ps_I_k _ (by decide), ps_I_f _ _ (by decide)]
      unfold st_become
      show _ = gF (gsF (gsF g k 0 u) k 1 v) a 1
      by_cases hk : a = k
      · subst hk; rw [ps_I_eq, gF_eq]
      · rw [ps_I_ne _ _ hk, gF_ne _ _ hk, ps_I_ne _ _ hk, gF_ne _ _ hk]; exact e10
    · unfold st_note
      rw [ps_I_k _ (by decide), hc]
      by_cases hk : a = k
      · subst hk
        rw [ps_I_eq]
        have hz : ¬ gF (gsU (gsS g a u v) a) a 0 = 0 := by
          show ¬ gF (gsF (gsF g a 0 u) a 1 v) a 0 = 0
          rw [gF_f _ _ (by decide), gF_eq]
          exact hu
        rw [g_tv, if_neg hz]
        show nI (gC g) = nI (va_up (gU g) a (gC g) a)
        rw [va_up_self]
      · rw [ps_I_ne _ _ hk]
        unfold st_become
        rw [ps_I_ne _ _ hk, ps_I_ne _ _ hk, e11]
        have hz : gF (gsU (gsS g k u v) k) a 0 = gF g a 0 := by
          show gF (gsF (gsF g k 0 u) k 1 v) a 0 = _
          rw [gF_ne _ _ hk, gF_ne _ _ hk]
        have hy : gU (gsU (gsS g k u v) k) a = gU g a := by
          show va_up (gU g) k (gC g) a = _
          rw [va_up_ne _ _ hk]
        rw [g_tv, g_tv, hz, hy]
    · rw [key 10 (by decide) (by decide) (by decide), keyF 6 (by decide) (by decide)]; exact e13
  · exact (((h2.I (by decide)).I (by decide)).I (by decide)).I (by decide)
  · exact (((h3.I (by decide)).I (by decide)).I (by decide)).I (by decide)
theorem ix_inj {f i j : Nat} (hf : f < 48) (hi : i < 48) (hj : j < 48) (h : (f + i) % 48 = (f + j) % 48) : i = j := by omega
/-- one more in a queue -/
theorem RQ.app {σ : ps_S} {q r k f : Nat} {x : List Nat} (h1 : ps_R σ 2 q 0 = some (4, r)) (h2 : ps_L σ 4 r = 48) (hx : x.length < 48) (h4 : ps_I σ 2 q 2 = nI x.length) (hf : f < 48) (h6 : ps_I σ 2 q 1 = nI f) (h7 : ∀ i k, x[i]? = some k → ps_R σ 4 r ((f + i) % 48) = some (3, k)) :
    RQ (q_app σ q r k f x.length) q r (x ++ [k]) := by
  unfold q_app
  rw [if_pos hx]
  refine ⟨(ps_R_k σ (by decide)).trans h1, h2, by simp; omega, by rw [ps_I_eq]; simp, f, hf, (ps_I_f _ _ (by decide)).trans h6, fun i k' hi => ?_⟩
  show ps_R (ps_sR σ 4 r ((f + x.length) % 48) (some (3, k))) 4 r ((f + i) % 48) = _
  by_cases hl : i < x.length
  · rw [List.getElem?_append_left hl] at hi
    rw [ps_R_f σ r (fun z => by have := ix_inj hf (by omega) hx z; omega)]
    exact h7 i k' hi
  · rw [List.getElem?_append_right (by omega)] at hi
    have hz : i - x.length < 1 := (List.getElem?_eq_some_iff.mp hi).1
    have hi0 : i = x.length := by omega
    subst hi0
    rw [Nat.sub_self] at hi
    cases hi
    rw [ps_R_eq]
theorem RQ.other {σ : ps_S} {q r q' r' k f n : Nat} {x : List Nat} (h : RQ σ q' r' x) (hq : q' ≠ q) (hr : r' ≠ r) : RQ (q_app σ q r k f n) q' r' x := by
  obtain ⟨h1, h2, h3, h4, f0, h5, h6, h7⟩ := h
  unfold q_app
  split
  · exact ⟨(ps_R_k σ (by decide)).trans h1, h2, h3, (ps_I_ne _ _ hq).trans h4, f0, h5, (ps_I_ne _ _ hq).trans h6, fun i k' hi => (ps_R_ne σ _ hr).trans (h7 i k' hi)⟩
  · exact ⟨h1, h2, h3, h4, f0, h5, h6, h7⟩
theorem RS.app {σ : ps_S} {g g' : gT} {q r k f n a : Nat} (h : RS σ g a) (hr : r = 1 ∨ r = 2) (hg : gF g' = gF g ∧ gI g' = gI g ∧ gA g' = gA g ∧ gU g' = gU g) : RS (q_app σ q r k f n) g' a := by
  obtain ⟨⟨e0, e1, e2, e3, e4, e5, e6, e7, e8⟩, e9, e10, e11, e12, e13⟩ := h
  obtain ⟨g1, g2, g3, g4⟩ := hg
  have ht : g_tv g' a = g_tv g a := by rw [g_tv, g_tv, g1, g4]
  have n0 : (0 : Nat) ≠ r := by omega
  have n3 : 3 + a ≠ r := by omega
  unfold q_app
  split
  · refine ⟨⟨(ps_R_ne σ _ n0).trans e0, (ps_I_k _ (by decide)).trans e1, ?_, ?_, ?_, ?_, (ps_R_k σ (by decide)).trans e6, by rw [g2]; exact e7, fun j i hj => (ps_R_ne σ _ n3).trans (e8 j i (by rw [← g2]; exact hj))⟩, ?_, ?_, ?_, ?_, ?_⟩
    · rw [g1]; exact (ps_I_k _ (by decide)).trans e2
    · rw [g1]; exact (ps_I_k _ (by decide)).trans e3
    · rw [g1]; exact (ps_I_k _ (by decide)).trans e4
    · rw [g1]; exact (ps_I_k _ (by decide)).trans e5
    · rw [g1]; exact (ps_I_k _ (by decide)).trans e9
    · rw [g1]; exact (ps_I_k _ (by decide)).trans e10
    · rw [ht]; exact (ps_I_k _ (by decide)).trans e11
    · rw [g3]; exact (ps_R_k σ (by decide)).trans e12
    · rw [g1]; exact (ps_I_k _ (by decide)).trans e13
  · exact ⟨⟨e0, e1, by rw [g1]; exact e2, by rw [g1]; exact e3, by rw [g1]; exact e4, by rw [g1]; exact e5, e6, by rw [g2]; exact e7, fun j i hj => e8 j i (by rw [← g2]; exact hj)⟩, by rw [g1]; exact e9, by rw [g1]; exact e10, by rw [ht]; exact e11, by rw [g3]; exact e12, by rw [g1]; exact e13⟩
theorem RC0.app {σ : ps_S} {g g' : gT} {q r k f n : Nat} (h : RC0 σ g) (h1 : gN g' = gN g) (h2 : gC g' = gC g) : RC0 (q_app σ q r k f n) g' := by
  obtain ⟨a1, a2, a3, a4, a5, a6, a7, a8, a9⟩ := h
  unfold q_app
  split
  · exact ⟨(ps_R_k σ (by decide)).trans a1, (ps_R_k σ (by decide)).trans a2, (ps_R_k σ (by decide)).trans a3, by rw [h1]; exact (ps_I_k _ (by decide)).trans a4, by rw [h2]; exact (ps_I_k _ (by decide)).trans a5, a6, a7, a8, by rw [h1]; exact a9⟩
  · exact ⟨a1, a2, a3, by rw [h1]; exact a4, by rw [h2]; exact a5, a6, a7, a8, by rw [h1]; exact a9⟩
/-- one more in the line; in the pool -/
theorem RC.line {σ : ps_S} {g : gT} {k f : Nat} (h : RC σ g) (hx : (gL g).length < 48) (hf : f < 48) (h6 : ps_I σ 2 0 1 = nI f) (h7 : ∀ i k, (gL g)[i]? = some k → ps_R σ 4 1 ((f + i) % 48) = some (3, k)) : RC (q_app σ 0 1 k f (gL g).length) (gsL g (gL g ++ [k])) := by
  obtain ⟨h0, h1, h2, h3⟩ := h
  exact ⟨h0.app rfl rfl, fun a ha => (h1 a ha).app (Or.inl rfl) ⟨rfl, rfl, rfl, rfl⟩, RQ.app h2.1 h2.2.1 hx h2.2.2.2.1 hf h6 h7, h3.other (by decide) (by decide)⟩
theorem RC.pool {σ : ps_S} {g : gT} {k f : Nat} (h : RC σ g) (hx : (gP g).length < 48) (hf : f < 48) (h6 : ps_I σ 2 1 1 = nI f) (h7 : ∀ i k, (gP g)[i]? = some k → ps_R σ 4 2 ((f + i) % 48) = some (3, k)) : RC (q_app σ 1 2 k f (gP g).length) (gsP g (gP g ++ [k])) := by
  obtain ⟨h0, h1, h2, h3⟩ := h
  exact ⟨h0.app rfl rfl, fun a ha => (h1 a ha).app (Or.inr rfl) ⟨rfl, rfl, rfl, rfl⟩, h2.other (by decide) (by decide), RQ.app h3.1 h3.2.1 hx h3.2.2.2.1 hf h6 h7⟩
/-- the front of a queue taken -/
theorem RQ.take {σ : ps_S} {q r k f : Nat} {x : List Nat} (h1 : ps_R σ 2 q 0 = some (4, r)) (h2 : ps_L σ 4 r = 48) (hx : (k :: x).length ≤ 48) (hf : f < 48) (h7 : ∀ i z, (k :: x)[i]? = some z → ps_R σ 4 r ((f + i) % 48) = some (3, z)) : RQ (q_take σ q f (x.length + 1)) q r x := by
  unfold q_take
  rw [if_neg (by omega)]
  have hl : x.length + 1 ≤ 48 := hx
  refine ⟨h1, h2, by omega, by rw [ps_I_eq]; rfl, (f + 1) % 48, by omega, by rw [ps_I_f _ _ (by decide), ps_I_eq], fun i z hi => ?_⟩
  have := h7 (i + 1) z (by rw [List.getElem?_cons_succ]; exact hi)
  rw [← this]
  show ps_R σ 4 r (((f + 1) % 48 + i) % 48) = ps_R σ 4 r ((f + (i + 1)) % 48)
  rw [show ((f + 1) % 48 + i) % 48 = (f + (i + 1)) % 48 by omega]
theorem RQ.other2 {σ : ps_S} {q q' r' f n : Nat} {x : List Nat} (h : RQ σ q' r' x) (hq : q' ≠ q) : RQ (q_take σ q f n) q' r' x := by
  obtain ⟨h1, h2, h3, h4, f0, h5, h6, h7⟩ := h
  unfold q_take
  split
  · exact ⟨h1, h2, h3, h4, f0, h5, h6, h7⟩
  · exact ⟨h1, h2, h3, by rw [ps_I_ne _ _ hq, ps_I_ne _ _ hq]; exact h4, f0, h5, by rw [ps_I_ne _ _ hq, ps_I_ne _ _ hq]; exact h6, h7⟩
theorem RS.tk {σ : ps_S} {g g' : gT} {q f n a : Nat} (h : RS σ g a) (hg : gF g' = gF g ∧ gI g' = gI g ∧ gA g' = gA g ∧ gU g' = gU g) : RS (q_take σ q f n) g' a := by
  obtain ⟨⟨e0, e1, e2, e3, e4, e5, e6, e7, e8⟩, e9, e10, e11, e12, e13⟩ := h
  obtain ⟨g1, g2, g3, g4⟩ := hg
  have ht : g_tv g' a = g_tv g a := by rw [g_tv, g_tv, g1, g4]
  have key : ∀ j, ps_I (q_take σ q f n) 3 a j = ps_I σ 3 a j := by
    intro j
    unfold q_take
    split
    · rfl
    · rw [ps_I_k _ (by decide), ps_I_k _ (by decide)]
  have kr : ps_R (q_take σ q f n) = ps_R σ := by unfold q_take; split <;> rfl
  have kl : ps_L (q_take σ q f n) = ps_L σ := by unfold q_take; split <;> rfl
  unfold RS
  simp only [key, kr, kl, g1, g2, g3, ht]
  exact ⟨⟨e0, e1, e2, e3, e4, e5, e6, e7, e8⟩, e9, e10, e11, e12, e13⟩
theorem RC0.tk {σ : ps_S} {g g' : gT} {q f n : Nat} (h : RC0 σ g) (h1 : gN g' = gN g) (h2 : gC g' = gC g) : RC0 (q_take σ q f n) g' := by
  obtain ⟨a1, a2, a3, a4, a5, a6, a7, a8, a9⟩ := h
  unfold q_take
  split
  · exact ⟨a1, a2, a3, by rw [h1]; exact a4, by rw [h2]; exact a5, a6, a7, a8, by rw [h1]; exact a9⟩
  · exact ⟨a1, a2, a3, by rw [h1, ps_I_k _ (by decide), ps_I_k _ (by decide)]; exact a4, by rw [h2, ps_I_k _ (by decide), ps_I_k _ (by decide)]; exact a5, a6, a7, a8, by rw [h1]; exact a9⟩
theorem RC.tline {σ : ps_S} {g : gT} {k f : Nat} {x : List Nat} (h : RC σ g) (hx : gL g = k :: x) (hf : f < 48) (h7 : ∀ i z, (gL g)[i]? = some z → ps_R σ 4 1 ((f + i) % 48) = some (3, z)) : RC (q_take σ 0 f (gL g).length) (gsL g x) := by
  obtain ⟨h0, h1, h2, h3⟩ := h
  rw [hx] at h2 h7 ⊢
  exact ⟨h0.tk rfl rfl, fun a ha => (h1 a ha).tk ⟨rfl, rfl, rfl, rfl⟩, RQ.take h2.1 h2.2.1 h2.2.2.1 hf h7, h3.other2 (by decide)⟩
theorem RC.tpool {σ : ps_S} {g : gT} {k f : Nat} {x : List Nat} (h : RC σ g) (hx : gP g = k :: x) (hf : f < 48) (h7 : ∀ i z, (gP g)[i]? = some z → ps_R σ 4 2 ((f + i) % 48) = some (3, z)) : RC (q_take σ 1 f (gP g).length) (gsP g x) := by
  obtain ⟨h0, h1, h2, h3⟩ := h
  rw [hx] at h3 h7 ⊢
  exact ⟨h0.tk rfl rfl, fun a ha => (h1 a ha).tk ⟨rfl, rfl, rfl, rfl⟩, h2.other2 (by decide), RQ.take h3.1 h3.2.1 h3.2.2.1 hf h7⟩
