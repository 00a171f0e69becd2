/-! The store: all that the run has made, by kind and number: ints, longs, references, lengths, how many of each kind. -/
/-- a number, a long, a reference to what the store holds, a reference to something old -/
abbrev ps_A : Type := Int32 ⊕ (Int64 ⊕ (Option (Nat × Nat) ⊕ Nat))
abbrev ps_S : Type := (Nat → Nat → Nat → Int32) × (Nat → Nat → Nat → Int64) × (Nat → Nat → Nat → Option (Nat × Nat)) × (Nat → Nat → Nat) × (Nat → Nat)
abbrev ps_int (x : Int32) : ps_A := .inl x
abbrev ps_lng (x : Int64) : ps_A := .inr (.inl x)
abbrev ps_ref (r : Option (Nat × Nat)) : ps_A := .inr (.inr (.inl r))
abbrev ps_raw (b : Nat) : ps_A := .inr (.inr (.inr b))
def ps_I (σ : ps_S) : Nat → Nat → Nat → Int32 := σ.1
def ps_J (σ : ps_S) : Nat → Nat → Nat → Int64 := σ.2.1
def ps_R (σ : ps_S) : Nat → Nat → Nat → Option (Nat × Nat) := σ.2.2.1
def ps_L (σ : ps_S) : Nat → Nat → Nat := σ.2.2.2.1
def ps_N (σ : ps_S) : Nat → Nat := σ.2.2.2.2
def ps_up {α : Type} (f : Nat → Nat → Nat → α) (κ i j : Nat) (v : α) : Nat → Nat → Nat → α := fun a b => if a = κ ∧ b = i then va_up (f a b) j v else f a b
def ps_sI (σ : ps_S) (κ i j : Nat) (v : Int32) : ps_S := (ps_up σ.1 κ i j v, σ.2)
def ps_sJ (σ : ps_S) (κ i j : Nat) (v : Int64) : ps_S := (σ.1, ps_up σ.2.1 κ i j v, σ.2.2)
def ps_sR (σ : ps_S) (κ i j : Nat) (v : Option (Nat × Nat)) : ps_S := (σ.1, σ.2.1, ps_up σ.2.2.1 κ i j v, σ.2.2.2)
/-- one more of a kind: all its places 0 or null -/
def ps_mk (σ : ps_S) (κ len : Nat) : ps_S :=
  (fun a b => if a = κ ∧ b = ps_N σ κ then fun _ => 0 else σ.1 a b, fun a b => if a = κ ∧ b = ps_N σ κ then fun _ => 0 else σ.2.1 a b,
   fun a b => if a = κ ∧ b = ps_N σ κ then fun _ => none else σ.2.2.1 a b, fun a b => if a = κ ∧ b = ps_N σ κ then len else σ.2.2.2.1 a b, fun a => if a = κ then ps_N σ κ + 1 else σ.2.2.2.2 a)
theorem ps_up_self {α : Type} (f : Nat → Nat → Nat → α) (κ i j : Nat) (v : α) : ps_up f κ i j v κ i = va_up (f κ i) j v := by simp [ps_up]
theorem ps_up_ne {α : Type} (f : Nat → Nat → Nat → α) {κ i a b : Nat} (j : Nat) (v : α) (h : ¬ (a = κ ∧ b = i)) : ps_up f κ i j v a b = f a b := by simp only [ps_up]; rw [if_neg h]
def ps_v (adr : Nat → Nat → Nat) (a : ps_A) : Value := match a with
  | .inl x => .int x
  | .inr (.inl x) => .long x
  | .inr (.inr (.inl r)) => va_rf (ps_e adr r)
  | .inr (.inr (.inr b)) => .ref b
def ps_ok (σ : ps_S) (a : ps_A) : Prop := match a with
  | .inr (.inr (.inl (some q))) => q.2 < ps_N σ q.1
  | _ => True
def ps_cat (a : ps_A) : Nat := match a with
  | .inr (.inl _) => 2
  | _ => 1
theorem ps_cat_v (adr : Nat → Nat → Nat) (a : ps_A) : (ps_v adr a).category = ps_cat a := by
  rcases a with x | x | r | b
  · rfl
  · rfl
  · cases r <;> rfl
  · rfl
def ps_cell (ca : Nat → ClassId) (adr : Nat → Nat → Nat) (σ : ps_S) (κ i : Nat) : va_E := ps_F ca adr κ (ps_I σ κ i) (ps_J σ κ i) (ps_R σ κ i) (ps_L σ κ i)
def ps_W (D : va_G) (ca : Nat → ClassId) (adr : Nat → Nat → Nat) (A : Nat → Prop) (σ : ps_S) (H : Heap) : Prop :=
  (∀ κ i, i < ps_N σ κ → κ < ps_NK ∧ va_at D ps_cl (adr κ i, ps_cell ca adr σ κ i) H ∧ A (adr κ i)) ∧
  (∀ κ i κ' i', i < ps_N σ κ → i' < ps_N σ κ' → adr κ i = adr κ' i' → κ = κ' ∧ i = i') ∧
  (∀ κ i j q, i < ps_N σ κ → ps_R σ κ i j = some q → q.2 < ps_N σ q.1)
def ps_idsK (N : Nat → Nat) : Nat → List (Nat × Nat)
  | 0 => []
  | k + 1 => ps_idsK N k ++ (List.range (N k)).map (fun i => (k, i))
theorem ps_idsK_mem (N : Nat → Nat) : ∀ (k : Nat) (q : Nat × Nat), q ∈ ps_idsK N k ↔ q.1 < k ∧ q.2 < N q.1
  | 0, q => by simp [ps_idsK]
  | k + 1, q => by
    rw [ps_idsK, List.mem_append, ps_idsK_mem N k q, List.mem_map]
    constructor
    · rintro (⟨h1, h2⟩ | ⟨i, hi, rfl⟩)
      · exact ⟨by omega, h2⟩
      · exact ⟨by show k < k + 1; omega, List.mem_range.mp hi⟩
    · rintro ⟨h1, h2⟩
      by_cases h : q.1 < k
      · exact Or.inl ⟨h, h2⟩
      · have hk : q.1 = k := by omega
        refine Or.inr ⟨q.2, List.mem_range.mpr (by rw [← hk]; exact h2), ?_⟩
        rw [← hk]
theorem ps_idsK_inj (N : Nat → Nat) : ∀ (k i j : Nat) (q : Nat × Nat), (ps_idsK N k)[i]? = some q → (ps_idsK N k)[j]? = some q → i = j
  | 0, i, j, q, h, _ => by simp [ps_idsK] at h
  | k + 1, i, j, q, h1, h2 => by
    rw [ps_idsK] at h1 h2
    have key : ∀ x : Nat, (ps_idsK N k ++ (List.range (N k)).map (fun i => (k, i)))[x]? = some q →
        (x < (ps_idsK N k).length ∧ (ps_idsK N k)[x]? = some q ∧ q.1 < k) ∨ ((ps_idsK N k).length ≤ x ∧ q = (k, x - (ps_idsK N k).length)) := by
      intro x hx
      by_cases hl : x < (ps_idsK N k).length
      · rw [List.getElem?_append_left hl] at hx
        exact Or.inl ⟨hl, hx, ((ps_idsK_mem N k q).mp (List.mem_of_getElem? hx)).1⟩
      · rw [List.getElem?_append_right (by omega), List.getElem?_map] at hx
        cases hy : (List.range (N k))[x - (ps_idsK N k).length]? with
        | none => rw [hy] at hx; cases hx
        | some z =>
          rw [hy] at hx
          have hz := (List.getElem?_eq_some_iff.mp hy).2
          rw [List.getElem_range] at hz
          have hq : (k, z) = q := Option.some.inj hx
          exact Or.inr ⟨by omega, by rw [← hq, ← hz]⟩
    rcases key i h1 with ⟨a1, a2, a3⟩ | ⟨a1, a2⟩ <;> rcases key j h2 with ⟨b1, b2, b3⟩ | ⟨b1, b2⟩
    · exact ps_idsK_inj N k i j q a2 b2
    · rw [b2] at a3; exact absurd a3 (by show ¬ k < k; omega)
    · rw [a2] at b3; exact absurd b3 (by show ¬ k < k; omega)
    · have e := (Prod.mk.inj (a2.symm.trans b2)).2
      omega
def ps_ws (ca : Nat → ClassId) (adr : Nat → Nat → Nat) (σ : ps_S) : va_W := (ps_idsK (ps_N σ) ps_NK).map (fun q => (adr q.1 q.2, ps_cell ca adr σ q.1 q.2))
theorem ps_ws_get {ca : Nat → ClassId} {adr : Nat → Nat → Nat} {σ : ps_S} {κ i : Nat} (hi : i < ps_N σ κ) (hκ : κ < ps_NK) : ∃ k : Nat, (ps_ws ca adr σ)[k]? = some (adr κ i, ps_cell ca adr σ κ i) :=
  List.getElem?_of_mem (List.mem_map.mpr ⟨(κ, i), (ps_idsK_mem _ _ _).mpr ⟨hκ, hi⟩, rfl⟩)
theorem ps_W.P {D : va_G} {ca : Nat → ClassId} {adr : Nat → Nat → Nat} {A : Nat → Prop} {σ : ps_S} {H : Heap} (h : ps_W D ca adr A σ H) : va_P D ps_cl (ps_ws ca adr σ) H := by
  intro k q hk
  obtain ⟨x, hx, rfl⟩ := List.mem_map.mp (List.mem_of_getElem? hk)
  exact (h.1 x.1 x.2 ((ps_idsK_mem _ _ _).mp hx).2).2.1
theorem ps_W.D {D : va_G} {ca : Nat → ClassId} {adr : Nat → Nat → Nat} {A : Nat → Prop} {σ : ps_S} {H : Heap} (h : ps_W D ca adr A σ H) : va_D A (ps_ws ca adr σ) := by
  refine ⟨fun i j x y hi hj hxy => ?_, fun k q hk => ?_⟩
  · rw [ps_ws, List.getElem?_map] at hi hj
    cases h1 : (ps_idsK (ps_N σ) ps_NK)[i]? with
    | none => rw [h1] at hi; cases hi
    | some a =>
      cases h2 : (ps_idsK (ps_N σ) ps_NK)[j]? with
      | none => rw [h2] at hj; cases hj
      | some b =>
        rw [h1] at hi
        rw [h2] at hj
        cases hi
        cases hj
        have m1 := ((ps_idsK_mem _ _ _).mp (List.mem_of_getElem? h1)).2
        have m2 := ((ps_idsK_mem _ _ _).mp (List.mem_of_getElem? h2)).2
        have e := h.2.1 a.1 a.2 b.1 b.2 m1 m2 hxy
        have hab : a = b := Prod.ext e.1 e.2
        subst hab
        exact ps_idsK_inj _ _ _ _ _ h1 h2
  · obtain ⟨x, hx, rfl⟩ := List.mem_map.mp (List.mem_of_getElem? hk)
    exact (h.1 x.1 x.2 ((ps_idsK_mem _ _ _).mp hx).2).2.2
theorem ps_W.set {D : va_G} {ca : Nat → ClassId} {adr : Nat → Nat → Nat} {A : Nat → Prop} {σ σ' : ps_S} {H H1 : Heap} {κ i k0 : Nat} {e0 : va_E} (h : ps_W D ca adr A σ H) (hi : i < ps_N σ κ)
    (hk0 : (ps_ws ca adr σ)[k0]? = some (adr κ i, e0)) (hP : va_P D ps_cl ((ps_ws ca adr σ).set k0 (adr κ i, ps_cell ca adr σ' κ i)) H1) (hN : ps_N σ' = ps_N σ)
    (ho : ∀ κ' i', ¬ (κ' = κ ∧ i' = i) → ps_cell ca adr σ' κ' i' = ps_cell ca adr σ κ' i') (hr : ∀ κ i j q, i < ps_N σ κ → ps_R σ' κ i j = some q → q.2 < ps_N σ q.1) : ps_W D ca adr A σ' H1 := by
  refine ⟨fun κ' i' hi' => ?_, fun a b a' b' h1 h2 h3 => h.2.1 a b a' b' (by rw [← hN]; exact h1) (by rw [← hN]; exact h2) h3, fun a b j q h1 h2 => ?_⟩
  · rw [hN] at hi'
    have hold := h.1 κ' i' hi'
    refine ⟨hold.1, ?_, hold.2.2⟩
    by_cases hc : κ' = κ ∧ i' = i
    · obtain ⟨rfl, rfl⟩ := hc
      exact hP k0 _ (List.getElem?_set_self (List.getElem?_eq_some_iff.mp hk0).1)
    · obtain ⟨k1, hk1⟩ := ps_ws_get (ca := ca) (adr := adr) hi' hold.1
      have hne : k0 ≠ k1 := by
        intro e
        subst e
        rw [hk0] at hk1
        have e1 := (Prod.mk.inj (Option.some.inj hk1)).1
        exact hc (h.2.1 κ' i' κ i hi' hi e1.symm)
      rw [ho κ' i' hc]
      exact hP k1 _ (by rw [List.getElem?_set_ne hne]; exact hk1)
  · rw [hN] at h1 ⊢
    exact hr a b j q h1 h2
/-- one more cell: the address q is new -/
theorem ps_W.push {D : va_G} {ca : Nat → ClassId} {adr : Nat → Nat → Nat} {A : Nat → Prop} {σ : ps_S} {H1 : Heap} {κ len q : Nat} {e : va_E} {H : Heap} (h : ps_W D ca adr A σ H) (hκ : κ < ps_NK)
    (hP : va_P D ps_cl (ps_ws ca adr σ ++ [(q, e)]) H1) (hD : va_D A (ps_ws ca adr σ ++ [(q, e)])) (he : ∀ adr', ps_F ca adr' κ (fun _ => 0) (fun _ => 0) (fun _ => none) len = e) :
    ps_W D ca (fun a b => if a = κ ∧ b = ps_N σ κ then q else adr a b) A (ps_mk σ κ len) H1 := by
  have hlast : (ps_ws ca adr σ ++ [(q, e)])[(ps_ws ca adr σ).length]? = some (q, e) := by rw [List.getElem?_append_right (Nat.le_refl _), Nat.sub_self]; rfl
  have hN : ∀ a b, b < ps_N (ps_mk σ κ len) a → ¬ (a = κ ∧ b = ps_N σ κ) → b < ps_N σ a := by
    intro a b hb hne
    have hb' : b < (if a = κ then ps_N σ κ + 1 else ps_N σ a) := hb
    by_cases ha : a = κ
    · subst ha
      rw [if_pos rfl] at hb'
      have : b ≠ ps_N σ a := fun z => hne ⟨rfl, z⟩
      omega
    · rw [if_neg ha] at hb'
      exact hb'
  have hup : ∀ a b, b < ps_N σ a → b < ps_N (ps_mk σ κ len) a := by
    intro a b hb
    show b < (if a = κ then ps_N σ κ + 1 else ps_N σ a)
    by_cases ha : a = κ
    · subst ha; rw [if_pos rfl]; omega
    · rw [if_neg ha]; exact hb
  have hlive : ∀ a b, b < ps_N σ a → ¬ (a = κ ∧ b = ps_N σ κ) := by
    rintro a b hb ⟨rfl, rfl⟩
    omega
  have hfresh : ∀ a b, b < ps_N σ a → adr a b ≠ q := by
    intro a b hb e9
    obtain ⟨k1, hk1⟩ := ps_ws_get (ca := ca) (adr := adr) hb (h.1 a b hb).1
    have hl1 := (List.getElem?_eq_some_iff.mp hk1).1
    have := hD.1 k1 (ps_ws ca adr σ).length _ _ (by rw [List.getElem?_append_left hl1]; exact hk1) hlast e9
    omega
  refine ⟨fun a b hb => ?_, fun a b a' b' h1 h2 h3 => ?_, fun a b j q' h1 h2 => ?_⟩
  · by_cases hc : a = κ ∧ b = ps_N σ κ
    · obtain ⟨rfl, rfl⟩ := hc
      have e1 : ps_cell ca (fun a' b' => if a' = a ∧ b' = ps_N σ a then q else adr a' b') (ps_mk σ a len) a (ps_N σ a) = e := by
        rw [← he (fun a' b' => if a' = a ∧ b' = ps_N σ a then q else adr a' b')]
        simp [ps_cell, ps_mk, ps_I, ps_J, ps_R, ps_L]
      refine ⟨hκ, ?_, ?_⟩
      · rw [e1]
        have := hP _ _ hlast
        simpa using this
      · have := hD.2 _ _ hlast
        simpa using this
    · have hb' := hN a b hb hc
      have hold := h.1 a b hb'
      refine ⟨hold.1, ?_, ?_⟩
      · obtain ⟨k1, hk1⟩ := ps_ws_get (ca := ca) (adr := adr) hb' hold.1
        have hl1 := (List.getElem?_eq_some_iff.mp hk1).1
        have h5 := hP k1 _ (by rw [List.getElem?_append_left hl1]; exact hk1)
        have e2 : ps_cell ca (fun a' b' => if a' = κ ∧ b' = ps_N σ κ then q else adr a' b') (ps_mk σ κ len) a b = ps_cell ca adr σ a b := by
          have r1 : ps_I (ps_mk σ κ len) a b = ps_I σ a b := by simp only [ps_mk, ps_I]; rw [if_neg hc]
          have r2 : ps_J (ps_mk σ κ len) a b = ps_J σ a b := by simp only [ps_mk, ps_J]; rw [if_neg hc]
          have r3 : ps_R (ps_mk σ κ len) a b = ps_R σ a b := by simp only [ps_mk, ps_R]; rw [if_neg hc]
          have r4 : ps_L (ps_mk σ κ len) a b = ps_L σ a b := by simp only [ps_mk, ps_L]; rw [if_neg hc]
          unfold ps_cell
          rw [r1, r2, r3, r4]
          refine ps_F_congr _ _ _ _ _ _ _ _ (fun j x hx => ?_)
          exact if_neg (hlive _ _ (h.2.2 a b j x hb' hx))
        show va_at D ps_cl ((if a = κ ∧ b = ps_N σ κ then q else adr a b), _) H1
        rw [if_neg hc, e2]
        exact h5
      · show A (if a = κ ∧ b = ps_N σ κ then q else adr a b)
        rw [if_neg hc]
        exact hold.2.2
  · have h3' : (if a = κ ∧ b = ps_N σ κ then q else adr a b) = (if a' = κ ∧ b' = ps_N σ κ then q else adr a' b') := h3
    by_cases c1 : a = κ ∧ b = ps_N σ κ <;> by_cases c2 : a' = κ ∧ b' = ps_N σ κ
    · exact ⟨c1.1.trans c2.1.symm, c1.2.trans c2.2.symm⟩
    · rw [if_pos c1, if_neg c2] at h3'
      exact absurd h3'.symm (hfresh a' b' (hN a' b' h2 c2))
    · rw [if_neg c1, if_pos c2] at h3'
      exact absurd h3' (hfresh a b (hN a b h1 c1))
    · rw [if_neg c1, if_neg c2] at h3'
      exact h.2.1 a b a' b' (hN a b h1 c1) (hN a' b' h2 c2) h3'
  · by_cases hc : a = κ ∧ b = ps_N σ κ
    · have : ps_R (ps_mk σ κ len) a b = fun _ => none := by simp only [ps_mk, ps_R]; rw [if_pos hc]
      rw [this] at h2
      cases h2
    · have : ps_R (ps_mk σ κ len) a b = ps_R σ a b := by simp only [ps_mk, ps_R]; rw [if_neg hc]
      rw [this] at h2
      exact hup _ _ (h.2.2 a b j q' (hN a b h1 hc) h2)

/-! the tables' words that stay, whatever is resolved later -/
def ps_good : Cond → Bool
  | .arrayClass _ => true
  | .fieldLinkNest .. => true
  | .methodLinkNest .. => true
  | .arrayOver (.object _) => true
  | w => w.onTables && w.keeps
def ps_T : List Cond := lw_tbl.filter ps_good
theorem ps_in {w : Cond} (h : w ∈ lw_tbl) (hg : ps_good w = true) : w ∈ ps_T := List.mem_filter.mpr ⟨h, hg⟩
set_option maxHeartbeats 4000000 in
theorem ps_warm {w : Cond} (hg : ps_good w = true) {A A' : Array Value} {u U : State} (hW : u.WarmedH U.vm) (h : w.before A u = true) : w.before A' U = true := by
  cases w with
  | arrayClass ty => exact word_at hW (Or.inr ⟨ty, rfl⟩) h
  | fieldLinkNest a i b n d h' => exact va_Nw.use rfl (va_Nw.warmF hW (va_Nw.of rfl h))
  | methodLinkNest a i x h' => exact va_Nw.use rfl (va_Nw.warmM hW (va_Nw.of rfl h))
  | arrayOver ty =>
    cases ty with
    | object C => exact va_AO.use (va_AO.moved hW.alike (va_AO.of h))
    | _ => exact word_at hW (Or.inl hg) h
  | _ => exact word_at hW (Or.inl hg) h
def ps_G (D : va_G) (ca : Nat → ClassId) (U : State) : Prop := (∀ w ∈ ps_T, w.before #[] U = true) ∧ va_K D ps_cl (ps_tys ca) U
theorem ps_G.warm {D : va_G} {ca : Nat → ClassId} {u U : State} (h : ps_G D ca u) (hW : u.WarmedH U.vm) : ps_G D ca U := ⟨fun w hw => ps_warm (List.mem_filter.mp hw).2 hW (h.1 w hw), va_K.moved hW.alike h.2⟩
theorem ps_G.words {D : va_G} {ca : Nat → ClassId} {s : State} (h : ps_G D ca s) (args : Array Value) : ∀ w ∈ ps_T, w.before args s = true := fun w hw => ps_warm (List.mem_filter.mp hw).2 (State.WarmedH.refl s) (h.1 w hw)
def ps_E (p : Program) (s : State) (m : MethodId) (c : Code) (cc : ByteArray) (nL : Nat) (own : String) (D : va_G) (ca : Nat → ClassId) : Prop :=
  p.tables.exec = Jvm.exec ∧ c.code = cc ∧ c.maxLocals = nL ∧ s.vm.findClass own = some m.cls ∧ ps_G D ca s
def ps_B (D : va_G) (ca : Nat → ClassId) (A : Nat → Prop) (H0 : Heap) (adr0 : Nat → Nat → Nat) (σ0 : ps_S) (adr : Nat → Nat → Nat) (σ : ps_S) (H : Heap) (locs : List Loc) : Prop :=
  ps_W D ca adr A σ H ∧ va_S A H0 H locs ∧ (∀ q, H0.size ≤ q → A q) ∧ (∀ κ i, i < ps_N σ0 κ → adr κ i = adr0 κ i) ∧ ∀ κ, ps_N σ0 κ ≤ ps_N σ κ
/-- from every heap that holds the store σ, the frame with these locals and this stack, by kind and number, comes to a state with Q -/
def ps_V (p : Program) (l : Launch) (e : Env) (R : Room) (s : State) (m : MethodId) (args : Array Value) (below : List Frame) (meth : Method) (c : Code) (nL : Nat) (D : va_G) (ca : Nat → ClassId) (A : Nat → Prop) (H0 : Heap) (adr0 : Nat → Nat → Nat) (σ0 : ps_S) (Q : State → Prop)
    (pc : Nat) (L : List (Nat × ps_A)) (st : List ps_A) (σ : ps_S) (ce sl : Nat) : Prop :=
  ∀ (adr : Nat → Nat → Nat) (H : Heap) (locs : List Loc) (ls : Array Slot), ps_B D ca A H0 adr0 σ0 adr σ H locs → (∀ a ∈ st, ps_ok σ a) → (∀ q ∈ L, ps_ok σ q.2) → lv_has ls nL (L.map fun q => (q.1, ps_v adr q.2)) →
    W p l e R s m args below meth c H locs ce sl Q (F0 m pc ls (st.map (ps_v adr)))
theorem ps_lookup {L : List (Nat × ps_A)} {i : Nat} {a : ps_A} (h : L.lookup i = some a) : (i, a) ∈ L := by
  induction L with
  | nil => cases h
  | cons q L ih =>
    obtain ⟨j, b⟩ := q
    rw [List.lookup_cons] at h
    by_cases hij : i = j
    · subst hij
      simp at h
      subst h
      exact List.mem_cons_self
    · have hb : (i == j) = false := by simpa using hij
      rw [hb] at h
      exact List.mem_cons_of_mem _ (ih h)
theorem ps_lk {ls : Array Slot} {nL : Nat} {adr : Nat → Nat → Nat} {L : List (Nat × ps_A)} {i : Nat} {a : ps_A} (h : lv_has ls nL (L.map fun q => (q.1, ps_v adr q.2))) (hl : L.lookup i = some a) : ls[i]? = some (.val (ps_v adr a)) :=
  h.2.2 (i, ps_v adr a) (List.mem_map.mpr ⟨(i, a), ps_lookup hl, rfl⟩)
def ps_ls (L : List (Nat × ps_A)) (i : Nat) (a : ps_A) : List (Nat × ps_A) := (i, a) :: L.filter (fun q => !(q.1 == i) && !(q.1 + 1 == i && ps_cat q.2 == 2))
def ps_ls2 (L : List (Nat × ps_A)) (i : Nat) (a : ps_A) : List (Nat × ps_A) := (i, a) :: L.filter (fun q => !(q.1 == i) && (!(q.1 == i + 1) && !(q.1 + 1 == i && ps_cat q.2 == 2)))
theorem ps_ls_map (adr : Nat → Nat → Nat) (L : List (Nat × ps_A)) (i : Nat) (a : ps_A) : (i, ps_v adr a) :: (L.map fun q => (q.1, ps_v adr q.2)).filter (fun q => !(q.1 == i) && !(q.1 + 1 == i && q.2.category == 2)) = (ps_ls L i a).map fun q => (q.1, ps_v adr q.2) := by
  simp only [ps_ls, List.map_cons, List.filter_map, Function.comp_def, ps_cat_v]
theorem ps_ls2_map (adr : Nat → Nat → Nat) (L : List (Nat × ps_A)) (i : Nat) (a : ps_A) : (i, ps_v adr a) :: (L.map fun q => (q.1, ps_v adr q.2)).filter (fun q => !(q.1 == i) && (!(q.1 == i + 1) && !(q.1 + 1 == i && q.2.category == 2))) = (ps_ls2 L i a).map fun q => (q.1, ps_v adr q.2) := by
  simp only [ps_ls2, List.map_cons, List.filter_map, Function.comp_def, ps_cat_v]
theorem ps_ls_ok {σ : ps_S} {L : List (Nat × ps_A)} {i : Nat} {a : ps_A} (h : ∀ q ∈ L, ps_ok σ q.2) (ha : ps_ok σ a) : ∀ q ∈ ps_ls L i a, ps_ok σ q.2 := by
  intro q hq
  rcases List.mem_cons.mp hq with rfl | hq
  · exact ha
  · exact h q (List.mem_filter.mp hq).1
theorem ps_ls2_ok {σ : ps_S} {L : List (Nat × ps_A)} {i : Nat} {a : ps_A} (h : ∀ q ∈ L, ps_ok σ q.2) (ha : ps_ok σ a) : ∀ q ∈ ps_ls2 L i a, ps_ok σ q.2 := by
  intro q hq
  rcases List.mem_cons.mp hq with rfl | hq
  · exact ha
  · exact h q (List.mem_filter.mp hq).1
theorem ps_hd {σ : ps_S} {a : ps_A} {st : List ps_A} (h : ∀ b ∈ a :: st, ps_ok σ b) : ps_ok σ a := h a List.mem_cons_self
theorem ps_tl {σ : ps_S} {a : ps_A} {st : List ps_A} (h : ∀ b ∈ a :: st, ps_ok σ b) : ∀ b ∈ st, ps_ok σ b := fun b hb => h b (List.mem_cons_of_mem _ hb)
theorem ps_cn {σ : ps_S} {a : ps_A} {st : List ps_A} (ha : ps_ok σ a) (h : ∀ b ∈ st, ps_ok σ b) : ∀ b ∈ a :: st, ps_ok σ b := List.forall_mem_cons.mpr ⟨ha, h⟩
theorem ps_okR {D : va_G} {ca : Nat → ClassId} {adr : Nat → Nat → Nat} {A : Nat → Prop} {σ : ps_S} {H : Heap} (h : ps_W D ca adr A σ H) {κ i : Nat} (hi : i < ps_N σ κ) (j : Nat) : ps_ok σ (ps_ref (ps_R σ κ i j)) := by
  cases hr : ps_R σ κ i j with
  | none => trivial
  | some q => exact h.2.2 κ i j q hi hr
