/-! New arrays and new stages. -/
theorem mk_I (σ : ps_S) {κ len a b : Nat} (h : ¬ (a = κ ∧ b = ps_N σ κ)) : ps_I (ps_mk σ κ len) a b = ps_I σ a b := if_neg h
theorem mk_J (σ : ps_S) {κ len a b : Nat} (h : ¬ (a = κ ∧ b = ps_N σ κ)) : ps_J (ps_mk σ κ len) a b = ps_J σ a b := if_neg h
theorem mk_R (σ : ps_S) {κ len a b : Nat} (h : ¬ (a = κ ∧ b = ps_N σ κ)) : ps_R (ps_mk σ κ len) a b = ps_R σ a b := if_neg h
theorem mk_L (σ : ps_S) {κ len a b : Nat} (h : ¬ (a = κ ∧ b = ps_N σ κ)) : ps_L (ps_mk σ κ len) a b = ps_L σ a b := if_neg h
theorem mk_L1 (σ : ps_S) (κ len : Nat) : ps_L (ps_mk σ κ len) κ (ps_N σ κ) = len := if_pos ⟨rfl, rfl⟩
theorem mk_N (σ : ps_S) {κ len a : Nat} (h : a ≠ κ) : ps_N (ps_mk σ κ len) a = ps_N σ a := if_neg h
theorem mk_N1 (σ : ps_S) (κ len : Nat) : ps_N (ps_mk σ κ len) κ = ps_N σ κ + 1 := if_pos rfl
theorem FrG.mk {σ : ps_S} {κ len : Nat} (h : 1 ≤ κ ∧ κ ≤ 4) : FrG σ (ps_mk σ κ len) := fun a ha => by
  have hne : a ≠ κ := fun z => ha (z ▸ h)
  refine ⟨?_, ?_, ?_, ?_, mk_N σ hne⟩
  · funext b; exact mk_I σ (fun z => hne z.1)
  · funext b; exact mk_J σ (fun z => hne z.1)
  · funext b; exact mk_R σ (fun z => hne z.1)
  · funext b; exact mk_L σ (fun z => hne z.1)
/-- two stores that agree on what the graph g has -/
def sameG (n : Nat) (σ τ : ps_S) : Prop := (∀ κ i j, (1 ≤ κ ∧ κ ≤ 2) ∨ (κ = 3 ∧ i < n) → ps_I τ κ i j = ps_I σ κ i j ∧ ps_R τ κ i j = ps_R σ κ i j) ∧ (∀ i, i < 3 + n → ps_L τ 4 i = ps_L σ 4 i ∧ (∀ j, i = 0 → j < n → ps_R τ 4 i j = ps_R σ 4 i j) ∧ (i ≠ 0 → ∀ j, ps_R τ 4 i j = ps_R σ 4 i j)) ∧ ∀ κ, κ ≤ 3 → ps_N τ κ = ps_N σ κ
theorem RC.same {σ τ : ps_S} {g : gT} (h : RC σ g) (hs : sameG (gN g) σ τ) : RC τ g := by
  obtain ⟨s1, s2, s3⟩ := hs
  obtain ⟨⟨a1, a2, a3, a4, a5, a6, a7, a8, a9⟩, h1, h2, h3⟩ := h
  have rq : ∀ {q r : Nat} {x : List Nat}, RQ σ q r x → (r = 1 ∨ r = 2) → RQ τ q r x := by
    intro q r x hq hr
    obtain ⟨b1, b2, b3, b4, f0, b5, b6, b7⟩ := hq
    exact ⟨by rw [(s1 2 q 0 (Or.inl (by decide))).2]; exact b1, by rw [(s2 r (by omega)).1]; exact b2, b3, by rw [(s1 2 q 2 (Or.inl (by decide))).1]; exact b4, f0, b5, by rw [(s1 2 q 1 (Or.inl (by decide))).1]; exact b6, fun i k hi => by rw [(s2 r (by omega)).2.2 (by omega)]; exact b7 i k hi⟩
  refine ⟨⟨by rw [(s1 1 0 0 (Or.inl (by decide))).2]; exact a1, by rw [(s1 1 0 1 (Or.inl (by decide))).2]; exact a2, by rw [(s1 1 0 2 (Or.inl (by decide))).2]; exact a3, by rw [(s1 1 0 3 (Or.inl (by decide))).1]; exact a4, by rw [(s1 1 0 4 (Or.inl (by decide))).1]; exact a5, by rw [(s2 0 (by omega)).1]; exact a6, by rw [s3 1 (by decide)]; exact a7, by rw [s3 2 (by decide)]; exact a8, by rw [s3 3 (by decide)]; exact a9⟩, fun k hk => ?_, rq h2 (Or.inl rfl), rq h3 (Or.inr rfl)⟩
  obtain ⟨⟨e0, e1, e2, e3, e4, e5, e6, e7, e8⟩, e9, e10, e11, e12, e13⟩ := h1 k hk
  have q := fun j => s1 3 k j (Or.inr ⟨rfl, hk⟩)
  exact ⟨⟨by rw [(s2 0 (by omega)).2.1 k rfl hk]; exact e0, by rw [(q 0).1]; exact e1, by rw [(q 1).1]; exact e2, by rw [(q 2).1]; exact e3, by rw [(q 3).1]; exact e4, by rw [(q 4).1]; exact e5, by rw [(q 5).2]; exact e6, by rw [(s2 (3 + k) (by omega)).1]; exact e7, fun j i hj => by rw [(s2 (3 + k) (by omega)).2.2 (by omega)]; exact e8 j i hj⟩, by rw [(q 6).1]; exact e9, by rw [(q 7).1]; exact e10, by rw [(q 8).1]; exact e11, by rw [(q 9).2]; exact e12, by rw [(q 10).1]; exact e13⟩
theorem sameG.tr {n : Nat} {a b c : ps_S} (h1 : sameG n a b) (h2 : sameG n b c) : sameG n a c :=
  ⟨fun κ i j h => ⟨(h2.1 κ i j h).1.trans (h1.1 κ i j h).1, (h2.1 κ i j h).2.trans (h1.1 κ i j h).2⟩, fun i hi => ⟨(h2.2.1 i hi).1.trans (h1.2.1 i hi).1, fun j h0 hj => ((h2.2.1 i hi).2.1 j h0 hj).trans ((h1.2.1 i hi).2.1 j h0 hj), fun h0 j => ((h2.2.1 i hi).2.2 h0 j).trans ((h1.2.1 i hi).2.2 h0 j)⟩, fun κ hκ => (h2.2.2 κ hκ).trans (h1.2.2 κ hκ)⟩
theorem sameG.arr {σ : ps_S} {n len : Nat} (h : ps_N σ 4 = 3 + n) : sameG n σ (ps_mk σ 4 len) := by
  refine ⟨fun κ i j hc => ?_, fun i hi => ?_, fun κ hκ => mk_N σ (by omega)⟩
  · have hne : ¬ (κ = 4 ∧ i = ps_N σ 4) := by
      rintro ⟨rfl, -⟩
      rcases hc with h | h
      · omega
      · omega
    exact ⟨congrFun (mk_I σ hne) j, congrFun (mk_R σ hne) j⟩
  · have hne : ¬ (4 = 4 ∧ i = ps_N σ 4) := fun z => by have := z.2; omega
    exact ⟨mk_L σ hne, fun j _ _ => congrFun (mk_R σ hne) j, fun _ j => congrFun (mk_R σ hne) j⟩
theorem sameG.fill {σ : ps_S} {n b j : Nat} {v : Option (Nat × Nat)} (h : 3 + n ≤ b) : sameG n σ (ps_sR σ 4 b j v) := by
  refine ⟨fun κ i c hc => ⟨rfl, ?_⟩, fun i hi => ⟨rfl, fun c _ _ => ps_R_ne σ _ (by omega), fun _ c => ps_R_ne σ _ (by omega)⟩, fun κ hκ => rfl⟩
  refine ps_R_k σ ?_
  rcases hc with h | h
  · omega
  · omega
theorem FrG.fill {σ : ps_S} {b j : Nat} {v : Option (Nat × Nat)} : FrG σ (ps_sR σ 4 b j v) := FrG.sR (by decide)
/-- Stage's constructor -/
def st_init (σ : ps_S) (k : Nat) (nu kd fn a as : Int32) (r : Option (Nat × Nat)) : ps_S :=
  ps_sI (ps_sI (ps_sR (ps_sI (ps_sI (ps_sI (ps_sI (ps_sI σ 3 k 0 nu) 3 k 1 kd) 3 k 2 fn) 3 k 3 a) 3 k 4 as) 3 k 5 r) 3 k 6 0) 3 k 8 1073741824
/-- a new stage laid into the graph -/
def st_add (σ : ps_S) (n : Nat) (kd fn a as : Int32) : ps_S := ps_sI (ps_sR (st_init (ps_mk σ 3 0) n (nI n) kd fn a as (some (4, 3 + n))) 4 0 n (some (3, n))) 1 0 3 (nI (n + 1))
theorem st_init_I (σ : ps_S) (k : Nat) (nu kd fn a as : Int32) (r : Option (Nat × Nat)) (j : Nat) : ps_I (st_init σ k nu kd fn a as r) 3 k j = if j = 8 then 1073741824 else if j = 6 then 0 else if j = 4 then as else if j = 3 then a else if j = 2 then fn else if j = 1 then kd else if j = 0 then nu else ps_I σ 3 k j := by
  unfold st_init
  simp only [ps_I_sI, ps_I_sR, true_and]
theorem st_init_ne (σ : ps_S) {k : Nat} (nu kd fn a as : Int32) (r : Option (Nat × Nat)) {κ i : Nat} (h : ¬ (κ = 3 ∧ i = k)) (j : Nat) : ps_I (st_init σ k nu kd fn a as r) κ i j = ps_I σ κ i j ∧ ps_R (st_init σ k nu kd fn a as r) κ i j = ps_R σ κ i j := by
  unfold st_init
  have h' : ∀ c : Nat, ¬ (κ = 3 ∧ i = k ∧ j = c) := fun c z => h ⟨z.1, z.2.1⟩
  constructor
  · simp only [ps_I_sI, ps_I_sR, h', if_false]
  · show ps_R (ps_sR _ 3 k 5 r) κ i j = _
    rw [ps_R_sR, if_neg (h' 5)]
    rfl
theorem st_init_R (σ : ps_S) (k : Nat) (nu kd fn a as : Int32) (r : Option (Nat × Nat)) (j : Nat) : ps_R (st_init σ k nu kd fn a as r) 3 k j = if j = 5 then r else ps_R σ 3 k j := by
  show ps_R (ps_sR _ 3 k 5 r) 3 k j = _
  rw [ps_R_sR]
  by_cases h : j = 5
  · rw [if_pos ⟨rfl, rfl, h⟩, if_pos h]
  · rw [if_neg (fun z : 3 = 3 ∧ k = k ∧ j = 5 => h z.2.2), if_neg h]
    rfl
theorem FrG.init {σ : ps_S} {k : Nat} {nu kd fn a as : Int32} {r : Option (Nat × Nat)} : FrG σ (st_init σ k nu kd fn a as r) :=
  ((((((FrG.sI (by decide)).tr (FrG.sI (by decide))).tr (FrG.sI (by decide))).tr (FrG.sI (by decide))).tr (FrG.sI (by decide))).tr (FrG.sR (by decide))).tr ((FrG.sI (by decide)).tr (FrG.sI (by decide)))
theorem FrG.add {σ : ps_S} {n : Nat} {kd fn a as : Int32} : FrG σ (st_add σ n kd fn a as) :=
  (FrG.mk (by decide)).tr (FrG.init.tr ((FrG.sR (by decide)).tr (FrG.sI (by decide))))
theorem N_add (σ : ps_S) (n : Nat) (kd fn a as : Int32) : ps_N (st_add σ n kd fn a as) = ps_N (ps_mk σ 3 0) := rfl
theorem gF_mk (g : gT) (kd fn nu asy : Int32) (ins : List Nat) {k : Nat} (h : k ≠ gN g) (c : Nat) : gF (g_mk g kd fn nu asy ins) k c = gF g k c := congrFun (if_neg h) c
theorem gF_mk1 (g : gT) (kd fn nu asy : Int32) (ins : List Nat) (c : Nat) : gF (g_mk g kd fn nu asy ins) (gN g) c = if c = 2 then kd else if c = 3 then fn else if c = 4 then nu else if c = 5 then asy else 0 := congrFun (if_pos rfl) c
theorem gI_mk (g : gT) (kd fn nu asy : Int32) (ins : List Nat) {k : Nat} (h : k ≠ gN g) : gI (g_mk g kd fn nu asy ins) k = gI g k := va_up_ne _ _ h
theorem gI_mk1 (g : gT) (kd fn nu asy : Int32) (ins : List Nat) : gI (g_mk g kd fn nu asy ins) (gN g) = ins := va_up_self _ _ _
theorem gA_mk (g : gT) (kd fn nu asy : Int32) (ins : List Nat) {k : Nat} (h : k ≠ gN g) : gA (g_mk g kd fn nu asy ins) k = gA g k := va_up_ne _ _ h
theorem gA_mk1 (g : gT) (kd fn nu asy : Int32) (ins : List Nat) : gA (g_mk g kd fn nu asy ins) (gN g) = none := va_up_self _ _ _
theorem RC.mk {σ : ps_S} {g : gT} {kd fn a as : Int32} {ins : List Nat} (h : RC σ g) (hL : ps_L σ 4 (3 + gN g) = ins.length) (hI : ∀ j i, ins[j]? = some i → ps_R σ 4 (3 + gN g) j = some (3, i)) : RC (st_add σ (gN g) kd fn a as) (g_mk g kd fn a as ins) := by
  have hN3 : ps_N σ 3 = gN g := h.1.2.2.2.2.2.2.2.2
  have hI3 : ∀ κ i j, ¬ (κ = 3 ∧ i = gN g) → ¬ (κ = 1 ∧ i = 0 ∧ j = 3) → ps_I (st_add σ (gN g) kd fn a as) κ i j = ps_I σ κ i j := by
    intro κ i j p1 p2
    unfold st_add
    rw [ps_I_sI, if_neg p2, ps_I_sR, (st_init_ne _ _ _ _ _ _ _ p1 j).1, mk_I σ (by rw [hN3]; exact p1)]
  have hR3 : ∀ κ i j, ¬ (κ = 3 ∧ i = gN g) → ¬ (κ = 4 ∧ i = 0 ∧ j = gN g) → ps_R (st_add σ (gN g) kd fn a as) κ i j = ps_R σ κ i j := by
    intro κ i j p1 p2
    show ps_R (ps_sR _ 4 0 (gN g) (some (3, gN g))) κ i j = _
    rw [ps_R_sR, if_neg p2, (st_init_ne _ _ _ _ _ _ _ p1 j).2, mk_R σ (by rw [hN3]; exact p1)]
  have hL3 : ∀ i, ps_L (st_add σ (gN g) kd fn a as) 4 i = ps_L σ 4 i := fun i => mk_L σ (fun z => absurd z.1 (by decide))
  obtain ⟨⟨a1, a2, a3, a4, a5, a6, a7, a8, a9⟩, h1, h2, h3⟩ := h
  have rq : ∀ {q r : Nat} {x : List Nat}, RQ σ q r x → (r = 1 ∨ r = 2) → RQ (st_add σ (gN g) kd fn a as) q r x := by
    intro q r x hq hr
    obtain ⟨b1, b2, b3, b4, f0, b5, b6, b7⟩ := hq
    exact ⟨by rw [hR3 2 q 0 (by omega) (by omega)]; exact b1, by rw [hL3]; exact b2, b3, by rw [hI3 2 q 2 (by omega) (by omega)]; exact b4, f0, b5, by rw [hI3 2 q 1 (by omega) (by omega)]; exact b6, fun i k hi => by rw [hR3 4 r _ (by omega) (by omega)]; exact b7 i k hi⟩
  refine ⟨⟨by rw [hR3 1 0 0 (by omega) (by omega)]; exact a1, by rw [hR3 1 0 1 (by omega) (by omega)]; exact a2, by rw [hR3 1 0 2 (by omega) (by omega)]; exact a3, ps_I_eq _ _ _ _ _, by rw [hI3 1 0 4 (by omega) (by omega)]; exact a5, by rw [hL3]; exact a6, a7, a8, ?_⟩, fun k hk => ?_, rq h2 (Or.inl rfl), rq h3 (Or.inr rfl)⟩
  · show ps_N (ps_mk σ 3 0) 3 = gN g + 1
    rw [mk_N1, hN3]
  · have hk' : k < gN g + 1 := hk
    by_cases hkn : k = gN g
    · subst hkn
      have q : ∀ j, ps_I (st_add σ (gN g) kd fn a as) 3 (gN g) j = ps_I (st_init (ps_mk σ 3 0) (gN g) (nI (gN g)) kd fn a as (some (4, 3 + gN g))) 3 (gN g) j := by
        intro j
        unfold st_add
        rw [ps_I_k _ (by decide)]
        rfl
      have q2 : ∀ j, ps_R (st_add σ (gN g) kd fn a as) 3 (gN g) j = ps_R (st_init (ps_mk σ 3 0) (gN g) (nI (gN g)) kd fn a as (some (4, 3 + gN g))) 3 (gN g) j := fun j => ps_R_k _ (by decide)
      have z1 : ∀ j, ps_I (ps_mk σ 3 0) 3 (gN g) j = 0 := fun j => by
        have : ps_I (ps_mk σ 3 0) 3 (gN g) = fun _ => 0 := if_pos ⟨rfl, hN3.symm⟩
        rw [this]
      have z2 : ∀ j, ps_R (ps_mk σ 3 0) 3 (gN g) j = none := fun j => by
        have : ps_R (ps_mk σ 3 0) 3 (gN g) = fun _ => none := if_pos ⟨rfl, hN3.symm⟩
        rw [this]
      refine ⟨⟨?_, ?_, ?_, ?_, ?_, ?_, ?_, ?_, ?_⟩, ?_, ?_, ?_, ?_, ?_⟩
      · show ps_R (ps_sR _ 4 0 (gN g) (some (3, gN g))) 4 0 (gN g) = _
        rw [ps_R_eq]
      · rw [q, st_init_I]; rfl
      · rw [q, st_init_I, gF_mk1]; rfl
      · rw [q, st_init_I, gF_mk1]; rfl
      · rw [q, st_init_I, gF_mk1]; rfl
      · rw [q, st_init_I, gF_mk1]; rfl
      · rw [q2, st_init_R]; rfl
      · rw [hL3, gI_mk1]; exact hL
      · intro j i hj
        rw [gI_mk1] at hj
        rw [hR3 4 (3 + gN g) j (by omega) (by omega)]
        exact hI j i hj
      · rw [q, st_init_I, gF_mk1]; rfl
      · rw [q, st_init_I, gF_mk1, z1]; rfl
      · rw [q, st_init_I, g_tv, gF_mk1]; rfl
      · rw [q2, st_init_R, z2, gA_mk1]; rfl
      · rw [q, st_init_I, gF_mk1, z1]; rfl
    · have hk2 : k < gN g := by omega
      obtain ⟨⟨e0, e1, e2, e3, e4, e5, e6, e7, e8⟩, e9, e10, e11, e12, e13⟩ := h1 k hk2
      have q : ∀ j, ps_I (st_add σ (gN g) kd fn a as) 3 k j = ps_I σ 3 k j := fun j => hI3 3 k j (by omega) (by omega)
      have q2 : ∀ j, ps_R (st_add σ (gN g) kd fn a as) 3 k j = ps_R σ 3 k j := fun j => hR3 3 k j (by omega) (by omega)
      have et : g_tv (g_mk g kd fn a as ins) k = g_tv g k := by
        unfold g_tv
        rw [gF_mk g _ _ _ _ _ hkn]
        rfl
      refine ⟨⟨by rw [hR3 4 0 k (by omega) (by omega)]; exact e0, by rw [q]; exact e1, by rw [q, gF_mk g _ _ _ _ _ hkn]; exact e2, by rw [q, gF_mk g _ _ _ _ _ hkn]; exact e3, by rw [q, gF_mk g _ _ _ _ _ hkn]; exact e4, by rw [q, gF_mk g _ _ _ _ _ hkn]; exact e5, by rw [q2]; exact e6, by rw [hL3, gI_mk g _ _ _ _ _ hkn]; exact e7, fun j i hj => ?_⟩, by rw [q, gF_mk g _ _ _ _ _ hkn]; exact e9, by rw [q, gF_mk g _ _ _ _ _ hkn]; exact e10, by rw [q, et]; exact e11, by rw [q2, gA_mk g _ _ _ _ _ hkn]; exact e12, by rw [q, gF_mk g _ _ _ _ _ hkn]; exact e13⟩
      rw [gI_mk g _ _ _ _ _ hkn] at hj
      rw [hR3 4 (3 + k) j (by omega) (by omega)]
      exact e8 j i hj
theorem gOK.mk {g : gT} {kd fn a as : Int32} {ins : List Nat} (h : gOK g) (hn : gN g < 48) (hl : ins.length ≤ 48) (hi : ∀ i, i ∈ ins → i < gN g) (hk : (kd = 9 ∨ 0 < ins.length) ∧ (kd = 5 → 1 < ins.length)) : gOK (g_mk g kd fn a as ins) := by
  obtain ⟨hW, hK, hQ⟩ := h
  refine ⟨⟨hn, ⟨?_, hW.2.1.2⟩, fun k hk' => ?_⟩, fun k hk' => ?_, hQ.1, fun k hk' => ?_⟩
  · have h1 := hW.2.1.1
    unfold gE at h1 ⊢
    show gC g + (sumN (g_ph (g_mk g kd fn a as ins)) (gN g) + g_ph (g_mk g kd fn a as ins) (gN g)) ≤ 2 * (gN g + 1)
    have h2 : sumN (g_ph (g_mk g kd fn a as ins)) (gN g) = sumN (g_ph g) (gN g) := sumN_congr _ (fun k hk => by
      rw [g_ph, g_ph, gF_mk g _ _ _ _ _ (by omega), gA_mk g _ _ _ _ _ (by omega)])
    have h3 : g_ph (g_mk g kd fn a as ins) (gN g) ≤ 2 := by
      unfold g_ph
      split
      · split <;> omega
      · omega
    omega
  · have hk2 : k < gN g + 1 := hk'
    by_cases hkn : k = gN g
    · subst hkn
      rw [gI_mk1, gA_mk1]
      exact ⟨hl, fun i hi' => Nat.lt_succ_of_lt (hi i hi'), fun j hj => by cases hj⟩
    · rw [gI_mk g _ _ _ _ _ hkn, gA_mk g _ _ _ _ _ hkn]
      have := hW.2.2 k (by omega)
      exact ⟨this.1, fun i hi' => Nat.lt_succ_of_lt (this.2.1 i hi'), fun j hj => Nat.lt_succ_of_lt (this.2.2 j hj)⟩
  · have hk2 : k < gN g + 1 := hk'
    by_cases hkn : k = gN g
    · subst hkn
      rw [gI_mk1, gF_mk1]
      exact hk
    · rw [gI_mk g _ _ _ _ _ hkn, gF_mk g _ _ _ _ _ hkn]
      exact hK k (by omega)
  · have := hQ.2 k hk'
    have hne : k ≠ gN g := by have := this.1; omega
    rw [gF_mk g _ _ _ _ _ hne, gF_mk g _ _ _ _ _ hne]
    exact ⟨Nat.lt_succ_of_lt this.1, this.2⟩
