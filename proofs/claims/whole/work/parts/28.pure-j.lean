/-! New scopes and tasks in the store. -/
def tr_init (σ : ps_S) : ps_S :=
  let σ1 := ps_sR (ps_mk σ 8 12) 7 0 0 (some (8, ps_N σ 8))
  ps_sR (ps_mk σ1 9 30) 7 0 1 (some (9, ps_N σ1 9))
def sc_add (σ : ps_S) (n : Nat) (po e : Int32) (p r : Option (Nat × Nat)) : ps_S := ps_sI (ps_sR (sc_init (ps_mk σ 5 0) n (nI n) po e p r) 8 0 n (some (5, n))) 7 0 2 (nI (n + 1))
def tk_add (σ : ps_S) (n : Nat) (co fn a x : Int32) (o : Option (Nat × Nat)) (v : Int32) : ps_S := ps_sI (ps_sR (tk_init (ps_mk σ 6 0) n co fn a x o v) 9 0 n (some (6, n))) 7 0 3 (nI (n + 1))
theorem FrT.scinit {σ : ps_S} {c : Nat} {nu po d : Int32} {p r : Option (Nat × Nat)} : FrT σ (sc_init σ c nu po d p r) :=
  (((((((FrT.sI (by decide)).tr (FrT.sR (by decide))).tr (FrT.sI (by decide))).tr (FrT.sI (by decide))).tr (FrT.sR (by decide))).tr (FrT.mk (by decide))).tr (FrT.sR (by decide))).tr (((FrT.mk (by decide)).tr (FrT.sR (by decide))).tr (FrT.sI (by decide)))
theorem FrT.scadd {σ : ps_S} {n : Nat} {po e : Int32} {p r : Option (Nat × Nat)} : FrT σ (sc_add σ n po e p r) :=
  (FrT.mk (by decide)).tr (FrT.scinit.tr ((FrT.sR (by decide)).tr (FrT.sI (by decide))))
theorem FrT.tkinit {σ : ps_S} {j : Nat} {co fn a x v : Int32} {o : Option (Nat × Nat)} : FrT σ (tk_init σ j co fn a x o v) :=
  (((((FrT.sR (by decide)).tr (FrT.sI (by decide))).tr (FrT.sI (by decide))).tr (FrT.sI (by decide))).tr (FrT.sI (by decide))).tr (FrT.sI (by decide))
theorem FrT.tkadd {σ : ps_S} {n : Nat} {co fn a x v : Int32} {o : Option (Nat × Nat)} : FrT σ (tk_add σ n co fn a x o v) :=
  (FrT.mk (by decide)).tr (FrT.tkinit.tr ((FrT.sR (by decide)).tr (FrT.sI (by decide))))
theorem tS_mk (t : tT) (p : Option Nat) (po d : Int32) (r : Nat) {c : Nat} (h : c ≠ tN t) (f : Nat) : tS (t_mk t p po d r) c f = tS t c f := congrFun (if_neg h) f
theorem tS_mk1 (t : tT) (p : Option Nat) (po d : Int32) (r : Nat) (f : Nat) : tS (t_mk t p po d r) (tN t) f = if f = 0 then po else if f = 1 then t_eff t p d else if f = 5 then (if 0 ≤ d then d else -1) else 0 := congrFun (if_pos rfl) f
theorem RT.mk {σ : ps_S} {t : tT} {po d : Int32} {p : Option Nat} {r : Nat} (h : RT σ t) : RT (sc_add σ (tN t) po (t_eff t p d) (p.map fun c => (5, c)) (some (3, r))) (t_mk t p po d r) := by
  obtain ⟨⟨⟨a1, a2, a3, a4, a5, a6, a7, a8⟩, b1, b2, b3, b4⟩, h1, h2⟩ := h
  generalize hn : tN t = n at *
  generalize he : t_eff t p d = e at *
  have n10 : ps_N (ps_sR (ps_sI (ps_sI (ps_sR (ps_sI (ps_mk σ 5 0) 5 n 0 (nI n)) 5 n 1 (p.map fun c => (5, c))) 5 n 2 po) 5 n 3 e) 5 n 4 (some (3, r))) 10 = n := by
    show ps_N (ps_mk σ 5 0) 10 = n
    rw [mk_N σ (by decide)]
    exact a7
  have hI : ∀ κ i j, ¬ (κ = 5 ∧ i = n) → ¬ (κ = 10 ∧ i = n) → ¬ (κ = 11 ∧ i = n) → ¬ (κ = 7 ∧ i = 0 ∧ j = 2) → ps_I (sc_add σ n po e (p.map fun c => (5, c)) (some (3, r))) κ i j = ps_I σ κ i j := by
    intro κ i j p1 p2 p3 p4
    have q : ∀ c : Nat, ¬ (κ = 5 ∧ i = n ∧ j = c) := fun c z => p1 ⟨z.1, z.2.1⟩
    unfold sc_add sc_init
    dsimp only
    rw [ps_I_sI, if_neg p4, ps_I_sR, ps_I_sI, if_neg (q 7), ps_I_sR]
    rw [mk_I _ (by
      rintro ⟨rfl, rfl⟩
      refine p3 ⟨rfl, ?_⟩
      show ps_N (ps_mk (ps_mk σ 5 0) 10 4) 11 = n
      rw [mk_N _ (by decide), mk_N _ (by decide)]
      exact a8)]
    rw [ps_I_sR]
    rw [mk_I _ (by
      rintro ⟨rfl, rfl⟩
      exact p2 ⟨rfl, n10⟩)]
    simp only [ps_I_sI, ps_I_sR, q, if_false]
    rw [mk_I σ (by rw [a5]; exact p1)]
  have hR : ∀ κ i j, ¬ (κ = 5 ∧ i = n) → ¬ (κ = 10 ∧ i = n) → ¬ (κ = 11 ∧ i = n) → ¬ (κ = 8 ∧ i = 0 ∧ j = n) → ps_R (sc_add σ n po e (p.map fun c => (5, c)) (some (3, r))) κ i j = ps_R σ κ i j := by
    intro κ i j p1 p2 p3 p4
    have q : ∀ c : Nat, ¬ (κ = 5 ∧ i = n ∧ j = c) := fun c z => p1 ⟨z.1, z.2.1⟩
    unfold sc_add sc_init
    dsimp only
    rw [ps_R_sI, ps_R_sR, if_neg p4, ps_R_sI, ps_R_sR, if_neg (q 6)]
    rw [mk_R _ (by
      rintro ⟨rfl, rfl⟩
      refine p3 ⟨rfl, ?_⟩
      show ps_N (ps_mk (ps_mk σ 5 0) 10 4) 11 = n
      rw [mk_N _ (by decide), mk_N _ (by decide)]
      exact a8)]
    rw [ps_R_sR, if_neg (q 5)]
    rw [mk_R _ (by
      rintro ⟨rfl, rfl⟩
      exact p2 ⟨rfl, n10⟩)]
    simp only [ps_R_sI, ps_R_sR, q, if_false]
    rw [mk_R σ (by rw [a5]; exact p1)]
  have hL : ∀ κ i, ¬ (κ = 10 ∧ i = n) → ¬ (κ = 11 ∧ i = n) → ¬ (κ = 5 ∧ i = n) → ps_L (sc_add σ n po e (p.map fun c => (5, c)) (some (3, r))) κ i = ps_L σ κ i := by
    intro κ i p2 p3 p1
    show ps_L (ps_mk _ 11 4) κ i = _
    rw [mk_L _ (by
      rintro ⟨rfl, rfl⟩
      refine p3 ⟨rfl, ?_⟩
      show ps_N (ps_mk (ps_mk σ 5 0) 10 4) 11 = n
      rw [mk_N _ (by decide), mk_N _ (by decide)]
      exact a8)]
    show ps_L (ps_mk _ 10 4) κ i = _
    rw [mk_L _ (by
      rintro ⟨rfl, rfl⟩
      exact p2 ⟨rfl, n10⟩)]
    show ps_L (ps_mk σ 5 0) κ i = _
    rw [mk_L σ (by rw [a5]; exact p1)]
  refine ⟨⟨⟨by rw [hR 7 0 0 (by omega) (by omega) (by omega) (by omega)]; exact a1, by rw [hR 7 0 1 (by omega) (by omega) (by omega) (by omega)]; exact a2, by rw [hL 8 0 (by omega) (by omega) (by omega)]; exact a3, by rw [hL 9 0 (by omega) (by omega) (by omega)]; exact a4, ?_, a6, ?_, ?_⟩, ?_, by rw [hI 7 0 3 (by omega) (by omega) (by omega) (by omega)]; exact b2, by rw [hI 7 0 4 (by omega) (by omega) (by omega) (by omega)]; exact b3, by rw [hI 7 0 5 (by omega) (by omega) (by omega) (by omega)]; exact b4⟩, fun c hc => ?_, fun j hj => ?_⟩
  · show ps_N (ps_mk σ 5 0) 5 = tN t + 1
    rw [mk_N1, a5, hn]
  · show ps_N (ps_mk (ps_mk σ 5 0) 10 4) 10 = tN t + 1
    rw [mk_N1, mk_N _ (by decide), a7, hn]
  · show ps_N (ps_mk (ps_mk (ps_mk σ 5 0) 10 4) 11 4) 11 = tN t + 1
    rw [mk_N1, mk_N _ (by decide), mk_N _ (by decide), a8, hn]
  · show _ = nI (tN t + 1)
    rw [hn]
    exact ps_I_eq _ _ _ _ _
  · have hc' : c < n + 1 := by have : c < tN t + 1 := hc; omega
    by_cases hcn : c = n
    · subst hcn
      have z1 : ∀ j, ps_I (ps_mk σ 5 0) 5 c j = 0 := fun j => by
        have : ps_I (ps_mk σ 5 0) 5 c = fun _ => 0 := if_pos ⟨rfl, a5.symm⟩
        rw [this]
      have n11 : ps_N (ps_mk (ps_mk σ 5 0) 10 4) 11 = c := by rw [mk_N _ (by decide), mk_N _ (by decide)]; exact a8
      have f1 : ∀ x f, tS (t_mk t p po d r) c f = x ↔ (if f = 0 then po else if f = 1 then t_eff t p d else if f = 5 then (if 0 ≤ d then d else -1) else 0) = x := fun x f => by rw [← hn, tS_mk1]
      have f2 : tP (t_mk t p po d r) c = p := by rw [← hn]; exact va_up_self _ _ _
      have f3 : tR (t_mk t p po d r) c = r := by rw [← hn]; exact va_up_self _ _ _
      have f4 : ∀ k, tV (t_mk t p po d r) c k = 0 := fun k => by rw [← hn]; exact congrFun (if_pos rfl) k
      have f5 : ∀ k, tB (t_mk t p po d r) c k = 0 := fun k => by rw [← hn]; exact congrFun (if_pos rfl) k
      have g5 : ∀ j, ps_I (sc_add σ c po e (p.map fun c => (5, c)) (some (3, r))) 5 c j = if j = 7 then 0 else if j = 3 then e else if j = 2 then po else if j = 0 then nI c else 0 := by
        intro j
        unfold sc_add sc_init
        dsimp only
        rw [ps_I_k _ (by decide), ps_I_sR, ps_I_sI]
        by_cases j7 : j = 7
        · rw [if_pos ⟨rfl, rfl, j7⟩, if_pos j7]
        · rw [if_neg (fun z : 5 = 5 ∧ c = c ∧ j = 7 => j7 z.2.2), if_neg j7, ps_I_sR, mk_I _ (fun z => absurd z.1 (by decide)), ps_I_sR, mk_I _ (fun z => absurd z.1 (by decide))]
          simp only [ps_I_sI, ps_I_sR, true_and, z1]
      have g6 : ∀ j, ps_R (sc_add σ c po e (p.map fun c => (5, c)) (some (3, r))) 5 c j = if j = 6 then some (11, c) else if j = 5 then some (10, c) else if j = 4 then some (3, r) else if j = 1 then (p.map fun c => (5, c)) else none := by
        intro j
        have zr : ps_R (ps_mk σ 5 0) 5 c = fun _ => none := if_pos ⟨rfl, a5.symm⟩
        unfold sc_add sc_init
        dsimp only
        rw [ps_R_sI, ps_R_k _ (by decide), ps_R_sI, ps_R_sR]
        by_cases j6 : j = 6
        · rw [if_pos ⟨rfl, rfl, j6⟩, if_pos j6]
          exact congrArg (fun z => some (11, z)) n11
        · rw [if_neg (fun z : 5 = 5 ∧ c = c ∧ j = 6 => j6 z.2.2), if_neg j6, mk_R _ (fun z => absurd z.1 (by decide)), ps_R_sR]
          by_cases j5 : j = 5
          · rw [if_pos ⟨rfl, rfl, j5⟩, if_pos j5]
            exact congrArg (fun z => some (10, z)) n10
          · rw [if_neg (fun z : 5 = 5 ∧ c = c ∧ j = 5 => j5 z.2.2), if_neg j5, mk_R _ (fun z => absurd z.1 (by decide))]
            simp only [ps_R_sI, ps_R_sR, true_and, zr]
      refine ⟨⟨?_, ?_, ?_, ?_, ?_, ?_⟩, ⟨?_, ?_, ?_, ?_, fun k hk => ⟨?_, ?_⟩⟩, ?_, ?_, ?_⟩
      · show ps_R (ps_sR _ 8 0 c (some (5, c))) 8 0 c = _
        rw [ps_R_eq]
      · rw [g5]; rfl
      · rw [g6, f2]; rfl
      · rw [g5]; exact ((f1 _ 0).mpr rfl).symm
      · rw [g5]; exact ((f1 _ 1).mpr he).symm
      · rw [g6, f3]; rfl
      · rw [g6]; rfl
      · rw [g6]; rfl
      · show ps_L (ps_mk _ 11 4) 10 c = 4
        rw [mk_L _ (fun z => absurd z.1 (by decide))]
        show ps_L (ps_mk _ 10 4) 10 c = 4
        exact if_pos ⟨rfl, n10.symm⟩
      · show ps_L (ps_mk _ 11 4) 11 c = 4
        exact if_pos ⟨rfl, n11.symm⟩
      · rw [f4]
        unfold sc_add sc_init
        dsimp only
        rw [ps_I_k _ (by decide), ps_I_sR, ps_I_k _ (by decide), ps_I_sR, mk_I _ (fun z => absurd z.1 (by decide)), ps_I_sR]
        exact congrFun (if_pos ⟨rfl, n10.symm⟩ : ps_I (ps_mk _ 10 4) 10 c = fun _ => 0) k
      · rw [f5]
        unfold sc_add sc_init
        dsimp only
        rw [ps_I_k _ (by decide), ps_I_sR, ps_I_k _ (by decide), ps_I_sR]
        exact congrFun (if_pos ⟨rfl, n11.symm⟩ : ps_I (ps_mk _ 11 4) 11 c = fun _ => 0) k
      · rw [g5]; exact ((f1 _ 2).mpr rfl).symm
      · rw [g5]; exact ((f1 _ 3).mpr rfl).symm
      · rw [g5]; exact ((f1 _ 4).mpr rfl).symm
    · have hc2 : c < n := by omega
      obtain ⟨⟨e0, e1, e2, e3, e4, e5⟩, ⟨d1, d2, d3, d4, d5⟩, e6, e7, e8⟩ := h1 c hc2
      have q := fun j => hI 5 c j (by omega) (by omega) (by omega) (by omega)
      have q2 := fun j => hR 5 c j (by omega) (by omega) (by omega) (by omega)
      have f1 := fun f => tS_mk t p po d r (c := c) (by omega) f
      have f2 : tP (t_mk t p po d r) c = tP t c := va_up_ne _ _ (by omega)
      have f3 : tR (t_mk t p po d r) c = tR t c := va_up_ne _ _ (by omega)
      have f4 : ∀ k, tV (t_mk t p po d r) c k = tV t c k := fun k => congrFun (if_neg (by omega)) k
      have f5 : ∀ k, tB (t_mk t p po d r) c k = tB t c k := fun k => congrFun (if_neg (by omega)) k
      refine ⟨⟨by rw [hR 8 0 c (by omega) (by omega) (by omega) (by omega)]; exact e0, by rw [q]; exact e1, by rw [q2, f2]; exact e2, by rw [q, f1]; exact e3, by rw [q, f1]; exact e4, by rw [q2, f3]; exact e5⟩, ⟨by rw [q2]; exact d1, by rw [q2]; exact d2, by rw [hL 10 c (by omega) (by omega) (by omega)]; exact d3, by rw [hL 11 c (by omega) (by omega) (by omega)]; exact d4, fun k hk => ⟨by rw [hI 10 c k (by omega) (by omega) (by omega) (by omega), f4]; exact (d5 k hk).1, by rw [hI 11 c k (by omega) (by omega) (by omega) (by omega), f5]; exact (d5 k hk).2⟩⟩, by rw [q, f1]; exact e6, by rw [q, f1]; exact e7, by rw [q, f1]; exact e8⟩
  · obtain ⟨⟨e0, e1, e2, e3, e4, e5⟩, e6, e7, e8, e9⟩ := h2 j hj
    have q := fun x => hI 6 j x (by omega) (by omega) (by omega) (by omega)
    exact ⟨⟨by rw [hR 9 0 j (by omega) (by omega) (by omega) (by omega)]; exact e0, by rw [hR 6 j 0 (by omega) (by omega) (by omega) (by omega)]; exact e1, by rw [q]; exact e2, by rw [q]; exact e3, by rw [q]; exact e4, by rw [q]; exact e5⟩, by rw [q]; exact e6, by rw [q]; exact e7, by rw [q]; exact e8, by rw [q]; exact e9⟩
theorem uK_mk (t : tT) (c : Nat) (co fn a : Int32) {j : Nat} (h : j ≠ uN t) (f : Nat) : uK (u_mk t c co fn a) j f = uK t j f := congrFun (if_neg h) f
theorem uK_mk1 (t : tT) (c : Nat) (co fn a : Int32) (f : Nat) : uK (u_mk t c co fn a) (uN t) f = if f = 0 then co else if f = 1 then fn else if f = 2 then a else if f = 3 then t_look t c 0 else if f = 4 then (if tS t c 3 = 0 then 0 else 3) else 0 := congrFun (if_pos rfl) f
theorem RT.mkk {σ : ps_S} {t : tT} {co fn a : Int32} {c : Nat} (h : RT σ t) : RT (tk_add σ (uN t) co fn a (t_look t c 0) (some (5, c)) (if tS t c 3 = 0 then 0 else 3)) (u_mk t c co fn a) := by
  obtain ⟨⟨⟨a1, a2, a3, a4, a5, a6, a7, a8⟩, b1, b2, b3, b4⟩, h1, h2⟩ := h
  have g5 : ∀ i j, ps_I (tk_add σ (uN t) co fn a (t_look t c 0) (some (5, c)) (if tS t c 3 = 0 then 0 else 3)) 6 i j = if i = uN t ∧ j = 5 then (if tS t c 3 = 0 then 0 else 3) else if i = uN t ∧ j = 4 then t_look t c 0 else if i = uN t ∧ j = 3 then a else if i = uN t ∧ j = 2 then fn else if i = uN t ∧ j = 1 then co else ps_I (ps_mk σ 6 0) 6 i j := by
    intro i j
    unfold tk_add tk_init
    rw [ps_I_k _ (by decide), ps_I_sR]
    simp only [ps_I_sI, ps_I_sR, true_and]
  have g6 : ∀ i j, ps_R (tk_add σ (uN t) co fn a (t_look t c 0) (some (5, c)) (if tS t c 3 = 0 then 0 else 3)) 6 i j = if i = uN t ∧ j = 0 then some (5, c) else ps_R (ps_mk σ 6 0) 6 i j := by
    intro i j
    unfold tk_add tk_init
    rw [ps_R_sI, ps_R_k _ (by decide)]
    simp only [ps_R_sI, ps_R_sR, true_and]
  have hI : ∀ κ i j, κ ≠ 6 → ¬ (κ = 7 ∧ i = 0 ∧ j = 3) → ps_I (tk_add σ (uN t) co fn a (t_look t c 0) (some (5, c)) (if tS t c 3 = 0 then 0 else 3)) κ i j = ps_I σ κ i j := by
    intro κ i j p1 p2
    have q : ∀ x : Nat, ¬ (κ = 6 ∧ i = uN t ∧ j = x) := fun x z => p1 z.1
    unfold tk_add tk_init
    rw [ps_I_sI, if_neg p2, ps_I_sR]
    simp only [ps_I_sI, ps_I_sR, q, if_false]
    rw [mk_I σ (fun z => p1 z.1)]
  have hR : ∀ κ i j, κ ≠ 6 → ¬ (κ = 9 ∧ i = 0 ∧ j = uN t) → ps_R (tk_add σ (uN t) co fn a (t_look t c 0) (some (5, c)) (if tS t c 3 = 0 then 0 else 3)) κ i j = ps_R σ κ i j := by
    intro κ i j p1 p2
    unfold tk_add tk_init
    rw [ps_R_sI, ps_R_sR, if_neg p2]
    show ps_R (ps_sR (ps_mk σ 6 0) 6 (uN t) 0 (some (5, c))) κ i j = _
    rw [ps_R_k _ p1, mk_R σ (fun z => p1 z.1)]
  have hL : ∀ κ i, κ ≠ 6 → ps_L (tk_add σ (uN t) co fn a (t_look t c 0) (some (5, c)) (if tS t c 3 = 0 then 0 else 3)) κ i = ps_L σ κ i := fun κ i p1 => mk_L σ (fun z => p1 z.1)
  have hN : ∀ κ, κ ≠ 6 → ps_N (tk_add σ (uN t) co fn a (t_look t c 0) (some (5, c)) (if tS t c 3 = 0 then 0 else 3)) κ = ps_N σ κ := fun κ p1 => mk_N σ p1
  refine ⟨⟨⟨by rw [hR 7 0 0 (by decide) (by omega)]; exact a1, by rw [hR 7 0 1 (by decide) (by omega)]; exact a2, by rw [hL 8 0 (by decide)]; exact a3, by rw [hL 9 0 (by decide)]; exact a4, by rw [hN 5 (by decide)]; exact a5, ?_, by rw [hN 10 (by decide)]; exact a7, by rw [hN 11 (by decide)]; exact a8⟩, by rw [hI 7 0 2 (by decide) (by omega)]; exact b1, ps_I_eq _ _ _ _ _, by rw [hI 7 0 4 (by decide) (by omega)]; exact b3, by rw [hI 7 0 5 (by decide) (by omega)]; exact b4⟩, fun x hx => ?_, fun j hj => ?_⟩
  · show ps_N (ps_mk σ 6 0) 6 = uN t + 1
    rw [mk_N1, a6]
  · obtain ⟨⟨e0, e1, e2, e3, e4, e5⟩, ⟨d1, d2, d3, d4, d5⟩, e6, e7, e8⟩ := h1 x hx
    have q := fun j => hI 5 x j (by decide) (by omega)
    have q2 := fun j => hR 5 x j (by decide) (by omega)
    exact ⟨⟨by rw [hR 8 0 x (by decide) (by omega)]; exact e0, by rw [q]; exact e1, by rw [q2]; exact e2, by rw [q]; exact e3, by rw [q]; exact e4, by rw [q2]; exact e5⟩, ⟨by rw [q2]; exact d1, by rw [q2]; exact d2, by rw [hL 10 x (by decide)]; exact d3, by rw [hL 11 x (by decide)]; exact d4, fun k hk => ⟨by rw [hI 10 x k (by decide) (by omega)]; exact (d5 k hk).1, by rw [hI 11 x k (by decide) (by omega)]; exact (d5 k hk).2⟩⟩, by rw [q]; exact e6, by rw [q]; exact e7, by rw [q]; exact e8⟩
  · have hj' : j < uN t + 1 := hj
    by_cases hjn : j = uN t
    · subst hjn
      have z1 : ∀ x, ps_I (ps_mk σ 6 0) 6 (uN t) x = 0 := fun x => by
        have : ps_I (ps_mk σ 6 0) 6 (uN t) = fun _ => 0 := if_pos ⟨rfl, a6.symm⟩
        rw [this]
      have f1 : uO (u_mk t c co fn a) (uN t) = c := va_up_self _ _ _
      have f2 : uT (u_mk t c co fn a) (uN t) = 0 := va_up_self _ _ _
      refine ⟨⟨?_, by rw [g6, f1]; simp, by rw [g5, uK_mk1]; simp, by rw [g5, uK_mk1]; simp, by rw [g5, uK_mk1]; simp, by rw [g5, uK_mk1]; simp⟩, by rw [g5, uK_mk1]; simp, by rw [g5, uK_mk1, z1]; simp, by rw [g5, uK_mk1, z1]; simp, by rw [g5, f2, z1]; simp; decide⟩
      show ps_R (ps_sR _ 9 0 (uN t) (some (6, uN t))) 9 0 (uN t) = _
      rw [ps_R_eq]
    · have hj2 : j < uN t := by omega
      obtain ⟨⟨e0, e1, e2, e3, e4, e5⟩, e6, e7, e8, e9⟩ := h2 j hj2
      have m1 : ps_I (ps_mk σ 6 0) 6 j = ps_I σ 6 j := mk_I σ (by rw [a6]; exact fun z => hjn z.2)
      have m2 : ps_R (ps_mk σ 6 0) 6 j = ps_R σ 6 j := mk_R σ (by rw [a6]; exact fun z => hjn z.2)
      have q : ∀ x, ps_I (tk_add σ (uN t) co fn a (t_look t c 0) (some (5, c)) (if tS t c 3 = 0 then 0 else 3)) 6 j x = ps_I σ 6 j x := fun x => by
        rw [g5]
        simp only [hjn, false_and, if_false, m1]
      have f1 : uO (u_mk t c co fn a) j = uO t j := va_up_ne _ _ hjn
      have f2 : uT (u_mk t c co fn a) j = uT t j := va_up_ne _ _ hjn
      exact ⟨⟨by rw [hR 9 0 j (by decide) (by omega)]; exact e0, by rw [g6, if_neg (fun z => hjn z.1), m2, f1]; exact e1, by rw [q, uK_mk t c co fn a hjn]; exact e2, by rw [q, uK_mk t c co fn a hjn]; exact e3, by rw [q, uK_mk t c co fn a hjn]; exact e4, by rw [q, uK_mk t c co fn a hjn]; exact e5⟩, by rw [q, uK_mk t c co fn a hjn]; exact e6, by rw [q, uK_mk t c co fn a hjn]; exact e7, by rw [q, uK_mk t c co fn a hjn]; exact e8, by rw [q, f2]; exact e9⟩
