/-! The reference in the store. -/
/-- the model's arrays, by field -/
def m_rf : Nat → Option (Nat × Nat)
  | 2 => some (14, 0)
  | 3 => some (14, 1)
  | 4 => some (14, 2)
  | 6 => some (14, 3)
  | 7 => some (14, 4)
  | 8 => some (14, 5)
  | 9 => some (14, 6)
  | 10 => some (14, 7)
  | 11 => some (16, 0)
  | 12 => some (15, 0)
  | 13 => some (14, 8)
  | 14 => some (15, 1)
  | 17 => some (14, 9)
  | 19 => some (14, 10)
  | 23 => some (14, 11)
  | 24 => some (14, 12)
  | 25 => some (14, 13)
  | 26 => some (14, 14)
  | 27 => some (14, 15)
  | 28 => some (15, 2)
  | 29 => some (15, 3)
  | 30 => some (14, 16)
  | 31 => some (14, 17)
  | 32 => some (15, 4)
  | 33 => some (14, 18)
  | 36 => some (14, 19)
  | 37 => some (14, 20)
  | 38 => some (14, 21)
  | 39 => some (14, 22)
  | 40 => some (14, 23)
  | 41 => some (14, 24)
  | 42 => some (14, 25)
  | 43 => some (14, 26)
  | _ => none
def m_len (κ a : Nat) : Nat := if κ = 16 then 48 else if κ = 15 then (if a = 2 ∨ a = 3 then 12 else 48) else if a = 9 then 200 else if a ≤ 10 ∨ a = 18 then 48 else if a ≤ 17 then 12 else 30
def RM0 (σ : ps_S) : Prop := (∀ f q, m_rf f = some q → ps_R σ 13 0 f = some q) ∧ (∀ κ a, 14 ≤ κ → κ ≤ 16 → ps_L σ κ a = m_len κ a) ∧ ps_N σ 13 = 1
def m_opt : Option Nat → Int32
  | none => -1
  | some j => nI j
def m_in (σ : ps_S) (g : gT) (k : Nat) : Prop :=
  (0 ≤ gF g k 2 ∧ gF g k 2 ≤ 9) ∧ (gF g k 2 < 5 → ∃ a, gI g k = [a] ∧ ps_I σ 14 6 k = nI a) ∧ (gF g k 2 = 5 ∨ gF g k 2 = 6 → ∃ a b, gI g k = [a, b] ∧ ps_I σ 14 6 k = nI a ∧ ps_I σ 14 7 k = nI b) ∧
  (gF g k 2 = 7 ∨ gF g k 2 = 8 → l_N (ps_J σ 16 0 k) < 2 ^ gN g ∧ gI g k = l_set (l_N (ps_J σ 16 0 k)) (gN g))
def RMg (σ : ps_S) (g : gT) (k : Nat) : Prop :=
  (ps_I σ 14 0 k = gF g k 0 ∧ ps_I σ 14 1 k = gF g k 1 ∧ (¬ gF g k 0 = 0 → ps_I σ 14 2 k = nI (gU g k + 1)) ∧ ps_I σ 14 3 k = gF g k 2 ∧ ps_I σ 14 8 k = m_opt (gA g k) ∧ ps_I σ 15 0 k = gF g k 5 ∧ ps_I σ 15 1 k = gF g k 6) ∧
  (gF g k 2 < 7 → ps_I σ 14 4 k = gF g k 3 ∧ ps_I σ 14 5 k = gF g k 4 ∧ ¬ fn_has (gF g k 3) = 0) ∧ m_in σ g k
def RMG (σ : ps_S) (g : gT) : Prop := ps_I σ 13 0 1 = nI (gN g) ∧ ps_I σ 13 0 5 = nI (gC g) ∧ (∀ k, k < gN g → RMg σ g k) ∧ ∀ k, gN g ≤ k → ps_I σ 14 0 k = 0 ∧ ps_I σ 14 1 k = 0 ∧ ps_I σ 15 1 k = 0
/-- the line: p of its places are used up -/
def RML (σ : ps_S) (g : gT) (p : Nat) : Prop := ps_I σ 13 0 15 = nI p ∧ ps_I σ 13 0 16 = nI (p + (gL g).length) ∧ ∀ i k, (gL g)[i]? = some k → ps_I σ 14 9 (p + i) = nI k
def RMP (σ : ps_S) (g : gT) : Prop := ps_I σ 13 0 18 = nI (gP g).length ∧ ∀ i k, (gP g)[i]? = some k → ps_I σ 14 10 i = nI k
def RMs (σ : ps_S) (t : tT) (c : Nat) : Prop :=
  (ps_I σ 14 11 c = m_opt (tP t c) ∧ ps_I σ 14 12 c = tS t c 0 ∧ ps_I σ 14 13 c = tS t c 5 ∧ ps_I σ 14 14 c = tS t c 2 ∧ ps_I σ 14 15 c = nI (tR t c) ∧ ps_I σ 15 2 c = tS t c 3 ∧ ps_I σ 15 3 c = tS t c 4) ∧
  (ps_I σ 14 16 c = m_opt (u_fst t c 1 (uN t)) ∧ ps_I σ 14 17 c = m_opt (u_fst t c 2 (uN t))) ∧ ∀ k, k < 4 → ps_I σ 15 4 (4 * c + k) = tB t c k ∧ ps_I σ 14 18 (4 * c + k) = tV t c k
def RMS (σ : ps_S) (t : tT) : Prop := ps_I σ 13 0 22 = nI (tN t) ∧ (∀ c, c < tN t → RMs σ t c) ∧ ∀ c, tN t ≤ c → (ps_I σ 14 14 c = 0 ∧ ps_I σ 15 2 c = 0 ∧ ps_I σ 15 3 c = 0) ∧ ∀ k, k < 4 → ps_I σ 15 4 (4 * c + k) = 0 ∧ ps_I σ 14 18 (4 * c + k) = 0
def RMk (σ : ps_S) (t : tT) (j : Nat) : Prop :=
  ps_I σ 14 19 j = nI (uO t j) ∧ ps_I σ 14 20 j = uK t j 0 ∧ ps_I σ 14 21 j = uK t j 1 ∧ ps_I σ 14 22 j = uK t j 2 ∧ ps_I σ 14 23 j = uK t j 3 ∧ ps_I σ 14 24 j = uK t j 4 ∧ ps_I σ 14 25 j = uK t j 5 ∧ ps_I σ 14 26 j = uK t j 6
def RMK (σ : ps_S) (t : tT) : Prop := ps_I σ 13 0 35 = nI (uN t) ∧ ps_I σ 13 0 34 = uC t ∧ (∀ j, j < uN t → RMk σ t j) ∧ ∀ j, uN t ≤ j → ps_I σ 14 25 j = 0 ∧ ps_I σ 14 26 j = 0
/-- the graph's part of the reference; the tree's part -/
def RMA (σ : ps_S) (g : gT) (p : Nat) : Prop := RMG σ g ∧ RML σ g p ∧ RMP σ g
def RMB (σ : ps_S) (t : tT) : Prop := RMS σ t ∧ RMK σ t
def RM (σ : ps_S) (t : tT) (g : gT) (p : Nat) : Prop := RM0 σ ∧ RMA σ g p ∧ RMB σ t
/-- which places are the graph's, which the tree's -/
def inMA (κ i j : Nat) : Prop := (κ = 13 ∧ (j = 1 ∨ j = 5 ∨ j = 15 ∨ j = 16 ∨ j = 18 ∨ j = 20 ∨ j = 21)) ∨ (κ = 14 ∧ i ≤ 10) ∨ (κ = 15 ∧ i ≤ 1)
def inMB (κ i j : Nat) : Prop := (κ = 13 ∧ (j = 20 ∨ j = 21 ∨ j = 22 ∨ j = 34 ∨ j = 35)) ∨ (κ = 14 ∧ 11 ≤ i) ∨ (κ = 15 ∧ 2 ≤ i)
def FrA (σ σ' : ps_S) : Prop := (∀ κ i j, ¬ inMA κ i j → ps_I σ' κ i j = ps_I σ κ i j) ∧ (∀ κ, κ ≠ 16 → ps_J σ' κ = ps_J σ κ) ∧ ps_R σ' = ps_R σ ∧ ps_L σ' = ps_L σ ∧ ps_N σ' = ps_N σ
def FrB (σ σ' : ps_S) : Prop := (∀ κ i j, ¬ inMB κ i j → ps_I σ' κ i j = ps_I σ κ i j) ∧ ps_J σ' = ps_J σ ∧ ps_R σ' = ps_R σ ∧ ps_L σ' = ps_L σ ∧ ps_N σ' = ps_N σ
theorem FrA.rf (σ : ps_S) : FrA σ σ := ⟨fun _ _ _ _ => rfl, fun _ _ => rfl, rfl, rfl, rfl⟩
theorem FrA.tr {a b c : ps_S} (h1 : FrA a b) (h2 : FrA b c) : FrA a c := ⟨fun κ i j h => (h2.1 κ i j h).trans (h1.1 κ i j h), fun κ h => (h2.2.1 κ h).trans (h1.2.1 κ h), h2.2.2.1.trans h1.2.2.1, h2.2.2.2.1.trans h1.2.2.2.1, h2.2.2.2.2.trans h1.2.2.2.2⟩
theorem FrB.rf (σ : ps_S) : FrB σ σ := ⟨fun _ _ _ _ => rfl, rfl, rfl, rfl, rfl⟩
theorem FrB.tr {a b c : ps_S} (h1 : FrB a b) (h2 : FrB b c) : FrB a c := ⟨fun κ i j h => (h2.1 κ i j h).trans (h1.1 κ i j h), h2.2.1.trans h1.2.1, h2.2.2.1.trans h1.2.2.1, h2.2.2.2.1.trans h1.2.2.2.1, h2.2.2.2.2.trans h1.2.2.2.2⟩
theorem sI_ne {σ : ps_S} {κ i j : Nat} {v : Int32} {a b c : Nat} (h : ¬ (a = κ ∧ b = i ∧ c = j)) : ps_I (ps_sI σ κ i j v) a b c = ps_I σ a b c := by rw [ps_I_sI]; exact if_neg h
theorem FrA.sI {σ : ps_S} {κ i j : Nat} {v : Int32} (h : inMA κ i j) : FrA σ (ps_sI σ κ i j v) := ⟨fun a b c hn => sI_ne (fun z => hn (by rw [z.1, z.2.1, z.2.2]; exact h)), fun _ _ => rfl, rfl, rfl, rfl⟩
theorem FrB.sI {σ : ps_S} {κ i j : Nat} {v : Int32} (h : inMB κ i j) : FrB σ (ps_sI σ κ i j v) := ⟨fun a b c hn => sI_ne (fun z => hn (by rw [z.1, z.2.1, z.2.2]; exact h)), rfl, rfl, rfl, rfl⟩
theorem ps_J_sJ (σ : ps_S) (κ i j : Nat) (v : Int64) (a b c : Nat) : ps_J (ps_sJ σ κ i j v) a b c = if a = κ ∧ b = i ∧ c = j then v else ps_J σ a b c := by
  show ps_up (ps_J σ) κ i j v a b c = _
  by_cases h : a = κ ∧ b = i
  · obtain ⟨rfl, rfl⟩ := h
    rw [ps_up_self]
    by_cases h2 : c = j
    · rw [if_pos ⟨rfl, rfl, h2⟩, h2, va_up_self]
    · rw [va_up_ne _ _ h2, if_neg (fun z => h2 z.2.2)]
  · rw [ps_up_ne _ _ _ h, if_neg (fun z => h ⟨z.1, z.2.1⟩)]
theorem RM0.A {σ σ' : ps_S} (h : RM0 σ) (hf : FrA σ σ') : RM0 σ' := by
  obtain ⟨h1, h2, h3⟩ := h
  refine ⟨fun f q hq => ?_, fun κ a x y => ?_, ?_⟩
  · rw [hf.2.2.1]; exact h1 f q hq
  · rw [hf.2.2.2.1]; exact h2 κ a x y
  · rw [hf.2.2.2.2]; exact h3
theorem RM0.B {σ σ' : ps_S} (h : RM0 σ) (hf : FrB σ σ') : RM0 σ' := by
  obtain ⟨h1, h2, h3⟩ := h
  refine ⟨fun f q hq => ?_, fun κ a x y => ?_, ?_⟩
  · rw [hf.2.2.1]; exact h1 f q hq
  · rw [hf.2.2.2.1]; exact h2 κ a x y
  · rw [hf.2.2.2.2]; exact h3
theorem RMB.A {σ σ' : ps_S} {t : tT} (h : RMB σ t) (hf : FrA σ σ') : RMB σ' t := by
  have e13 : ∀ j, 22 ≤ j → ps_I σ' 13 0 j = ps_I σ 13 0 j := fun j hj => hf.1 13 0 j (by unfold inMA; omega)
  have e14 : ∀ i j, 11 ≤ i → ps_I σ' 14 i j = ps_I σ 14 i j := fun i j hi => hf.1 14 i j (by unfold inMA; omega)
  have e15 : ∀ i j, 2 ≤ i → ps_I σ' 15 i j = ps_I σ 15 i j := fun i j hi => hf.1 15 i j (by unfold inMA; omega)
  unfold RMB RMS RMK RMs RMk at h ⊢
  simp only [e13 22 (by decide), e13 34 (by decide), e13 35 (by decide), e14 11 _ (by decide), e14 12 _ (by decide), e14 13 _ (by decide), e14 14 _ (by decide), e14 15 _ (by decide), e14 16 _ (by decide), e14 17 _ (by decide), e14 18 _ (by decide), e14 19 _ (by decide), e14 20 _ (by decide), e14 21 _ (by decide), e14 22 _ (by decide), e14 23 _ (by decide), e14 24 _ (by decide), e14 25 _ (by decide), e14 26 _ (by decide), e15 2 _ (by decide), e15 3 _ (by decide), e15 4 _ (by decide)]
  exact h
theorem RMA.B {σ σ' : ps_S} {g : gT} {p : Nat} (h : RMA σ g p) (hf : FrB σ σ') : RMA σ' g p := by
  have e13 : ∀ j, (j = 1 ∨ j = 5 ∨ j = 15 ∨ j = 16 ∨ j = 18) → ps_I σ' 13 0 j = ps_I σ 13 0 j := fun j hj => hf.1 13 0 j (by unfold inMB; omega)
  have e14 : ∀ i j, i ≤ 10 → ps_I σ' 14 i j = ps_I σ 14 i j := fun i j hi => hf.1 14 i j (by unfold inMB; omega)
  have e15 : ∀ i j, i ≤ 1 → ps_I σ' 15 i j = ps_I σ 15 i j := fun i j hi => hf.1 15 i j (by unfold inMB; omega)
  unfold RMA RMG RML RMP RMg m_in at h ⊢
  simp only [hf.2.1, e13 1 (by decide), e13 5 (by decide), e13 15 (by decide), e13 16 (by decide), e13 18 (by decide), e14 0 _ (by decide), e14 1 _ (by decide), e14 2 _ (by decide), e14 3 _ (by decide), e14 4 _ (by decide), e14 5 _ (by decide), e14 6 _ (by decide), e14 7 _ (by decide), e14 8 _ (by decide), e14 9 _ (by decide), e14 10 _ (by decide), e15 0 _ (by decide), e15 1 _ (by decide)]
  exact h
theorem m_f {σ : ps_S} (h : RM0 σ) (f : Nat) {q : Nat × Nat} (hq : m_rf f = some q) : ps_R σ 13 0 f = some q := h.1 f q hq
theorem m_ix {σ : ps_S} (h : RM0 σ) (κ a : Nat) {k : Nat} (h1 : 14 ≤ κ) (h2 : κ ≤ 16) (hk : k < m_len κ a) : vp_in (nI k) (ps_L σ κ a) := by
  rw [h.2.1 κ a h1 h2]
  refine vp_in_nI hk ?_
  unfold m_len
  split
  · decide
  · split
    · split <;> decide
    · split
      · decide
      · split
        · decide
        · split <;> decide
/-- the shift that keeps the sign -/
def l_sa (x : Int64) (n : Nat) : Int64 := x >>> ((nI n).toInt64 &&& 63)
theorem sa_amt {n : Nat} (h : n < 64) : (((nI n).toInt64 &&& 63).toBitVec.smod 64).toNat = n := by
  have key : ∀ k : Fin 64, (((nI k.val).toInt64 &&& 63).toBitVec.smod 64).toNat = k.val := by decide +kernel
  exact key ⟨n, h⟩
theorem l_N_sa {x : Int64} {n : Nat} (hn : n < 64) (hx : l_N x < 2 ^ 63) : l_N (l_sa x n) = l_N x / 2 ^ n := by
  have hm : x.toBitVec.msb = false := by
    rw [BitVec.msb_eq_decide, decide_eq_false_iff_not]
    have : x.toBitVec.toNat < 2 ^ 63 := hx
    show ¬ 2 ^ 63 ≤ _
    omega
  show (x >>> ((nI n).toInt64 &&& 63)).toBitVec.toNat = _
  rw [Int64.toBitVec_shiftRight, BitVec.sshiftRight_eq', sa_amt hn, BitVec.sshiftRight_eq_of_msb_false hm, BitVec.toNat_ushiftRight, Nat.shiftRight_eq_div_pow]
  rfl
theorem l_bita {x : Int64} {i : Nat} (h : i < 64) (hx : l_N x < 2 ^ 63) : (l_sa x i &&& 1 = 1) ↔ (l_N x).testBit i = true := by
  have e : l_N (l_sa x i &&& 1) = l_N x / 2 ^ i % 2 := by
    rw [l_N_and, l_N_sa h hx, show l_N 1 = 2 ^ 1 - 1 from rfl, Nat.and_two_pow_sub_one_eq_mod]
  rw [Nat.testBit_eq_decide_div_mod_eq, decide_eq_true_iff]
  constructor
  · intro z
    rw [z] at e
    have : l_N 1 = 1 := rfl
    omega
  · intro z
    exact l_N_inj (by rw [e, z]; rfl)
theorem lg_cmpe {x y : Int64} : lg_cmp x y = 0 ↔ x = y := by
  unfold lg_cmp
  by_cases h1 : x > y
  · rw [if_pos h1]
    refine ⟨fun z => absurd z (by decide), fun z => ?_⟩
    rw [z] at h1
    exact absurd h1 (Int64.lt_irrefl)
  · rw [if_neg h1]
    by_cases h2 : x = y
    · rw [if_pos h2]; exact ⟨fun _ => h2, fun _ => rfl⟩
    · rw [if_neg h2]; exact ⟨fun z => absurd z (by decide), fun z => absurd z h2⟩
