/-! constructors; places in the pool -/
def q_init (σ : ps_S) (q : Nat) : ps_S := ps_sR (ps_mk σ 4 48) 2 q 0 (some (4, ps_N σ 4))
def gr_1 (σ : ps_S) : ps_S := ps_sR (ps_mk σ 4 48) 1 0 0 (some (4, ps_N σ 4))
def gr_2 (σ : ps_S) : ps_S := ps_sR (q_init (ps_mk (gr_1 σ) 2 0) (ps_N (gr_1 σ) 2)) 1 0 1 (some (2, ps_N (gr_1 σ) 2))
def gr_init (σ : ps_S) : ps_S := ps_sR (q_init (ps_mk (gr_2 σ) 2 0) (ps_N (gr_2 σ) 2)) 1 0 2 (some (2, ps_N (gr_2 σ) 2))
def g_0 : gT := (0, fun _ _ => 0, fun _ => [], fun _ => none, fun _ => 0, 0, [], [])
def g_ix (k : Nat) : List Nat → Nat → Int32
  | [], _ => -1
  | a :: r, i => if a = k then nI i else g_ix k r (i + 1)
theorem q_place_ix {σ : ps_S} {r k f : Nat} : ∀ (x : List Nat) (i : Nat), (∀ j z, x[j]? = some z → ps_R σ 4 r ((f + (i + j)) % 48) = some (3, z)) → q_place σ r k f x.length i = g_ix k x i
  | [], i, _ => rfl
  | a :: x, i, h => by
    have h0 := h 0 a rfl
    rw [Nat.add_zero] at h0
    rw [List.length_cons, q_place, g_ix, h0, q_place_ix x (i + 1) (fun j z hj => by
      have := h (j + 1) z (by rw [List.getElem?_cons_succ]; exact hj)
      rw [show i + 1 + j = i + (j + 1) by omega]
      exact this)]
    by_cases hk : a = k
    · rw [if_pos hk, if_pos (by rw [hk])]
    · rw [if_neg hk, if_neg (fun z => hk (by injection z with z; injection z))]
def l_sh (set : Int64) (n : Nat) : Int64 := (set.toUInt64 >>> ((nI n).toInt64.toUInt64 &&& Int64.toUInt64 63)).toInt64
def g_hasAll (g : gT) (set : Int64) : Int32 := if lg_cmp set 0 = 0 then 0 else if lg_cmp (l_sh set (gN g)) 0 = 0 then 1 else 0
