/-! What the methods do, as functions on stores: Functions, Stage, StageQueue. -/
def fn_has (f : Int32) : Int32 := if f < 0 then 0 else if 5 < f then 0 else 1
def fn_thr (f a x : Int32) : Int32 := if f = 2 then (if x = a then 1 + (a &&& 7) else 0) else if f = 3 then 1 + (a &&& 7) else if f = 5 then (if a = 0 then 9 else 0) else 0
def fn_mk (f a x : Int32) : Int32 := if f = 0 then x + a else if f = 1 then x * a else if f = 4 then a else if f = 5 then (if a = 0 then 0 else x / a) else x
def st_become (σ : ps_S) (k : Nat) (u v : Int32) : ps_S := ps_sI (ps_sI σ 3 k 6 u) 3 k 7 v
def st_follow (σ : ps_S) (k j : Nat) : ps_S := st_become σ k (if ps_I σ 3 j 6 = 1 then 1 else 3) (ps_I σ 3 j 7)
def st_use (σ : ps_S) (k : Nat) (x : Int32) : ps_S := if fn_thr (ps_I σ 3 k 2) (ps_I σ 3 k 3) x = 0 then st_become σ k 1 (fn_mk (ps_I σ 3 k 2) (ps_I σ 3 k 3) x) else st_become σ k 3 (fn_thr (ps_I σ 3 k 2) (ps_I σ 3 k 3) x)
def st_apply (σ : ps_S) (k j : Nat) : ps_S := if ps_I σ 3 j 6 = 1 then st_use σ k (ps_I σ 3 j 7) else st_follow σ k j
def st_recover (σ : ps_S) (k j : Nat) : ps_S := if ps_I σ 3 j 6 = 1 then st_follow σ k j else st_use σ k (ps_I σ 3 j 7)
def st_handle (σ : ps_S) (k j : Nat) : ps_S := st_use σ k (if ps_I σ 3 j 6 = 1 then ps_I σ 3 j 7 else -1 - ps_I σ 3 j 7)
def st_watch (σ : ps_S) (k j : Nat) : ps_S := if ps_I σ 3 j 6 = 1 ∧ ¬ fn_thr (ps_I σ 3 k 2) (ps_I σ 3 k 3) (ps_I σ 3 j 7) = 0 then st_become σ k 3 (fn_thr (ps_I σ 3 k 2) (ps_I σ 3 k 3) (ps_I σ 3 j 7)) else st_follow σ k j
def st_combine (σ : ps_S) (k i j : Nat) : ps_S := if ps_I σ 3 i 6 = 1 then (if ps_I σ 3 j 6 = 1 then st_use σ k (ps_I σ 3 i 7 + ps_I σ 3 j 7) else st_follow σ k j) else st_follow σ k i
def st_pool (σ : ps_S) (k : Nat) : Int32 := if ps_I σ 3 k 4 = 0 then 0 else if ps_R σ 3 k 9 = none then 1 else 0
def q_app (σ : ps_S) (q r k f n : Nat) : ps_S := if n < 48 then ps_sI (ps_sR σ 4 r ((f + n) % 48) (some (3, k))) 2 q 2 (nI (n + 1)) else σ
def q_take (σ : ps_S) (q f n : Nat) : ps_S := if n = 0 then σ else ps_sI (ps_sI σ 2 q 1 (nI ((f + 1) % 48))) 2 q 2 (nI (n - 1))
/-- the place, from i on, of stage k in the ring r that begins at f: of the next m -/
def q_place (σ : ps_S) (r k f : Nat) : Nat → Nat → Int32
  | 0, _ => -1
  | m + 1, i => if ps_R σ 4 r ((f + i) % 48) = some (3, k) then nI i else q_place σ r k f m (i + 1)
theorem q_ix {f n : Nat} (h1 : f < 48) (h2 : n ≤ 48) : nI f + nI n - (nI f + nI n) / 48 * 48 = nI ((f + n) % 48) := by
  rw [nI_add]
  exact pk_rem (a := f + n) (d := 48) (by omega) (by decide) (by decide)
theorem q_in {σ : ps_S} {r m : Nat} (h : ps_L σ 4 r = 48) (hm : m < 48) : vp_in (nI m) (ps_L σ 4 r) := by
  rw [h]
  exact vp_in_nI hm (by decide)
theorem q_keep {σ : ps_S} {q : Nat} {x v : Int32} (h : ps_I σ 2 q 2 = v) : ps_I (ps_sI σ 2 q 1 x) 2 q 2 = v := by
  show ps_up (ps_I σ) 2 q 1 x 2 q 2 = v
  rw [ps_up_self]
  exact h
