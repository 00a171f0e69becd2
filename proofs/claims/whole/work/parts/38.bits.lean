/-! Bits: how java.lang.Long counts them. -/
theorem and_dig (k : Nat) {a b c d : Nat} (hb : b < 2 ^ k) (hd : d < 2 ^ k) : (2 ^ k * a + b) &&& (2 ^ k * c + d) = 2 ^ k * (a &&& c) + (b &&& d) := by
  refine Nat.eq_of_testBit_eq fun j => ?_
  rw [Nat.testBit_and, Nat.testBit_two_pow_mul_add _ hb, Nat.testBit_two_pow_mul_add _ hd, Nat.testBit_two_pow_mul_add _ (Nat.and_lt_two_pow b hd)]
  split
  · rw [Nat.testBit_and]
  · rw [Nat.testBit_and]
theorem and_by {a b c d : Nat} (hb : b < 256) (hd : d < 256) : (b + 256 * a) &&& (d + 256 * c) = (b &&& d) + 256 * (a &&& c) := by
  have h := and_dig 8 (a := a) (b := b) (c := c) (d := d) hb hd
  rw [Nat.add_comm b, Nat.add_comm d, Nat.add_comm (b &&& d)]
  exact h
/-- eight bytes -/
def V8 (b0 b1 b2 b3 b4 b5 b6 b7 : Nat) : Nat := b0 + 256 * (b1 + 256 * (b2 + 256 * (b3 + 256 * (b4 + 256 * (b5 + 256 * (b6 + 256 * b7))))))
theorem and_V8 {b0 b1 b2 b3 b4 b5 b6 b7 m : Nat} (h0 : b0 < 256) (h1 : b1 < 256) (h2 : b2 < 256) (h3 : b3 < 256) (h4 : b4 < 256) (h5 : b5 < 256) (h6 : b6 < 256) (hm : m < 256) :
    V8 b0 b1 b2 b3 b4 b5 b6 b7 &&& V8 m m m m m m m m = V8 (b0 &&& m) (b1 &&& m) (b2 &&& m) (b3 &&& m) (b4 &&& m) (b5 &&& m) (b6 &&& m) (b7 &&& m) := by
  unfold V8
  rw [and_by h0 hm, and_by h1 hm, and_by h2 hm, and_by h3 hm, and_by h4 hm, and_by h5 hm, and_by h6 hm]
def by1 (r : Nat) : Nat := r - ((r / 2) &&& 85)
def by2 (r : Nat) : Nat := (by1 r &&& 51) + ((by1 r / 4) &&& 51)
def by3 (r : Nat) : Nat := by2 r % 16 + by2 r / 16
theorem tb {P : Nat → Prop} [DecidablePred P] (h : ∀ r : Fin 256, P r.val) {r : Nat} (hr : r < 256) : P r := h ⟨r, hr⟩
theorem by_a1 : ∀ r : Fin 256, ∀ c : Fin 2, (r.val / 2 + 128 * c.val) &&& 85 = (r.val / 2) &&& 85 ∧ (r.val / 2) &&& 85 ≤ r.val ∧ by1 r.val < 256 := by decide +kernel
theorem by_a2 : ∀ r : Fin 256, ∀ c : Fin 4, (by1 r.val / 4 + 64 * c.val) &&& 51 = (by1 r.val / 4) &&& 51 := by decide +kernel
theorem by_a3 : ∀ r : Fin 256, ∀ c : Fin 5, (by2 r.val + by2 r.val / 16 + 16 * c.val) &&& 15 = by3 r.val ∧ by2 r.val ≤ 68 ∧ by2 r.val % 16 ≤ 4 ∧ by3 r.val ≤ 8 := by decide +kernel
def by_c (r : Nat) : Nat := (r.testBit 0).toNat + (r.testBit 1).toNat + (r.testBit 2).toNat + (r.testBit 3).toNat + (r.testBit 4).toNat + (r.testBit 5).toNat + (r.testBit 6).toNat + (r.testBit 7).toNat
theorem by_c3 : ∀ r : Fin 256, by3 r.val = by_c r.val := by decide +kernel
theorem st1 {b0 b1 b2 b3 b4 b5 b6 b7 : Nat} (h0 : b0 < 256) (h1 : b1 < 256) (h2 : b2 < 256) (h3 : b3 < 256) (h4 : b4 < 256) (h5 : b5 < 256) (h6 : b6 < 256) (h7 : b7 < 256) :
    (V8 b0 b1 b2 b3 b4 b5 b6 b7 / 2) &&& V8 85 85 85 85 85 85 85 85 ≤ V8 b0 b1 b2 b3 b4 b5 b6 b7 ∧ V8 b0 b1 b2 b3 b4 b5 b6 b7 - ((V8 b0 b1 b2 b3 b4 b5 b6 b7 / 2) &&& V8 85 85 85 85 85 85 85 85) = V8 (by1 b0) (by1 b1) (by1 b2) (by1 b3) (by1 b4) (by1 b5) (by1 b6) (by1 b7) := by
  have e : V8 b0 b1 b2 b3 b4 b5 b6 b7 / 2 = V8 (b0 / 2 + 128 * (b1 % 2)) (b1 / 2 + 128 * (b2 % 2)) (b2 / 2 + 128 * (b3 % 2)) (b3 / 2 + 128 * (b4 % 2)) (b4 / 2 + 128 * (b5 % 2)) (b5 / 2 + 128 * (b6 % 2)) (b6 / 2 + 128 * (b7 % 2)) (b7 / 2 + 128 * (0 % 2)) := by
    unfold V8; omega
  have q : ∀ {r : Nat} (c : Nat), r < 256 → (r / 2 + 128 * (c % 2)) &&& 85 = (r / 2) &&& 85 ∧ (r / 2) &&& 85 ≤ r := fun {r} c hr => ⟨(by_a1 ⟨r, hr⟩ ⟨c % 2, Nat.mod_lt _ (by decide)⟩).1, (by_a1 ⟨r, hr⟩ 0).2.1⟩
  rw [e, and_V8 (by omega) (by omega) (by omega) (by omega) (by omega) (by omega) (by omega) (by decide), (q b1 h0).1, (q b2 h1).1, (q b3 h2).1, (q b4 h3).1, (q b5 h4).1, (q b6 h5).1, (q b7 h6).1, (q 0 h7).1]
  have g0 := (q 0 h0).2
  have g1 := (q 0 h1).2
  have g2 := (q 0 h2).2
  have g3 := (q 0 h3).2
  have g4 := (q 0 h4).2
  have g5 := (q 0 h5).2
  have g6 := (q 0 h6).2
  have g7 := (q 0 h7).2
  unfold V8 by1
  omega
theorem st2 {b0 b1 b2 b3 b4 b5 b6 b7 : Nat} (h0 : b0 < 256) (h1 : b1 < 256) (h2 : b2 < 256) (h3 : b3 < 256) (h4 : b4 < 256) (h5 : b5 < 256) (h6 : b6 < 256) (h7 : b7 < 256) :
    (V8 (by1 b0) (by1 b1) (by1 b2) (by1 b3) (by1 b4) (by1 b5) (by1 b6) (by1 b7) &&& V8 51 51 51 51 51 51 51 51) + ((V8 (by1 b0) (by1 b1) (by1 b2) (by1 b3) (by1 b4) (by1 b5) (by1 b6) (by1 b7) / 4) &&& V8 51 51 51 51 51 51 51 51) = V8 (by2 b0) (by2 b1) (by2 b2) (by2 b3) (by2 b4) (by2 b5) (by2 b6) (by2 b7) := by
  have r : ∀ {r : Nat}, r < 256 → by1 r < 256 := fun {r} hr => (by_a1 ⟨r, hr⟩ 0).2.2
  have r0 := r h0
  have r1 := r h1
  have r2 := r h2
  have r3 := r h3
  have r4 := r h4
  have r5 := r h5
  have r6 := r h6
  have r7 := r h7
  have q : ∀ {r : Nat} (c : Nat), r < 256 → (by1 r / 4 + 64 * (c % 4)) &&& 51 = (by1 r / 4) &&& 51 := fun {r} c hr => by_a2 ⟨r, hr⟩ ⟨c % 4, Nat.mod_lt _ (by decide)⟩
  have e : V8 (by1 b0) (by1 b1) (by1 b2) (by1 b3) (by1 b4) (by1 b5) (by1 b6) (by1 b7) / 4 = V8 (by1 b0 / 4 + 64 * (by1 b1 % 4)) (by1 b1 / 4 + 64 * (by1 b2 % 4)) (by1 b2 / 4 + 64 * (by1 b3 % 4)) (by1 b3 / 4 + 64 * (by1 b4 % 4)) (by1 b4 / 4 + 64 * (by1 b5 % 4)) (by1 b5 / 4 + 64 * (by1 b6 % 4)) (by1 b6 / 4 + 64 * (by1 b7 % 4)) (by1 b7 / 4 + 64 * (0 % 4)) := by
    unfold V8; omega
  rw [e, and_V8 r0 r1 r2 r3 r4 r5 r6 (by decide), and_V8 (by omega) (by omega) (by omega) (by omega) (by omega) (by omega) (by omega) (by decide), q _ h0, q _ h1, q _ h2, q _ h3, q _ h4, q _ h5, q _ h6, q _ h7]
  unfold V8 by2
  omega
theorem st3 {b0 b1 b2 b3 b4 b5 b6 b7 : Nat} (h0 : b0 < 256) (h1 : b1 < 256) (h2 : b2 < 256) (h3 : b3 < 256) (h4 : b4 < 256) (h5 : b5 < 256) (h6 : b6 < 256) (h7 : b7 < 256) :
    (V8 (by2 b0) (by2 b1) (by2 b2) (by2 b3) (by2 b4) (by2 b5) (by2 b6) (by2 b7) + V8 (by2 b0) (by2 b1) (by2 b2) (by2 b3) (by2 b4) (by2 b5) (by2 b6) (by2 b7) / 16) &&& V8 15 15 15 15 15 15 15 15 = V8 (by3 b0) (by3 b1) (by3 b2) (by3 b3) (by3 b4) (by3 b5) (by3 b6) (by3 b7) := by
  have r : ∀ {r : Nat}, r < 256 → by2 r ≤ 68 ∧ by2 r % 16 ≤ 4 := fun {r} hr => ⟨(by_a3 ⟨r, hr⟩ 0).2.1, (by_a3 ⟨r, hr⟩ 0).2.2.1⟩
  have r0 := r h0
  have r1 := r h1
  have r2 := r h2
  have r3 := r h3
  have r4 := r h4
  have r5 := r h5
  have r6 := r h6
  have r7 := r h7
  have q : ∀ {r : Nat} {c : Nat}, r < 256 → c ≤ 4 → (by2 r + by2 r / 16 + 16 * c) &&& 15 = by3 r := fun {r c} hr hc => (by_a3 ⟨r, hr⟩ ⟨c, by omega⟩).1
  have e : V8 (by2 b0) (by2 b1) (by2 b2) (by2 b3) (by2 b4) (by2 b5) (by2 b6) (by2 b7) + V8 (by2 b0) (by2 b1) (by2 b2) (by2 b3) (by2 b4) (by2 b5) (by2 b6) (by2 b7) / 16 = V8 (by2 b0 + by2 b0 / 16 + 16 * (by2 b1 % 16)) (by2 b1 + by2 b1 / 16 + 16 * (by2 b2 % 16)) (by2 b2 + by2 b2 / 16 + 16 * (by2 b3 % 16)) (by2 b3 + by2 b3 / 16 + 16 * (by2 b4 % 16)) (by2 b4 + by2 b4 / 16 + 16 * (by2 b5 % 16)) (by2 b5 + by2 b5 / 16 + 16 * (by2 b6 % 16)) (by2 b6 + by2 b6 / 16 + 16 * (by2 b7 % 16)) (by2 b7 + by2 b7 / 16 + 16 * 0) := by
    unfold V8; omega
  rw [e, and_V8 (by omega) (by omega) (by omega) (by omega) (by omega) (by omega) (by omega) (by decide), q h0 r1.2, q h1 r2.2, q h2 r3.2, q h3 r4.2, q h4 r5.2, q h5 r6.2, q h6 r7.2, q h7 (by decide)]
theorem st4 {p0 p1 p2 p3 p4 p5 p6 p7 w : Nat} (h0 : p0 ≤ 8) (h1 : p1 ≤ 8) (h2 : p2 ≤ 8) (h3 : p3 ≤ 8) (h4 : p4 ≤ 8) (h5 : p5 ≤ 8) (h6 : p6 ≤ 8) (h7 : p7 ≤ 8) (hw : w = V8 p0 p1 p2 p3 p4 p5 p6 p7) :
    w < 2 ^ 60 ∧ (w + w / 256 + (w + w / 256) / 65536 + (w + w / 256 + (w + w / 256) / 65536) / 4294967296) % 128 = p0 + p1 + p2 + p3 + p4 + p5 + p6 + p7 := by
  have e1 : w + w / 256 = V8 (p0 + p1) (p1 + p2) (p2 + p3) (p3 + p4) (p4 + p5) (p5 + p6) (p6 + p7) p7 := by
    rw [hw]; unfold V8; omega
  have e2 : w + w / 256 + (w + w / 256) / 65536 = V8 (p0 + p1 + (p2 + p3)) (p1 + p2 + (p3 + p4)) (p2 + p3 + (p4 + p5)) (p3 + p4 + (p5 + p6)) (p4 + p5 + (p6 + p7)) (p5 + p6 + p7) (p6 + p7) p7 := by
    rw [e1]; unfold V8; omega
  have e3 : (w + w / 256 + (w + w / 256) / 65536) / 4294967296 = (p4 + p5 + (p6 + p7)) + 256 * ((p5 + p6 + p7) + 256 * ((p6 + p7) + 256 * p7)) := by
    rw [e2]; unfold V8; omega
  refine ⟨by rw [hw]; unfold V8; omega, ?_⟩
  rw [e3, e2]
  unfold V8
  omega
/-- how many of the first n bits are set -/
def l_cnt (x : Nat) : Nat → Nat
  | 0 => 0
  | n + 1 => l_cnt x n + (x.testBit n).toNat
theorem by_cx (x k : Nat) : by_c (x / 2 ^ k % 256) = (x.testBit k).toNat + (x.testBit (1 + k)).toNat + (x.testBit (2 + k)).toNat + (x.testBit (3 + k)).toNat + (x.testBit (4 + k)).toNat + (x.testBit (5 + k)).toNat + (x.testBit (6 + k)).toNat + (x.testBit (7 + k)).toNat := by
  have h : ∀ i, i < 8 → (x / 2 ^ k % 256).testBit i = x.testBit (i + k) := fun i hi => by
    rw [show (256 : Nat) = 2 ^ 8 from rfl, Nat.testBit_mod_two_pow, Nat.testBit_div_two_pow]
    simp [hi]
  unfold by_c
  rw [h 0 (by decide), h 1 (by decide), h 2 (by decide), h 3 (by decide), h 4 (by decide), h 5 (by decide), h 6 (by decide), h 7 (by decide), Nat.zero_add]
theorem cnt_8 (x n : Nat) : l_cnt x (n + 8) = l_cnt x n + by_c (x / 2 ^ n % 256) := by
  rw [by_cx]
  simp only [l_cnt]
  rw [Nat.add_comm 1 n, Nat.add_comm 2 n, Nat.add_comm 3 n, Nat.add_comm 4 n, Nat.add_comm 5 n, Nat.add_comm 6 n, Nat.add_comm 7 n]
  omega
theorem cnt_64 (x : Nat) : l_cnt x 64 = by_c (x % 256) + by_c (x / 2 ^ 8 % 256) + by_c (x / 2 ^ 16 % 256) + by_c (x / 2 ^ 24 % 256) + by_c (x / 2 ^ 32 % 256) + by_c (x / 2 ^ 40 % 256) + by_c (x / 2 ^ 48 % 256) + by_c (x / 2 ^ 56 % 256) := by
  rw [cnt_8 x 56, cnt_8 x 48, cnt_8 x 40, cnt_8 x 32, cnt_8 x 24, cnt_8 x 16, cnt_8 x 8, cnt_8 x 0, Nat.pow_zero, Nat.div_one]
  show 0 + _ + _ + _ + _ + _ + _ + _ + _ = _
  rw [Nat.zero_add]
theorem cnt_le (x : Nat) : ∀ n, l_cnt x n ≤ n
  | 0 => Nat.le_refl _
  | n + 1 => by
    have := cnt_le x n
    rw [l_cnt]
    cases x.testBit n <;> simp <;> omega
theorem bc_nat {x a1 a2 a3 : Nat} (hx : x < 2 ^ 64) (h1 : a1 = x - ((x / 2) &&& 6148914691236517205)) (h2 : a2 = (a1 &&& 3689348814741910323) + ((a1 / 4) &&& 3689348814741910323)) (h3 : a3 = (a2 + a2 / 16) &&& 1085102592571150095) :
    (x / 2) &&& 6148914691236517205 ≤ x ∧ (a1 &&& 3689348814741910323) + ((a1 / 4) &&& 3689348814741910323) < 2 ^ 64 ∧ a2 + a2 / 16 < 2 ^ 64 ∧ a3 < 2 ^ 60 ∧ (a3 + a3 / 256 + (a3 + a3 / 256) / 65536 + (a3 + a3 / 256 + (a3 + a3 / 256) / 65536) / 4294967296) % 128 = l_cnt x 64 := by
  have hb : ∀ k, x / 2 ^ k % 256 < 256 := fun k => Nat.mod_lt _ (by decide)
  have e0 : x = V8 (x % 256) (x / 2 ^ 8 % 256) (x / 2 ^ 16 % 256) (x / 2 ^ 24 % 256) (x / 2 ^ 32 % 256) (x / 2 ^ 40 % 256) (x / 2 ^ 48 % 256) (x / 2 ^ 56 % 256) := by
    unfold V8; omega
  have hb0 : x % 256 < 256 := Nat.mod_lt _ (by decide)
  obtain ⟨s1, s2⟩ := st1 hb0 (hb 8) (hb 16) (hb 24) (hb 32) (hb 40) (hb 48) (hb 56)
  rw [← e0, show V8 85 85 85 85 85 85 85 85 = 6148914691236517205 from rfl] at s1 s2
  have s3 := st2 hb0 (hb 8) (hb 16) (hb 24) (hb 32) (hb 40) (hb 48) (hb 56)
  rw [show V8 51 51 51 51 51 51 51 51 = 3689348814741910323 from rfl, ← s2, ← h1] at s3
  have s4 := st3 hb0 (hb 8) (hb 16) (hb 24) (hb 32) (hb 40) (hb 48) (hb 56)
  rw [show V8 15 15 15 15 15 15 15 15 = 1085102592571150095 from rfl, ← s3, ← h2, ← h3] at s4
  have r2 : ∀ {r : Nat}, r < 256 → by2 r ≤ 68 := fun {r} hr => (by_a3 ⟨r, hr⟩ 0).2.1
  have r3 : ∀ {r : Nat}, r < 256 → by3 r ≤ 8 := fun {r} hr => (by_a3 ⟨r, hr⟩ 0).2.2.2
  have r4 : ∀ {r : Nat}, r < 256 → by3 r = by_c r := fun {r} hr => by_c3 ⟨r, hr⟩
  have ha2 : a2 < 2 ^ 63 := by
    rw [h2, s3]
    have t0 := r2 hb0
    have t1 := r2 (hb 8)
    have t2 := r2 (hb 16)
    have t3 := r2 (hb 24)
    have t4 := r2 (hb 32)
    have t5 := r2 (hb 40)
    have t6 := r2 (hb 48)
    have t7 := r2 (hb 56)
    unfold V8
    omega
  obtain ⟨u1, u2⟩ := st4 (r3 hb0) (r3 (hb 8)) (r3 (hb 16)) (r3 (hb 24)) (r3 (hb 32)) (r3 (hb 40)) (r3 (hb 48)) (r3 (hb 56)) s4
  refine ⟨s1, by rw [← h2]; omega, by omega, u1, ?_⟩
  rw [u2, cnt_64, r4 hb0, r4 (hb 8), r4 (hb 16), r4 (hb 24), r4 (hb 32), r4 (hb 40), r4 (hb 48), r4 (hb 56)]
def l_N (x : Int64) : Nat := x.toBitVec.toNat
theorem l_N_lt (x : Int64) : l_N x < 2 ^ 64 := x.toBitVec.isLt
theorem l_N_and (x y : Int64) : l_N (x &&& y) = l_N x &&& l_N y := by
  unfold l_N
  rw [Int64.toBitVec_and, BitVec.toNat_and]
theorem l_N_add {x y : Int64} (h : l_N x + l_N y < 2 ^ 64) : l_N (x + y) = l_N x + l_N y := by
  unfold l_N at h ⊢
  rw [Int64.toBitVec_add, BitVec.toNat_add, Nat.mod_eq_of_lt h]
theorem l_N_sub {x y : Int64} (h : l_N y ≤ l_N x) : l_N (x - y) = l_N x - l_N y := by
  have h1 := l_N_lt x
  have h2 := l_N_lt y
  unfold l_N at h h1 h2 ⊢
  rw [Int64.toBitVec_sub, BitVec.toNat_sub]
  omega
theorem l_N_inj {x y : Int64} (h : l_N x = l_N y) : x = y := Int64.toBitVec_inj.mp (BitVec.eq_of_toNat_eq h)
theorem sh_amt {n : Nat} (h : n < 64) : ((nI n).toInt64.toUInt64 &&& Int64.toUInt64 63).toNat = n := by
  have key : ∀ k : Fin 64, ((nI k.val).toInt64.toUInt64 &&& Int64.toUInt64 63).toNat = k.val := by decide +kernel
  exact key ⟨n, h⟩
theorem l_N_sh (x : Int64) {n : Nat} (h : n < 64) : l_N (l_sh x n) = l_N x / 2 ^ n := by
  unfold l_N l_sh
  rw [UInt64.toBitVec_toInt64]
  show (x.toUInt64 >>> _).toNat = _
  rw [UInt64.toNat_shiftRight, sh_amt h, Nat.mod_eq_of_lt h, Nat.shiftRight_eq_div_pow]
  rfl
def l_b1 (x : Int64) : Int64 := x - (l_sh x 1 &&& 6148914691236517205)
def l_b2 (x : Int64) : Int64 := (x &&& 3689348814741910323) + (l_sh x 2 &&& 3689348814741910323)
def l_b3 (x : Int64) : Int64 := (x + l_sh x 4) &&& 1085102592571150095
def l_b4 (k : Nat) (x : Int64) : Int64 := x + l_sh x k
def l_bc (x : Int64) : Int32 := (l_b4 32 (l_b4 16 (l_b4 8 (l_b3 (l_b2 (l_b1 x)))))).toInt32 &&& 127
theorem l_low {x : Int64} : x.toInt32 &&& 127 = nI (l_N x % 128) := by
  refine Int32.toBitVec_inj.mp (BitVec.eq_of_toNat_eq ?_)
  have h1 : x.toInt32.toBitVec.toNat = l_N x % 2 ^ 32 := by
    rw [Int64.toBitVec_toInt32, BitVec.signExtend_eq_setWidth_of_le _ (by decide), BitVec.toNat_setWidth]
    rfl
  rw [Int32.toBitVec_and, BitVec.toNat_and, h1, show (127 : Int32).toBitVec.toNat = 2 ^ 7 - 1 from rfl, Nat.and_two_pow_sub_one_eq_mod]
  show l_N x % 2 ^ 32 % 2 ^ 7 = (BitVec.ofNat 32 (l_N x % 128)).toNat
  rw [BitVec.toNat_ofNat]
  omega
theorem l_bc_eq (x : Int64) : l_bc x = nI (l_cnt (l_N x) 64) := by
  obtain ⟨q1, q2, q3, q4, q5⟩ := bc_nat (l_N_lt x) rfl rfl rfl
  have e1 : l_N (l_b1 x) = l_N x - ((l_N x / 2) &&& 6148914691236517205) := by
    have : l_N (l_sh x 1 &&& 6148914691236517205) = (l_N x / 2) &&& 6148914691236517205 := by
      rw [l_N_and, l_N_sh x (by decide)]; rfl
    rw [l_b1, l_N_sub (by rw [this]; exact q1), this]
  have e2 : l_N (l_b2 (l_b1 x)) = (l_N (l_b1 x) &&& 3689348814741910323) + ((l_N (l_b1 x) / 4) &&& 3689348814741910323) := by
    have h1 : l_N (l_b1 x &&& 3689348814741910323) = l_N (l_b1 x) &&& 3689348814741910323 := by rw [l_N_and]; rfl
    have h2 : l_N (l_sh (l_b1 x) 2 &&& 3689348814741910323) = (l_N (l_b1 x) / 4) &&& 3689348814741910323 := by rw [l_N_and, l_N_sh _ (by decide)]; rfl
    rw [l_b2, l_N_add (by rw [h1, h2, e1]; exact q2), h1, h2]
  have e3 : l_N (l_b3 (l_b2 (l_b1 x))) = (l_N (l_b2 (l_b1 x)) + l_N (l_b2 (l_b1 x)) / 16) &&& 1085102592571150095 := by
    have h2 : l_N (l_sh (l_b2 (l_b1 x)) 4) = l_N (l_b2 (l_b1 x)) / 16 := by rw [l_N_sh _ (by decide)]
    rw [l_b3, l_N_and, l_N_add (by rw [h2, e2, e1]; exact q3), h2]
    rfl
  rw [e2, e1] at e3
  have e4 : ∀ (k m : Nat) (y : Int64), k < 64 → 2 ^ k = m → 1 < m → l_N y < 2 ^ 63 → l_N (l_b4 k y) = l_N y + l_N y / m := by
    intro k m y hk hm h1m hy
    rw [l_b4, l_N_add (by rw [l_N_sh _ hk, hm]; have := Nat.div_le_self (l_N y) m; omega), l_N_sh _ hk, hm]
  rw [l_bc, l_low]
  generalize l_b3 (l_b2 (l_b1 x)) = y at e3 ⊢
  rw [← e3] at q4 q5
  have f1 := e4 8 256 y (by decide) rfl (by decide) (by omega)
  have f2 := e4 16 65536 (l_b4 8 y) (by decide) rfl (by decide) (by omega)
  have f3 := e4 32 4294967296 (l_b4 16 (l_b4 8 y)) (by decide) rfl (by decide) (by omega)
  rw [f3, f2, f1, q5]
theorem lg_cmp0 {x : Int64} : lg_cmp x 0 = 0 ↔ x = 0 := by
  unfold lg_cmp
  by_cases h1 : x > 0
  · rw [if_pos h1]
    refine ⟨fun z => absurd z (by decide), fun z => ?_⟩
    rw [z] at h1
    exact absurd h1 (by decide)
  · rw [if_neg h1]
    by_cases h2 : x = 0
    · rw [if_pos h2]; exact ⟨fun _ => h2, fun _ => rfl⟩
    · rw [if_neg h2]; exact ⟨fun z => absurd z (by decide), fun z => absurd z h2⟩
theorem l_N0 {x : Int64} : x = 0 ↔ l_N x = 0 := ⟨fun h => by rw [h]; rfl, fun h => l_N_inj (h.trans rfl)⟩
theorem l_bit (x : Int64) {i : Nat} (h : i < 64) : (l_sh x i &&& 1 = 0) ↔ (l_N x).testBit i = false := by
  rw [l_N0, l_N_and, l_N_sh x h, show l_N 1 = 2 ^ 1 - 1 from rfl, Nat.and_two_pow_sub_one_eq_mod, Nat.testBit_eq_decide_div_mod_eq, decide_eq_false_iff_not]
  omega
/-- the numbers of the bits that are set, ascending -/
def l_set (x : Nat) : Nat → List Nat
  | 0 => []
  | n + 1 => if x.testBit n = true then l_set x n ++ [n] else l_set x n
theorem l_set_len (x : Nat) : ∀ n, (l_set x n).length = l_cnt x n
  | 0 => rfl
  | n + 1 => by
    rw [l_set, l_cnt]
    cases h : x.testBit n
    · rw [if_neg (by decide)]; simp [l_set_len x n]
    · rw [if_pos rfl, List.length_append, l_set_len x n]; rfl
theorem l_set_lt (x : Nat) : ∀ n i, i ∈ l_set x n → i < n
  | 0, i, h => by cases h
  | n + 1, i, h => by
    rw [l_set] at h
    split at h
    · rcases List.mem_append.mp h with h | h
      · exact Nat.lt_succ_of_lt (l_set_lt x n i h)
      · rw [List.mem_singleton] at h; omega
    · exact Nat.lt_succ_of_lt (l_set_lt x n i h)
theorem l_cnt_top {x n : Nat} (h : x < 2 ^ n) : ∀ k, l_cnt x (n + k) = l_cnt x n
  | 0 => rfl
  | k + 1 => by
    rw [← Nat.add_assoc, l_cnt, l_cnt_top h k, Nat.testBit_lt_two_pow (Nat.lt_of_lt_of_le h (Nat.pow_le_pow_right (by decide) (Nat.le_add_right n k)))]
    rfl
theorem l_cnt64 {x n : Nat} (h : x < 2 ^ n) (hn : n ≤ 64) : l_cnt x 64 = l_cnt x n := by
  have := l_cnt_top h (64 - n)
  rwa [show n + (64 - n) = 64 by omega] at this
theorem l_cnt0 {x : Nat} : ∀ n, l_cnt x n = 0 → ∀ i, i < n → x.testBit i = false
  | 0, _, i, hi => absurd hi (Nat.not_lt_zero i)
  | n + 1, h, i, hi => by
    rw [l_cnt] at h
    by_cases hin : i = n
    · subst hin
      cases hb : x.testBit i
      · rfl
      · rw [hb] at h; simp at h
    · exact l_cnt0 n (by omega) i (by omega)
theorem l_cnt_pos {x n : Nat} (h : x < 2 ^ n) (h0 : ¬ x = 0) : 0 < l_cnt x n := by
  refine Nat.pos_of_ne_zero (fun z => h0 (Nat.eq_of_testBit_eq fun i => ?_))
  rw [Nat.zero_testBit]
  by_cases hi : i < n
  · exact l_cnt0 n z i hi
  · exact Nat.testBit_lt_two_pow (Nat.lt_of_lt_of_le h (Nat.pow_le_pow_right (by decide) (by omega)))
theorem l_cnt_mono (x : Nat) {a : Nat} : ∀ {b : Nat}, a ≤ b → l_cnt x a ≤ l_cnt x b
  | 0, h => by rw [Nat.le_zero.mp h]; exact Nat.le_refl _
  | b + 1, h => by
    by_cases hb : a ≤ b
    · exact Nat.le_trans (l_cnt_mono x hb) (by rw [l_cnt]; omega)
    · rw [show a = b + 1 by omega]; exact Nat.le_refl _
theorem hasAll_N {g : gT} {set : Int64} (h : ¬ g_hasAll g set = 0) (hn : gN g ≤ 48) : ¬ l_N set = 0 ∧ l_N set < 2 ^ gN g := by
  unfold g_hasAll at h
  by_cases h1 : lg_cmp set 0 = 0
  · rw [if_pos h1] at h; exact absurd rfl h
  · rw [if_neg h1] at h
    by_cases h2 : lg_cmp (l_sh set (gN g)) 0 = 0
    · refine ⟨fun z => h1 (lg_cmp0.mpr (l_N0.mpr z)), ?_⟩
      have h3 := l_N0.mp (lg_cmp0.mp h2)
      rw [l_N_sh _ (by omega)] at h3
      rcases Nat.div_eq_zero_iff.mp h3 with h4 | h4
      · exact absurd h4 (Nat.ne_of_gt (Nat.two_pow_pos _))
      · exact h4
    · rw [if_neg h2] at h; exact absurd rfl h
theorem set_put {τ : ps_S} {x i n : Nat} (hb : x.testBit i = true) (hI : ∀ j k, (l_set x i)[j]? = some k → ps_R τ 4 n j = some (3, k)) {j k : Nat} (hj : (l_set x (i + 1))[j]? = some k) : ps_R (ps_sR τ 4 n (l_cnt x i) (some (3, i))) 4 n j = some (3, k) := by
  rw [l_set, if_pos hb] at hj
  by_cases hl : j < (l_set x i).length
  · rw [List.getElem?_append_left hl] at hj
    rw [ps_R_f _ _ (by rw [← l_set_len]; omega)]
    exact hI j k hj
  · rw [List.getElem?_append_right (by omega)] at hj
    have hj0 : j - (l_set x i).length = 0 := by
      have := (List.getElem?_eq_some_iff.mp hj).1
      simp at this
      omega
    rw [hj0] at hj
    cases hj
    have : j = l_cnt x i := by rw [← l_set_len]; omega
    rw [this]
    exact ps_R_eq _ _ _ _ _
def a_sev (g : gT) (set : Int64) (k : Int32) : Prop := ¬ g_hasAll g set = 0 ∧ ¬ k < 7 ∧ k ≤ 8
