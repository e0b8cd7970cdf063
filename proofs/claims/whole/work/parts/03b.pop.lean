/-! counting the bits of a long as the JDK does it, over numbers -/
theorem pc_split (k : Nat) {a c : Nat} (ha : a < 2 ^ k) (hc : c < 2 ^ k) (b d : Nat) : (2 ^ k * b + a) &&& (2 ^ k * d + c) = 2 ^ k * (b &&& d) + (a &&& c) := by
  apply Nat.eq_of_testBit_eq
  intro j
  rw [Nat.testBit_and, Nat.testBit_two_pow_mul_add b ha, Nat.testBit_two_pow_mul_add d hc, Nat.testBit_two_pow_mul_add (b &&& d) (Nat.and_lt_two_pow a hc)]
  split <;> rw [Nat.testBit_and]
theorem pc_8 {a c : Nat} (ha : a < 256) (hc : c < 256) (b d : Nat) : (256 * b + a) &&& (256 * d + c) = 256 * (b &&& d) + (a &&& c) := pc_split 8 ha hc b d
def pc_m (m : Nat) : Nat → Nat
  | 0 => 0
  | k + 1 => 256 * pc_m m k + m
def pc_1 (k n : Nat) : Nat := n - ((n / 2) &&& pc_m 85 k)
def pc_2 (k n : Nat) : Nat := (n &&& pc_m 51 k) + ((n / 4) &&& pc_m 51 k)
def pc_3 (k n : Nat) : Nat := (n + n / 16) &&& pc_m 15 k
theorem pc_d1 : ∀ a, a < 256 → ∀ t, t < 2 → (128 * t + a / 2) &&& 85 = (a / 2) &&& 85 := by decide +kernel
theorem pc_d2 : ∀ a, a < 256 → ∀ t, t < 4 → (64 * t + a / 4) &&& 51 = (a / 4) &&& 51 := by decide +kernel
theorem pc_d3 : ∀ a, a < 128 → ∀ t, t < 16 → (16 * t + (a + a / 16)) &&& 15 = (a + a / 16) &&& 15 := by decide +kernel
theorem pc_1s (k b : Nat) {a : Nat} (ha : a < 256) : pc_1 (k + 1) (256 * b + a) = 256 * pc_1 k b + (a - ((a / 2) &&& 85)) := by
  have e : (256 * b + a) / 2 = 256 * (b / 2) + (128 * (b % 2) + a / 2) := by omega
  have h1 := pc_d1 a ha (b % 2) (by omega)
  have h2 : (a / 2) &&& 85 ≤ a := Nat.le_trans Nat.and_le_left (by omega)
  have h3 : (b / 2) &&& pc_m 85 k ≤ b := Nat.le_trans Nat.and_le_left (by omega)
  show 256 * b + a - ((256 * b + a) / 2 &&& (256 * pc_m 85 k + 85)) = 256 * (b - ((b / 2) &&& pc_m 85 k)) + (a - ((a / 2) &&& 85))
  rw [e, pc_8 (by omega) (by decide), h1]
  omega
theorem pc_2s (k b : Nat) {a : Nat} (ha : a < 256) : pc_2 (k + 1) (256 * b + a) = 256 * pc_2 k b + ((a &&& 51) + ((a / 4) &&& 51)) := by
  have e : (256 * b + a) / 4 = 256 * (b / 4) + (64 * (b % 4) + a / 4) := by omega
  have h1 := pc_d2 a ha (b % 4) (by omega)
  show ((256 * b + a) &&& (256 * pc_m 51 k + 51)) + ((256 * b + a) / 4 &&& (256 * pc_m 51 k + 51)) = 256 * ((b &&& pc_m 51 k) + ((b / 4) &&& pc_m 51 k)) + ((a &&& 51) + ((a / 4) &&& 51))
  rw [e, pc_8 ha (by decide), pc_8 (by omega) (by decide), h1]
  omega
theorem pc_3s (k b : Nat) {a : Nat} (ha : a ≤ 102) (hb : b % 16 ≤ 6) : pc_3 (k + 1) (256 * b + a) = 256 * pc_3 k b + ((a + a / 16) &&& 15) := by
  have e : (256 * b + a) + (256 * b + a) / 16 = 256 * (b + b / 16) + (16 * (b % 16) + (a + a / 16)) := by omega
  have h1 := pc_d3 a (by omega) (b % 16) (by omega)
  show ((256 * b + a) + (256 * b + a) / 16) &&& (256 * pc_m 15 k + 15) = _
  rw [e, pc_8 (by omega) (by decide), h1]
  rfl
theorem pc_m16 : ∀ k, pc_m 51 k % 16 ≤ 3
  | 0 => by decide
  | k + 1 => by
    show (256 * pc_m 51 k + 51) % 16 ≤ 3
    omega
theorem pc_and16 (y : Nat) (k : Nat) : (y &&& pc_m 51 k) % 16 ≤ 3 := by
  have e1 : y = 2 ^ 4 * (y / 16) + y % 16 := by omega
  have e2 : pc_m 51 k = 2 ^ 4 * (pc_m 51 k / 16) + pc_m 51 k % 16 := by omega
  rw [e1, e2, pc_split 4 (by omega) (by omega)]
  have h := pc_m16 k
  have h2 : (y % 16 &&& pc_m 51 k % 16) ≤ pc_m 51 k % 16 := Nat.and_le_right
  omega
theorem pc_2b (k y : Nat) : pc_2 k y % 16 ≤ 6 := by
  have h1 := pc_and16 y k
  have h2 := pc_and16 (y / 4) k
  unfold pc_2
  omega
def pc_b (a : Nat) : Nat := cn (fun v => a.testBit v) 8
def pc_a1 (a : Nat) : Nat := a - ((a / 2) &&& 85)
def pc_a2 (a : Nat) : Nat := (a &&& 51) + ((a / 4) &&& 51)
theorem pc_q : ∀ a, a < 256 → pc_a1 a < 256 ∧ pc_a2 (pc_a1 a) ≤ 102 ∧ ((pc_a2 (pc_a1 a) + pc_a2 (pc_a1 a) / 16) &&& 15) = pc_b a := by decide +kernel
def pc_G : Nat → Nat → Nat
  | 0, _ => 0
  | k + 1, n => 256 * pc_G k (n / 256) + pc_b (n % 256)
theorem pc_all : ∀ (k n : Nat), pc_3 k (pc_2 k (pc_1 k n)) = pc_G k n
  | 0, n => by
    show (_ &&& 0) = 0
    exact Nat.and_zero _
  | k + 1, n => by
    have hn : n = 256 * (n / 256) + n % 256 := by omega
    obtain ⟨q1, q2, q3⟩ := pc_q (n % 256) (by omega)
    have e1 : pc_1 (k + 1) n = 256 * pc_1 k (n / 256) + pc_a1 (n % 256) := by
      conv => lhs; rw [hn]
      exact pc_1s k (n / 256) (by omega)
    have e2 : pc_2 (k + 1) (256 * pc_1 k (n / 256) + pc_a1 (n % 256)) = 256 * pc_2 k (pc_1 k (n / 256)) + pc_a2 (pc_a1 (n % 256)) := pc_2s k _ q1
    rw [e1, e2, pc_3s k _ q2 (pc_2b k _), q3, pc_all k (n / 256)]
    rfl
theorem cn_congr {P P' : Nat → Bool} : ∀ {k : Nat}, (∀ v, v < k → P v = P' v) → cn P k = cn P' k
  | 0, _ => rfl
  | k + 1, h => by
    unfold cn
    rw [h k (Nat.lt_succ_self k), cn_congr (fun v hv => h v (Nat.lt_succ_of_lt hv))]
theorem cn_add (P : Nat → Bool) (a : Nat) : ∀ b, cn P (a + b) = cn P a + cn (fun v => P (a + v)) b
  | 0 => rfl
  | b + 1 => by
    show cn P (a + b) + _ = cn P a + (cn (fun v => P (a + v)) b + _)
    rw [cn_add P a b]
    exact Nat.add_assoc _ _ _
theorem pc_b_le (a : Nat) : pc_b a ≤ 8 := cn_le _ 8
theorem pc_sum (n k : Nat) : cn (fun v => n.testBit v) (8 + k) = pc_b (n % 256) + cn (fun v => (n / 256).testBit v) k := by
  rw [cn_add]
  have h1 : cn (fun v => n.testBit v) 8 = pc_b (n % 256) := cn_congr fun v hv => by
    show n.testBit v = (n % 2 ^ 8).testBit v
    rw [Nat.testBit_mod_two_pow]
    simp [hv]
  have h2 : cn (fun v => n.testBit (8 + v)) k = cn (fun v => (n / 256).testBit v) k := cn_congr fun v _ => by
    show n.testBit (8 + v) = (n / 2 ^ 8).testBit v
    rw [Nat.testBit_div_two_pow, Nat.add_comm]
  rw [h1, h2]
def pc_f (a3 : Nat) : Nat :=
  let a4 := a3 + a3 / 256
  let a5 := a4 + a4 / 65536
  a5 + a5 / 4294967296
theorem pc_div (a k q m : Nat) (h : q < m) (e : a = m * k + q) (hm : 0 < m) : a / m = k := by
  rw [e, Nat.mul_add_div hm, Nat.div_eq_of_lt h]
  rfl
theorem pc_val (x0 x1 x2 x3 x4 x5 x6 x7 : Nat) (c0 : x0 ≤ 8) (c1 : x1 ≤ 8) (c2 : x2 ≤ 8) (c3 : x3 ≤ 8) (c4 : x4 ≤ 8) (c5 : x5 ≤ 8) (c6 : x6 ≤ 8) (c7 : x7 ≤ 8) : pc_f (256 * (256 * (256 * (256 * (256 * (256 * (256 * (256 * 0 + x7) + x6) + x5) + x4) + x3) + x2) + x1) + x0) = (256 * (256 * (256 * (256 * (256 * (256 * (256 * x7 + (x6 + x7)) + ((x5 + x6) + x7)) + ((x4 + x5) + (x6 + x7))) + (((x3 + x4) + (x5 + x6)) + x7)) + (((x2 + x3) + (x4 + x5)) + (x6 + x7))) + (((x1 + x2) + (x3 + x4)) + ((x5 + x6) + x7))) + (((x0 + x1) + (x2 + x3)) + ((x4 + x5) + (x6 + x7)))) := by
  have h4 : (256 * (256 * (256 * (256 * (256 * (256 * (256 * (256 * 0 + x7) + x6) + x5) + x4) + x3) + x2) + x1) + x0) / 256 = (256 * (256 * (256 * (256 * (256 * (256 * x7 + x6) + x5) + x4) + x3) + x2) + x1) := pc_div _ _ x0 256 (by omega) (by omega) (by omega)
  have e4 : (256 * (256 * (256 * (256 * (256 * (256 * (256 * (256 * 0 + x7) + x6) + x5) + x4) + x3) + x2) + x1) + x0) + (256 * (256 * (256 * (256 * (256 * (256 * x7 + x6) + x5) + x4) + x3) + x2) + x1) = (256 * (256 * (256 * (256 * (256 * (256 * (256 * x7 + (x6 + x7)) + (x5 + x6)) + (x4 + x5)) + (x3 + x4)) + (x2 + x3)) + (x1 + x2)) + (x0 + x1)) := by omega
  have h5 : (256 * (256 * (256 * (256 * (256 * (256 * (256 * x7 + (x6 + x7)) + (x5 + x6)) + (x4 + x5)) + (x3 + x4)) + (x2 + x3)) + (x1 + x2)) + (x0 + x1)) / 65536 = (256 * (256 * (256 * (256 * (256 * x7 + (x6 + x7)) + (x5 + x6)) + (x4 + x5)) + (x3 + x4)) + (x2 + x3)) := pc_div _ _ (256 * (x1 + x2) + (x0 + x1)) 65536 (by omega) (by omega) (by omega)
  have e5 : (256 * (256 * (256 * (256 * (256 * (256 * (256 * x7 + (x6 + x7)) + (x5 + x6)) + (x4 + x5)) + (x3 + x4)) + (x2 + x3)) + (x1 + x2)) + (x0 + x1)) + (256 * (256 * (256 * (256 * (256 * x7 + (x6 + x7)) + (x5 + x6)) + (x4 + x5)) + (x3 + x4)) + (x2 + x3)) = (256 * (256 * (256 * (256 * (256 * (256 * (256 * x7 + (x6 + x7)) + ((x5 + x6) + x7)) + ((x4 + x5) + (x6 + x7))) + ((x3 + x4) + (x5 + x6))) + ((x2 + x3) + (x4 + x5))) + ((x1 + x2) + (x3 + x4))) + ((x0 + x1) + (x2 + x3))) := by omega
  have h6 : (256 * (256 * (256 * (256 * (256 * (256 * (256 * x7 + (x6 + x7)) + ((x5 + x6) + x7)) + ((x4 + x5) + (x6 + x7))) + ((x3 + x4) + (x5 + x6))) + ((x2 + x3) + (x4 + x5))) + ((x1 + x2) + (x3 + x4))) + ((x0 + x1) + (x2 + x3))) / 4294967296 = (256 * (256 * (256 * x7 + (x6 + x7)) + ((x5 + x6) + x7)) + ((x4 + x5) + (x6 + x7))) := pc_div _ _ (256 * (256 * (256 * ((x3 + x4) + (x5 + x6)) + ((x2 + x3) + (x4 + x5))) + ((x1 + x2) + (x3 + x4))) + ((x0 + x1) + (x2 + x3))) 4294967296 (by omega) (by omega) (by omega)
  unfold pc_f
  dsimp only
  rw [h4, e4, h5, e5, h6]
  omega
theorem pc_num (x0 x1 x2 x3 x4 x5 x6 x7 : Nat) (c0 : x0 ≤ 8) (c1 : x1 ≤ 8) (c2 : x2 ≤ 8) (c3 : x3 ≤ 8) (c4 : x4 ≤ 8) (c5 : x5 ≤ 8) (c6 : x6 ≤ 8) (c7 : x7 ≤ 8) : pc_f (256 * (256 * (256 * (256 * (256 * (256 * (256 * (256 * 0 + x7) + x6) + x5) + x4) + x3) + x2) + x1) + x0) % 128 = x0 + (x1 + (x2 + (x3 + (x4 + (x5 + (x6 + x7)))))) := by
  rw [pc_val x0 x1 x2 x3 x4 x5 x6 x7 c0 c1 c2 c3 c4 c5 c6 c7]
  omega
theorem pc_num2 (x0 x1 x2 x3 x4 x5 x6 x7 : Nat) (c0 : x0 ≤ 8) (c1 : x1 ≤ 8) (c2 : x2 ≤ 8) (c3 : x3 ≤ 8) (c4 : x4 ≤ 8) (c5 : x5 ≤ 8) (c6 : x6 ≤ 8) (c7 : x7 ≤ 8) : pc_f (256 * (256 * (256 * (256 * (256 * (256 * (256 * (256 * 0 + x7) + x6) + x5) + x4) + x3) + x2) + x1) + x0) < 18446744073709551616 := by
  rw [pc_val x0 x1 x2 x3 x4 x5 x6 x7 c0 c1 c2 c3 c4 c5 c6 c7]
  omega
theorem pc_end (n : Nat) : pc_f (pc_G 8 n) % 128 = cn (fun v => n.testBit v) 64 ∧ pc_f (pc_G 8 n) < 18446744073709551616 := by
  have e : cn (fun v => n.testBit v) 64 = pc_b (n % 256) + (pc_b (n / 256 % 256) + (pc_b (n / 256 / 256 % 256) + (pc_b (n / 256 / 256 / 256 % 256) + (pc_b (n / 256 / 256 / 256 / 256 % 256) + (pc_b (n / 256 / 256 / 256 / 256 / 256 % 256) + (pc_b (n / 256 / 256 / 256 / 256 / 256 / 256 % 256) + pc_b (n / 256 / 256 / 256 / 256 / 256 / 256 / 256 % 256))))))) := by
    rw [show 64 = 8 + (8 + (8 + (8 + (8 + (8 + (8 + (8 + 0))))))) from rfl, pc_sum, pc_sum, pc_sum, pc_sum, pc_sum, pc_sum, pc_sum, pc_sum]
    rfl
  have g : pc_G 8 n = 256 * (256 * (256 * (256 * (256 * (256 * (256 * (256 * 0 + pc_b (n / 256 / 256 / 256 / 256 / 256 / 256 / 256 % 256)) + pc_b (n / 256 / 256 / 256 / 256 / 256 / 256 % 256)) + pc_b (n / 256 / 256 / 256 / 256 / 256 % 256)) + pc_b (n / 256 / 256 / 256 / 256 % 256)) + pc_b (n / 256 / 256 / 256 % 256)) + pc_b (n / 256 / 256 % 256)) + pc_b (n / 256 % 256)) + pc_b (n % 256) := rfl
  have b0 := pc_b_le (n % 256)
  have b1 := pc_b_le (n / 256 % 256)
  have b2 := pc_b_le (n / 256 / 256 % 256)
  have b3 := pc_b_le (n / 256 / 256 / 256 % 256)
  have b4 := pc_b_le (n / 256 / 256 / 256 / 256 % 256)
  have b5 := pc_b_le (n / 256 / 256 / 256 / 256 / 256 % 256)
  have b6 := pc_b_le (n / 256 / 256 / 256 / 256 / 256 / 256 % 256)
  have b7 := pc_b_le (n / 256 / 256 / 256 / 256 / 256 / 256 / 256 % 256)
  rw [e, g]
  generalize pc_b (n % 256) = x0 at *
  generalize pc_b (n / 256 % 256) = x1 at *
  generalize pc_b (n / 256 / 256 % 256) = x2 at *
  generalize pc_b (n / 256 / 256 / 256 % 256) = x3 at *
  generalize pc_b (n / 256 / 256 / 256 / 256 % 256) = x4 at *
  generalize pc_b (n / 256 / 256 / 256 / 256 / 256 % 256) = x5 at *
  generalize pc_b (n / 256 / 256 / 256 / 256 / 256 / 256 % 256) = x6 at *
  generalize pc_b (n / 256 / 256 / 256 / 256 / 256 / 256 / 256 % 256) = x7 at *
  have c0 := b0
  have c1 := b1
  have c2 := b2
  have c3 := b3
  have c4 := b4
  have c5 := b5
  have c6 := b6
  have c7 := b7
  clear e g
  clear b0 b1 b2 b3 b4 b5 b6 b7
  exact ⟨pc_num x0 x1 x2 x3 x4 x5 x6 x7 c0 c1 c2 c3 c4 c5 c6 c7, pc_num2 x0 x1 x2 x3 x4 x5 x6 x7 c0 c1 c2 c3 c4 c5 c6 c7⟩
