/-! longs by numbers (wb_ rows: of kit/laws/BITS.to-paste), and the bits of a long counted -/
theorem wb_tb (n : Nat) : (lN n).toBitVec = BitVec.ofNat 64 n := rfl
theorem wb_inj {a b : Int64} (h : a.toBitVec = b.toBitVec) : a = b := Int64.toBitVec_inj.mp h
theorem wb_tn {n : Nat} (h : n < 2 ^ 64) : (lN n).toBitVec.toNat = n := by rw [wb_tb, BitVec.toNat_ofNat, Nat.mod_eq_of_lt h]
theorem wb_of (x : Int64) : ∃ n, n < 2 ^ 64 ∧ x = lN n := ⟨x.toBitVec.toNat, x.toBitVec.isLt, wb_inj (by rw [wb_tb]; simp)⟩
theorem wb_cu : ∀ k, k < 64 → ((nI k).toInt64.toUInt64 &&& Int64.toUInt64 63) = UInt64.ofNat k := by decide +kernel
theorem wb_shr {n k : Nat} (hn : n < 2 ^ 64) (hk : k < 64) : ((lN n).toUInt64 >>> ((nI k).toInt64.toUInt64 &&& Int64.toUInt64 63)).toInt64 = lN (n / 2 ^ k) := by
  rw [wb_cu k hk]
  apply wb_inj
  apply BitVec.eq_of_toNat_eq
  show ((lN n).toUInt64 >>> UInt64.ofNat k).toNat = (BitVec.ofNat 64 _).toNat
  have h1 : (UInt64.ofNat k).toNat = k := by
    show (BitVec.ofNat 64 k).toNat = k
    rw [BitVec.toNat_ofNat, Nat.mod_eq_of_lt (by omega)]
  have h2 : (lN n).toUInt64.toNat = n := wb_tn hn
  rw [UInt64.toNat_shiftRight, h1, h2, Nat.mod_eq_of_lt hk, Nat.shiftRight_eq_div_pow, BitVec.toNat_ofNat, Nat.mod_eq_of_lt (Nat.lt_of_le_of_lt (Nat.div_le_self _ _) hn)]
theorem wb_and {a b : Nat} (ha : a < 2 ^ 64) (hb : b < 2 ^ 64) : lN a &&& lN b = lN (a &&& b) := by
  apply wb_inj
  rw [Int64.toBitVec_and, wb_tb, wb_tb, wb_tb]
  apply BitVec.eq_of_toNat_eq
  rw [BitVec.toNat_and, BitVec.toNat_ofNat, BitVec.toNat_ofNat, BitVec.toNat_ofNat, Nat.mod_eq_of_lt ha, Nat.mod_eq_of_lt hb, Nat.mod_eq_of_lt (Nat.and_lt_two_pow _ hb)]
def lsr (x : Int64) (k : Int) : Int64 := (x.toUInt64 >>> ((iI k).toInt64.toUInt64 &&& Int64.toUInt64 63)).toInt64
theorem iI_nI (k : Nat) : iI (k : Int) = nI k := Int32.ofInt_eq_ofNat
theorem lsr_n {n k : Nat} (hn : n < 18446744073709551616) (hk : k < 64) : lsr (lN n) (k : Int) = lN (n / 2 ^ k) := by
  unfold lsr
  rw [iI_nI]
  exact wb_shr hn hk
def pp1 (x : Int64) : Int64 := x - (lsr x 1 &&& 6148914691236517205)
def pp2 (x : Int64) : Int64 := (x &&& 3689348814741910323) + (lsr x 2 &&& 3689348814741910323)
def pp3 (x : Int64) : Int64 := (x + lsr x 4) &&& 1085102592571150095
def pp4 (x : Int64) : Int64 := x + lsr x 8
def pp5 (x : Int64) : Int64 := x + lsr x 16
def pp6 (x : Int64) : Int64 := x + lsr x 32
theorem pp1_n {n : Nat} (hn : n < 18446744073709551616) : pp1 (lN n) = lN (pc_1 8 n) := by
  unfold pp1
  rw [show lsr (lN n) 1 = lN (n / 2) from lsr_n (k := 1) hn (by decide), show (6148914691236517205 : Int64) = lN (pc_m 85 8) from rfl, wb_and (Nat.lt_of_le_of_lt (Nat.div_le_self _ _) hn) (by decide), lN_sub (Nat.le_trans Nat.and_le_left (Nat.div_le_self _ _))]
  rfl
theorem pp2_n {n : Nat} (hn : n < 18446744073709551616) : pp2 (lN n) = lN (pc_2 8 n) := by
  unfold pp2
  rw [show lsr (lN n) 2 = lN (n / 4) from lsr_n (k := 2) hn (by decide), show (3689348814741910323 : Int64) = lN (pc_m 51 8) from rfl, wb_and hn (by decide), wb_and (Nat.lt_of_le_of_lt (Nat.div_le_self _ _) hn) (by decide), lN_add]
  rfl
theorem pc_2lt (n : Nat) : pc_2 8 n < 8000000000000000000 := by
  have h1 : (n &&& pc_m 51 8) ≤ pc_m 51 8 := Nat.and_le_right
  have h2 : (n / 4 &&& pc_m 51 8) ≤ pc_m 51 8 := Nat.and_le_right
  have h3 : pc_m 51 8 = 3689348814741910323 := rfl
  unfold pc_2
  omega
theorem pp3_n {n : Nat} (hn : n < 8000000000000000000) : pp3 (lN n) = lN (pc_3 8 n) := by
  unfold pp3
  rw [show lsr (lN n) 4 = lN (n / 16) from lsr_n (k := 4) (by omega) (by decide), show (1085102592571150095 : Int64) = lN (pc_m 15 8) from rfl, lN_add, wb_and (by omega) (by decide)]
  rfl
theorem pc_3lt (n : Nat) : pc_3 8 n < 2000000000000000000 := by
  have h1 : ((n + n / 16) &&& pc_m 15 8) ≤ pc_m 15 8 := Nat.and_le_right
  have h3 : pc_m 15 8 = 1085102592571150095 := rfl
  unfold pc_3
  omega
theorem pp456_n {n : Nat} (hn : n < 2000000000000000000) : pp6 (pp5 (pp4 (lN n))) = lN (pc_f n) := by
  have e4 : pp4 (lN n) = lN (n + n / 256) := by
    unfold pp4
    rw [show lsr (lN n) 8 = lN (n / 256) from lsr_n (k := 8) (by omega) (by decide), lN_add]
  have e5 : pp5 (lN (n + n / 256)) = lN ((n + n / 256) + (n + n / 256) / 65536) := by
    unfold pp5
    rw [show lsr (lN (n + n / 256)) 16 = lN ((n + n / 256) / 65536) from lsr_n (k := 16) (by omega) (by decide), lN_add]
  have e6 : pp6 (lN ((n + n / 256) + (n + n / 256) / 65536)) = lN (pc_f n) := by
    unfold pp6
    rw [show lsr (lN ((n + n / 256) + (n + n / 256) / 65536)) 32 = lN (((n + n / 256) + (n + n / 256) / 65536) / 4294967296) from lsr_n (k := 32) (by omega) (by decide), lN_add]
    rfl
  rw [e4, e5, e6]
theorem pp_all (x : Int64) : (pp6 (pp5 (pp4 (pp3 (pp2 (pp1 x)))))).toInt32 &&& iI 127 = iI (cn (bL x) 64 : Int) := by
  obtain ⟨n, hn, rfl⟩ := wb_of x
  have h1 : pc_1 8 n < 18446744073709551616 := Nat.lt_of_le_of_lt (Nat.sub_le _ _) hn
  rw [pp1_n hn, pp2_n h1, pp3_n (pc_2lt _), pp456_n (pc_3lt _), pc_all, lN_i]
  obtain ⟨h2, h3⟩ := pc_end n
  have h4 := pk_and (nI (pc_f (pc_G 8 n))) (m := iI 127) 7 (by decide)
  rw [h4, iI_nI]
  congr 1
  have h5 : (nI (pc_f (pc_G 8 n))).toBitVec.toNat = pc_f (pc_G 8 n) % 4294967296 := by
    show (BitVec.ofNat 32 _).toNat = _
    rw [BitVec.toNat_ofNat]
  rw [h5]
  have h6 : cn (bL (lN n)) 64 = cn (fun v => n.testBit v) 64 := cn_congr fun v hv => by
    show (BitVec.ofNat 64 n).getLsbD v = n.testBit v
    rw [BitVec.getLsbD_ofNat]
    simp [hv]
  rw [h6, ← h2]
  omega
