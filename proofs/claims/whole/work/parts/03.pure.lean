/-! what the dumps mean: n dumps, L d the level of dump d, S d its size, r the blocks of a volume behind its label; a dump or none is told by its number and one (0: none) -/
def sm (S : Nat → Nat) : Nat → Nat
  | 0 => 0
  | d + 1 => sm S d + S d
/-- the latest of the first k dumps whose level is below x -/
def ba (L : Nat → Nat) (x : Nat) : Nat → Nat
  | 0 => 0
  | k + 1 => if L k < x then k + 1 else ba L x k
def bs (L : Nat → Nat) (d : Nat) : Nat := ba L (L d) d
theorem ba_le (L : Nat → Nat) (x : Nat) : ∀ k, ba L x k ≤ k
  | 0 => Nat.le_refl 0
  | k + 1 => by
    unfold ba
    split
    · exact Nat.le_refl _
    · exact Nat.le_succ_of_le (ba_le L x k)
theorem bs_le (L : Nat → Nat) (d : Nat) : bs L d ≤ d := ba_le L (L d) d
theorem ba_congr {L L' : Nat → Nat} {x : Nat} : ∀ {k : Nat}, (∀ j, j < k → L j = L' j) → ba L x k = ba L' x k
  | 0, _ => rfl
  | k + 1, h => by
    unfold ba
    rw [h k (Nat.lt_succ_self k), ba_congr (fun j hj => h j (Nat.lt_succ_of_lt hj))]
theorem bs_congr {L L' : Nat → Nat} {d : Nat} (h : ∀ j, j ≤ d → L j = L' j) : bs L d = bs L' d := by
  unfold bs
  rw [h d (Nat.le_refl d)]
  exact ba_congr (fun j hj => h j (Nat.le_of_lt hj))
theorem sm_congr {S S' : Nat → Nat} : ∀ {k : Nat}, (∀ j, j < k → S j = S' j) → sm S k = sm S' k
  | 0, _ => rfl
  | k + 1, h => by
    unfold sm
    rw [h k (Nat.lt_succ_self k), sm_congr (fun j hj => h j (Nat.lt_succ_of_lt hj))]
theorem sm_mono {S : Nat → Nat} : ∀ {a b : Nat}, a ≤ b → sm S a ≤ sm S b
  | a, 0, h => by
    have : a = 0 := by omega
    subst this
    exact Nat.le_refl _
  | a, b + 1, h => by
    by_cases e : a = b + 1
    · subst e
      exact Nat.le_refl _
    · have := sm_mono (S := S) (a := a) (b := b) (by omega)
      show sm S a ≤ sm S b + S b
      omega
/-- how long the chain of a dump is -/
def dp (L : Nat → Nat) : Nat → Nat
  | 0 => 0
  | d + 1 => dp L (bs L d) + 1
termination_by k => k
decreasing_by exact Nat.lt_succ_of_le (bs_le L d)
theorem dp_0 (L : Nat → Nat) : dp L 0 = 0 := by rw [dp]
theorem dp_s (L : Nat → Nat) (d : Nat) : dp L (d + 1) = dp L (bs L d) + 1 := by rw [dp]
theorem dp_le (L : Nat → Nat) : ∀ (N k : Nat), k ≤ N → dp L k ≤ k
  | _, 0, _ => by rw [dp_0]; exact Nat.le_refl 0
  | 0, k + 1, h => absurd h (by omega)
  | N + 1, k + 1, h => by
    rw [dp_s]
    have h1 := bs_le L k
    have h2 := dp_le L N (bs L k) (by omega)
    omega
theorem dp_congr {L L' : Nat → Nat} : ∀ (N k : Nat), k ≤ N → (∀ j, j < k → L j = L' j) → dp L k = dp L' k
  | _, 0, _, _ => by rw [dp_0, dp_0]
  | 0, k + 1, h, _ => absurd h (by omega)
  | N + 1, k + 1, h, e => by
    have h1 := bs_le L k
    have h2 : bs L k = bs L' k := bs_congr (fun j hj => e j (by omega))
    rw [dp_s, dp_s, ← h2, dp_congr N (bs L k) (by omega) (fun j hj => e j (by omega))]
/-- the volumes that dump d itself lies on -/
def onV (S : Nat → Nat) (r d v : Nat) : Bool := decide (sm S d / r ≤ v) && decide (v ≤ (sm S d + S d - 1) / r)
/-- the volumes that must be there -/
def nd (L S : Nat → Nat) (r v : Nat) : Nat → Bool
  | 0 => false
  | d + 1 => onV S r d v || nd L S r v (bs L d)
termination_by k => k
decreasing_by exact Nat.lt_succ_of_le (bs_le L d)
theorem nd_0 (L S : Nat → Nat) (r v : Nat) : nd L S r v 0 = false := by rw [nd]
theorem nd_s (L S : Nat → Nat) (r v d : Nat) : nd L S r v (d + 1) = (onV S r d v || nd L S r v (bs L d)) := by rw [nd]
theorem nd_congr {L L' S S' : Nat → Nat} {r v : Nat} : ∀ (N k : Nat), k ≤ N → (∀ j, j < k → L j = L' j ∧ S j = S' j) → nd L S r v k = nd L' S' r v k
  | _, 0, _, _ => by rw [nd_0, nd_0]
  | 0, k + 1, h, _ => absurd h (by omega)
  | N + 1, k + 1, h, e => by
    have h1 := bs_le L k
    have h2 : bs L k = bs L' k := bs_congr (fun j hj => (e j (by omega)).1)
    have h3 : sm S k = sm S' k := sm_congr (fun j hj => (e j (by omega)).2)
    rw [nd_s, nd_s, ← h2, nd_congr N (bs L k) (by omega) (fun j hj => e j (by omega))]
    unfold onV
    rw [h3, (e k (by omega)).2]
/-- the chain of a dump, link by link -/
def nx (L : Nat → Nat) : Nat → Nat
  | 0 => 0
  | d + 1 => bs L d
def ch (L : Nat → Nat) (q : Nat) : Nat → Nat
  | 0 => q
  | k + 1 => nx L (ch L q k)
theorem nx_le (L : Nat → Nat) : ∀ k, nx L k ≤ k - 1
  | 0 => Nat.le_refl 0
  | d + 1 => bs_le L d
theorem ch_le (L : Nat → Nat) (q : Nat) : ∀ k, ch L q k ≤ q
  | 0 => Nat.le_refl q
  | k + 1 => by
    have h1 := ch_le L q k
    have h2 := nx_le L (ch L q k)
    show nx L (ch L q k) ≤ q
    omega
theorem ch_0 {L : Nat → Nat} {q : Nat} {i : Nat} (h : ch L q i = 0) : ∀ k, i ≤ k → ch L q k = 0
  | 0, hk => by
    have : i = 0 := by omega
    subst this
    exact h
  | k + 1, hk => by
    by_cases e : i = k + 1
    · subst e
      exact h
    · have h1 := ch_0 h k (by omega)
      show nx L (ch L q k) = 0
      rw [h1]
      rfl
/-- the latest good one of the first k dumps -/
def la (P : Nat → Bool) : Nat → Nat
  | 0 => 0
  | k + 1 => if P k then k + 1 else la P k
def noH (P : Nat → Bool) : Nat → Bool
  | 0 => true
  | k + 1 => noH P k && !P k
theorem noH_t {P : Nat → Bool} : ∀ {k : Nat}, noH P k = true ↔ ∀ v, v < k → P v = false
  | 0 => ⟨fun _ v h => absurd h (Nat.not_lt_zero v), fun _ => rfl⟩
  | k + 1 => by
    unfold noH
    rw [Bool.and_eq_true, noH_t]
    constructor
    · intro h v hv
      by_cases e : v = k
      · subst e
        simpa using h.2
      · exact h.1 v (by omega)
    · intro h
      exact ⟨fun v hv => h v (by omega), by simp [h k (Nat.lt_succ_self k)]⟩
def cn (P : Nat → Bool) : Nat → Nat
  | 0 => 0
  | k + 1 => cn P k + (if P k then 1 else 0)
theorem cn_le (P : Nat → Bool) : ∀ k, cn P k ≤ k
  | 0 => Nat.le_refl 0
  | k + 1 => by
    have := cn_le P k
    unfold cn
    split <;> omega
def mx (f : Nat → Nat) : Nat → Nat
  | 0 => 0
  | k + 1 => if mx f k < f k then f k else mx f k
def b2 (b : Bool) : Int := if b then 1 else 0
def gd (L S : Nat → Nat) (r : Nat) (lo : Nat → Bool) (d : Nat) : Bool := noH (fun v => nd L S r v (d + 1) && lo v) 64
/-- written volumes -/
def wr (S : Nat → Nat) (r n : Nat) : Nat := (sm S n + r - 1) / r
def okS (n : Nat) (L S : Nat → Nat) (r : Nat) : Prop := n ≤ 300 ∧ 1 ≤ r ∧ r ≤ 999 ∧ (∀ d, d < n → L d ≤ 9 ∧ 1 ≤ S d ∧ S d ≤ 500) ∧ sm S n ≤ 64 * r
/-! bits of a long -/
def bL (x : Int64) (v : Nat) : Bool := x.toBitVec.getLsbD v
theorem bL_ext {x y : Int64} (h : ∀ v, v < 64 → bL x v = bL y v) : x = y := by
  apply Int64.toBitVec_inj.mp
  apply BitVec.eq_of_getLsbD_eq
  intro i hi
  exact h i hi
theorem bL_0 (v : Nat) : bL 0 v = false := by
  show (0#64).getLsbD v = false
  simp
theorem bL_m1 {v : Nat} (h : v < 64) : bL (-1) v = true := by
  show (-1#64).getLsbD v = true
  rw [BitVec.neg_one_eq_allOnes, BitVec.getLsbD_allOnes]
  simpa using h
theorem bL_and (x y : Int64) (v : Nat) : bL (x &&& y) v = (bL x v && bL y v) := BitVec.getLsbD_and
theorem bL_or (x y : Int64) (v : Nat) : bL (x ||| y) v = (bL x v || bL y v) := BitVec.getLsbD_or
theorem bL_not (x : Int64) {v : Nat} (h : v < 64) : bL (x ^^^ (-1)) v = !bL x v := by
  have h1 : bL (x ^^^ (-1)) v = (bL x v ^^ bL (-1) v) := BitVec.getLsbD_xor
  rw [h1, bL_m1 h]
  simp
theorem sh_l : ∀ k : Nat, k < 64 → (((iI (k : Int)).toInt64 &&& 63).toBitVec.smod 64).toNat = k := by decide +kernel
theorem sh_u : ∀ k : Nat, k < 64 → (((iI (k : Int)).toInt64.toUInt64 &&& Int64.toUInt64 63).toBitVec % 64).toNat = k := by decide +kernel
theorem bL_shl (x : Int64) {k v : Nat} (hk : k < 64) (hv : v < 64) : bL (x <<< ((iI (k : Int)).toInt64 &&& 63)) v = (decide (k ≤ v) && bL x (v - k)) := by
  show (x.toBitVec <<< (((iI (k : Int)).toInt64 &&& 63).toBitVec.smod 64)).getLsbD v = _
  rw [BitVec.shiftLeft_eq', sh_l k hk, BitVec.getLsbD_shiftLeft]
  by_cases h : v < k
  · simp [h, Nat.not_le.mpr h]
  · simp [h, hv, Nat.not_lt.mp h, bL]
theorem bL_ushr (x : Int64) {k : Nat} (hk : k < 64) (v : Nat) : bL (x.toUInt64 >>> ((iI (k : Int)).toInt64.toUInt64 &&& Int64.toUInt64 63)).toInt64 v = bL x (k + v) := by
  show (x.toBitVec >>> (((iI (k : Int)).toInt64.toUInt64 &&& Int64.toUInt64 63).toBitVec % 64)).getLsbD v = _
  rw [BitVec.ushiftRight_eq', sh_u k hk, BitVec.getLsbD_ushiftRight]
  rfl
theorem bL_1 (v : Nat) : bL 1 v = decide (v = 0) := by
  show (1#64).getLsbD v = _
  simp
theorem bL_bit {k v : Nat} (hk : k < 64) (hv : v < 64) : bL ((1 : Int64) <<< ((iI (k : Int)).toInt64 &&& 63)) v = decide (v = k) := by
  rw [bL_shl 1 hk hv, bL_1]
  by_cases h : k ≤ v
  · by_cases h2 : v = k
    · subst h2; simp
    · have : ¬ v - k = 0 := by omega
      simp [h, h2, this]
  · have : ¬ v = k := by omega
    simp [h, this]
theorem bL_z {x : Int64} : x = 0 ↔ ∀ v, v < 64 → bL x v = false := ⟨fun h v _ => by rw [h]; exact bL_0 v, fun h => bL_ext fun v hv => by rw [h v hv, bL_0]⟩
/-- the bits from a to b -/
theorem bL_from {a b v : Nat} (ha : a < 64) (hb : b < 64) (hv : v < 64) :
    bL ((-1 : Int64) <<< ((iI (a : Int)).toInt64 &&& 63) &&& ((-1 : Int64).toUInt64 >>> ((iI ((63 - b : Nat) : Int)).toInt64.toUInt64 &&& Int64.toUInt64 63)).toInt64) v = (decide (a ≤ v) && decide (v ≤ b)) := by
  rw [bL_and, bL_shl _ ha hv, bL_ushr _ (by omega : 63 - b < 64)]
  by_cases h : a ≤ v
  · rw [bL_m1 (by omega)]
    by_cases h2 : v ≤ b
    · rw [bL_m1 (by omega)]; simp [h, h2]
    · have : bL (-1) (63 - b + v) = false := by
        show (-1#64).getLsbD _ = false
        exact BitVec.getLsbD_of_ge _ _ (by omega)
      rw [this]; simp [h2]
  · simp [h]
/-! on what dump a block lies: the first of k dumps that ends behind place q -/
def ow (S : Nat → Nat) (q : Nat) : Nat → Nat
  | 0 => 0
  | k + 1 => if ow S q k = 0 then (if q < sm S (k + 1) then k + 1 else 0) else ow S q k
theorem ow_hit {S : Nat → Nat} {q k : Nat} (h : ow S q k = 0) (hq : q < sm S (k + 1)) : ow S q (k + 1) = k + 1 := by
  show (if ow S q k = 0 then (if q < sm S (k + 1) then k + 1 else 0) else ow S q k) = k + 1
  rw [if_pos h, if_pos hq]
theorem ow_miss {S : Nat → Nat} {q k : Nat} (h : ow S q k = 0) (hq : sm S (k + 1) ≤ q) : ow S q (k + 1) = 0 := by
  show (if ow S q k = 0 then (if q < sm S (k + 1) then k + 1 else 0) else ow S q k) = 0
  rw [if_pos h, if_neg (by omega)]
theorem ow_keep {S : Nat → Nat} {q k : Nat} (h : ow S q k ≠ 0) : ∀ n, k ≤ n → ow S q n = ow S q k
  | 0, hn => by
    have : k = 0 := by omega
    subst this
    rfl
  | n + 1, hn => by
    by_cases e : k = n + 1
    · subst e
      rfl
    · have h1 := ow_keep h n (by omega)
      show (if ow S q n = 0 then (if q < sm S (n + 1) then n + 1 else 0) else ow S q n) = _
      rw [if_neg (by rw [h1]; exact h), h1]
theorem wr_pos {S : Nat → Nat} {r n : Nat} (hr : 1 ≤ r) (h : 0 < sm S n) : wr S r n = (sm S n - 1) / r + 1 := by
  unfold wr
  have e : sm S n + r - 1 = (sm S n - 1) + r := by omega
  rw [e, Nat.add_div_right _ hr]
theorem wr_zero {S : Nat → Nat} {r n : Nat} (hr : 1 ≤ r) (h : sm S n = 0) : wr S r n = 0 := by
  unfold wr
  rw [h]
  exact Nat.div_eq_of_lt (by omega)
theorem wr_le {S : Nat → Nat} {r n : Nat} (hr : 1 ≤ r) (h : sm S n ≤ 64 * r) : wr S r n ≤ 64 := by
  unfold wr
  have : (sm S n + r - 1) / r < 65 := Nat.div_lt_of_lt_mul (by omega)
  omega
theorem vo_lt {q r : Nat} (h : q < 64 * r) : q / r < 64 := Nat.div_lt_of_lt_mul (by omega)
def uN (f : Nat → Nat) (k x : Nat) : Nat → Nat := fun j => if j = k then x else f j
theorem uN_s {f : Nat → Nat} {k x : Nat} : uN f k x k = x := if_pos rfl
theorem uN_n {f : Nat → Nat} {k j x : Nat} (h : j ≠ k) : uN f k x j = f j := if_neg h
/-- the class's numbers say what the dumps are -/
def tX (n : Nat) (L S : Nat → Nat) (r : Nat) (lo : Nat → Bool) (gL gB gD : Nat → Int) (gN : Nat → Int64) (gS : Nat → Int) (x : Int64) : Prop :=
  (∀ d, d < n → gL d = (L d : Int) ∧ gB d = (bs L d : Int) - 1 ∧ gD d = (dp L (d + 1) : Int) ∧ ∀ v, v < 64 → bL (gN d) v = nd L S r v (d + 1)) ∧ (∀ d, d ≤ n → gS d = (sm S d : Int)) ∧ ∀ v, v < 64 → bL x v = lo v
theorem tX_drop {n k : Nat} {L S : Nat → Nat} {r : Nat} {lo : Nat → Bool} {gL gB gD : Nat → Int} {gN : Nat → Int64} {gS : Nat → Int} {x : Int64} (hk : k ≤ n) (h : tX n L S r lo gL gB gD gN gS x) : tX k L S r lo gL gB gD gN gS x :=
  ⟨fun d hd => h.1 d (by omega), fun d hd => h.2.1 d (by omega), h.2.2⟩
theorem okS_drop {n k : Nat} {L S : Nat → Nat} {r : Nat} (hk : k ≤ n) (h : okS n L S r) : okS k L S r :=
  ⟨by have := h.1; omega, h.2.1, h.2.2.1, fun d hd => h.2.2.2.1 d (by omega), Nat.le_trans (sm_mono hk) h.2.2.2.2⟩
theorem okS_push {n lv b : Nat} {L S : Nat → Nat} {r : Nat} (h : okS n L S r) (hn : n < 300) (hl : lv ≤ 9) (h1 : 1 ≤ b) (h2 : b ≤ 500) (hs : sm S n + b ≤ 64 * r) : okS (n + 1) (uN L n lv) (uN S n b) r := by
  refine ⟨by omega, h.2.1, h.2.2.1, fun d hd => ?_, ?_⟩
  · by_cases e : d = n
    · subst e
      rw [uN_s, uN_s]
      exact ⟨hl, h1, h2⟩
    · rw [uN_n e, uN_n e]
      exact h.2.2.2.1 d (by omega)
  · show sm (uN S n b) n + uN S n b n ≤ 64 * r
    rw [uN_s, sm_congr (S' := S) (fun j hj => uN_n (by omega))]
    exact hs
theorem bs_push {n lv : Nat} {L : Nat → Nat} : bs (uN L n lv) n = ba L lv n := by
  unfold bs
  rw [uN_s]
  exact ba_congr (fun j hj => uN_n (by omega))
theorem bs_old {n lv d : Nat} {L : Nat → Nat} (h : d < n) : bs (uN L n lv) d = bs L d := bs_congr (fun j hj => uN_n (by omega))
theorem dp_old {n lv k : Nat} {L : Nat → Nat} (h : k ≤ n) : dp (uN L n lv) k = dp L k := dp_congr k k (Nat.le_refl k) (fun j hj => uN_n (by omega))
theorem nd_old {n lv b k r v : Nat} {L S : Nat → Nat} (h : k ≤ n) : nd (uN L n lv) (uN S n b) r v k = nd L S r v k := nd_congr k k (Nat.le_refl k) (fun j hj => ⟨uN_n (by omega), uN_n (by omega)⟩)
theorem sm_old {n b k : Nat} {S : Nat → Nat} (h : k ≤ n) : sm (uN S n b) k = sm S k := sm_congr (fun j hj => uN_n (by omega))
theorem sm_push {n b : Nat} {S : Nat → Nat} : sm (uN S n b) (n + 1) = sm S n + b := by
  show sm (uN S n b) n + uN S n b n = _
  rw [uN_s, sm_old (Nat.le_refl n)]
/-- a dump more -/
theorem tX_push {n lv b : Nat} {L S : Nat → Nat} {r : Nat} {lo : Nat → Bool} {gL gB gD : Nat → Int} {gN : Nat → Int64} {gS : Nat → Int} {x : Int64} {zB zD : Int} {zN : Int64} {zS : Int} (h : tX n L S r lo gL gB gD gN gS x)
    (hB : zB = (ba L lv n : Int) - 1) (hD : zD = (dp L (ba L lv n) : Int) + 1) (hN : ∀ v, v < 64 → bL zN v = (onV (uN S n b) r n v || nd L S r v (ba L lv n))) (hS : zS = ((sm S n + b : Nat) : Int)) :
    tX (n + 1) (uN L n lv) (uN S n b) r lo (uZ gL n (lv : Int)) (uZ gB n zB) (uZ gD n zD) (vp_updL gN n zN) (uZ gS (n + 1) zS) x := by
  have hba := ba_le L lv n
  refine ⟨fun d hd => ?_, fun d hd => ?_, h.2.2⟩
  · by_cases e : d = n
    · subst e
      rw [uZ_s, uZ_s, uZ_s, pk_uLs, uN_s, bs_push, dp_s, bs_push, dp_old hba]
      refine ⟨rfl, hB, hD, fun v hv => ?_⟩
      rw [hN v hv, nd_s, bs_push, nd_old hba]
    · rw [uZ_n e, uZ_n e, uZ_n e, pk_uLn e, uN_n e, bs_old (by omega), dp_old (by omega)]
      obtain ⟨a1, a2, a3, a4⟩ := h.1 d (by omega)
      exact ⟨a1, a2, a3, fun v hv => by rw [a4 v hv, nd_old (by omega)]⟩
  · by_cases e : d = n + 1
    · subst e
      rw [uZ_s, sm_push]
      exact hS
    · rw [uZ_n e, sm_old (by omega)]
      exact h.2.1 d (by omega)
/-- the reference's numbers -/
def tM (n : Nat) (L S : Nat → Nat) (lo : Nat → Bool) (gl gz go : Nat → Int) : Prop :=
  (∀ d, d < n → gl d = (L d : Int) ∧ gz d = (S d : Int)) ∧ ∀ v, v < 64 → go v = b2 (lo v)
theorem tM_drop {n k : Nat} {L S : Nat → Nat} {lo : Nat → Bool} {gl gz go : Nat → Int} (hk : k ≤ n) (h : tM n L S lo gl gz go) : tM k L S lo gl gz go := ⟨fun d hd => h.1 d (by omega), h.2⟩
theorem tM_push {n lv b : Nat} {L S : Nat → Nat} {lo : Nat → Bool} {gl gz go : Nat → Int} (h : tM n L S lo gl gz go) : tM (n + 1) (uN L n lv) (uN S n b) lo (uZ gl n (lv : Int)) (uZ gz n (b : Int)) go := by
  refine ⟨fun d hd => ?_, h.2⟩
  by_cases e : d = n
  · subst e
    rw [uZ_s, uZ_s, uN_s, uN_s]
    exact ⟨rfl, rfl⟩
  · rw [uZ_n e, uZ_n e, uN_n e, uN_n e]
    exact h.1 d (by omega)
