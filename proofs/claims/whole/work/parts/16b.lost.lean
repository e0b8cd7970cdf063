/-! lost volumes by their bits; bounds of the answers -/
theorem ls_get {x : Int64} {lo : Nat → Bool} {v : Nat} (hv : v < 64) (hx : ∀ w, w < 64 → bL x w = lo w) : x &&& ((1 : Int64) <<< ((iI (v : Int)).toInt64 &&& 63)) = 0 ↔ lo v = false := by
  rw [bL_z]
  constructor
  · intro h
    have h1 := h v hv
    rw [bL_and, bL_bit hv hv, hx v hv] at h1
    simpa using h1
  · intro h w hw
    rw [bL_and, bL_bit hv hw, hx w hw]
    by_cases e : w = v
    · subst e
      rw [h]
      rfl
    · simp [e]
theorem ls_on {x : Int64} {lo : Nat → Bool} {v : Nat} (hv : v < 64) (hx : ∀ w, w < 64 → bL x w = lo w) : ∀ w, w < 64 → bL (x ||| ((1 : Int64) <<< ((iI (v : Int)).toInt64 &&& 63))) w = lsU lo v true w := by
  intro w hw
  rw [bL_or, bL_bit hv hw, hx w hw]
  unfold lsU
  by_cases e : w = v
  · simp [e]
  · simp [e]
theorem ls_off {x : Int64} {lo : Nat → Bool} {v : Nat} (hv : v < 64) (hx : ∀ w, w < 64 → bL x w = lo w) : ∀ w, w < 64 → bL (x &&& (((1 : Int64) <<< ((iI (v : Int)).toInt64 &&& 63)) ^^^ (-1))) w = lsU lo v false w := by
  intro w hw
  rw [bL_and, bL_not _ hw, bL_bit hv hw, hx w hw]
  unfold lsU
  by_cases e : w = v
  · simp [e]
  · simp [e]
theorem spP_1 {L S : Nat → Nat} {r n k v : Nat} : noH (spP L S r n k v) (n - k) = true := noH_t.mpr fun j hj => by
  unfold spP
  rw [decide_eq_false (by omega), Bool.false_and]
theorem b2_t : b2 true = 1 := rfl
theorem b2_f : b2 false = 0 := rfl
