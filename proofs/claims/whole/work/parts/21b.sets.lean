/-! a set built bit by bit; small facts on false and true -/
theorem st_on {y : Int64} {P : Nat → Bool} {k : Nat} (h : ∀ j, j < 64 → bL y j = (decide (j < k) && P j)) (hk : k < 64) (hP : P k = true) : ∀ j, j < 64 → bL (y ||| ((1 : Int64) <<< ((iI (k : Int)).toInt64 &&& 63))) j = (decide (j < k + 1) && P j) := by
  intro j hj
  rw [bL_or, bL_bit hk hj, h j hj]
  by_cases e : j = k
  · subst e
    simp [hP]
  · rw [decide_eq_false e, Bool.or_false]
    congr 1
    exact decide_eq_decide.mpr (by omega)
theorem st_off {y : Int64} {P : Nat → Bool} {k : Nat} (h : ∀ j, j < 64 → bL y j = (decide (j < k) && P j)) (hP : P k = false) : ∀ j, j < 64 → bL y j = (decide (j < k + 1) && P j) := by
  intro j hj
  rw [h j hj]
  by_cases e : j = k
  · subst e
    simp [hP]
  · congr 1
    exact decide_eq_decide.mpr (by omega)
theorem b2_0 {b : Bool} (h : b2 b = 0) : b = false := by
  cases b with
  | true => exact absurd h (by decide)
  | false => rfl
theorem b2_1 {b : Bool} (h : ¬ b2 b = 0) : b = true := by
  cases b with
  | true => rfl
  | false => exact absurd rfl h
