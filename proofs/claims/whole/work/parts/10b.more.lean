/-! Math.max; calls without a world; good dumps by their bits -/
theorem wl_max : (.methodLink RX0 100 Lib.Math.max.name : Cond) ∈ wAll := wA_of 282 (by decide +kernel) (by decide +kernel)
theorem wt_max : (.static Lib.Math.max.name : Cond) ∈ wAll := wA_of 283 (by decide +kernel) (by decide +kernel)
theorem wc_max : (.code Lib.Math.max.name Lib.Math.max.code 2 (some .int) : Cond) ∈ wAll := wA_of 284 (by decide +kernel) (by decide +kernel)
theorem iI_max {a b : Int} (ha : iR a) (hb : iR b) : (if iI a < iI b then iI b else iI a) = iI (if a < b then b else a) := by
  by_cases h : a < b
  · rw [if_pos ((iI_lt ha hb).mpr h), if_pos h]
  · rw [if_neg (fun q => h ((iI_lt ha hb).mp q)), if_neg h]
section S0
variable {D : va_G} {cl : List vw_C} {tys : List (ClassId × FieldType)} {As : List Value} {s : State} {H : Heap}
theorem PX_S0 (hK : va_K D cl tys s) : PreS s H (PX D cl [] [] As) As := ⟨PX_blind, PX_pre (A := fun _ => True) (fun k q h => by simp at h) ⟨hK.1, fun k q h => by simp at h⟩ ⟨fun i j p q h => by simp at h, fun k q h => by simp at h⟩⟩
end S0
theorem gd_iff {L S : Nat → Nat} {r d : Nat} {lo : Nat → Bool} {y x : Int64} (hN : ∀ v, v < 64 → bL y v = nd L S r v (d + 1)) (hx : ∀ v, v < 64 → bL x v = lo v) : y &&& x = 0 ↔ gd L S r lo d = true := by
  unfold gd
  rw [noH_t, bL_z]
  constructor
  · intro h v hv
    have h1 := h v hv
    rw [bL_and, hN v hv, hx v hv] at h1
    exact h1
  · intro h v hv
    rw [bL_and, hN v hv, hx v hv]
    exact h v hv
theorem gd_t {L S : Nat → Nat} {r d : Nat} {lo : Nat → Bool} (h : gd L S r lo d = true) : b2 (gd L S r lo d) = 1 := by rw [h]; rfl
theorem gd_f {L S : Nat → Nat} {r d : Nat} {lo : Nat → Bool} (h : ¬ gd L S r lo d = true) : b2 (gd L S r lo d) = 0 := by
  have h2 : gd L S r lo d = false := by cases q : gd L S r lo d with | true => exact absurd q h | false => rfl
  rw [h2]
  rfl
theorem b2_r (b : Bool) : b2 b = 0 ∨ b2 b = 1 := by cases b <;> simp [b2]
theorem b2_01 (b : Bool) : 0 ≤ b2 b ∧ b2 b ≤ 1 := by cases b <;> simp [b2]
theorem cn_s (P : Nat → Bool) (k : Nat) : (cn P (k + 1) : Int) = (cn P k : Int) + b2 (P k) := by
  show ((cn P k + (if P k then 1 else 0) : Nat) : Int) = _
  unfold b2
  split <;> simp
theorem mx_s (f : Nat → Nat) (k : Nat) : (mx f (k + 1) : Int) = if (mx f k : Int) < (f k : Int) then (f k : Int) else (mx f k : Int) := by
  show ((if mx f k < f k then f k else mx f k : Nat) : Int) = _
  by_cases h : mx f k < f k
  · rw [if_pos h, if_pos (by omega)]
  · rw [if_neg h, if_neg (by omega)]
theorem mx_le (f : Nat → Nat) (B : Nat) : ∀ k, (∀ j, j < k → f j ≤ B) → mx f k ≤ B
  | 0, _ => Nat.zero_le _
  | k + 1, h => by
    show (if mx f k < f k then f k else mx f k) ≤ B
    split
    · exact h k (Nat.lt_succ_self k)
    · exact mx_le f B k (fun j hj => h j (Nat.lt_succ_of_lt hj))
