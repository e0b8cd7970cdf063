/-! the class's arrays in one; a dump's own volumes -/
abbrev XU : Type := (Nat → Int) × (Nat → Int) × (Nat → Int) × (Nat → Int64) × (Nat → Int)
abbrev wXu (ad : Nat → Nat) (ca : Nat → ClassId) (u : XU) (n r : Int) (x : Int64) : va_W := wX ad ca u.1 u.2.1 u.2.2.1 u.2.2.2.1 u.2.2.2.2 n r x
abbrev tXu (n : Nat) (L S : Nat → Nat) (r : Nat) (lo : Nat → Bool) (u : XU) (x : Int64) : Prop := tX n L S r lo u.1 u.2.1 u.2.2.1 u.2.2.2.1 u.2.2.2.2 x
theorem onV_push {n b r v : Nat} {S : Nat → Nat} : onV (uN S n b) r n v = (decide (sm S n / r ≤ v) && decide (v ≤ (sm S n + b - 1) / r)) := by
  unfold onV
  rw [sm_old (Nat.le_refl n), uN_s]
