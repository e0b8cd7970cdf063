/-! the reference's cells -/
abbrev wM (ad : Nat → Nat) (ca : Nat → ClassId) (er : Int) (gl gz go gw : Nat → Int) (n vol : Int) : va_W := [(ad 0, .inr (1, [.int (iI er), .ref (ad 1), .ref (ad 2), .ref (ad 3), .ref (ad 4), .int (iI n), .int (iI vol)])), (ad 1, .inl (ca 1, 300, .inl (fun j => iI (gl j)))), (ad 2, .inl (ca 2, 300, .inl (fun j => iI (gz j)))), (ad 3, .inl (ca 3, 64, .inl (fun j => iI (go j)))), (ad 4, .inl (ca 4, 64, .inl (fun j => iI (gw j))))]
abbrev yM (ca : Nat → ClassId) : List (ClassId × FieldType) := [(ca 1, .int), (ca 2, .int), (ca 3, .boolean), (ca 4, .boolean)]
abbrev MU : Type := Int × (Nat → Int) × (Nat → Int) × (Nat → Int) × (Nat → Int) × Int × Int
abbrev wMu (ad : Nat → Nat) (ca : Nat → ClassId) (u : MU) : va_W := wM ad ca u.1 u.2.1 u.2.2.1 u.2.2.2.1 u.2.2.2.2.1 u.2.2.2.2.2.1 u.2.2.2.2.2.2
/-- the reference's state means n dumps of levels L and sizes S, r blocks behind a label, lost volumes lo -/
def MS (n : Nat) (L S : Nat → Nat) (r : Nat) (lo : Nat → Bool) (u : MU) : Prop := tM n L S lo u.2.1 u.2.2.1 u.2.2.2.1 ∧ u.2.2.2.2.2.1 = (n : Int) ∧ u.2.2.2.2.2.2 = (r : Int) + 1
theorem uZ_all {g : Nat → Int} {k : Nat} {c : Int} (h : ∀ j, j < k → g j = c) : ∀ j, j < k + 1 → uZ g ((k : Int)).toNat c j = c := by
  intro j hj
  have e : ((k : Int)).toNat = k := by omega
  rw [e]
  by_cases q : j = k
  · rw [q, uZ_s]
  · rw [uZ_n q, h j (by omega)]
theorem wn_s {g : Nat → Int} {w1 : Nat → Bool} {v0 v : Nat} (h : ∀ j, j < 64 → g j = b2 (w1 j || (decide (v0 ≤ j) && decide (j < v)))) (hv : v0 ≤ v) : ∀ j, j < 64 → uZ g ((v : Int)).toNat 1 j = b2 (w1 j || (decide (v0 ≤ j) && decide (j < v + 1))) := by
  intro j hj
  have e : ((v : Int)).toNat = v := by omega
  rw [e]
  by_cases q : j = v
  · rw [q, uZ_s, decide_eq_true hv, decide_eq_true (Nat.lt_succ_self v), Bool.and_self, Bool.or_true]
    rfl
  · rw [uZ_n q, h j hj]
    congr 3
    exact decide_eq_decide.mpr (by omega)
