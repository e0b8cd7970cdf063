/-! the law's cells: the class's, and the long array for its answers; worlds side by side -/
abbrev CU : Type := XU × Int × Int × Int64
abbrev wXc (ad : Nat → Nat) (ca : Nat → ClassId) (c : CU) : va_W := wX ad ca c.1.1 c.1.2.1 c.1.2.2.1 c.1.2.2.2.1 c.1.2.2.2.2 c.2.1 c.2.2.1 c.2.2.2
def XS (n : Nat) (L S : Nat → Nat) (r : Nat) (lo : Nat → Bool) (c : CU) : Prop := tXu n L S r lo c.1 c.2.2.2 ∧ c.2.1 = (n : Int) ∧ c.2.2.1 = (r : Int)
abbrev wO (ou : Nat) (co : ClassId) (fo : Nat → Int64) : va_W := [(ou, .inl (co, 1, .inr (.inl fo)))]
abbrev yXo (ca : Nat → ClassId) (co : ClassId) : List (ClassId × FieldType) := [(ca 1, .int), (ca 2, .int), (ca 3, .int), (ca 4, .long), (ca 5, .int), (co, .long)]
def bJ (b : Bool) : Int64 := if b then 1 else 0
theorem inW_left {a b : va_W} {q : Nat} (h : inW a q) : inW (a ++ b) q := by
  obtain ⟨k, e, hk⟩ := h
  exact ⟨k, e, by rw [List.getElem?_append_left (List.getElem?_eq_some_iff.mp hk).1]; exact hk⟩
theorem wjoin {D : va_G} {cl : List vw_C} {A : Nat → Prop} {wc wr w1 : va_W} {H H1 : Heap} (hP : va_P D cl (wc ++ wr) H) (hD : va_D A (wc ++ wr)) (hk : ∀ q : Nat, q < H.size → ¬ inW wc q → H1[q]? = H[q]?) (hP1 : va_P D cl w1 H1) : va_P D cl (w1 ++ wr) H1 := by
  refine hP1.app (fun k q hq => ?_)
  have h1 : (wc ++ wr)[wc.length + k]? = some q := by rw [List.getElem?_append_right (Nat.le_add_right _ _), Nat.add_sub_cancel_left]; exact hq
  have h2 : va_at D cl q H := hP _ q h1
  refine h2.kept (hk q.1 h2.lt (fun h => ?_))
  obtain ⟨j, e, hj⟩ := h
  have hl := (List.getElem?_eq_some_iff.mp hj).1
  have h3 : (wc ++ wr)[j]? = some (q.1, e) := by rw [List.getElem?_append_left hl]; exact hj
  have h4 := hD.1 j (wc.length + k) (q.1, e) q h3 h1 rfl
  omega
