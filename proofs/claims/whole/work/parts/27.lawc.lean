/-! the law's loop: what holds at its head -/
abbrev wLz (ad : Nat → Nat) (ca : Nat → ClassId) (ou : Nat) (co : ClassId) (bd : Nat → Nat) (cb : Nat → ClassId) : va_W := (wX ad ca (fun _ => 0) (fun _ => 0) (fun _ => 0) (fun _ => 0) (fun _ => 0) 0 0 0 ++ wO ou co (fun _ => 0)) ++ wM bd cb 0 (fun _ => 0) (fun _ => 0) (fun _ => 0) (fun _ => 0) 0 0
abbrev tyL (ca : Nat → ClassId) (co : ClassId) (cb : Nat → ClassId) : List (ClassId × FieldType) := [(ca 1, .int), (ca 2, .int), (ca 3, .int), (ca 4, .long), (ca 5, .int), (co, .long), (cb 1, .int), (cb 2, .int), (cb 3, .boolean), (cb 4, .boolean)]
def LC (p : Program) (l : Launch) (s : State) (m : MethodId) (c : Code) (b Lz : Nat) (xs : Nat → Int32) (dC : Nat → ClassId) (dI : Nat → Nat → Nat) (ad : Nat → Nat) (ca : Nat → ClassId) (ou : Nat) (co : ClassId) (bd : Nat → Nat) (cb : Nat → ClassId) : Prop :=
  p.tables.exec = Jvm.exec ∧ c.code = cL_law ∧ c.maxLocals = 8 ∧ s.vm.findClass RL = some m.cls ∧ (∀ w ∈ (Cond.initialized RL :: wAll), w.before #[Value.ref b] s = true) ∧ va_X b Lz xs s s.heap ∧ b < s.heap.size ∧ Lz ≤ 1536 ∧ va_K (dC, dI) vwCl (tyL ca co cb) s ∧ exE (fun q => s.heap.size ≤ q) s s.heap ∧ va_D (fun q => s.heap.size ≤ q) (wLz ad ca ou co bd cb) ∧ l.stackTraces = false
/-- class and reference mean the same dumps -/
def LI (dC : Nat → ClassId) (dI : Nat → Nat → Nat) (ad : Nat → Nat) (ca : Nat → ClassId) (ou : Nat) (co : ClassId) (bd : Nat → Nat) (cb : Nat → ClassId) (n r : Nat) (L S : Nat → Nat) (lo : Nat → Bool) (H : Heap) : Prop :=
  ∃ (gL gB gD : Nat → Int) (gN : Nat → Int64) (gS : Nat → Int) (x : Int64) (fo : Nat → Int64) (er : Int) (gl gz go gw : Nat → Int), okS n L S r ∧ tX n L S r lo gL gB gD gN gS x ∧ tM n L S lo gl gz go ∧ va_P (dC, dI) vwCl ((wX ad ca gL gB gD gN gS (n : Int) (r : Int) x ++ wO ou co fo) ++ wM bd cb er gl gz go gw (n : Int) ((r : Int) + 1)) H
section RSL
variable {p : Program} {l : Launch} {e : Env} {R : Room} {s : State} {m : MethodId} {args : Array Value} {below : List Frame} {meth : Method} {c : Code} {H : Heap} {locs : List Loc} {cells slots : Nat} {Q : State → Prop}
variable {cc : ByteArray} {pc : Nat} {ls : Array Slot} {rest : List Value} {A : Nat → Prop} {H0 : Heap}
theorem r_sld (hx : p.tables.exec = Jvm.exec) (hb : c.code = cc) {b L : Nat} {xs : Nat → Int32} (hX : va_X b L xs s H0) (hbl : b < H0.size) (hbA : ¬ A b) (hS : va_S A H0 H locs) {i z : Int} (h0 : 0 ≤ i) (h1 : i < L) (hL : L ≤ 1536) (hz : xs i.toNat = iI z) (d : decode cc pc = .ok (.iaload, 1))
    (k : W p l e R s m args below meth c H locs cells slots Q (F0 m (pc + 1) ls (.int (iI z) :: rest))) : W p l e R s m args below meth c H locs cells slots Q (F0 m pc ls (.int (iI i) :: .ref b :: rest)) := va_sld hx hb hX hbl hbA hS (iI_in h0 h1 (by omega)) d (by rw [iI_clamp h0 (by omega), hz]; exact k)
end RSL
