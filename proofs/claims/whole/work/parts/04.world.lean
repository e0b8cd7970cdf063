/-! worlds, contracts' starts and ends, calls -/
def inW (w : va_W) (q : Nat) : Prop := ∃ (k : Nat) (e : va_E), w[k]? = some (q, e)
abbrev nF : Nat → Prop := fun _ => False
theorem wD_own {A : Nat → Prop} {w : va_W} (h : va_D A w) : va_D (inW w) w := ⟨h.1, fun k q hq => ⟨k, q.2, hq⟩⟩
theorem wD_in {A : Nat → Prop} {w : va_W} (h : va_D A w) : ∀ q, inW w q → A q := fun q ⟨k, e, hk⟩ => h.2 k (q, e) hk
theorem wD_at {w w' : va_W} (e : w.map (fun q => q.1) = w'.map (fun q => q.1)) {i : Nat} {p : Nat × va_E} (h : w'[i]? = some p) : ∃ p0, w[i]? = some p0 ∧ p0.1 = p.1 := by
  have h1 : (w'.map (fun q => q.1))[i]? = some p.1 := by rw [List.getElem?_map, h]; rfl
  rw [← e, List.getElem?_map] at h1
  cases h2 : w[i]? with
  | none => rw [h2] at h1; cases h1
  | some p0 => rw [h2] at h1; exact ⟨p0, rfl, Option.some.inj h1⟩
theorem wD_same {A : Nat → Prop} {w w' : va_W} (h : va_D A w) (e : w.map (fun q => q.1) = w'.map (fun q => q.1)) : va_D A w' := by
  refine ⟨fun i j p q hi hj hpq => ?_, fun k q hk => ?_⟩
  · obtain ⟨p0, h1, h2⟩ := wD_at e hi
    obtain ⟨q0, h3, h4⟩ := wD_at e hj
    exact h.1 i j p0 q0 h1 h3 (by rw [h2, h4]; exact hpq)
  · obtain ⟨p0, h1, h2⟩ := wD_at e hk
    rw [← h2]
    exact h.2 k p0 h1
theorem inW_same {w w' : va_W} (e : w.map (fun q => q.1) = w'.map (fun q => q.1)) {q : Nat} (h : inW w' q) : inW w q := by
  obtain ⟨k, x, hk⟩ := h
  obtain ⟨p0, h1, h2⟩ := wD_at e hk
  exact ⟨k, p0.2, h1.trans (congrArg some (Prod.ext h2 rfl))⟩
/-- a method's start: its world, the classes, the cells apart -/
def PX (D : va_G) (cl : List vw_C) (tys : List (ClassId × FieldType)) (w : va_W) (av : List Value) : Array Value → State → Prop := va_Pc av (fun U => va_P D cl w U.heap ∧ va_K D cl tys U ∧ va_D (fun _ => True) w)
section PXs
variable {D : va_G} {cl : List vw_C} {tys : List (ClassId × FieldType)} {w : va_W} {av As : List Value} {s : State} {H : Heap} {A : Nat → Prop}
theorem PX_blind : FrameBlind (PX D cl tys w av) := fun a U g mk q => ⟨q.1, q.2.1, va_K.moved (u := U) (U := U.calling g mk a) (Vm.Alike.refl U.vm) q.2.2.1, q.2.2.2⟩
theorem PX_pre (hP : va_P D cl w H) (hK : va_K D cl tys s) (hD : va_D A w) : ∀ U : State, U.heap = H → s.WarmedH U.vm → PX D cl tys w av av.toArray U := fun U hU hW => ⟨rfl, by rw [hU]; exact hP, va_K.moved hW.alike hK, hD.weaken (fun _ _ _ _ => trivial)⟩
theorem PX_V {b q0 ci : Nat} {q : vw_C} {fs : List Value} (hP : va_P D cl w H) (hK : va_K D cl tys s) (hD : va_D A w) (hc : cl[ci]? = some q) (he : w[q0]? = some (b, .inr (ci, fs))) : PreV s H q.1 b (PX D cl tys w (.ref b :: As)) As := ⟨PX_blind, va_recv hK hP hc he, PX_pre hP hK hD⟩
theorem PX_S (hP : va_P D cl w H) (hK : va_K D cl tys s) (hD : va_D A w) : PreS s H (PX D cl tys w As) As := ⟨PX_blind, PX_pre hP hK hD⟩
end PXs
/-- ends of methods that change nothing -/
abbrev RQi (Pz : Int32 → Prop) : Array Value → State → Outcome → State → Prop := va_Qi (fun z (_ : Unit) => Pz z) (fun _ _ => True) nF
abbrev RQl (Pz : Int64 → Prop) : Array Value → State → Outcome → State → Prop := va_Ql (fun z (_ : Unit) => Pz z) (fun _ _ => True) nF
/-- what an exception leaves: nothing changed, its class as PE says -/
abbrev xcE (PE : String → Prop) : String → State → State → Prop := vx_X (S := Unit) (fun _ => True) (fun E _ _ => PE E) nF
section Cs
variable {p : Program} {l : Launch} {e : Env} {R : Room} {s : State} {m : MethodId} {args : Array Value} {below : List Frame} {meth : Method} {c : Code} {H : Heap} {locs : List Loc} {cells slots : Nat} {Q : State → Prop}
variable {pc : Nat} {ls : Array Slot} {rest st0 : List Value} {a : Array Value} {A0 : Nat → Prop} {H0 : Heap} {mc ms : Nat} {D : va_G} {cl : List vw_C} {w : va_W} {S : Type} {w' : S → va_W}
theorem ro_i {Pz : Int32 → Prop} (hr : va_Run p l e R s m args below meth c H locs cells slots 0 0 (F0 m pc ls st0) rest (RQi Pz a) nF) (hS : va_S A0 H0 H locs) (hP : va_P D cl w H)
    (kk : ∀ (r : Int32) (H1 : Heap) (locs1 : List Loc), Pz r → va_P D cl w H1 → va_S A0 H0 H1 locs1 → W p l e R s m args below meth c H1 locs1 cells slots Q (F0 m (pc + 3) ls (.int r :: rest))) : W p l e R s m args below meth c H locs cells slots Q (F0 m pc ls st0) :=
  va_calli hr hS (fun q _ h => h.elim) (fun q h => h.elim) (fun r u t H1 locs1 ht hvm hp hB hz hk hS1 => kk r H1 locs1 hp (hP.kept (fun k q hq => hk q.1 (hP k q hq).lt (fun h => h))) hS1)
theorem ro_l {Pz : Int64 → Prop} (hr : va_Run p l e R s m args below meth c H locs cells slots 0 0 (F0 m pc ls st0) rest (RQl Pz a) nF) (hS : va_S A0 H0 H locs) (hP : va_P D cl w H)
    (kk : ∀ (r : Int64) (H1 : Heap) (locs1 : List Loc), Pz r → va_P D cl w H1 → va_S A0 H0 H1 locs1 → W p l e R s m args below meth c H1 locs1 cells slots Q (F0 m (pc + 3) ls (.long r :: rest))) : W p l e R s m args below meth c H locs cells slots Q (F0 m pc ls st0) :=
  va_calll hr hS (fun q _ h => h.elim) (fun q h => h.elim) (fun r u t H1 locs1 ht hvm hp hB hz hk hS1 => kk r H1 locs1 hp (hP.kept (fun k q hq => hk q.1 (hP k q hq).lt (fun h => h))) hS1)
theorem ro_z {z : Int} (hr : va_Run p l e R s m args below meth c H locs cells slots 0 0 (F0 m pc ls st0) rest (RQi (fun y => y = iI z) a) nF) (hS : va_S A0 H0 H locs) (hP : va_P D cl w H)
    (kk : ∀ (H1 : Heap) (locs1 : List Loc), va_P D cl w H1 → va_S A0 H0 H1 locs1 → W p l e R s m args below meth c H1 locs1 cells slots Q (F0 m (pc + 3) ls (.int (iI z) :: rest))) : W p l e R s m args below meth c H locs cells slots Q (F0 m pc ls st0) :=
  ro_i hr hS hP (fun r H1 locs1 hr hP hS => by subst hr; exact kk H1 locs1 hP hS)
theorem wc_i {post : Int32 → S → Prop} (hr : va_Run p l e R s m args below meth c H locs cells slots mc ms (F0 m pc ls st0) rest (va_Qi post (fun u t => va_P D cl (w' u) t.heap) (inW w) a) (inW w)) (hS : va_S A0 H0 H locs) (hA : ∀ q, inW w q → A0 q)
    (kk : ∀ (r : Int32) (u : S) (H1 : Heap) (locs1 : List Loc), post r u → va_P D cl (w' u) H1 → va_S A0 H0 H1 locs1 → (∀ q : Nat, q < H.size → ¬ inW w q → H1[q]? = H[q]?) → W p l e R s m args below meth c H1 locs1 (cells + mc) (slots + ms) Q (F0 m (pc + 3) ls (.int r :: rest))) : W p l e R s m args below meth c H locs cells slots Q (F0 m pc ls st0) :=
  va_calli hr hS (fun q _ h => hA q h) hA (fun r u t H1 locs1 ht hvm hp hB hz hk hS1 => kk r u H1 locs1 hp (by rw [← ht]; exact hB) hS1 hk)
theorem wc_l {post : Int64 → S → Prop} (hr : va_Run p l e R s m args below meth c H locs cells slots mc ms (F0 m pc ls st0) rest (va_Ql post (fun u t => va_P D cl (w' u) t.heap) (inW w) a) (inW w)) (hS : va_S A0 H0 H locs) (hA : ∀ q, inW w q → A0 q)
    (kk : ∀ (r : Int64) (u : S) (H1 : Heap) (locs1 : List Loc), post r u → va_P D cl (w' u) H1 → va_S A0 H0 H1 locs1 → (∀ q : Nat, q < H.size → ¬ inW w q → H1[q]? = H[q]?) → W p l e R s m args below meth c H1 locs1 (cells + mc) (slots + ms) Q (F0 m (pc + 3) ls (.long r :: rest))) : W p l e R s m args below meth c H locs cells slots Q (F0 m pc ls st0) :=
  va_calll hr hS (fun q _ h => hA q h) hA (fun r u t H1 locs1 ht hvm hp hB hz hk hS1 => kk r u H1 locs1 hp (by rw [← ht]; exact hB) hS1 hk)
theorem wc_v {post : S → Prop} (hr : va_Run p l e R s m args below meth c H locs cells slots mc ms (F0 m pc ls st0) rest (va_Qv post (fun u t => va_P D cl (w' u) t.heap) (inW w) a) (inW w)) (hS : va_S A0 H0 H locs) (hA : ∀ q, inW w q → A0 q)
    (kk : ∀ (u : S) (H1 : Heap) (locs1 : List Loc), post u → va_P D cl (w' u) H1 → va_S A0 H0 H1 locs1 → (∀ q : Nat, q < H.size → ¬ inW w q → H1[q]? = H[q]?) → W p l e R s m args below meth c H1 locs1 (cells + mc) (slots + ms) Q (F0 m (pc + 3) ls rest)) : W p l e R s m args below meth c H locs cells slots Q (F0 m pc ls st0) :=
  va_callv hr hS (fun q _ h => hA q h) hA (fun u t H1 locs1 ht hvm hp hB hz hk hS1 => kk u H1 locs1 hp (by rw [← ht]; exact hB) hS1 hk)
end Cs
