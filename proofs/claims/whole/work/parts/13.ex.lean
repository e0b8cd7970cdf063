/-! exceptions: what a method that throws takes as given, and how it hands it on -/
abbrev eIA : String := "java/lang/IllegalArgumentException"
abbrev eIS : String := "java/lang/IllegalStateException"
abbrev eIX : String := "java/lang/IndexOutOfBoundsException"
abbrev eN : List String := ["java/lang/RuntimeException", "java/lang/Exception"]
abbrev iSt : String := "(Ljava/lang/String;)V"
def xTx : List (Nat × String) := [(32, "a volume has 2 to 1000 blocks"), (37, "a level is 0 to 9"), (39, "a dump has 1 to 500 blocks"), (47, "there are 300 dumps"), (53, "64 volumes are too few"), (59, "there are not so many dumps"), (121, "there is no such dump"), (64, "a chain is counted from 0"), (66, "the dump has no such block"), (124, "there is no such volume"), (75, "a volume has no such block"), (90, "n is below 0"), (117, "what is 0 to 5")]
def exE (A : Nat → Prop) (U : State) (H : Heap) : Prop :=
  (vx_Zq Bundle.tN "UNASSIGNED_STACK" Bundle.steD A U H ∧ vx_Zq Bundle.tN "SUPPRESSED_SENTINEL" Bundle.listD A U H) ∧ (∀ E ∈ [eIA, eIS, eIX], va_Nw (.castable E E) U) ∧ (∀ Y ∈ ["java/lang/RuntimeException", "java/lang/Exception", "java/lang/Throwable"], va_Nw (.declares ⟨Y, "<init>", iSt⟩) U) ∧ (∀ q ∈ xTx, ∃ sa : Nat, vk_R RX0 q.1 q.2 sa U) ∧ va_Nc eIS eIA U ∧ va_Nc eIA eIX U
theorem exE_warm {A B : Nat → Prop} {s U : State} {H0 H : Heap} (hE : exE A s H0) (hW : s.WarmedH U.vm) (hq : ∀ a : Nat, a < H0.size → ¬ A a → H[a]? = H0[a]?) (hAB : ∀ q, B q → A q) : exE B U H :=
  ⟨⟨vx_Zq.moved hW.alike ((hE.1.1.kept hq).narrow hAB), vx_Zq.moved hW.alike ((hE.1.2.kept hq).narrow hAB)⟩, fun E h => va_Nw.warmC hW (hE.2.1 E h), fun Y h => va_Nw.warmD hW (hE.2.2.1 Y h), fun q h => by
    obtain ⟨sa, h1⟩ := hE.2.2.2.1 q h
    exact ⟨sa, vk_R.warm hW h1⟩, va_Nc.moved hW.alike hE.2.2.2.2.1, va_Nc.moved hW.alike hE.2.2.2.2.2⟩
theorem exE_none {A : Nat → Prop} {s : State} {H : Heap} (hE : exE A s H) : exE nF s H := exE_warm hE (State.WarmedH.refl s) (fun _ _ _ => rfl) (fun _ h => h.elim)
/-- a throwing method's start -/
def PXe (D : va_G) (cl : List vw_C) (tys : List (ClassId × FieldType)) (w : va_W) (av : List Value) : Array Value → State → Prop := va_Pc av (fun U => va_P D cl w U.heap ∧ va_K D cl tys U ∧ va_D (fun _ => True) w ∧ exE (inW w) U U.heap)
section PXes
variable {D : va_G} {cl : List vw_C} {tys : List (ClassId × FieldType)} {w : va_W} {av As : List Value} {s : State} {H : Heap} {A B : Nat → Prop}
theorem PXe_blind : FrameBlind (PXe D cl tys w av) := fun a U g mk q => ⟨q.1, q.2.1, va_K.moved (u := U) (U := U.calling g mk a) (Vm.Alike.refl U.vm) q.2.2.1, q.2.2.2.1, exE_warm (s := U) (U := U.calling g mk a) q.2.2.2.2 (State.WarmedH.refl U) (fun _ _ _ => rfl) (fun _ h => h)⟩
theorem PXe_pre (hP : va_P D cl w H) (hK : va_K D cl tys s) (hD : va_D A w) (hE : exE B s s.heap) (hq : ∀ a : Nat, a < s.heap.size → ¬ B a → H[a]? = s.heap[a]?) (hAB : ∀ q, inW w q → B q) : ∀ U : State, U.heap = H → s.WarmedH U.vm → PXe D cl tys w av av.toArray U := fun U hU hW => ⟨rfl, by rw [hU]; exact hP, va_K.moved hW.alike hK, hD.weaken (fun _ _ _ _ => trivial), by rw [hU]; exact exE_warm hE hW hq hAB⟩
theorem PXe_V {b q0 ci : Nat} {q : vw_C} {fs : List Value} (hP : va_P D cl w H) (hK : va_K D cl tys s) (hD : va_D A w) (hE : exE B s s.heap) (hq : ∀ a : Nat, a < s.heap.size → ¬ B a → H[a]? = s.heap[a]?) (hAB : ∀ q, inW w q → B q) (hc : cl[ci]? = some q) (he : w[q0]? = some (b, .inr (ci, fs))) : PreV s H q.1 b (PXe D cl tys w (.ref b :: As)) As := ⟨PXe_blind, va_recv hK hP hc he, PXe_pre hP hK hD hE hq hAB⟩
theorem PXe_S (hP : va_P D cl w H) (hK : va_K D cl tys s) (hD : va_D A w) (hE : exE B s s.heap) (hq : ∀ a : Nat, a < s.heap.size → ¬ B a → H[a]? = s.heap[a]?) (hAB : ∀ q, inW w q → B q) : PreS s H (PXe D cl tys w As) As := ⟨PXe_blind, PXe_pre hP hK hD hE hq hAB⟩
end PXes
theorem hat_34 {A : Nat → Prop} {s : State} {H : Heap} {args : Array Value} (hE : exE A s H) (hw : ∀ w ∈ wAll, w.before args s = true) : ∀ w ∈ vx_atS RX0 34 eIA eN, w.before args s = true :=
  vx_hat (L := vx_atS RX0 34 eIA eN) (B := [.castable eIA eIA, .declares ⟨"java/lang/RuntimeException", "<init>", iSt⟩, .declares ⟨"java/lang/Exception", "<init>", iSt⟩, .declares ⟨"java/lang/Throwable", "<init>", iSt⟩]) (fun w h => hw w (wx_34 w h)) (by decide +kernel)
    (vx_c (va_Nw.use rfl (hE.2.1 eIA (by simp))) (vx_c (va_Nw.use rfl (hE.2.2.1 _ (by simp))) (vx_c (va_Nw.use rfl (hE.2.2.1 _ (by simp))) (vx_c (va_Nw.use rfl (hE.2.2.1 _ (by simp))) vx_n))))
theorem hat_49 {A : Nat → Prop} {s : State} {H : Heap} {args : Array Value} (hE : exE A s H) (hw : ∀ w ∈ wAll, w.before args s = true) : ∀ w ∈ vx_atS RX0 49 eIS eN, w.before args s = true :=
  vx_hat (L := vx_atS RX0 49 eIS eN) (B := [.castable eIS eIS, .declares ⟨"java/lang/RuntimeException", "<init>", iSt⟩, .declares ⟨"java/lang/Exception", "<init>", iSt⟩, .declares ⟨"java/lang/Throwable", "<init>", iSt⟩]) (fun w h => hw w (wx_49 w h)) (by decide +kernel)
    (vx_c (va_Nw.use rfl (hE.2.1 eIS (by simp))) (vx_c (va_Nw.use rfl (hE.2.2.1 _ (by simp))) (vx_c (va_Nw.use rfl (hE.2.2.1 _ (by simp))) (vx_c (va_Nw.use rfl (hE.2.2.1 _ (by simp))) vx_n))))
theorem hat_123 {A : Nat → Prop} {s : State} {H : Heap} {args : Array Value} (hE : exE A s H) (hw : ∀ w ∈ wAll, w.before args s = true) : ∀ w ∈ vx_atS RX0 123 eIX eN, w.before args s = true :=
  vx_hat (L := vx_atS RX0 123 eIX eN) (B := [.castable eIX eIX, .declares ⟨"java/lang/RuntimeException", "<init>", iSt⟩, .declares ⟨"java/lang/Exception", "<init>", iSt⟩, .declares ⟨"java/lang/Throwable", "<init>", iSt⟩]) (fun w h => hw w (wx_123 w h)) (by decide +kernel)
    (vx_c (va_Nw.use rfl (hE.2.1 eIX (by simp))) (vx_c (va_Nw.use rfl (hE.2.2.1 _ (by simp))) (vx_c (va_Nw.use rfl (hE.2.2.1 _ (by simp))) (vx_c (va_Nw.use rfl (hE.2.2.1 _ (by simp))) vx_n))))
section VCs
variable {p : Program} {l : Launch} {e : Env} {R : Room} {s : State} {m : MethodId} {args : Array Value} {below : List Frame} {meth : Method} {c : Code} {H : Heap} {locs : List Loc} {cells slots : Nat} {Q : State → Prop}
variable {pc : Nat} {ls : Array Slot} {rest st0 : List Value} {a : Array Value} {A0 : Nat → Prop} {H0 : Heap} {mc ms : Nat} {D : va_G} {cl : List vw_C} {w : va_W} {S : Type} {w' : S → va_W} {PE : String → Prop}
/-- a check that throws or says Pv -/
theorem vc_v {Pv : Prop} (hr : vx_Run p l e R s m args below meth c H locs cells slots mc ms (F0 m pc ls st0) rest (va_Qv (fun (_ : Unit) => Pv) (fun _ _ => True) nF a) (xcE PE) nF) (hS : va_S A0 H0 H locs) (hP : va_P D cl w H)
    (kx : ∀ (E : String) (ce : Cell) (q9 : Addr) (H1 : Heap) (locs1 : List Loc), PE E → va_S A0 H0 H1 locs1 → H1[q9]? = some ce → ce.vm = .none → s.vm.findClass E = some ce.cls → vx_W p l e R s m args below meth c H1 locs1 (cells + mc) (slots + ms) Q (F0 m pc ls rest) q9)
    (kk : ∀ (H1 : Heap) (locs1 : List Loc), Pv → va_P D cl w H1 → va_S A0 H0 H1 locs1 → W p l e R s m args below meth c H1 locs1 (cells + mc) (slots + ms) Q (F0 m (pc + 3) ls rest)) : W p l e R s m args below meth c H locs cells slots Q (F0 m pc ls st0) :=
  vx_callv hr hS (fun q _ h => h.elim) (fun q h => h.elim) (fun q _ h => h.elim)
    (fun E ce q9 u t H1 locs1 ht hvm hpx hB hz hk hS1 h1 h2 h3 => kx E ce q9 H1 locs1 hB hS1 h1 h2 h3)
    (fun u t H1 locs1 ht hvm hp hB hz hk hS1 => kk H1 locs1 hp (hP.kept (fun k q hq => hk q.1 (hP k q hq).lt (fun h => h))) hS1)
/-- calls of methods that change their world, or throw and change nothing -/
theorem vw_i {post : Int32 → S → Prop} (hr : vx_Run p l e R s m args below meth c H locs cells slots mc ms (F0 m pc ls st0) rest (va_Qi post (fun u t => va_P D cl (w' u) t.heap) (inW w) a) (xcE PE) (inW w)) (hS : va_S A0 H0 H locs) (hA : ∀ q, inW w q → A0 q)
    (kx : ∀ (E : String) (ce : Cell) (q9 : Addr) (H1 : Heap) (locs1 : List Loc), PE E → va_S A0 H0 H1 locs1 → (∀ q : Nat, q < H.size → H1[q]? = H[q]?) → H1[q9]? = some ce → ce.vm = .none → s.vm.findClass E = some ce.cls → vx_W p l e R s m args below meth c H1 locs1 (cells + mc) (slots + ms) Q (F0 m pc ls rest) q9)
    (kk : ∀ (r : Int32) (u : S) (H1 : Heap) (locs1 : List Loc), post r u → va_P D cl (w' u) H1 → va_S A0 H0 H1 locs1 → (∀ q : Nat, q < H.size → ¬ inW w q → H1[q]? = H[q]?) → W p l e R s m args below meth c H1 locs1 (cells + mc) (slots + ms) Q (F0 m (pc + 3) ls (.int r :: rest))) : W p l e R s m args below meth c H locs cells slots Q (F0 m pc ls st0) :=
  vx_calli hr hS (fun q _ h => hA q h) hA (fun q _ h => h.elim)
    (fun E ce q9 u t H1 locs1 ht hvm hpx hB hz hk hS1 h1 h2 h3 => kx E ce q9 H1 locs1 hB hS1 (fun q hq => hk q hq (fun h => h)) h1 h2 h3)
    (fun r u t H1 locs1 ht hvm hp hB hz hk hS1 => kk r u H1 locs1 hp (by rw [← ht]; exact hB) hS1 hk)
theorem vw_l {post : Int64 → S → Prop} (hr : vx_Run p l e R s m args below meth c H locs cells slots mc ms (F0 m pc ls st0) rest (va_Ql post (fun u t => va_P D cl (w' u) t.heap) (inW w) a) (xcE PE) (inW w)) (hS : va_S A0 H0 H locs) (hA : ∀ q, inW w q → A0 q)
    (kx : ∀ (E : String) (ce : Cell) (q9 : Addr) (H1 : Heap) (locs1 : List Loc), PE E → va_S A0 H0 H1 locs1 → (∀ q : Nat, q < H.size → H1[q]? = H[q]?) → H1[q9]? = some ce → ce.vm = .none → s.vm.findClass E = some ce.cls → vx_W p l e R s m args below meth c H1 locs1 (cells + mc) (slots + ms) Q (F0 m pc ls rest) q9)
    (kk : ∀ (r : Int64) (u : S) (H1 : Heap) (locs1 : List Loc), post r u → va_P D cl (w' u) H1 → va_S A0 H0 H1 locs1 → (∀ q : Nat, q < H.size → ¬ inW w q → H1[q]? = H[q]?) → W p l e R s m args below meth c H1 locs1 (cells + mc) (slots + ms) Q (F0 m (pc + 3) ls (.long r :: rest))) : W p l e R s m args below meth c H locs cells slots Q (F0 m pc ls st0) :=
  vx_calll hr hS (fun q _ h => hA q h) hA (fun q _ h => h.elim)
    (fun E ce q9 u t H1 locs1 ht hvm hpx hB hz hk hS1 h1 h2 h3 => kx E ce q9 H1 locs1 hB hS1 (fun q hq => hk q hq (fun h => h)) h1 h2 h3)
    (fun r u t H1 locs1 ht hvm hp hB hz hk hS1 => kk r u H1 locs1 hp (by rw [← ht]; exact hB) hS1 hk)
theorem vw_v {post : S → Prop} (hr : vx_Run p l e R s m args below meth c H locs cells slots mc ms (F0 m pc ls st0) rest (va_Qv post (fun u t => va_P D cl (w' u) t.heap) (inW w) a) (xcE PE) (inW w)) (hS : va_S A0 H0 H locs) (hA : ∀ q, inW w q → A0 q)
    (kx : ∀ (E : String) (ce : Cell) (q9 : Addr) (H1 : Heap) (locs1 : List Loc), PE E → va_S A0 H0 H1 locs1 → (∀ q : Nat, q < H.size → H1[q]? = H[q]?) → H1[q9]? = some ce → ce.vm = .none → s.vm.findClass E = some ce.cls → vx_W p l e R s m args below meth c H1 locs1 (cells + mc) (slots + ms) Q (F0 m pc ls rest) q9)
    (kk : ∀ (u : S) (H1 : Heap) (locs1 : List Loc), post u → va_P D cl (w' u) H1 → va_S A0 H0 H1 locs1 → (∀ q : Nat, q < H.size → ¬ inW w q → H1[q]? = H[q]?) → W p l e R s m args below meth c H1 locs1 (cells + mc) (slots + ms) Q (F0 m (pc + 3) ls rest)) : W p l e R s m args below meth c H locs cells slots Q (F0 m pc ls st0) :=
  vx_callv hr hS (fun q _ h => hA q h) hA (fun q _ h => h.elim)
    (fun E ce q9 u t H1 locs1 ht hvm hpx hB hz hk hS1 h1 h2 h3 => kx E ce q9 H1 locs1 hB hS1 (fun q hq => hk q hq (fun h => h)) h1 h2 h3)
    (fun u t H1 locs1 ht hvm hp hB hz hk hS1 => kk u H1 locs1 hp (by rw [← ht]; exact hB) hS1 hk)
end VCs
theorem vS_up {A : Nat → Prop} {H0 H : Heap} {locs : List Loc} (h : va_S nF H0 H locs) : va_S A H0 H locs := ⟨h.1, fun q h1 _ => h.2.1 q h1 (fun z => z), fun l hl => (h.2.2 l hl).elim⟩
