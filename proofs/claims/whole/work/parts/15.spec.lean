/-! what the calls answer; calls that change nothing and may throw -/
def spP (L S : Nat → Nat) (r n k v d : Nat) : Bool := decide (n ≤ d + k) && nd L S r v (d + 1)
def sp (L S : Nat → Nat) (r n k v : Nat) : Bool := decide (v < wr S r n) && noH (spP L S r n k v) n
def ct (L S : Nat → Nat) (r n : Nat) (lo : Nat → Bool) (w : Nat) : Nat := if w = 0 then n else if w = 1 then wr S r n else if w = 2 then sm S n + wr S r n else if w = 3 then cn (gd L S r lo) n else if w = 4 then mx (fun d => dp L (d + 1)) n else cn lo 64
theorem spP_0 {L S : Nat → Nat} {r n k v d : Nat} (h : d + k ≤ n) : noH (spP L S r n k v) d = true := noH_t.mpr fun j hj => by
  unfold spP
  rw [decide_eq_false (by omega), Bool.false_and]
theorem spP_s {L S : Nat → Nat} {r n k v d : Nat} (h : n ≤ d + k) : noH (spP L S r n k v) (d + 1) = (noH (spP L S r n k v) d && !nd L S r v (d + 1)) := by
  show (noH (spP L S r n k v) d && !spP L S r n k v d) = _
  unfold spP
  rw [decide_eq_true h, Bool.true_and]
def lsU (lo : Nat → Bool) (v : Nat) (f : Bool) : Nat → Bool := fun w => if w = v then f else lo w
section VRs
variable {p : Program} {l : Launch} {e : Env} {R : Room} {s : State} {m : MethodId} {args : Array Value} {below : List Frame} {meth : Method} {c : Code} {H : Heap} {locs : List Loc} {cells slots : Nat} {Q : State → Prop}
variable {pc : Nat} {ls : Array Slot} {rest st0 : List Value} {a : Array Value} {A0 : Nat → Prop} {H0 : Heap} {mc ms : Nat} {D : va_G} {cl : List vw_C} {w : va_W} {PE : String → Prop}
theorem vr_i {Pz : Int32 → Prop} (hr : vx_Run p l e R s m args below meth c H locs cells slots mc ms (F0 m pc ls st0) rest (RQi Pz a) (xcE PE) nF) (hS : va_S A0 H0 H locs) (hP : va_P D cl w H)
    (kx : ∀ (E : String) (ce : Cell) (q9 : Addr) (H1 : Heap) (locs1 : List Loc), PE E → va_P D cl w H1 → va_S A0 H0 H1 locs1 → H1[q9]? = some ce → ce.vm = .none → s.vm.findClass E = some ce.cls → vx_W p l e R s m args below meth c H1 locs1 (cells + mc) (slots + ms) Q (F0 m pc ls rest) q9)
    (kk : ∀ (r : Int32) (H1 : Heap) (locs1 : List Loc), Pz r → va_P D cl w H1 → va_S A0 H0 H1 locs1 → W p l e R s m args below meth c H1 locs1 (cells + mc) (slots + ms) Q (F0 m (pc + 3) ls (.int r :: rest))) : W p l e R s m args below meth c H locs cells slots Q (F0 m pc ls st0) :=
  vx_calli hr hS (fun q _ h => h.elim) (fun q h => h.elim) (fun q _ h => h.elim)
    (fun E ce q9 u t H1 locs1 ht hvm hpx hB hz hk hS1 h1 h2 h3 => kx E ce q9 H1 locs1 hB (hP.kept (fun k q hq => hk q.1 (hP k q hq).lt (fun h => h))) hS1 h1 h2 h3)
    (fun r u t H1 locs1 ht hvm hp hB hz hk hS1 => kk r H1 locs1 hp (hP.kept (fun k q hq => hk q.1 (hP k q hq).lt (fun h => h))) hS1)
theorem vr_l {Pz : Int64 → Prop} (hr : vx_Run p l e R s m args below meth c H locs cells slots mc ms (F0 m pc ls st0) rest (RQl Pz a) (xcE PE) nF) (hS : va_S A0 H0 H locs) (hP : va_P D cl w H)
    (kx : ∀ (E : String) (ce : Cell) (q9 : Addr) (H1 : Heap) (locs1 : List Loc), PE E → va_P D cl w H1 → va_S A0 H0 H1 locs1 → H1[q9]? = some ce → ce.vm = .none → s.vm.findClass E = some ce.cls → vx_W p l e R s m args below meth c H1 locs1 (cells + mc) (slots + ms) Q (F0 m pc ls rest) q9)
    (kk : ∀ (r : Int64) (H1 : Heap) (locs1 : List Loc), Pz r → va_P D cl w H1 → va_S A0 H0 H1 locs1 → W p l e R s m args below meth c H1 locs1 (cells + mc) (slots + ms) Q (F0 m (pc + 3) ls (.long r :: rest))) : W p l e R s m args below meth c H locs cells slots Q (F0 m pc ls st0) :=
  vx_calll hr hS (fun q _ h => h.elim) (fun q h => h.elim) (fun q _ h => h.elim)
    (fun E ce q9 u t H1 locs1 ht hvm hpx hB hz hk hS1 h1 h2 h3 => kx E ce q9 H1 locs1 hB (hP.kept (fun k q hq => hk q.1 (hP k q hq).lt (fun h => h))) hS1 h1 h2 h3)
    (fun r u t H1 locs1 ht hvm hp hB hz hk hS1 => kk r H1 locs1 hp (hP.kept (fun k q hq => hk q.1 (hP k q hq).lt (fun h => h))) hS1)
end VRs
