section
-- ===== PART A: goes FIRST, ahead of the names: the tables' words, and 'selects' of the private methods out of them =====
/-- a private method of a class that the tables say can be made, by its rows of tables_1 -/
def lw_okq (q : MethodName × Nat) : Prop := (q.1.cls ≠ "java/lang/invoke/MethodHandle" ∧ q.1.cls ≠ "java/lang/invoke/VarHandle") ∧ Cond.instantiable q.1.cls q.2 ∈ tables_1 ∧ Cond.privateMethod q.1 ∈ tables_1 ∧ Cond.instanceMethod q.1 ∈ tables_1
theorem lw_p0 : lw_okq (⟨"TapeChains", "clear", "(I)V"⟩, 8) := ⟨⟨by decide +kernel, by decide +kernel⟩, List.mem_of_getElem? (i := 12) (by decide +kernel), List.mem_of_getElem? (i := 20) (by decide +kernel), List.mem_of_getElem? (i := 21) (by decide +kernel)⟩
theorem lw_p1 : lw_okq (⟨"java/lang/Throwable", "fillInStackTrace", "(I)Ljava/lang/Throwable;"⟩, 6) := ⟨⟨by decide +kernel, by decide +kernel⟩, List.mem_of_getElem? (i := 97) (by decide +kernel), List.mem_of_getElem? (i := 95) (by decide +kernel), List.mem_of_getElem? (i := 96) (by decide +kernel)⟩
theorem lw_p2 : lw_okq (⟨"TapeChains", "append", "(II)I"⟩, 8) := ⟨⟨by decide +kernel, by decide +kernel⟩, List.mem_of_getElem? (i := 12) (by decide +kernel), List.mem_of_getElem? (i := 154) (by decide +kernel), List.mem_of_getElem? (i := 155) (by decide +kernel)⟩
theorem lw_p3 : lw_okq (⟨"TapeChains", "latestBelow", "(I)I"⟩, 8) := ⟨⟨by decide +kernel, by decide +kernel⟩, List.mem_of_getElem? (i := 12) (by decide +kernel), List.mem_of_getElem? (i := 158) (by decide +kernel), List.mem_of_getElem? (i := 159) (by decide +kernel)⟩
theorem lw_p4 : lw_okq (⟨"TapeChains", "volumeAt", "(I)I"⟩, 8) := ⟨⟨by decide +kernel, by decide +kernel⟩, List.mem_of_getElem? (i := 12) (by decide +kernel), List.mem_of_getElem? (i := 162) (by decide +kernel), List.mem_of_getElem? (i := 163) (by decide +kernel)⟩
theorem lw_p5 : lw_okq (⟨"TapeChains", "checkDump", "(I)V"⟩, 8) := ⟨⟨by decide +kernel, by decide +kernel⟩, List.mem_of_getElem? (i := 12) (by decide +kernel), List.mem_of_getElem? (i := 186) (by decide +kernel), List.mem_of_getElem? (i := 187) (by decide +kernel)⟩
theorem lw_p6 : lw_okq (⟨"TapeChains", "checkVolume", "(I)V"⟩, 8) := ⟨⟨by decide +kernel, by decide +kernel⟩, List.mem_of_getElem? (i := 12) (by decide +kernel), List.mem_of_getElem? (i := 229) (by decide +kernel), List.mem_of_getElem? (i := 230) (by decide +kernel)⟩
theorem lw_p7 : lw_okq (⟨"TapeChains", "dumpAt", "(I)I"⟩, 8) := ⟨⟨by decide +kernel, by decide +kernel⟩, List.mem_of_getElem? (i := 12) (by decide +kernel), List.mem_of_getElem? (i := 235) (by decide +kernel), List.mem_of_getElem? (i := 236) (by decide +kernel)⟩
theorem lw_p8 : lw_okq (⟨"TapeChains", "isGood", "(I)Z"⟩, 8) := ⟨⟨by decide +kernel, by decide +kernel⟩, List.mem_of_getElem? (i := 12) (by decide +kernel), List.mem_of_getElem? (i := 260) (by decide +kernel), List.mem_of_getElem? (i := 261) (by decide +kernel)⟩
theorem lw_p9 : lw_okq (⟨"TapeChains", "writtenVolumes", "()I"⟩, 8) := ⟨⟨by decide +kernel, by decide +kernel⟩, List.mem_of_getElem? (i := 12) (by decide +kernel), List.mem_of_getElem? (i := 279) (by decide +kernel), List.mem_of_getElem? (i := 280) (by decide +kernel)⟩
theorem lw_p10 : lw_okq (⟨"TapeChains", "goodDumps", "()I"⟩, 8) := ⟨⟨by decide +kernel, by decide +kernel⟩, List.mem_of_getElem? (i := 12) (by decide +kernel), List.mem_of_getElem? (i := 293) (by decide +kernel), List.mem_of_getElem? (i := 294) (by decide +kernel)⟩
theorem lw_p11 : lw_okq (⟨"TapeChains", "longestChain", "()I"⟩, 8) := ⟨⟨by decide +kernel, by decide +kernel⟩, List.mem_of_getElem? (i := 12) (by decide +kernel), List.mem_of_getElem? (i := 297) (by decide +kernel), List.mem_of_getElem? (i := 298) (by decide +kernel)⟩
theorem lw_p12 : lw_okq (⟨"TapeChainsModel", "fails", "(ZI)Z"⟩, 7) := ⟨⟨by decide +kernel, by decide +kernel⟩, List.mem_of_getElem? (i := 308) (by decide +kernel), List.mem_of_getElem? (i := 345) (by decide +kernel), List.mem_of_getElem? (i := 346) (by decide +kernel)⟩
theorem lw_p13 : lw_okq (⟨"TapeChainsModel", "before", "(I)I"⟩, 7) := ⟨⟨by decide +kernel, by decide +kernel⟩, List.mem_of_getElem? (i := 308) (by decide +kernel), List.mem_of_getElem? (i := 353) (by decide +kernel), List.mem_of_getElem? (i := 354) (by decide +kernel)⟩
theorem lw_p14 : lw_okq (⟨"TapeChainsModel", "none", "(I)Z"⟩, 7) := ⟨⟨by decide +kernel, by decide +kernel⟩, List.mem_of_getElem? (i := 308) (by decide +kernel), List.mem_of_getElem? (i := 365) (by decide +kernel), List.mem_of_getElem? (i := 366) (by decide +kernel)⟩
theorem lw_p15 : lw_okq (⟨"TapeChainsModel", "base", "(I)I"⟩, 7) := ⟨⟨by decide +kernel, by decide +kernel⟩, List.mem_of_getElem? (i := 308) (by decide +kernel), List.mem_of_getElem? (i := 369) (by decide +kernel), List.mem_of_getElem? (i := 370) (by decide +kernel)⟩
def lw_privs_1 : List (MethodName × Nat) := [(⟨"TapeChains", "clear", "(I)V"⟩, 8), (⟨"java/lang/Throwable", "fillInStackTrace", "(I)Ljava/lang/Throwable;"⟩, 6), (⟨"TapeChains", "append", "(II)I"⟩, 8), (⟨"TapeChains", "latestBelow", "(I)I"⟩, 8), (⟨"TapeChains", "volumeAt", "(I)I"⟩, 8), (⟨"TapeChains", "checkDump", "(I)V"⟩, 8), (⟨"TapeChains", "checkVolume", "(I)V"⟩, 8), (⟨"TapeChains", "dumpAt", "(I)I"⟩, 8), (⟨"TapeChains", "isGood", "(I)Z"⟩, 8), (⟨"TapeChains", "writtenVolumes", "()I"⟩, 8), (⟨"TapeChains", "goodDumps", "()I"⟩, 8), (⟨"TapeChains", "longestChain", "()I"⟩, 8), (⟨"TapeChainsModel", "fails", "(ZI)Z"⟩, 7), (⟨"TapeChainsModel", "before", "(I)I"⟩, 7), (⟨"TapeChainsModel", "none", "(I)Z"⟩, 7), (⟨"TapeChainsModel", "base", "(I)I"⟩, 7)]
theorem lw_r1 : ∀ q ∈ lw_privs_1, lw_okq q := List.forall_mem_cons.mpr ⟨lw_p0, List.forall_mem_cons.mpr ⟨lw_p1, List.forall_mem_cons.mpr ⟨lw_p2, List.forall_mem_cons.mpr ⟨lw_p3, List.forall_mem_cons.mpr ⟨lw_p4, List.forall_mem_cons.mpr ⟨lw_p5, List.forall_mem_cons.mpr ⟨lw_p6, List.forall_mem_cons.mpr ⟨lw_p7, List.forall_mem_cons.mpr ⟨lw_p8, List.forall_mem_cons.mpr ⟨lw_p9, List.forall_mem_cons.mpr ⟨lw_p10, List.forall_mem_cons.mpr ⟨lw_p11, List.forall_mem_cons.mpr ⟨lw_p12, List.forall_mem_cons.mpr ⟨lw_p13, List.forall_mem_cons.mpr ⟨lw_p14, List.forall_mem_cons.mpr ⟨lw_p15, fun _ h => absurd h List.not_mem_nil⟩⟩⟩⟩⟩⟩⟩⟩⟩⟩⟩⟩⟩⟩⟩⟩
theorem lw_p16 : lw_okq (⟨"TapeChainsModel", "depthOf", "(I)I"⟩, 7) := ⟨⟨by decide +kernel, by decide +kernel⟩, List.mem_of_getElem? (i := 308) (by decide +kernel), List.mem_of_getElem? (i := 377) (by decide +kernel), List.mem_of_getElem? (i := 378) (by decide +kernel)⟩
theorem lw_p17 : lw_okq (⟨"TapeChainsModel", "nothing", "()V"⟩, 7) := ⟨⟨by decide +kernel, by decide +kernel⟩, List.mem_of_getElem? (i := 308) (by decide +kernel), List.mem_of_getElem? (i := 393) (by decide +kernel), List.mem_of_getElem? (i := 394) (by decide +kernel)⟩
theorem lw_p18 : lw_okq (⟨"TapeChainsModel", "want", "(I)V"⟩, 7) := ⟨⟨by decide +kernel, by decide +kernel⟩, List.mem_of_getElem? (i := 308) (by decide +kernel), List.mem_of_getElem? (i := 397) (by decide +kernel), List.mem_of_getElem? (i := 398) (by decide +kernel)⟩
theorem lw_p19 : lw_okq (⟨"TapeChainsModel", "isGood", "(I)Z"⟩, 7) := ⟨⟨by decide +kernel, by decide +kernel⟩, List.mem_of_getElem? (i := 308) (by decide +kernel), List.mem_of_getElem? (i := 409) (by decide +kernel), List.mem_of_getElem? (i := 410) (by decide +kernel)⟩
theorem lw_p20 : lw_okq (⟨"TapeChainsModel", "written", "()I"⟩, 7) := ⟨⟨by decide +kernel, by decide +kernel⟩, List.mem_of_getElem? (i := 308) (by decide +kernel), List.mem_of_getElem? (i := 421) (by decide +kernel), List.mem_of_getElem? (i := 422) (by decide +kernel)⟩
def lw_privs_2 : List (MethodName × Nat) := [(⟨"TapeChainsModel", "depthOf", "(I)I"⟩, 7), (⟨"TapeChainsModel", "nothing", "()V"⟩, 7), (⟨"TapeChainsModel", "want", "(I)V"⟩, 7), (⟨"TapeChainsModel", "isGood", "(I)Z"⟩, 7), (⟨"TapeChainsModel", "written", "()I"⟩, 7)]
theorem lw_r2 : ∀ q ∈ lw_privs_2, lw_okq q := List.forall_mem_cons.mpr ⟨lw_p16, List.forall_mem_cons.mpr ⟨lw_p17, List.forall_mem_cons.mpr ⟨lw_p18, List.forall_mem_cons.mpr ⟨lw_p19, List.forall_mem_cons.mpr ⟨lw_p20, fun _ h => absurd h List.not_mem_nil⟩⟩⟩⟩⟩
def lw_privs : List (MethodName × Nat) := lw_privs_1 ++ (lw_privs_2)
def lw_tbl : List Cond := k2_sels lw_privs ++ tables_1
theorem lw_privs_ok : ∀ q ∈ lw_privs, lw_okq q := by
  show ∀ q ∈ lw_privs_1 ++ (lw_privs_2), lw_okq q
  exact List.forall_mem_append.mpr ⟨lw_r1, lw_r2⟩
end
section
/-! ===== BEGIN words of one list among another's, by their places ===== -/
theorem goodIn_r {big : List Cond} (ws : List Cond) (ps : List Nat) (hp : ws = ps.filterMap (fun i => big[i]?)) (h : ws.all goodWord = true) : GoodIn big ws := by
  intro w hw
  have h1 := List.all_eq_true.mp h w hw
  rw [hp] at hw
  obtain ⟨i, -, hi⟩ := List.mem_filterMap.mp hw
  have hm : w ∈ big := by first | exact List.mem_of_getElem? hi | exact List.getElem?_mem hi
  exact ⟨hm, good_of_word h1⟩
theorem goodIn_app {big a b : List Cond} (ha : GoodIn big a) (hb : GoodIn big b) : GoodIn big (a ++ b) := fun w h => (List.mem_append.mp h).elim (ha w) (hb w)
theorem goodIn_ca {big a b : List Cond} {c : Cond} (ha : GoodIn big (c :: a)) (hb : GoodIn big b) : GoodIn big (c :: (a ++ b)) := fun w h => (List.mem_cons.mp h).elim (fun e => ha w (List.mem_cons.mpr (Or.inl e))) (fun h => (List.mem_append.mp h).elim (fun h => ha w (List.mem_cons.mpr (Or.inr h))) (hb w))
theorem goodIn_sub {big ws : List Cond} (hm : ∀ w ∈ ws, w ∈ big) (h : ws.all goodWord = true) : GoodIn big ws := fun w hw => ⟨hm w hw, good_of_word (List.all_eq_true.mp h w hw)⟩
/-! ===== END ===== -/

/-! ===== BEGIN exceptions that leave a method, and their catching by the caller (launches without stack traces) ===== -/
section VXA
/-! The laws vx_back, vx_callV, vx_callS, vx_callSW, vx_throw0, vx_throwS follow proofs of the library, with one case more: JvmDerived/Free/Laws.lean (Back.of_free), Shelf42/LK1.lean (callV, callS), Shelf/KitTraced.lean (throwNew0V, throwNewS). -/
/-- where a method has thrown q: the class by its name, the cell, what was written, the world -/
def vx_T (XC : String → State → State → Prop) (st : State) (q : Addr) (t : State) (mc ms : Nat) (free : Addr → Prop) : Prop :=
  ∃ (E : String) (ce : Cell) (L : List Loc), XC E st t ∧ t.heap[q]? = some ce ∧ ce.vm = .none ∧ st.vm.findClass E = some ce.cls ∧ st.WarmedH t.vm ∧ st.sameButNew ({ t with vm := st.vm } : State) L mc ms ∧ ∀ z ∈ L, free z.base
def vx_Q (Qc : Array Value → State → Outcome → State → Prop) (XC : String → State → State → Prop) (mc ms : Nat) (free : Addr → Prop) : Array Value → State → Outcome → State → Prop := fun a st o t =>
  (Qc a st o t ∧ ∃ L, FrameEnd st o t L mc ms ∧ ∀ q ∈ L, free q.base) ∨ ∃ q, o = .threw q ∧ vx_T XC st q t mc ms free
/-- a callee that returns or throws -/
def vx_Met (l : Launch) (y : MethodName) (ws : List Cond) (rm : Room) (Pc : Array Value → State → Prop) (Qc : Array Value → State → Outcome → State → Prop) (XC : String → State → State → Prop) (mc ms : Nat) (free : Addr → Prop) : Prop :=
  MetFree l y (headSpec ws rm) Pc (fun _ _ _ _ _ => True) (vx_Q Qc XC mc ms free)
def vx_Post (XC : String → State → State → Prop) (mc ms : Nat) (free : Addr → Prop) : Pt → Array Value → Addr → Pt → Prop := fun A a q B =>
  ∃ (g : JFrame) (mk : MethodId) (t : State) (L : List Loc) (E : String) (ce : Cell), B.U.heap = t.heap ∧ B.U.vm = t.vm ∧ XC E (A.U.calling g mk a) t ∧ t.heap[q]? = some ce ∧ ce.vm = .none ∧ A.U.vm.findClass E = some ce.cls ∧ B.locs = A.locs ++ L ∧ (∀ z ∈ L, free z.base) ∧ B.cells = A.cells + mc ∧ B.slots = A.slots + ms
def vx_Back (l : Launch) (R : Room) (p : Program) (e : Env) (below : List Frame) (s : State) (sargs : Array Value) (y : MethodName) (len W9 : Nat)
    (Pre : Pt → Array Value → Prop) (Post : Pt → Array Value → Option Value → Pt → Prop) (PostX : Pt → Array Value → Addr → Pt → Prop) : Prop :=
  ∀ (m : MethodId) (meth : Method) (c : Code) (A : Pt) (g : JFrame) (ig : Instr) (mk : MethodId) (a : Array Value),
    Stand p l e R s m sargs below meth c A.U A.locs A.cells A.slots → g.method = m → g.locals.size = c.maxLocals → decode c.code g.pc = .ok (ig, len) →
    2 * g.monitorRoom + (g.stack.map fun v => v.category).sum ≤ W9 → A.U.methodNamed? y = some mk → Pre A a →
    (∃ (v : Option Value) (B : Pt), Stand p l e R s m sargs below meth c B.U B.locs B.cells B.slots ∧ Post A a v B ∧
      Steps p.tables e below (doInvoke e (A.U.setTop g) [] mk a).1 (B.U.setTop { g with pc := g.pc + len, stack := v.toList ++ g.stack })) ∨
    (∃ (q : Addr) (B : Pt), Stand p l e R s m sargs below meth c B.U B.locs B.cells B.slots ∧ PostX A a q B ∧
      Steps p.tables e below (doInvoke e (A.U.setTop g) [] mk a).1 ((B.U.setTop g).pushFrame (.throwing q)))
section Payer
variable {l : Launch} {R : Room} {p : Program} {e : Env} {below : List Frame} {s : State} {sargs : Array Value} {y : MethodName} {len W9 : Nat}
theorem vx_back {ws : List Cond} {rm : Room} {Pc : Array Value → State → Prop} {Qc : Array Value → State → Outcome → State → Prop} {XC : String → State → State → Prop} {mc ms : Nat} {free : Addr → Prop} {bytes : ByteArray} {maxL : Nat} {ret : Option FieldType}
    (hM : vx_Met l y ws rm Pc Qc XC mc ms free) (hblind : FrameBlind Pc) (hrc : rm.cells = mc) (hrs : rm.slots = ms)
    (hframes : rm.frames + 1 ≤ R.frames) (hlocals : W9 + (maxL + 11) + rm.locals ≤ R.locals)
    (hws : ∀ w ∈ ws, ∀ a' U, s.WarmedH U.vm → w.before a' U = true) (hcode : Cond.code y bytes maxL ret ∈ ws) (hinit : ∀ a' U, s.WarmedH U.vm → (Cond.initialized y.cls).before a' U = true) :
    vx_Back l R p e below s sargs y len W9 (PreOf R mc ms Pc) (PostOf Qc mc ms free) (vx_Post XC mc ms free) := by
  intro m meth c A g ig mk a X hg hsize hdg hW hn hp
  have h1 : (headSpec ws rm).pre.before a A.U = true := atoms_intro fun w hw => hws w hw _ _ X.warmed
  have h2 : (Cond.code y bytes maxL ret).before a A.U = true := hws _ hcode _ _ X.warmed
  have h3 : (Cond.initialized y.cls).before a A.U = true := hinit _ _ X.warmed
  have h4 : A.cells + (headSpec ws rm).room.cells ≤ R.cells := by rw [show (headSpec ws rm).room.cells = mc from hrc]; exact hp.1
  have h5 : A.slots + (headSpec ws rm).room.slots ≤ R.slots := by rw [show (headSpec ws rm).room.slots = ms from hrs]; exact hp.2.1
  have hPc : Pc a (A.U.calling g mk a) := hblind _ _ _ _ hp.2.2
  obtain ⟨U, Ls, c0, s0⟩ := A
  dsimp only [Pt.U, Pt.locs, Pt.cells, Pt.slots] at h1 h2 h3 h4 h5 X hn hPc ⊢
  obtain ⟨methY, cY, hmY, hcY, -, hlY, -, -, -, -⟩ := Cond.code_spec hn h2
  obtain ⟨kY, hkY, -⟩ := className_of_methodNamed hn
  have hinitY : kY.init = .initialized := Cond.initialized_spec (findClass_of_methodNamed hn) hkY h3
  have h : At U g.method c below := by rw [hg]; exact X.here
  have hlocals9 : W9 + (maxL + 11) + (headSpec ws rm).room.locals ≤ R.locals := hlocals
  have happ : (headSpec ws rm).appliesLoose y e.platform (U.calling g mk a) = true :=
    Spec.appliesLoose_calling (g := g) h hdg hn hkY hinitY
      (X.room_calling (g := g) (R' := (headSpec ws rm).room) hsize hmY hcY hframes (by rw [hlY]; omega) h4 h5) h1
  obtain ⟨mid, hmid⟩ := h.above
  have hfr : (U.setTop g).frames = (.java g :: mid) ++ below := by rw [State.frames_setTop' g h.top, hmid]; rfl
  obtain ⟨o, s₂, hsteps, -, hend, hq⟩ := Steps.callFree hM p X.admits X.cas X.clock (acts := []) hfr happ hPc trivial
  have hq' : vx_Q Qc XC mc ms free a (U.calling g mk a) o s₂ := hq
  rw [State.frames_setTop' g h.top] at hend
  obtain ⟨g₀, hg0⟩ := Option.isSome_iff_exists.mp h.top
  obtain ⟨r, hr⟩ := State.topJava?_eq_some.mp hg0
  have hr' : (({ U with heap := s₂.heap, slotsUsed := s₂.slotsUsed } : State).setVm s₂.vm).frames = .java g₀ :: r := hr
  rcases hq' with ⟨hqc, L, hfe, hL⟩ | ⟨q, rfl, E, ce, L, hx, hce, hcv, hcl, hW₂, hsm, hL⟩
  · obtain ⟨⟨v, rfl⟩, hW₂, e2, q2, q3, q4, q5, q6⟩ := id hfe
    have e3 : s₂ = ({ (U.calling g mk a).setFrames s₂.frames with heap := s₂.heap, slotsUsed := s₂.slotsUsed } : State).setVm s₂.vm := by
      have : s₂ = ({ s₂ with vm := (U.calling g mk a).vm } : State).setVm s₂.vm := rfl
      rw [e2] at this
      exact this
    obtain ⟨c₂, i₂, len₂, hc₂, hd₂, hf₂⟩ := hend
    have hW' : U.WarmedH s₂.vm := hW₂
    have hcc : c₂ = c := by
      have h1 : s₂.code? g.method = U.code? g.method := by
        rw [State.code?_eq, State.code?_eq, hW'.alike.method?]
      exact Option.some.inj (hc₂.symm.trans (h1.trans h.code))
    subst hcc
    have hlen : len₂ = len := by rw [hdg] at hd₂; cases hd₂; rfl
    subst hlen
    have hs₂ : s₂ = (({ U with heap := s₂.heap, slotsUsed := s₂.slotsUsed } : State).setVm s₂.vm).setTop { g with pc := g.pc + len₂, stack := v.toList ++ g.stack } := by
      refine e3.trans ?_
      rw [hf₂, State.calling_eq h.top, State.setFrames_setFrames, State.setTop_of_frames _ hr', hr]
      rfl
    have hsame : U.sameButNew ({ U with heap := s₂.heap, slotsUsed := s₂.slotsUsed } : State) L mc ms := by
      refine ⟨?_, q2, q3, q4, q5, q6⟩
      obtain ⟨t, ht, -⟩ := State.frames_cons hr
      show ({ U with heap := s₂.heap, slotsUsed := s₂.slotsUsed } : State) = { U.setFrames U.frames with heap := s₂.heap, slotsUsed := s₂.slotsUsed }
      rw [State.setFrames_self ht]
    subst hg
    refine Or.inl ⟨v, ⟨(({ U with heap := s₂.heap, slotsUsed := s₂.slotsUsed } : State).setVm s₂.vm), Ls ++ L, c0 + mc, s0 + ms⟩,
      ⟨X.admits, X.cas, X.clock, X.frames, X.room, X.hears, X.method, X.code, (X.here.setHeapUsed s₂.heap s₂.slotsUsed).setVm hW'.alike, X.tail, State.WarmedH.trans X.warmed hW', X.limits, X.bytes, X.same.trans (hsame.setVm s.vm)⟩,
      ⟨g, mk, s₂, L, rfl, rfl, hqc, rfl, hL, rfl, rfl⟩, ?_⟩
    show Steps p.tables e below _ ((({ U with heap := s₂.heap, slotsUsed := s₂.slotsUsed } : State).setVm s₂.vm).setTop { g with pc := g.pc + len₂, stack := v.toList ++ g.stack })
    rw [← hs₂]
    exact hsteps
  · obtain ⟨e2, q2, q3, q4, q5, q6⟩ := id hsm
    have e3 : s₂ = ({ (U.calling g mk a).setFrames s₂.frames with heap := s₂.heap, slotsUsed := s₂.slotsUsed } : State).setVm s₂.vm := by
      have : s₂ = ({ s₂ with vm := (U.calling g mk a).vm } : State).setVm s₂.vm := rfl
      rw [e2] at this
      exact this
    have hf₂ : s₂.frames = .throwing q :: .java g :: U.frames.tail := hend
    have hW' : U.WarmedH s₂.vm := hW₂
    have hs₂ : s₂ = ((({ U with heap := s₂.heap, slotsUsed := s₂.slotsUsed } : State).setVm s₂.vm).setTop g).pushFrame (.throwing q) := by
      refine e3.trans ?_
      rw [hf₂, State.calling_eq h.top, State.setFrames_setFrames, State.pushFrame, State.frames_setTop _ hr', State.setTop_of_frames _ hr', State.setFrames_setFrames, hr]
      rfl
    have hsame : U.sameButNew ({ U with heap := s₂.heap, slotsUsed := s₂.slotsUsed } : State) L mc ms := by
      refine ⟨?_, q2, q3, q4, q5, q6⟩
      obtain ⟨t, ht, -⟩ := State.frames_cons hr
      show ({ U with heap := s₂.heap, slotsUsed := s₂.slotsUsed } : State) = { U.setFrames U.frames with heap := s₂.heap, slotsUsed := s₂.slotsUsed }
      rw [State.setFrames_self ht]
    subst hg
    refine Or.inr ⟨q, ⟨(({ U with heap := s₂.heap, slotsUsed := s₂.slotsUsed } : State).setVm s₂.vm), Ls ++ L, c0 + mc, s0 + ms⟩,
      ⟨X.admits, X.cas, X.clock, X.frames, X.room, X.hears, X.method, X.code, (X.here.setHeapUsed s₂.heap s₂.slotsUsed).setVm hW'.alike, X.tail, State.WarmedH.trans X.warmed hW', X.limits, X.bytes, X.same.trans (hsame.setVm s.vm)⟩,
      ⟨g, mk, s₂, L, E, ce, rfl, rfl, hx, hce, hcv, hcl, rfl, hL, rfl, rfl⟩, ?_⟩
    show Steps p.tables e below _ (((({ U with heap := s₂.heap, slotsUsed := s₂.slotsUsed } : State).setVm s₂.vm).setTop g).pushFrame (.throwing q))
    rw [← hs₂]
    exact hsteps
end Payer
section Calls
variable {p : Program} {l : Launch} {e : Env} {R : Room} {s : State} {m : MethodId} {args : Array Value} {below : List Frame} {meth : Method} {c : Code} {T : State} {locs : List Loc} {cells slots : Nat}
theorem vx_callV (X : Stand p l e R s m args below meth c T locs cells slots) (hexec : p.tables.exec = Jvm.exec) {own C : String} {index : Nat} {y : MethodName} {bytes : ByteArray} {maxL : Nat} {ret : Option FieldType}
    (hown : s.vm.findClass own = some m.cls) (hlink : (Cond.methodLink own index y).before args s = true) (hinst : (Cond.instanceMethod y).before args s = true) (hsel : (Cond.selects C y y).before args s = true)
    (hcode : (Cond.code y bytes maxL ret).before args s = true) (hy : y.cls ≠ "java/lang/invoke/MethodHandle" ∧ y.cls ≠ "java/lang/invoke/VarHandle")
    {W9 : Nat} {Pre : Pt → Array Value → Prop} {Post : Pt → Array Value → Option Value → Pt → Prop} {PostX : Pt → Array Value → Addr → Pt → Prop} (hK : vx_Back l R p e below s args y 3 W9 Pre Post PostX)
    {b : Addr} {cellB : Cell} (hcell : T.heap[b]? = some cellB) (hobj : cellB.vm.isStatics = false) (hcls : s.vm.findClass C = some cellB.cls)
    {g : JFrame} (hg : g.method = m) (hsize : g.locals.size = c.maxLocals) {argsL rest : List Value} (hlen : ∀ sig, parseMethodDescriptor y.desc = some sig → argsL.length = sig.parameters.length)
    (hstack : g.stack = argsL.reverse ++ .ref b :: rest) (hW : 2 * g.monitorRoom + (rest.map fun v => v.category).sum ≤ W9) (hdg : decode c.code g.pc = .ok (.invokevirtual index, 3))
    (hpre : ∀ vm₁, s.WarmedH vm₁ → Pre ⟨T.setVm vm₁, locs, cells, slots⟩ (Value.ref b :: argsL).toArray) :
    (∃ (v : Option Value) (vm₁ : Vm) (B : Pt), s.WarmedH vm₁ ∧ Stand p l e R s m args below meth c B.U B.locs B.cells B.slots ∧ Post ⟨T.setVm vm₁, locs, cells, slots⟩ (Value.ref b :: argsL).toArray v B ∧
      ∀ target, Steps p.tables e below (B.U.setTop { g with pc := g.pc + 3, stack := v.toList ++ rest }) target → Steps p.tables e below (T.setTop g) target) ∨
    (∃ (q : Addr) (vm₁ : Vm) (B : Pt), s.WarmedH vm₁ ∧ Stand p l e R s m args below meth c B.U B.locs B.cells B.slots ∧ PostX ⟨T.setVm vm₁, locs, cells, slots⟩ (Value.ref b :: argsL).toArray q B ∧
      Steps p.tables e below (T.setTop g) ((B.U.setTop { g with stack := rest }).pushFrame (.throwing q))) := by
  obtain ⟨mk, methM, hnamed, hmethM, hstM, habM⟩ := Cond.instanceMethod_spec hinst
  obtain ⟨methM', cM, hmethM', -, -, -, -, -, -, hsigM⟩ := Cond.code_spec hnamed hcode
  cases hmethM.symm.trans hmethM'
  obtain ⟨c2, r2, m2, q1, q2, q3, q4, kP, hkP, hkPi⟩ := Cond.selects_spec hsel
  cases hcls.symm.trans q1
  cases (State.methodFound?_of_named hnamed hy).symm.trans q2
  cases hnamed.symm.trans q3
  have hselP : selectMethod e.platform s.vm cellB.cls mk = .method mk := by rw [Launch.admits_selectMethod X.admits]; exact q4
  obtain ⟨vm₁, X₁, hstep₁⟩ := X.invokevirtual hexec hown hlink hnamed hmethM hstM hkP hkPi hy (a := b) (cell := cellB) hcell
    (fun z h => by rw [h] at hobj; cases hobj) hselP hmethM habM hkP hkPi (g := g) hg (argsL := argsL) (rest := rest) (hlen _ hsigM) hstack hdg
  rcases hK m meth c ⟨T.setVm vm₁, locs, cells, slots⟩ { g with stack := rest } (.invokevirtual index) mk (Value.ref b :: argsL).toArray X₁ hg hsize hdg hW (X₁.named hnamed) (hpre vm₁ X₁.warmed) with ⟨v, B, X', hpost, hsteps⟩ | ⟨q, B, X', hpost, hsteps⟩
  · exact Or.inl ⟨v, vm₁, B, X₁.warmed, X', hpost, fun target h => hstep₁ _ fun acts => by rw [doInvoke_state]; exact hsteps.trans h⟩
  · exact Or.inr ⟨q, vm₁, B, X₁.warmed, X', hpost, hstep₁ _ fun acts => by rw [doInvoke_state]; exact hsteps⟩
theorem vx_callS (X : Stand p l e R s m args below meth c T locs cells slots) (hexec : p.tables.exec = Jvm.exec) {own : String} {index : Nat} {y : MethodName} {bytes : ByteArray} {maxL : Nat} {ret : Option FieldType}
    (hown : s.vm.findClass own = some m.cls) (hlink : (Cond.methodLink own index y).before args s = true) (hstat : (Cond.static y).before args s = true) (hinit : (Cond.initialized y.cls).before args s = true)
    (hcode : (Cond.code y bytes maxL ret).before args s = true) (hy : y.cls ≠ "java/lang/invoke/MethodHandle" ∧ y.cls ≠ "java/lang/invoke/VarHandle")
    {W9 : Nat} {Pre : Pt → Array Value → Prop} {Post : Pt → Array Value → Option Value → Pt → Prop} {PostX : Pt → Array Value → Addr → Pt → Prop} (hK : vx_Back l R p e below s args y 3 W9 Pre Post PostX)
    {g : JFrame} (hg : g.method = m) (hsize : g.locals.size = c.maxLocals) {argsL rest : List Value} (hlen : ∀ sig, parseMethodDescriptor y.desc = some sig → argsL.length = sig.parameters.length)
    (hstack : g.stack = argsL.reverse ++ rest) (hW : 2 * g.monitorRoom + (rest.map fun v => v.category).sum ≤ W9) (hdg : decode c.code g.pc = .ok (.invokestatic index, 3))
    (hpre : ∀ vm₁, s.WarmedH vm₁ → Pre ⟨T.setVm vm₁, locs, cells, slots⟩ argsL.toArray) :
    (∃ (v : Option Value) (vm₁ : Vm) (B : Pt), s.WarmedH vm₁ ∧ Stand p l e R s m args below meth c B.U B.locs B.cells B.slots ∧ Post ⟨T.setVm vm₁, locs, cells, slots⟩ argsL.toArray v B ∧
      ∀ target, Steps p.tables e below (B.U.setTop { g with pc := g.pc + 3, stack := v.toList ++ rest }) target → Steps p.tables e below (T.setTop g) target) ∨
    (∃ (q : Addr) (vm₁ : Vm) (B : Pt), s.WarmedH vm₁ ∧ Stand p l e R s m args below meth c B.U B.locs B.cells B.slots ∧ PostX ⟨T.setVm vm₁, locs, cells, slots⟩ argsL.toArray q B ∧
      Steps p.tables e below (T.setTop g) ((B.U.setTop { g with stack := rest }).pushFrame (.throwing q))) := by
  obtain ⟨mk, hnamed⟩ := Cond.code_named hcode
  obtain ⟨methM, cM, hmethM, -, -, -, -, -, -, hsigM⟩ := Cond.code_spec hnamed hcode
  have hstatic : methM.isStatic = true := Cond.static_spec hnamed hmethM hstat
  obtain ⟨kP, hkP, -⟩ := className_of_methodNamed hnamed
  have hinitP : kP.init = .initialized := Cond.initialized_spec (findClass_of_methodNamed hnamed) hkP hinit
  obtain ⟨vm₁, X₁, hstep₁⟩ := X.invokestatic hexec hown hlink hnamed hmethM hstatic hkP hinitP hy (g := g) hg (argsL := argsL) (rest := rest) (hlen _ hsigM) hstack hdg
  rcases hK m meth c ⟨T.setVm vm₁, locs, cells, slots⟩ { g with stack := rest } (.invokestatic index) mk argsL.toArray X₁ hg hsize hdg hW (X₁.named hnamed) (hpre vm₁ X₁.warmed) with ⟨v, B, X', hpost, hsteps⟩ | ⟨q, B, X', hpost, hsteps⟩
  · exact Or.inl ⟨v, vm₁, B, X₁.warmed, X', hpost, fun target h => hstep₁ _ fun acts => by rw [doInvoke_state]; exact hsteps.trans h⟩
  · exact Or.inr ⟨q, vm₁, B, X₁.warmed, X', hpost, hstep₁ _ fun acts => by rw [doInvoke_state]; exact hsteps⟩
end Calls
theorem vx_cls {s : State} {T : State} {vm₁ : Vm} {E : String} {k : ClassId} (hW : s.WarmedH vm₁) (h : (T.setVm vm₁).vm.findClass E = some k) : s.vm.findClass E = some k := by
  have h1 : vm₁.findClass E = some k := h
  rw [hW.alike.findClass] at h1
  exact h1
/-- the method's frame g, with q thrown over it -/
def vx_W (p : Program) (l : Launch) (e : Env) (R : Room) (s : State) (m : MethodId) (args : Array Value) (below : List Frame) (meth : Method) (c : Code) (H : Heap) (locs : List Loc) (cells slots : Nat) (Q : State → Prop) (g : JFrame) (q : Addr) : Prop :=
  ∀ T : State, T.heap = H → Stand p l e R s m args below meth c T locs cells slots → ∃ t, Steps p.tables e below ((T.setTop g).pushFrame (.throwing q)) t ∧ Q t
def vx_Run (p : Program) (l : Launch) (e : Env) (R : Room) (s : State) (m : MethodId) (args : Array Value) (below : List Frame) (meth : Method) (c : Code) (H : Heap) (locs : List Loc) (cells slots mc ms : Nat) (g : JFrame) (rest : List Value) (Qa : State → Outcome → State → Prop) (XC : String → State → State → Prop) (free : Addr → Prop) : Prop :=
  ∀ T : State, T.heap = H → Stand p l e R s m args below meth c T locs cells slots →
    (∃ (v : Option Value) (st₀ t T' : State) (L : List Loc), st₀.heap = H ∧ Stand p l e R s m args below meth c T' (locs ++ L) (cells + mc) (slots + ms) ∧ (∀ q ∈ L, free q.base) ∧ T'.heap = t.heap ∧ T'.vm = t.vm ∧ Qa st₀ (.returned v) t ∧
      Goes p e below T g T' { g with pc := g.pc + 3, stack := v.toList ++ rest }) ∨
    (∃ (q : Addr) (st₀ t T' : State) (L : List Loc) (E : String) (ce : Cell), st₀.heap = H ∧ Stand p l e R s m args below meth c T' (locs ++ L) (cells + mc) (slots + ms) ∧ (∀ z ∈ L, free z.base) ∧ T'.heap = t.heap ∧ T'.vm = t.vm ∧ XC E st₀ t ∧ t.heap[q]? = some ce ∧ ce.vm = .none ∧ s.vm.findClass E = some ce.cls ∧
      Steps p.tables e below (T.setTop g) ((T'.setTop { g with stack := rest }).pushFrame (.throwing q)))
def vx_X {S : Type} (px : S → Prop) (B : String → S → State → Prop) (A : Nat → Prop) : String → State → State → Prop := fun E st t => ∃ u : S, px u ∧ B E u t ∧ va_F A st t
section Runs
variable {p : Program} {l : Launch} {e : Env} {R : Room} {s : State} {m : MethodId} {args : Array Value} {below : List Frame} {meth : Method} {c : Code} {H : Heap} {locs : List Loc} {cells slots : Nat}
variable {y : MethodName} {bytes cc : ByteArray} {maxL nL mc ms n index : Nat} {ret : Option FieldType} {ws : List Cond} {rm : Room} {Pc : Array Value → State → Prop} {Qc : Array Value → State → Outcome → State → Prop} {XC : String → State → State → Prop} {free : Addr → Prop} {Ts : List Cond} {own C : String} {b : Addr} {As rest : List Value} {g : JFrame}
theorem vx_callBack (cb : CallB R s args own index y bytes maxL ret ws rm mc ms n) (hM : vx_Met l y ws rm Pc Qc XC mc ms free) (hbl : FrameBlind Pc) : vx_Back l R p e below s args y 3 8 (PreOf R mc ms Pc) (PostOf Qc mc ms free) (vx_Post XC mc ms free) := by
  obtain ⟨hrc, hrs, hfr, hlo, hws, hcw, -, hini, -⟩ := cb
  exact vx_back (bytes := bytes) (maxL := maxL) (ret := ret) hM hbl hrc hrs hfr hlo hws hcw (fun a' U hW => word_at hW (Or.inl (by first | rfl | simp [Cond.onTables, Cond.keeps, Cond.steady])) hini)
theorem vx_runV (S : CallFix p m c cc nL s args Ts own) (hM : vx_Met l y ws rm Pc Qc XC mc ms free) (cw : CallW R s args own C index y bytes maxL ret ws rm mc ms n) (hp : PreV s H C b Pc As)
    (hg : g.method = m) (hn : As.length = n) (hsize : g.locals.size = nL) (hstack : g.stack = As.reverse ++ .ref b :: rest) (hW : 2 * g.monitorRoom + (rest.map fun v => v.category).sum ≤ 8) (hdg : decode cc g.pc = .ok (.invokevirtual index, 3)) (hf : cells + mc ≤ R.cells ∧ slots + ms ≤ R.slots) :
    vx_Run p l e R s m args below meth c H locs cells slots mc ms g rest (Qc (Value.ref b :: As).toArray) XC free := by
  have hK : vx_Back l R p e below s args y 3 8 (PreOf R mc ms Pc) (PostOf Qc mc ms free) (vx_Post XC mc ms free) := vx_callBack cw.1 hM hp.1
  obtain ⟨⟨-, -, -, -, -, -, hcode, -, hy, hlen, hl⟩, hin, hse⟩ := cw
  obtain ⟨hx, hb, hml, ho, -⟩ := S
  obtain ⟨-, ⟨cellB, hcB, hoB, hclB⟩, hPc⟩ := hp
  intro T hT X
  rcases vx_callV X hx (C := C) (bytes := bytes) (maxL := maxL) (ret := ret) ho hl hin hse hcode hy hK (by rw [hT]; exact hcB) hoB hclB hg (hsize.trans hml.symm) (argsL := As) (rest := rest) (fun sig h => hn.trans (hlen sig h)) hstack hW (by rw [hb]; exact hdg)
    (fun vm₁ hW₁ => ⟨hf.1, hf.2, hPc (T.setVm vm₁) hT hW₁⟩) with ⟨v, vm₁, ⟨U', l2, c2, s2⟩, hW₁, X', ⟨g', mk, t, L, e1, e2, hq, h1, hL, h2, h3⟩, st⟩ | ⟨q, vm₁, ⟨U', l2, c2, s2⟩, hW₁, X', ⟨g', mk, t, L, E, ce, e1, e2, hq, hce, hcv, hcl, h1, hL, h2, h3⟩, st⟩
  · dsimp only [Pt.U, Pt.locs, Pt.cells, Pt.slots] at X' e1 e2 h1 h2 h3 st
    subst h1; subst h2; subst h3
    exact Or.inl ⟨v, (T.setVm vm₁).calling g' mk (Value.ref b :: As).toArray, t, U', L, hT, X', hL, e1, e2, hq, st⟩
  · dsimp only [Pt.U, Pt.locs, Pt.cells, Pt.slots] at X' e1 e2 h1 h2 h3 st hcl
    subst h1; subst h2; subst h3
    exact Or.inr ⟨q, (T.setVm vm₁).calling g' mk (Value.ref b :: As).toArray, t, U', L, E, ce, hT, X', hL, e1, e2, hq, hce, hcv, vx_cls hW₁ hcl, st⟩
theorem vx_runS (S : CallFix p m c cc nL s args Ts own) (hM : vx_Met l y ws rm Pc Qc XC mc ms free) (cw : CallB R s args own index y bytes maxL ret ws rm mc ms n ∧ (Cond.static y).before args s = true) (hp : PreS s H Pc As)
    (hg : g.method = m) (hn : As.length = n) (hsize : g.locals.size = nL) (hstack : g.stack = As.reverse ++ rest) (hW : 2 * g.monitorRoom + (rest.map fun v => v.category).sum ≤ 8) (hdg : decode cc g.pc = .ok (.invokestatic index, 3)) (hf : cells + mc ≤ R.cells ∧ slots + ms ≤ R.slots) :
    vx_Run p l e R s m args below meth c H locs cells slots mc ms g rest (Qc As.toArray) XC free := by
  have hK : vx_Back l R p e below s args y 3 8 (PreOf R mc ms Pc) (PostOf Qc mc ms free) (vx_Post XC mc ms free) := vx_callBack cw.1 hM hp.1
  obtain ⟨⟨-, -, -, -, -, -, hcode, hini, hy, hlen, hl⟩, hstt⟩ := cw
  obtain ⟨hx, hb, hml, ho, -⟩ := S
  intro T hT X
  rcases vx_callS X hx (bytes := bytes) (maxL := maxL) (ret := ret) ho hl hstt hini hcode hy hK hg (hsize.trans hml.symm) (argsL := As) (rest := rest) (fun sig h => hn.trans (hlen sig h)) hstack hW (by rw [hb]; exact hdg)
    (fun vm₁ hW₁ => ⟨hf.1, hf.2, hp.2 (T.setVm vm₁) hT hW₁⟩) with ⟨v, vm₁, ⟨U', l2, c2, s2⟩, hW₁, X', ⟨g', mk, t, L, e1, e2, hq, h1, hL, h2, h3⟩, st⟩ | ⟨q, vm₁, ⟨U', l2, c2, s2⟩, hW₁, X', ⟨g', mk, t, L, E, ce, e1, e2, hq, hce, hcv, hcl, h1, hL, h2, h3⟩, st⟩
  · dsimp only [Pt.U, Pt.locs, Pt.cells, Pt.slots] at X' e1 e2 h1 h2 h3 st
    subst h1; subst h2; subst h3
    exact Or.inl ⟨v, (T.setVm vm₁).calling g' mk As.toArray, t, U', L, hT, X', hL, e1, e2, hq, st⟩
  · dsimp only [Pt.U, Pt.locs, Pt.cells, Pt.slots] at X' e1 e2 h1 h2 h3 st hcl
    subst h1; subst h2; subst h3
    exact Or.inr ⟨q, (T.setVm vm₁).calling g' mk As.toArray, t, U', L, E, ce, hT, X', hL, e1, e2, hq, hce, hcv, vx_cls hW₁ hcl, st⟩
end Runs
section Rows
variable {p : Program} {l : Launch} {e : Env} {R : Room} {s : State} {m : MethodId} {args : Array Value} {below : List Frame} {meth : Method} {c : Code} {H : Heap} {locs : List Loc} {cells slots : Nat} {Q : State → Prop}
variable {mc ms : Nat} {free : Addr → Prop} {A0 A1 : Nat → Prop} {H0 : Heap} {a : Array Value} {pc : Nat} {ls : Array Slot} {st0 rest : List Value}
theorem vx_keep {st₀ t T' : State} {L : List Loc} (h0 : st₀.heap = H) (e1 : T'.heap = t.heap) (hS : va_S A0 H0 H locs) (hA : ∀ q, q < H.size → A1 q → A0 q) (hf : ∀ q, free q → A0 q) (hL : ∀ q ∈ L, free q.base) (hF : va_F A1 st₀ t) :
    H.size ≤ T'.heap.size ∧ (∀ q : Nat, q < H.size → ¬ A1 q → T'.heap[q]? = H[q]?) ∧ va_S A0 H0 T'.heap (locs ++ L) := by
  obtain ⟨hz, hk⟩ := hF
  rw [h0] at hz hk
  exact ⟨by rw [e1]; exact hz, fun q h1 h2 => by rw [e1]; exact hk q h1 h2,
    ⟨Nat.le_trans hS.1 (by rw [e1]; exact hz), fun q h1 h2 => by rw [e1, hk q (Nat.lt_of_lt_of_le h1 hS.1) (fun z => h2 (hA q (Nat.lt_of_lt_of_le h1 hS.1) z))]; exact hS.2.1 q h1 h2, fun q hq => by
      rcases List.mem_append.mp hq with h | h
      · exact hS.2.2 q h
      · exact hf _ (hL q h)⟩⟩
theorem vx_calli {S SX : Type} {post : Int32 → S → Prop} {px : SX → Prop} {B : S → State → Prop} {BX : String → SX → State → Prop} {AX : Nat → Prop} (hr : vx_Run p l e R s m args below meth c H locs cells slots mc ms (F0 m pc ls st0) rest (va_Qi post B A1 a) (vx_X px BX AX) free) (hS : va_S A0 H0 H locs) (hA : ∀ q, q < H.size → A1 q → A0 q) (hf : ∀ q, free q → A0 q) (hAX : ∀ q, q < H.size → AX q → A0 q)
    (kx : ∀ (E : String) (ce : Cell) (q9 : Addr) (u : SX) (t : State) (H1 : Heap) (locs1 : List Loc), t.heap = H1 → s.vm.Alike t.vm → px u → BX E u t → H.size ≤ H1.size → (∀ q : Nat, q < H.size → ¬ AX q → H1[q]? = H[q]?) → va_S A0 H0 H1 locs1 → H1[q9]? = some ce → ce.vm = .none → s.vm.findClass E = some ce.cls → vx_W p l e R s m args below meth c H1 locs1 (cells + mc) (slots + ms) Q (F0 m pc ls rest) q9)
    (kk : ∀ (r : Int32) (u : S) (t : State) (H1 : Heap) (locs1 : List Loc), t.heap = H1 → s.vm.Alike t.vm → post r u → B u t → H.size ≤ H1.size → (∀ q : Nat, q < H.size → ¬ A1 q → H1[q]? = H[q]?) → va_S A0 H0 H1 locs1 → W p l e R s m args below meth c H1 locs1 (cells + mc) (slots + ms) Q (F0 m (pc + 3) ls (.int r :: rest))) : W p l e R s m args below meth c H locs cells slots Q (F0 m pc ls st0) := by
  intro T hT X
  rcases hr T hT X with ⟨v, st₀, t, T', L, h0, X', hL, e1, e2, ⟨⟨r, u, hv, hp, hb⟩, hF⟩, st⟩ | ⟨q, st₀, t, T', L, E, ce, h0, X', hL, e1, e2, ⟨u, hp, hb, hF⟩, hce, hcv, hcl, st⟩
  · cases hv
    obtain ⟨k1, k2, k3⟩ := vx_keep h0 e1 hS hA hf hL hF
    obtain ⟨t2, a1, b1⟩ := kk r u t T'.heap (locs ++ L) e1.symm (by rw [← e2]; exact X'.warmed.alike) hp hb k1 k2 k3 T' rfl X'
    exact ⟨t2, st t2 a1, b1⟩
  · obtain ⟨k1, k2, k3⟩ := vx_keep h0 e1 hS hAX hf hL hF
    obtain ⟨t2, a1, b1⟩ := kx E ce q u t T'.heap (locs ++ L) e1.symm (by rw [← e2]; exact X'.warmed.alike) hp hb k1 k2 k3 (by rw [e1]; exact hce) hcv hcl T' rfl X'
    exact ⟨t2, st.trans a1, b1⟩
theorem vx_calll {S SX : Type} {post : Int64 → S → Prop} {px : SX → Prop} {B : S → State → Prop} {BX : String → SX → State → Prop} {AX : Nat → Prop} (hr : vx_Run p l e R s m args below meth c H locs cells slots mc ms (F0 m pc ls st0) rest (va_Ql post B A1 a) (vx_X px BX AX) free) (hS : va_S A0 H0 H locs) (hA : ∀ q, q < H.size → A1 q → A0 q) (hf : ∀ q, free q → A0 q) (hAX : ∀ q, q < H.size → AX q → A0 q)
    (kx : ∀ (E : String) (ce : Cell) (q9 : Addr) (u : SX) (t : State) (H1 : Heap) (locs1 : List Loc), t.heap = H1 → s.vm.Alike t.vm → px u → BX E u t → H.size ≤ H1.size → (∀ q : Nat, q < H.size → ¬ AX q → H1[q]? = H[q]?) → va_S A0 H0 H1 locs1 → H1[q9]? = some ce → ce.vm = .none → s.vm.findClass E = some ce.cls → vx_W p l e R s m args below meth c H1 locs1 (cells + mc) (slots + ms) Q (F0 m pc ls rest) q9)
    (kk : ∀ (r : Int64) (u : S) (t : State) (H1 : Heap) (locs1 : List Loc), t.heap = H1 → s.vm.Alike t.vm → post r u → B u t → H.size ≤ H1.size → (∀ q : Nat, q < H.size → ¬ A1 q → H1[q]? = H[q]?) → va_S A0 H0 H1 locs1 → W p l e R s m args below meth c H1 locs1 (cells + mc) (slots + ms) Q (F0 m (pc + 3) ls (.long r :: rest))) : W p l e R s m args below meth c H locs cells slots Q (F0 m pc ls st0) := by
  intro T hT X
  rcases hr T hT X with ⟨v, st₀, t, T', L, h0, X', hL, e1, e2, ⟨⟨r, u, hv, hp, hb⟩, hF⟩, st⟩ | ⟨q, st₀, t, T', L, E, ce, h0, X', hL, e1, e2, ⟨u, hp, hb, hF⟩, hce, hcv, hcl, st⟩
  · cases hv
    obtain ⟨k1, k2, k3⟩ := vx_keep h0 e1 hS hA hf hL hF
    obtain ⟨t2, a1, b1⟩ := kk r u t T'.heap (locs ++ L) e1.symm (by rw [← e2]; exact X'.warmed.alike) hp hb k1 k2 k3 T' rfl X'
    exact ⟨t2, st t2 a1, b1⟩
  · obtain ⟨k1, k2, k3⟩ := vx_keep h0 e1 hS hAX hf hL hF
    obtain ⟨t2, a1, b1⟩ := kx E ce q u t T'.heap (locs ++ L) e1.symm (by rw [← e2]; exact X'.warmed.alike) hp hb k1 k2 k3 (by rw [e1]; exact hce) hcv hcl T' rfl X'
    exact ⟨t2, st.trans a1, b1⟩
theorem vx_callf {S SX : Type} {post : UInt32 → S → Prop} {px : SX → Prop} {B : S → State → Prop} {BX : String → SX → State → Prop} {AX : Nat → Prop} (hr : vx_Run p l e R s m args below meth c H locs cells slots mc ms (F0 m pc ls st0) rest (va_Qf post B A1 a) (vx_X px BX AX) free) (hS : va_S A0 H0 H locs) (hA : ∀ q, q < H.size → A1 q → A0 q) (hf : ∀ q, free q → A0 q) (hAX : ∀ q, q < H.size → AX q → A0 q)
    (kx : ∀ (E : String) (ce : Cell) (q9 : Addr) (u : SX) (t : State) (H1 : Heap) (locs1 : List Loc), t.heap = H1 → s.vm.Alike t.vm → px u → BX E u t → H.size ≤ H1.size → (∀ q : Nat, q < H.size → ¬ AX q → H1[q]? = H[q]?) → va_S A0 H0 H1 locs1 → H1[q9]? = some ce → ce.vm = .none → s.vm.findClass E = some ce.cls → vx_W p l e R s m args below meth c H1 locs1 (cells + mc) (slots + ms) Q (F0 m pc ls rest) q9)
    (kk : ∀ (r : UInt32) (u : S) (t : State) (H1 : Heap) (locs1 : List Loc), t.heap = H1 → s.vm.Alike t.vm → post r u → B u t → H.size ≤ H1.size → (∀ q : Nat, q < H.size → ¬ A1 q → H1[q]? = H[q]?) → va_S A0 H0 H1 locs1 → W p l e R s m args below meth c H1 locs1 (cells + mc) (slots + ms) Q (F0 m (pc + 3) ls (.float r :: rest))) : W p l e R s m args below meth c H locs cells slots Q (F0 m pc ls st0) := by
  intro T hT X
  rcases hr T hT X with ⟨v, st₀, t, T', L, h0, X', hL, e1, e2, ⟨⟨r, u, hv, hp, hb⟩, hF⟩, st⟩ | ⟨q, st₀, t, T', L, E, ce, h0, X', hL, e1, e2, ⟨u, hp, hb, hF⟩, hce, hcv, hcl, st⟩
  · cases hv
    obtain ⟨k1, k2, k3⟩ := vx_keep h0 e1 hS hA hf hL hF
    obtain ⟨t2, a1, b1⟩ := kk r u t T'.heap (locs ++ L) e1.symm (by rw [← e2]; exact X'.warmed.alike) hp hb k1 k2 k3 T' rfl X'
    exact ⟨t2, st t2 a1, b1⟩
  · obtain ⟨k1, k2, k3⟩ := vx_keep h0 e1 hS hAX hf hL hF
    obtain ⟨t2, a1, b1⟩ := kx E ce q u t T'.heap (locs ++ L) e1.symm (by rw [← e2]; exact X'.warmed.alike) hp hb k1 k2 k3 (by rw [e1]; exact hce) hcv hcl T' rfl X'
    exact ⟨t2, st.trans a1, b1⟩
theorem vx_calld {S SX : Type} {post : UInt64 → S → Prop} {px : SX → Prop} {B : S → State → Prop} {BX : String → SX → State → Prop} {AX : Nat → Prop} (hr : vx_Run p l e R s m args below meth c H locs cells slots mc ms (F0 m pc ls st0) rest (va_Qd post B A1 a) (vx_X px BX AX) free) (hS : va_S A0 H0 H locs) (hA : ∀ q, q < H.size → A1 q → A0 q) (hf : ∀ q, free q → A0 q) (hAX : ∀ q, q < H.size → AX q → A0 q)
    (kx : ∀ (E : String) (ce : Cell) (q9 : Addr) (u : SX) (t : State) (H1 : Heap) (locs1 : List Loc), t.heap = H1 → s.vm.Alike t.vm → px u → BX E u t → H.size ≤ H1.size → (∀ q : Nat, q < H.size → ¬ AX q → H1[q]? = H[q]?) → va_S A0 H0 H1 locs1 → H1[q9]? = some ce → ce.vm = .none → s.vm.findClass E = some ce.cls → vx_W p l e R s m args below meth c H1 locs1 (cells + mc) (slots + ms) Q (F0 m pc ls rest) q9)
    (kk : ∀ (r : UInt64) (u : S) (t : State) (H1 : Heap) (locs1 : List Loc), t.heap = H1 → s.vm.Alike t.vm → post r u → B u t → H.size ≤ H1.size → (∀ q : Nat, q < H.size → ¬ A1 q → H1[q]? = H[q]?) → va_S A0 H0 H1 locs1 → W p l e R s m args below meth c H1 locs1 (cells + mc) (slots + ms) Q (F0 m (pc + 3) ls (.double r :: rest))) : W p l e R s m args below meth c H locs cells slots Q (F0 m pc ls st0) := by
  intro T hT X
  rcases hr T hT X with ⟨v, st₀, t, T', L, h0, X', hL, e1, e2, ⟨⟨r, u, hv, hp, hb⟩, hF⟩, st⟩ | ⟨q, st₀, t, T', L, E, ce, h0, X', hL, e1, e2, ⟨u, hp, hb, hF⟩, hce, hcv, hcl, st⟩
  · cases hv
    obtain ⟨k1, k2, k3⟩ := vx_keep h0 e1 hS hA hf hL hF
    obtain ⟨t2, a1, b1⟩ := kk r u t T'.heap (locs ++ L) e1.symm (by rw [← e2]; exact X'.warmed.alike) hp hb k1 k2 k3 T' rfl X'
    exact ⟨t2, st t2 a1, b1⟩
  · obtain ⟨k1, k2, k3⟩ := vx_keep h0 e1 hS hAX hf hL hF
    obtain ⟨t2, a1, b1⟩ := kx E ce q u t T'.heap (locs ++ L) e1.symm (by rw [← e2]; exact X'.warmed.alike) hp hb k1 k2 k3 (by rw [e1]; exact hce) hcv hcl T' rfl X'
    exact ⟨t2, st.trans a1, b1⟩
theorem vx_callv {S SX : Type} {post : S → Prop} {px : SX → Prop} {B : S → State → Prop} {BX : String → SX → State → Prop} {AX : Nat → Prop} (hr : vx_Run p l e R s m args below meth c H locs cells slots mc ms (F0 m pc ls st0) rest (va_Qv post B A1 a) (vx_X px BX AX) free) (hS : va_S A0 H0 H locs) (hA : ∀ q, q < H.size → A1 q → A0 q) (hf : ∀ q, free q → A0 q) (hAX : ∀ q, q < H.size → AX q → A0 q)
    (kx : ∀ (E : String) (ce : Cell) (q9 : Addr) (u : SX) (t : State) (H1 : Heap) (locs1 : List Loc), t.heap = H1 → s.vm.Alike t.vm → px u → BX E u t → H.size ≤ H1.size → (∀ q : Nat, q < H.size → ¬ AX q → H1[q]? = H[q]?) → va_S A0 H0 H1 locs1 → H1[q9]? = some ce → ce.vm = .none → s.vm.findClass E = some ce.cls → vx_W p l e R s m args below meth c H1 locs1 (cells + mc) (slots + ms) Q (F0 m pc ls rest) q9)
    (kk : ∀ (u : S) (t : State) (H1 : Heap) (locs1 : List Loc), t.heap = H1 → s.vm.Alike t.vm → post u → B u t → H.size ≤ H1.size → (∀ q : Nat, q < H.size → ¬ A1 q → H1[q]? = H[q]?) → va_S A0 H0 H1 locs1 → W p l e R s m args below meth c H1 locs1 (cells + mc) (slots + ms) Q (F0 m (pc + 3) ls (rest))) : W p l e R s m args below meth c H locs cells slots Q (F0 m pc ls st0) := by
  intro T hT X
  rcases hr T hT X with ⟨v, st₀, t, T', L, h0, X', hL, e1, e2, ⟨⟨u, hv, hp, hb⟩, hF⟩, st⟩ | ⟨q, st₀, t, T', L, E, ce, h0, X', hL, e1, e2, ⟨u, hp, hb, hF⟩, hce, hcv, hcl, st⟩
  · cases hv
    obtain ⟨k1, k2, k3⟩ := vx_keep h0 e1 hS hA hf hL hF
    obtain ⟨t2, a1, b1⟩ := kk u t T'.heap (locs ++ L) e1.symm (by rw [← e2]; exact X'.warmed.alike) hp hb k1 k2 k3 T' rfl X'
    exact ⟨t2, st t2 a1, b1⟩
  · obtain ⟨k1, k2, k3⟩ := vx_keep h0 e1 hS hAX hf hL hF
    obtain ⟨t2, a1, b1⟩ := kx E ce q u t T'.heap (locs ++ L) e1.symm (by rw [← e2]; exact X'.warmed.alike) hp hb k1 k2 k3 (by rw [e1]; exact hce) hcv hcl T' rfl X'
    exact ⟨t2, st.trans a1, b1⟩
/-- caught by the row x of this method's table; the rows ahead don't take it -/
theorem vx_catch {own name : String} {E : String} {ce : Cell} {q : Addr} (hown : s.vm.findClass own = some m.cls) (pre : List ExceptionTableEntry) (x : ExceptionTableEntry) (suf : List ExceptionTableEntry) (hsplit : c.exceptionTable.toList = pre ++ x :: suf)
    (hpass : ∀ z ∈ pre, covers z pc = false ∨ (z.catchType ≠ 0 ∧ ∃ nm : String, (Cond.classLink own z.catchType nm).before args s = true ∧ va_Nc E nm s)) (hx : covers x pc = true) (h0 : x.catchType ≠ 0)
    (hlink : (Cond.classLink own x.catchType name).before args s = true) (hcast : (Cond.castable E name).before args s = true) (hcell : H[q]? = some ce) (hv : ce.vm = .none) (hcl : s.vm.findClass E = some ce.cls)
    (kk : W p l e R s m args below meth c H locs cells slots Q (F0 m x.handlerPc ls [.ref q])) : vx_W p l e R s m args below meth c H locs cells slots Q (F0 m pc ls rest) q := by
  intro T hT X
  have hpl : e.platform.magicAccessors = ({} : Platform).magicAccessors := by rw [X.admits.platform]
  obtain ⟨c3, c4, hc3, hc4, hasg⟩ := Cond.castable_spec hcast
  cases Option.some.inj (hc3.symm.trans hcl)
  obtain ⟨c5, hc5, hcl5⟩ := Cond.classLink_spec hown hlink e.platform hpl
  cases Option.some.inj (hc4.symm.trans hc5)
  obtain ⟨vm', X', st⟩ := X.thenCaughtThrough q (g := F0 m pc ls rest) rfl (Steps.refl _) (by rw [hT]; exact hcell) (by rw [hv]; rfl) (by obtain ⟨k9, h9, -⟩ := Vm.findClass_spec hcl; exact ⟨k9, h9⟩) pre x suf hsplit
    (fun z hz => by
      rcases hpass z hz with h | ⟨hz0, nm, hl1, hn1⟩
      · exact Or.inl h
      · obtain ⟨c6, hc6, hcl6⟩ := Cond.classLink_spec hown hl1 e.platform hpl
        obtain ⟨a8, b8, h1, h2, h3⟩ := hn1
        cases Option.some.inj (h1.symm.trans hcl)
        cases Option.some.inj (h2.symm.trans hc6)
        exact Or.inr ⟨hz0, _, hcl6, h3⟩) hx (Or.inr ⟨h0, c4, hcl5, hasg⟩)
  obtain ⟨t, a1, b1⟩ := kk (T.setVm vm') hT X'
  exact ⟨t, st.trans a1, b1⟩
end Rows
section Ends
variable {p : Program} {l : Launch} {e : Env} {R : Room} {s : State} {m : MethodId} {args : Array Value} {below : List Frame} {meth : Method} {c : Code} {H : Heap} {locs : List Loc} {cells slots : Nat} {Q : State → Prop}
variable {mc ms : Nat} {free : Addr → Prop} {A0 A1 : Nat → Prop} {H0 : Heap} {a : Array Value} {ls : Array Slot} {st0 rest : List Value}
variable {Qc : Array Value → State → Outcome → State → Prop} {XC : String → State → State → Prop}
/-- what a body that may throw owes at its end -/
def vx_MQ (below : List Frame) (Qc : Array Value → State → Outcome → State → Prop) (XC : String → State → State → Prop) (a : Array Value) (s : State) (mc ms : Nat) (free : Addr → Prop) : State → Prop := fun t =>
  ∃ o, t.status = .running ∧ Ended t below o ∧ vx_Q Qc XC mc ms free a s o t
theorem vx_ret {g : JFrame} {mc ms : Nat} (k : W p l e R s m args below meth c H locs cells slots (MQ below Qc args s mc ms free) g) : W p l e R s m args below meth c H locs cells slots (vx_MQ below Qc XC args s mc ms free) g := by
  intro T hT X
  obtain ⟨t, a1, o, b1, b2, b3, b4⟩ := k T hT X
  exact ⟨t, a1, o, b1, b2, Or.inl ⟨b3, b4⟩⟩
/-- not caught here: it goes on to the caller -/
theorem vx_widen {g : JFrame} {q : Addr} {k n : Nat} (h1 : cells ≤ k) (h2 : slots ≤ n) (kk : vx_W p l e R s m args below meth c H locs k n Q g q) : vx_W p l e R s m args below meth c H locs cells slots Q g q := fun T hT X => kk T hT (stand_widen X h1 h2)
theorem vx_out {pc : Nat} {E : String} {ce : Cell} {q : Addr} {mc ms : Nat} (hout : ∀ x ∈ c.exceptionTable.toList, covers x pc = false) (hlocks : meth.locks = false) (hcell : H[q]? = some ce) (hv : ce.vm = .none) (hcl : s.vm.findClass E = some ce.cls)
    (hx : ∀ t : State, t.heap = H → s.vm.Alike t.vm → XC E s t) (hf : ∀ z ∈ locs, free z.base) (hc : cells ≤ mc) (hs : slots ≤ ms) :
    vx_W p l e R s m args below meth c H locs cells slots (vx_MQ below Qc XC args s mc ms free) (F0 m pc ls rest) q := by
  intro T hT X
  obtain ⟨st1, hrun, hend, hW, hsm⟩ := X.leaveThrown q (g := F0 m pc ls rest) rfl rfl rfl hout hlocks
  have hcell9 : (T.setFrames (.throwing q :: below)).heap[q]? = some ce := by
    show T.heap[q]? = some ce
    rw [hT]; exact hcell
  exact ⟨_, st1, .threw q, hrun, hend, Or.inr ⟨q, rfl, E, ce, locs, hx _ hT hW.alike, hcell9, hv, hcl, hW, hsm.mono hc hs, hf⟩⟩
theorem vx_frame {U : State} {k n : Nat} (h : s.sameButNew ({ U with vm := s.vm } : State) locs k n) : s.heap.size ≤ U.heap.size ∧ ∀ q : Nat, q < s.heap.size → (∀ z ∈ locs, z.base ≠ q) → U.heap[q]? = s.heap[q]? := by
  obtain ⟨-, h2, -, -, -, h6⟩ := h
  refine ⟨h2, fun q hq hz => ?_⟩
  obtain ⟨c9, e1, e2, e3, e4⟩ := h6 q _ (Array.getElem?_eq_getElem hq)
  have hs : c9.slots = (s.heap[q]).slots := Array.ext_getElem? fun i => e4 i fun hm => hz _ hm rfl
  have h9 : c9 = s.heap[q] := by
    rw [hs] at e2
    exact e2
  have e5 : U.heap[q]? = some c9 := e1
  rw [e5, h9, Array.getElem?_eq_getElem hq]
/-- the words of a throw but the four that speak of the heap -/
def vx_no (w : Cond) : Bool := decide (w ≠ .isRef (.static Bundle.tN "UNASSIGNED_STACK" Bundle.steD)) && decide (w ≠ .isRef (.static Bundle.tN "SUPPRESSED_SENTINEL" Bundle.listD)) && decide (w ≠ .laysStatic Bundle.tN "UNASSIGNED_STACK" Bundle.steD) && decide (w ≠ .laysStatic Bundle.tN "SUPPRESSED_SENTINEL" Bundle.listD)
def vx_at0 (own : String) (ic : Nat) (X : String) (names : List String) : List Cond := (Bundle.ownAtoms0 own ic X names).filter vx_no
def vx_atS (own : String) (ic : Nat) (X : String) (names : List String) : List Cond := (Bundle.ownAtoms own ic X names).filter vx_no
/-- a word that the tables alone decide, or a good one -/
def vx_ot (w : Cond) : Bool := w.onTables || goodWord w
theorem vx_ot_at {args a' : Array Value} {s U : State} {w : Cond} (hW : s.WarmedH U.vm) (hvm : s.vm = U.vm) (hg : vx_ot w = true) (h : w.before args s = true) : w.before a' U = true := by
  simp only [vx_ot, Bool.or_eq_true] at hg
  rcases hg with hg | hg
  · exact va_tabs hg hvm h
  · exact word_at hW (good_of_word hg) h
/-- a list's words: the good ones out of the method's own list, the others by premises of their own -/
theorem vx_hat {args : Array Value} {s : State} {L B : List Cond} (h1 : ∀ w ∈ L.filter goodWord, w.before args s = true) (h2 : ∀ w ∈ L.filter (fun w => !goodWord w), w ∈ B) (h3 : ∀ w ∈ B, w.before args s = true) : ∀ w ∈ L, w.before args s = true := by
  intro w hw
  by_cases g : goodWord w = true
  · exact h1 w (List.mem_filter.mpr ⟨hw, g⟩)
  · refine h3 w (h2 w (List.mem_filter.mpr ⟨hw, ?_⟩))
    show (!goodWord w) = true
    cases hgw : goodWord w
    · rfl
    · exact absurd hgw g
theorem vx_c {args : Array Value} {s : State} {w : Cond} {B : List Cond} (h : w.before args s = true) (t : ∀ w ∈ B, w.before args s = true) : ∀ w' ∈ w :: B, w'.before args s = true := fun w' h' => (List.mem_cons.mp h').elim (fun e => by rw [e]; exact h) (t w')
theorem vx_n {args : Array Value} {s : State} : ∀ w ∈ ([] : List Cond), w.before args s = true := fun _ h => nomatch h
theorem vx_own {args : Array Value} {s : State} {L : List Cond} (h1 : ∀ w ∈ L.filter vx_no, w.before args s = true)
    (hU : (Cond.isRef (.static Bundle.tN "UNASSIGNED_STACK" Bundle.steD)).before args s = true) (hN : (Cond.isRef (.static Bundle.tN "SUPPRESSED_SENTINEL" Bundle.listD)).before args s = true)
    (lU : (Cond.laysStatic Bundle.tN "UNASSIGNED_STACK" Bundle.steD).before args s = true) (lN : (Cond.laysStatic Bundle.tN "SUPPRESSED_SENTINEL" Bundle.listD).before args s = true) : ∀ w ∈ L, w.before args s = true := by
  intro w hw
  by_cases e1 : w = .isRef (.static Bundle.tN "UNASSIGNED_STACK" Bundle.steD)
  · rw [e1]; exact hU
  · by_cases e2 : w = .isRef (.static Bundle.tN "SUPPRESSED_SENTINEL" Bundle.listD)
    · rw [e2]; exact hN
    · by_cases e3 : w = .laysStatic Bundle.tN "UNASSIGNED_STACK" Bundle.steD
      · rw [e3]; exact lU
      · by_cases e4 : w = .laysStatic Bundle.tN "SUPPRESSED_SENTINEL" Bundle.listD
        · rw [e4]; exact lN
        · exact h1 w (List.mem_filter.mpr ⟨hw, by unfold vx_no; rw [decide_eq_true e1, decide_eq_true e2, decide_eq_true e3, decide_eq_true e4]; rfl⟩)
/-- where a static field lies, its class's statics cell in H -/
def vx_L (C n d : String) (A : Nat → Prop) (U : State) (H : Heap) : Prop := ∃ (c : ClassId) (k : Class) (i : Nat) (f : Field) (a : Nat) (cell : Cell), U.vm.findClass C = some c ∧ U.fieldFound? C n d = some (c, k, i, f) ∧ f.isStatic = true ∧ k.statics = some a ∧ H[a]? = some cell ∧ cell.vm.isStatics = true ∧ cell.cls = c ∧ f.slot < cell.slots.size ∧ k.staticTypes[f.slot]? = some f.type ∧ ¬ A a
theorem vx_L.moved {C n d : String} {A : Nat → Prop} {u U : State} {H : Heap} (hvm : u.vm.Alike U.vm) (h : vx_L C n d A u H) : vx_L C n d A U H := by
  obtain ⟨c, k, i, f, a, cell, h1, h2, h3, h4, h5, h6, h7, h8, h9, h10⟩ := h
  obtain ⟨k', hi', he⟩ := State.fieldFound?_setVm hvm h2
  exact ⟨c, k', i, f, a, cell, by rw [hvm.findClass]; exact h1, hi', h3, by rw [he]; exact h4, h5, h6, h7, h8, by rw [he]; exact h9, h10⟩
theorem vx_L.kept {C n d : String} {A : Nat → Prop} {U : State} {H H1 : Heap} (h : vx_L C n d A U H) (hq : ∀ a : Nat, a < H.size → ¬ A a → H1[a]? = H[a]?) : vx_L C n d A U H1 := by
  obtain ⟨c, k, i, f, a, cell, h1, h2, h3, h4, h5, h6, h7, h8, h9, h10⟩ := h
  exact ⟨c, k, i, f, a, cell, h1, h2, h3, h4, by rw [hq a (Array.getElem?_eq_some_iff.mp h5).1 h10]; exact h5, h6, h7, h8, h9, h10⟩
theorem vx_L.narrow {C n d : String} {A B : Nat → Prop} {U : State} {H : Heap} (h : vx_L C n d A U H) (hAB : ∀ q, B q → A q) : vx_L C n d B U H := by
  obtain ⟨c, k, i, f, a, cell, h1, h2, h3, h4, h5, h6, h7, h8, h9, h10⟩ := h
  exact ⟨c, k, i, f, a, cell, h1, h2, h3, h4, h5, h6, h7, h8, h9, fun z => h10 (hAB _ z)⟩
theorem vx_L.word {C n d : String} {A : Nat → Prop} {s : State} {args : Array Value} (h : vx_L C n d A s s.heap) : (Cond.laysStatic C n d).before args s = true := by
  obtain ⟨c, k, i, f, a, cell, h1, h2, h3, h4, h5, h6, h7, h8, h9, -⟩ := h
  show (Cond.laysStatic C n d).holds args s none s [] = true
  exact Cond.laysStatic_of h1 h2 h3 h4 h5 h6 h7 h8 h9
/-- .. and what it holds: null or some reference -/
def vx_Zq (C n d : String) (A : Nat → Prop) (U : State) (H : Heap) : Prop := va_Zq C n d A U H ∧ vx_L C n d A U H
theorem vx_Zq.moved {C n d : String} {A : Nat → Prop} {u U : State} {H : Heap} (hvm : u.vm.Alike U.vm) (h : vx_Zq C n d A u H) : vx_Zq C n d A U H := ⟨va_Zq.moved hvm h.1, vx_L.moved hvm h.2⟩
theorem vx_Zq.kept {C n d : String} {A : Nat → Prop} {U : State} {H H1 : Heap} (h : vx_Zq C n d A U H) (hq : ∀ a : Nat, a < H.size → ¬ A a → H1[a]? = H[a]?) : vx_Zq C n d A U H1 := ⟨va_Zq.kept h.1 hq, vx_L.kept h.2 hq⟩
theorem vx_Zq.narrow {C n d : String} {A B : Nat → Prop} {U : State} {H : Heap} (h : vx_Zq C n d A U H) (hAB : ∀ q, B q → A q) : vx_Zq C n d B U H := ⟨va_Zq.narrow h.1 hAB, vx_L.narrow h.2 hAB⟩
theorem vx_Zqof {args : Array Value} {s : State} {C n d : String} {A : Nat → Prop} (hl : (Cond.laysStatic C n d).before args s = true) (hini : (Cond.initialized C).before args s = true) (h : (Cond.isRef (.static C n d)).before args s = true) (hA : ∀ a : Nat, a < s.heap.size → ¬ A a) : vx_Zq C n d A s s.heap := by
  refine ⟨va_Zqof hl hini h hA, ?_⟩
  obtain ⟨c, k, i, f, a, cell, h1, h2, h3, h4, h5, h6, h7, h8, h9⟩ := Cond.laysStatic_spec hl
  exact ⟨c, k, i, f, a, cell, h1, h2, h3, h4, h5, h6, h7, h8, h9, hA a (Array.getElem?_eq_some_iff.mp h5).1⟩
theorem vx_isRef {C n d : String} {v : Value} {A : Nat → Prop} {s : State} {args : Array Value} (h : va_Z C n d v A s s.heap) (hv : v.isRef = true) : (Cond.isRef (.static C n d)).before args s = true := by
  obtain ⟨cf, kf, fi, f, a, cell, h1, h2, h3, h4, h5, h6, h7, -⟩ := h
  have he : (Term.static C n d).eval args s none [] s = some v := by
    simp [Term.eval, State.fieldNamed?, h1, h2, h4, h5, h6, h7]
  simp only [Cond.before, Cond.holds, Cond.value, he]
  cases v <;> simp_all [Value.isRef]
theorem vx_isRefq {C n d : String} {A : Nat → Prop} {s : State} {args : Array Value} (h : va_Zq C n d A s s.heap) : (Cond.isRef (.static C n d)).before args s = true := by
  rcases h with h | ⟨t, h⟩
  · exact vx_isRef h rfl
  · exact vx_isRef h rfl
/-- the same frame, seen from here: as if the method were called anew in this heap -/
theorem vx_rebase {T : State} (X : Stand p l e R s m args below meth c T locs cells slots) {R' : Room} (hf : R'.frames ≤ R.frames) (hl : R'.locals ≤ R.locals) (hc : cells + R'.cells ≤ R.cells) (hs : slots + R'.slots ≤ R.slots) :
    Stand p l e R' ((T.setVm s.vm).setFrames (.invoking m args :: below)) m args below meth c T [] 0 0 := by
  have htop : (T.setVm s.vm).topJava?.isSome := X.here.top
  have hF : ((T.setVm s.vm).setFrames (.invoking m args :: below)).frames = .invoking m args :: below := State.frames_setFrames _ (State.cur_lt_of_top htop)
  obtain ⟨g₀, hg0⟩ := Option.isSome_iff_exists.mp htop
  obtain ⟨r, hr⟩ := State.topJava?_eq_some.mp hg0
  have hl9 : e.platform.stackLimits (T.setVm s.vm).me = e.platform.stackLimits s.me := X.limits
  have hb9 : (T.setVm s.vm).me.stackBytes = s.me.stackBytes := X.bytes
  refine ⟨X.admits, X.cas, X.clock, hF, ?_, X.hears, X.method, X.code, X.here, X.tail, X.warmed, ?_, ?_, ?_⟩
  · have h := X.room
    have hU : ((T.setVm s.vm).setFrames (.invoking m args :: below)).localsInUse = s.localsInUse := by
      rw [State.localsInUse_invoking hF (meth := meth) (c := c) X.method X.code, State.localsInUse_invoking X.frames X.method X.code]
    simp only [State.hasRoom, Bool.and_eq_true, decide_eq_true_eq] at h ⊢
    obtain ⟨⟨⟨⟨h1, h2, h3, h4, h5, h6⟩, h7⟩, h8⟩, h9⟩ := h
    rw [X.frames, List.length_cons] at h2 h3
    have q1 := X.heapSize
    have q2 := X.used
    simp only [hF, hU, List.length_cons, State.stackLimits_setFrames, State.stackBytes_setFrames, hl9, hb9]
    refine ⟨⟨⟨⟨by omega, by omega, by omega, by omega, by omega, h6⟩, ?_⟩, ?_⟩, X.book⟩
    · show T.heap.size + R'.cells ≤ e.platform.maxCells
      omega
    · show T.slotsUsed + R'.slots ≤ e.platform.maxSlots
      omega
  · rw [State.stackLimits_setFrames]; rfl
  · rw [State.stackBytes_setFrames]; rfl
  · refine ⟨?_, Nat.le_refl _, Nat.le_refl _, ?_, ?_, fun a c9 h9 => ⟨c9, h9, rfl, rfl, fun _ _ => rfl⟩⟩
    · obtain ⟨t, ht, -⟩ := State.frames_cons hr
      show T.setVm s.vm = { ((T.setVm s.vm).setFrames (.invoking m args :: below)).setFrames (T.setVm s.vm).frames with heap := T.heap, slotsUsed := T.slotsUsed }
      rw [State.setFrames_setFrames, State.setFrames_self ht]
      rfl
    · show T.slotsUsed = T.slotsUsed + ((T.heap.toList.drop T.heap.size).map (·.slots.size)).sum
      rw [List.drop_eq_nil_of_le (Nat.le_of_eq Array.length_toList)]
      rfl
    · show ((T.heap.toList.drop T.heap.size).map (·.slots.size)).sum ≤ 0
      rw [List.drop_eq_nil_of_le (Nat.le_of_eq Array.length_toList)]
      exact Nat.le_refl _
/-- 'throw new E()': new; dup; invokespecial; athrow -/
theorem vx_throw0 {cc : ByteArray} {pc : Nat} (hexec : p.tables.exec = Jvm.exec) (hb : c.code = cc) (hl : l.stackTraces = false) {own cls : String} {names : List String} {ik ic mc ms : Nat} {A : Nat → Prop}
    (hown : s.vm.findClass own = some m.cls) (hcls : Bundle.fit cls = true) (hnames : ∀ n ∈ names, Bundle.fit n = true)
    (hk : (Cond.classLink own ik cls).before args s = true) (hini : (Cond.initialized cls).before args s = true) (hat : ∀ w ∈ vx_at0 own ic cls names, w.before args s = true)
    (hgood : ∀ w ∈ Cond.classLink own ik cls :: Cond.initialized cls :: vx_at0 own ic cls names, vx_ot w = true)
    (hU : vx_Zq Bundle.tN "UNASSIGNED_STACK" Bundle.steD A s s.heap) (hN : vx_Zq Bundle.tN "SUPPRESSED_SENTINEL" Bundle.listD A s s.heap) (hS : va_S A s.heap H locs) (hsize : ls.size = c.maxLocals)
    (d0 : decode cc pc = .ok (.new ik, 3)) (d3 : decode cc (pc + 3) = .ok (.dup, 1)) (d4 : decode cc (pc + 4) = .ok (.invokespecial ic, 3)) (d7 : decode cc (pc + 7) = .ok (.athrow, 1))
    (hout : ∀ x ∈ c.exceptionTable.toList, covers x (pc + 7) = false)
    (hRframes : names.length + 3 < R.frames) (hRlocals : (rest.map fun v => v.category).sum + (13 * (names.length + 1) + 42) ≤ R.locals) (hRcells : cells + 1 ≤ R.cells) (hRslots : slots + 6 ≤ R.slots) (hlocks : meth.locks = false)
    (hx : ∀ t : State, s.vm.Alike t.vm → H.size ≤ t.heap.size → (∀ q : Nat, q < H.size → t.heap[q]? = H[q]?) → XC cls s t)
    (hf : ∀ z ∈ locs, free z.base) (hc : cells + 1 ≤ mc) (hs : slots + 6 ≤ ms) :
    W p l e R s m args below meth c H locs cells slots (vx_MQ below Qc XC args s mc ms free) (F0 m pc ls rest) := by
  intro T hT X
  have htr : e.platform.stackTraces = false := (show e.platform.stackTraces = l.stackTraces by rw [X.admits.platform]).trans hl
  have Y := vx_rebase X (R' := { frames := R.frames, locals := R.locals, cells := 1, slots := 6 }) (Nat.le_refl _) (Nat.le_refl _) hRcells hRslots
  obtain ⟨s', hA⟩ : ∃ z, z = (T.setVm s.vm).setFrames (.invoking m args :: below) := ⟨_, rfl⟩
  rw [← hA] at Y
  have hvm : s'.vm = s.vm := by rw [hA]; rfl
  have hhp : s'.heap = H := by rw [hA]; exact hT
  have hW0 : s.WarmedH s'.vm := by rw [hvm]; exact State.WarmedH.refl s
  have hat' : ∀ w ∈ vx_at0 own ic cls names, w.before args s' = true := fun w hw => vx_ot_at hW0 hvm.symm (hgood w (List.mem_cons_of_mem _ (List.mem_cons_of_mem _ hw))) (hat w hw)
  have hk' : (Cond.classLink own ik cls).before args s' = true := vx_ot_at hW0 hvm.symm (hgood _ List.mem_cons_self) hk
  have hini' : (Cond.initialized cls).before args s' = true := vx_ot_at hW0 hvm.symm (hgood _ (List.mem_cons_of_mem _ List.mem_cons_self)) hini
  have hU' : vx_Zq Bundle.tN "UNASSIGNED_STACK" Bundle.steD A s' s'.heap := by rw [hhp]; exact vx_Zq.moved hW0.alike (hU.kept hS.2.1)
  have hN' : vx_Zq Bundle.tN "SUPPRESSED_SENTINEL" Bundle.listD A s' s'.heap := by rw [hhp]; exact vx_Zq.moved hW0.alike (hN.kept hS.2.1)
  have h : ∀ w ∈ Bundle.ownAtoms0 own ic cls names, w.before args s' = true := vx_own hat' (vx_isRefq hU'.1) (vx_isRefq hN'.1) hU'.2.word hN'.2.word
  have hown' : s'.vm.findClass own = some m.cls := by rw [hvm]; exact hown
  have hins : (Cond.instantiable cls 6).before args s' = true := h _ (by simp [Bundle.ownAtoms0])
  obtain ⟨vm₁, cX, kX, hfX, hkX, -, -, X₁, st1⟩ := Y.newCold hexec (own := own) (C := cls) (index := ik) (n := 6) hown' hk' hins hini'
    (g := F0 m pc ls rest) rfl (by rw [hb]; exact d0) (Nat.le_refl _) (Nat.le_refl _)
  generalize hT1 : (T.setVm vm₁).pushCell { cls := cX, slots := kX.instanceTypes.map defaultValue, vm := .none } = T1 at X₁ st1
  have hcat : (Value.ref T.heap.size).category = 1 := rfl
  have hcellA : T1.heap[T.heap.size]? = some (freshCell cX kX) := by rw [← hT1]; exact State.heap_pushCell_size _ _
  have d3' : decode c.code (pc + 3) = .ok (.dup, 1) := by rw [hb]; exact d3
  obtain ⟨U, hsteps, hrun, hend, hW, hsame, ce, hce, hO⟩ := X₁.ctorThrow0 hexec htr (own := own) (cls := cls) (names := names) (ic := ic) hown' hcls hnames h (fun x hx => nomatch hx) hfX hkX hcellA (by rw [hhp, hT]; exact Nat.le_refl _)
    (g := { method := m, pc := pc + 4, locals := ls, stack := .ref T.heap.size :: .ref T.heap.size :: rest, locked := none }) rfl hsize rfl rfl (rest := rest) rfl
    (by rw [hb]; exact d4) (by rw [hb]; exact d7) hout hRframes (by simp only [List.map_cons, List.sum_cons, hcat]; omega) hlocks
  obtain ⟨f1, f2⟩ := vx_frame hsame
  rw [hhp] at f1 f2
  have hWs : s.WarmedH U.vm := State.WarmedH.trans hW0 hW
  have hcl : s.vm.findClass cls = some ce.cls := by
    have h9 := hO.cls
    rw [hvm] at h9
    exact h9
  have hall : s.sameButNew ({ U with vm := s.vm } : State) locs mc ms := by
    subst hA
    obtain ⟨e1, e2⟩ := hsame
    rw [State.setFrames_setFrames] at e1
    have h2 : (T.setVm s.vm).sameButNew ({ U with vm := s.vm } : State) [] (0 + 1) (0 + 6) := ⟨e1, e2⟩
    have h3 := X.same.trans h2
    rw [List.append_nil] at h3
    exact h3.mono hc hs
  refine ⟨U, ?_, .threw T.heap.size, hrun, hend, Or.inr ⟨T.heap.size, rfl, cls, ce, locs, hx U hWs.alike f1 (fun q hq => f2 q hq (fun z hz => nomatch hz)), hce, hO.vm, hcl, hWs, hall, hf⟩⟩
  refine st1 _ ?_
  show Steps p.tables e below (T1.setTop { method := m, pc := pc + 3, locals := ls, stack := .ref T.heap.size :: rest, locked := none }) _
  jvm_step X₁.here [X₁.here.top, hexec, d3', Value.category]
  exact hsteps
/-- 'throw new E("text")': new; dup; ldc; invokespecial; athrow -/
theorem vx_throwS {cc : ByteArray} {pc : Nat} (hexec : p.tables.exec = Jvm.exec) (hb : c.code = cc) (hl : l.stackTraces = false) {own cls text : String} {names : List String} {ik is ic mc ms sa : Nat} {A : Nat → Prop}
    (hown : s.vm.findClass own = some m.cls) (hcls : Bundle.fit cls = true) (hnames : ∀ n ∈ names, Bundle.fit n = true)
    (hk : (Cond.classLink own ik cls).before args s = true) (hini : (Cond.initialized cls).before args s = true) (hstr : vk_R own is text sa s) (hat : ∀ w ∈ vx_atS own ic cls names, w.before args s = true)
    (hgood : ∀ w ∈ Cond.classLink own ik cls :: Cond.initialized cls :: vx_atS own ic cls names, vx_ot w = true)
    (hU : vx_Zq Bundle.tN "UNASSIGNED_STACK" Bundle.steD A s s.heap) (hN : vx_Zq Bundle.tN "SUPPRESSED_SENTINEL" Bundle.listD A s s.heap) (hS : va_S A s.heap H locs) (hsize : ls.size = c.maxLocals)
    (d0 : decode cc pc = .ok (.new ik, 3)) (d3 : decode cc (pc + 3) = .ok (.dup, 1)) (d4 : decode cc (pc + 4) = .ok (.ldc is, 2)) (d6 : decode cc (pc + 6) = .ok (.invokespecial ic, 3)) (d9 : decode cc (pc + 9) = .ok (.athrow, 1))
    (hout : ∀ x ∈ c.exceptionTable.toList, covers x (pc + 9) = false)
    (hRframes : names.length + 3 < R.frames) (hRlocals : (rest.map fun v => v.category).sum + (13 * (names.length + 1) + 43) ≤ R.locals) (hRcells : cells + 1 ≤ R.cells) (hRslots : slots + 6 ≤ R.slots) (hlocks : meth.locks = false)
    (hx : ∀ t : State, s.vm.Alike t.vm → H.size ≤ t.heap.size → (∀ q : Nat, q < H.size → t.heap[q]? = H[q]?) → XC cls s t)
    (hf : ∀ z ∈ locs, free z.base) (hc : cells + 1 ≤ mc) (hs : slots + 6 ≤ ms) :
    W p l e R s m args below meth c H locs cells slots (vx_MQ below Qc XC args s mc ms free) (F0 m pc ls rest) := by
  intro T hT X
  have htr : e.platform.stackTraces = false := (show e.platform.stackTraces = l.stackTraces by rw [X.admits.platform]).trans hl
  have Y := vx_rebase X (R' := { frames := R.frames, locals := R.locals, cells := 1, slots := 6 }) (Nat.le_refl _) (Nat.le_refl _) hRcells hRslots
  obtain ⟨s', hA⟩ : ∃ z, z = (T.setVm s.vm).setFrames (.invoking m args :: below) := ⟨_, rfl⟩
  rw [← hA] at Y
  have hvm : s'.vm = s.vm := by rw [hA]; rfl
  have hhp : s'.heap = H := by rw [hA]; exact hT
  have hW0 : s.WarmedH s'.vm := by rw [hvm]; exact State.WarmedH.refl s
  have hat' : ∀ w ∈ vx_atS own ic cls names, w.before args s' = true := fun w hw => vx_ot_at hW0 hvm.symm (hgood w (List.mem_cons_of_mem _ (List.mem_cons_of_mem _ hw))) (hat w hw)
  have hk' : (Cond.classLink own ik cls).before args s' = true := vx_ot_at hW0 hvm.symm (hgood _ List.mem_cons_self) hk
  have hini' : (Cond.initialized cls).before args s' = true := vx_ot_at hW0 hvm.symm (hgood _ (List.mem_cons_of_mem _ List.mem_cons_self)) hini
  have hU' : vx_Zq Bundle.tN "UNASSIGNED_STACK" Bundle.steD A s' s'.heap := by rw [hhp]; exact vx_Zq.moved hW0.alike (hU.kept hS.2.1)
  have hN' : vx_Zq Bundle.tN "SUPPRESSED_SENTINEL" Bundle.listD A s' s'.heap := by rw [hhp]; exact vx_Zq.moved hW0.alike (hN.kept hS.2.1)
  have h : ∀ w ∈ Bundle.ownAtoms own ic cls names, w.before args s' = true := vx_own hat' (vx_isRefq hU'.1) (vx_isRefq hN'.1) hU'.2.word hN'.2.word
  have hown' : s'.vm.findClass own = some m.cls := by rw [hvm]; exact hown
  have hins : (Cond.instantiable cls 6).before args s' = true := h _ (by simp [Bundle.ownAtoms])
  obtain ⟨vm₁, cX, kX, hfX, hkX, -, -, X₁, st1⟩ := Y.newCold hexec (own := own) (C := cls) (index := ik) (n := 6) hown' hk' hins hini'
    (g := F0 m pc ls rest) rfl (by rw [hb]; exact d0) (Nat.le_refl _) (Nat.le_refl _)
  generalize hT1 : (T.setVm vm₁).pushCell { cls := cX, slots := kX.instanceTypes.map defaultValue, vm := .none } = T1 at X₁ st1
  have hcat : (Value.ref T.heap.size).category = 1 := rfl
  have hcellA : T1.heap[T.heap.size]? = some (freshCell cX kX) := by rw [← hT1]; exact State.heap_pushCell_size _ _
  have d3' : decode c.code (pc + 3) = .ok (.dup, 1) := by rw [hb]; exact d3
  have d4' : decode c.code (pc + 4) = .ok (.ldc is, 2) := by rw [hb]; exact d4
  have hstr' : vk_R own is text sa s' := vk_R.warm hW0 hstr
  obtain ⟨U, hsteps, hrun, hend, hW, hsame, ce, hce, hO⟩ := X₁.ctorThrowS hexec htr (own := own) (cls := cls) (names := names) (ic := ic) hown' hcls hnames h (fun x hx => nomatch hx) hfX hkX hcellA (by rw [hhp, hT]; exact Nat.le_refl _) (msg := .ref sa) rfl
    (g := { method := m, pc := pc + 6, locals := ls, stack := .ref sa :: .ref T.heap.size :: .ref T.heap.size :: rest, locked := none }) rfl hsize rfl rfl (rest := rest) rfl
    (by rw [hb]; exact d6) (by rw [hb]; exact d9) hout hRframes (by simp only [List.map_cons, List.sum_cons, hcat]; omega) hlocks
  obtain ⟨f1, f2⟩ := vx_frame hsame
  rw [hhp] at f1 f2
  have hWs : s.WarmedH U.vm := State.WarmedH.trans hW0 hW
  have hcl : s.vm.findClass cls = some ce.cls := by
    have h9 := hO.cls
    rw [hvm] at h9
    exact h9
  have hall : s.sameButNew ({ U with vm := s.vm } : State) locs mc ms := by
    subst hA
    obtain ⟨e1, e2⟩ := hsame
    rw [State.setFrames_setFrames] at e1
    have h2 : (T.setVm s.vm).sameButNew ({ U with vm := s.vm } : State) [] (0 + 1) (0 + 6) := ⟨e1, e2⟩
    have h3 := X.same.trans h2
    rw [List.append_nil] at h3
    exact h3.mono hc hs
  refine ⟨U, ?_, .threw T.heap.size, hrun, hend, Or.inr ⟨T.heap.size, rfl, cls, ce, locs, hx U hWs.alike f1 (fun q hq => f2 q hq (fun z hz => nomatch hz)), hce, hO.vm, hcl, hWs, hall, hf⟩⟩
  refine st1 _ ?_
  show Steps p.tables e below (T1.setTop { method := m, pc := pc + 3, locals := ls, stack := .ref T.heap.size :: rest, locked := none }) _
  jvm_step X₁.here [X₁.here.top, hexec, d3', Value.category]
  exact X₁.ldcString hexec (own := own) (text := text) (index := is) (a := sa) hown' hstr'.1 hstr'.2
    (g := { method := m, pc := pc + 4, locals := ls, stack := .ref T.heap.size :: .ref T.heap.size :: rest, locked := none }) rfl d4' _ hsteps
/-- 'throw new E("text")', the text by a wide index -/
theorem vx_throwSW {cc : ByteArray} {pc : Nat} (hexec : p.tables.exec = Jvm.exec) (hb : c.code = cc) (hl : l.stackTraces = false) {own cls text : String} {names : List String} {ik is ic mc ms sa : Nat} {A : Nat → Prop}
    (hown : s.vm.findClass own = some m.cls) (hcls : Bundle.fit cls = true) (hnames : ∀ n ∈ names, Bundle.fit n = true)
    (hk : (Cond.classLink own ik cls).before args s = true) (hini : (Cond.initialized cls).before args s = true) (hstr : vk_R own is text sa s) (hat : ∀ w ∈ vx_atS own ic cls names, w.before args s = true)
    (hgood : ∀ w ∈ Cond.classLink own ik cls :: Cond.initialized cls :: vx_atS own ic cls names, vx_ot w = true)
    (hU : vx_Zq Bundle.tN "UNASSIGNED_STACK" Bundle.steD A s s.heap) (hN : vx_Zq Bundle.tN "SUPPRESSED_SENTINEL" Bundle.listD A s s.heap) (hS : va_S A s.heap H locs) (hsize : ls.size = c.maxLocals)
    (d0 : decode cc pc = .ok (.new ik, 3)) (d3 : decode cc (pc + 3) = .ok (.dup, 1)) (d4 : decode cc (pc + 4) = .ok (.ldc_w is, 3)) (d7 : decode cc (pc + 7) = .ok (.invokespecial ic, 3)) (d10 : decode cc (pc + 10) = .ok (.athrow, 1))
    (hout : ∀ x ∈ c.exceptionTable.toList, covers x (pc + 10) = false)
    (hRframes : names.length + 3 < R.frames) (hRlocals : (rest.map fun v => v.category).sum + (13 * (names.length + 1) + 43) ≤ R.locals) (hRcells : cells + 1 ≤ R.cells) (hRslots : slots + 6 ≤ R.slots) (hlocks : meth.locks = false)
    (hx : ∀ t : State, s.vm.Alike t.vm → H.size ≤ t.heap.size → (∀ q : Nat, q < H.size → t.heap[q]? = H[q]?) → XC cls s t)
    (hf : ∀ z ∈ locs, free z.base) (hc : cells + 1 ≤ mc) (hs : slots + 6 ≤ ms) :
    W p l e R s m args below meth c H locs cells slots (vx_MQ below Qc XC args s mc ms free) (F0 m pc ls rest) := by
  intro T hT X
  have htr : e.platform.stackTraces = false := (show e.platform.stackTraces = l.stackTraces by rw [X.admits.platform]).trans hl
  have Y := vx_rebase X (R' := { frames := R.frames, locals := R.locals, cells := 1, slots := 6 }) (Nat.le_refl _) (Nat.le_refl _) hRcells hRslots
  obtain ⟨s', hA⟩ : ∃ z, z = (T.setVm s.vm).setFrames (.invoking m args :: below) := ⟨_, rfl⟩
  rw [← hA] at Y
  have hvm : s'.vm = s.vm := by rw [hA]; rfl
  have hhp : s'.heap = H := by rw [hA]; exact hT
  have hW0 : s.WarmedH s'.vm := by rw [hvm]; exact State.WarmedH.refl s
  have hat' : ∀ w ∈ vx_atS own ic cls names, w.before args s' = true := fun w hw => vx_ot_at hW0 hvm.symm (hgood w (List.mem_cons_of_mem _ (List.mem_cons_of_mem _ hw))) (hat w hw)
  have hk' : (Cond.classLink own ik cls).before args s' = true := vx_ot_at hW0 hvm.symm (hgood _ List.mem_cons_self) hk
  have hini' : (Cond.initialized cls).before args s' = true := vx_ot_at hW0 hvm.symm (hgood _ (List.mem_cons_of_mem _ List.mem_cons_self)) hini
  have hU' : vx_Zq Bundle.tN "UNASSIGNED_STACK" Bundle.steD A s' s'.heap := by rw [hhp]; exact vx_Zq.moved hW0.alike (hU.kept hS.2.1)
  have hN' : vx_Zq Bundle.tN "SUPPRESSED_SENTINEL" Bundle.listD A s' s'.heap := by rw [hhp]; exact vx_Zq.moved hW0.alike (hN.kept hS.2.1)
  have h : ∀ w ∈ Bundle.ownAtoms own ic cls names, w.before args s' = true := vx_own hat' (vx_isRefq hU'.1) (vx_isRefq hN'.1) hU'.2.word hN'.2.word
  have hown' : s'.vm.findClass own = some m.cls := by rw [hvm]; exact hown
  have hins : (Cond.instantiable cls 6).before args s' = true := h _ (by simp [Bundle.ownAtoms])
  obtain ⟨vm₁, cX, kX, hfX, hkX, -, -, X₁, st1⟩ := Y.newCold hexec (own := own) (C := cls) (index := ik) (n := 6) hown' hk' hins hini'
    (g := F0 m pc ls rest) rfl (by rw [hb]; exact d0) (Nat.le_refl _) (Nat.le_refl _)
  generalize hT1 : (T.setVm vm₁).pushCell { cls := cX, slots := kX.instanceTypes.map defaultValue, vm := .none } = T1 at X₁ st1
  have hcat : (Value.ref T.heap.size).category = 1 := rfl
  have hcellA : T1.heap[T.heap.size]? = some (freshCell cX kX) := by rw [← hT1]; exact State.heap_pushCell_size _ _
  have d3' : decode c.code (pc + 3) = .ok (.dup, 1) := by rw [hb]; exact d3
  have d4' : decode c.code (pc + 4) = .ok (.ldc_w is, 3) := by rw [hb]; exact d4
  have hstr' : vk_R own is text sa s' := vk_R.warm hW0 hstr
  obtain ⟨U, hsteps, hrun, hend, hW, hsame, ce, hce, hO⟩ := X₁.ctorThrowS hexec htr (own := own) (cls := cls) (names := names) (ic := ic) hown' hcls hnames h (fun x hx => nomatch hx) hfX hkX hcellA (by rw [hhp, hT]; exact Nat.le_refl _) (msg := .ref sa) rfl
    (g := { method := m, pc := pc + 7, locals := ls, stack := .ref sa :: .ref T.heap.size :: .ref T.heap.size :: rest, locked := none }) rfl hsize rfl rfl (rest := rest) rfl
    (by rw [hb]; exact d7) (by rw [hb]; exact d10) hout hRframes (by simp only [List.map_cons, List.sum_cons, hcat]; omega) hlocks
  obtain ⟨f1, f2⟩ := vx_frame hsame
  rw [hhp] at f1 f2
  have hWs : s.WarmedH U.vm := State.WarmedH.trans hW0 hW
  have hcl : s.vm.findClass cls = some ce.cls := by
    have h9 := hO.cls
    rw [hvm] at h9
    exact h9
  have hall : s.sameButNew ({ U with vm := s.vm } : State) locs mc ms := by
    subst hA
    obtain ⟨e1, e2⟩ := hsame
    rw [State.setFrames_setFrames] at e1
    have h2 : (T.setVm s.vm).sameButNew ({ U with vm := s.vm } : State) [] (0 + 1) (0 + 6) := ⟨e1, e2⟩
    have h3 := X.same.trans h2
    rw [List.append_nil] at h3
    exact h3.mono hc hs
  refine ⟨U, ?_, .threw T.heap.size, hrun, hend, Or.inr ⟨T.heap.size, rfl, cls, ce, locs, hx U hWs.alike f1 (fun q hq => f2 q hq (fun z hz => nomatch hz)), hce, hO.vm, hcl, hWs, hall, hf⟩⟩
  refine st1 _ ?_
  show Steps p.tables e below (T1.setTop { method := m, pc := pc + 3, locals := ls, stack := .ref T.heap.size :: rest, locked := none }) _
  jvm_step X₁.here [X₁.here.top, hexec, d3', Value.category]
  exact X₁.ldcStringW hexec (own := own) (text := text) (index := is) (a := sa) hown' hstr'.1 hstr'.2
    (g := { method := m, pc := pc + 4, locals := ls, stack := .ref T.heap.size :: .ref T.heap.size :: rest, locked := none }) rfl d4' _ hsteps
end Ends
section Bodies
variable {l : Launch}
theorem vx_ofW {y : MethodName} {ws ws' : List Cond} {rm : Room} {Pc : Array Value → State → Prop} {Qc : Array Value → State → Outcome → State → Prop} {XC : String → State → State → Prop} {mc ms : Nat} {free : Addr → Prop} {cc : ByteArray} {maxL : Nat} {ret : Option FieldType}
    (hy : plainName y.cls = true) (hw : ws = Cond.code y cc maxL ret :: ws')
    (body : ∀ p e s m args below meth c s₁, BodyLoose p l y (headSpec ws rm) cc maxL ret e s m args below meth c s₁ → c.maxLocals = maxL → (∀ x ∈ c.exceptionTable.toList, False) → Pc args s →
      W p l e (headSpec ws rm).room s m args below meth c s.heap [] 0 0 (vx_MQ below Qc XC args s mc ms free) (entryFrame m args maxL)) : vx_Met l y ws rm Pc Qc XC mc ms free := by
  refine MetFree.of_bodyS (code := cc) (maxLocals := maxL) (ret := ret) hy ?_ ?_
  · intro args s m h hn
    obtain ⟨meth, c, h1, h2, h3, h4, h5, h6, -, -⟩ := Cond.code_spec hn (atoms_spec (ws := ws) h _ (by rw [hw]; exact List.mem_cons_self))
    exact ⟨meth, c, h1, h2, h3, h4, h5, h6⟩
  · intro p e s m args below meth c s₁ B hml hP _
    have hh0 : s₁.heap = s.heap := by rw [B.state]; rfl
    have ht : ∀ x ∈ c.exceptionTable.toList, False := by
      obtain ⟨meth9, c9, h1, h2, -, -, -, -, h7, -⟩ := Cond.code_spec B.named (atoms_spec (ws := ws) B.pre _ (by rw [hw]; exact List.mem_cons_self))
      cases Option.some.inj (h1.symm.trans B.method)
      cases Option.some.inj (h2.symm.trans (Stand.of_body B).code)
      intro x hx
      rw [Array.isEmpty_iff.mp h7] at hx
      cases hx
    obtain ⟨t, a1, o, b1, b2, b3⟩ := body p e s m args below meth c s₁ B hml ht hP s₁ hh0 (Stand.of_body B)
    exact ⟨t, o, a1, b1, b2, b3⟩
/-- the table of a body with handlers -/
theorem vx_table {p : Program} {x y : MethodName} {S : Spec} {cc bytes : ByteArray} {maxL maxL' : Nat} {ret ret' : Option FieldType} {e : Env} {s s₁ : State} {m : MethodId} {args : Array Value} {below : List Frame} {meth : Method} {c : Code} {hh : List (Nat × Nat × Nat × Nat)}
    (B : BodyLoose p l y S cc maxL ret e s m args below meth c s₁) (h : (Cond.codeWith y bytes maxL' ret' hh).before args s = true) : c.exceptionTable.toList = tableOf hh := by
  obtain ⟨m9, meth9, c9, hn9, h1, h2, -, -, h6, -⟩ := Cond.codeWith_spec h
  cases Option.some.inj (hn9.symm.trans B.named)
  cases Option.some.inj (h1.symm.trans B.method)
  cases Option.some.inj (h2.symm.trans (Stand.of_body B).code)
  rw [← h6, table_eq]
end Bodies
end VXA
/-! ===== END ===== -/
/-! ===== BEGIN a static call of a method with an exception table ===== -/
section VXS
variable {p : Program} {l : Launch} {e : Env} {R : Room} {s : State} {m : MethodId} {args : Array Value} {below : List Frame} {meth : Method} {c : Code} {T : State} {H : Heap} {locs : List Loc} {cells slots : Nat}
abbrev vx_CSW (R : Room) (s : State) (args : Array Value) (own : String) (index : Nat) (y : MethodName) (bytes : ByteArray) (maxL : Nat) (ret : Option FieldType) (hh : List (Nat × Nat × Nat × Nat)) (ws : List Cond) (rm : Room) (mc ms n : Nat) : Prop :=
  (rm.cells = mc ∧ rm.slots = ms ∧ rm.frames + 1 ≤ R.frames ∧ 8 + (maxL + 11) + rm.locals ≤ R.locals ∧ (∀ w ∈ ws, ∀ (a' : Array Value) (U : State), s.WarmedH U.vm → w.before a' U = true) ∧ Cond.codeWith y bytes maxL ret hh ∈ ws) ∧
  (Cond.codeWith y bytes maxL ret hh).before args s = true ∧ (Cond.initialized y.cls).before args s = true ∧ (y.cls ≠ "java/lang/invoke/MethodHandle" ∧ y.cls ≠ "java/lang/invoke/VarHandle") ∧
  (∀ sig, parseMethodDescriptor y.desc = some sig → n = sig.parameters.length) ∧ (Cond.methodLink own index y).before args s = true ∧ (Cond.static y).before args s = true
theorem vx_cwSW {own : String} {index maxL mc ms : Nat} {y : MethodName} {bytes : ByteArray} {ret : Option FieldType} {hh : List (Nat × Nat × Nat × Nat)} {Ts ws ws' : List Cond} {rm : Room} (n : Nat) (ht : ∀ w ∈ Ts, w.before args s = true) (hT : GoodIn Ts (va_wsS own index y ws)) (hw : ws = Cond.codeWith y bytes maxL ret hh :: ws') (hrc : rm.cells = mc) (hrs : rm.slots = ms)
    (hd : y.cls ≠ "java/lang/invoke/MethodHandle" ∧ y.cls ≠ "java/lang/invoke/VarHandle" ∧ (parseMethodDescriptor y.desc).map (fun d => d.parameters.length) = some n) (hR : rm.frames + 1 ≤ R.frames ∧ 8 + (maxL + 11) + rm.locals ≤ R.locals) :
    vx_CSW R s args own index y bytes maxL ret hh ws rm mc ms n := by
  have ok : ∀ w ∈ va_wsS own index y ws, w.before args s = true := fun w h => ht w (hT w h).1
  have hG : GoodIn Ts ws := fun w h => hT w (by unfold va_wsS; exact List.mem_append_right _ h)
  have hc : Cond.codeWith y bytes maxL ret hh ∈ ws := by rw [hw]; exact List.mem_cons_self
  refine ⟨⟨hrc, hrs, hR.1, hR.2, pay_in ht hG, hc⟩, ht _ (hG _ hc).1, ok _ (by simp [va_wsS]), ⟨hd.1, hd.2.1⟩, fun sig h => ?_, ok _ (by simp [va_wsS]), ok _ (by simp [va_wsS])⟩
  have h2 := hd.2.2
  rw [h] at h2
  exact (Option.some.inj h2).symm
theorem vx_callSW (X : Stand p l e R s m args below meth c T locs cells slots) (hexec : p.tables.exec = Jvm.exec) {own : String} {index : Nat} {y : MethodName} {bytes : ByteArray} {maxL : Nat} {ret : Option FieldType} {hh : List (Nat × Nat × Nat × Nat)}
    (hown : s.vm.findClass own = some m.cls) (hlink : (Cond.methodLink own index y).before args s = true) (hstat : (Cond.static y).before args s = true) (hinit : (Cond.initialized y.cls).before args s = true)
    (hcode : (Cond.codeWith y bytes maxL ret hh).before args s = true) (hy : y.cls ≠ "java/lang/invoke/MethodHandle" ∧ y.cls ≠ "java/lang/invoke/VarHandle")
    {W9 : Nat} {Pre : Pt → Array Value → Prop} {Post : Pt → Array Value → Option Value → Pt → Prop} (hK : Back l R p e below s args y 3 W9 Pre Post)
    {g : JFrame} (hg : g.method = m) (hsize : g.locals.size = c.maxLocals) {argsL rest : List Value} (hlen : ∀ sig, parseMethodDescriptor y.desc = some sig → argsL.length = sig.parameters.length)
    (hstack : g.stack = argsL.reverse ++ rest) (hW : 2 * g.monitorRoom + (rest.map fun v => v.category).sum ≤ W9) (hdg : decode c.code g.pc = .ok (.invokestatic index, 3))
    (hpre : ∀ vm₁, s.WarmedH vm₁ → Pre ⟨T.setVm vm₁, locs, cells, slots⟩ argsL.toArray) :
    ∃ (v : Option Value) (vm₁ : Vm) (B : Pt), s.WarmedH vm₁ ∧ Stand p l e R s m args below meth c B.U B.locs B.cells B.slots ∧ Post ⟨T.setVm vm₁, locs, cells, slots⟩ argsL.toArray v B ∧
      ∀ target, Steps p.tables e below (B.U.setTop { g with pc := g.pc + 3, stack := v.toList ++ rest }) target → Steps p.tables e below (T.setTop g) target := by
  obtain ⟨mk, methM, cM, hnamed, hmethM, -, -, -, -, -, -, hsigM⟩ := Cond.codeWith_spec hcode
  have hstatic : methM.isStatic = true := Cond.static_spec hnamed hmethM hstat
  obtain ⟨kP, hkP, -⟩ := className_of_methodNamed hnamed
  have hinitP : kP.init = .initialized := Cond.initialized_spec (findClass_of_methodNamed hnamed) hkP hinit
  obtain ⟨vm₁, X₁, hstep₁⟩ := X.invokestatic hexec hown hlink hnamed hmethM hstatic hkP hinitP hy (g := g) hg (argsL := argsL) (rest := rest) (hlen _ hsigM) hstack hdg
  obtain ⟨v, B, X', hpost, hsteps⟩ := hK m meth c ⟨T.setVm vm₁, locs, cells, slots⟩ { g with stack := rest } (.invokestatic index) mk argsL.toArray X₁ hg hsize hdg hW (X₁.named hnamed) (hpre vm₁ X₁.warmed)
  exact ⟨v, vm₁, B, X₁.warmed, X', hpost, fun target h => hstep₁ _ fun acts => by rw [doInvoke_state]; exact hsteps.trans h⟩
theorem vx_runSW {y : MethodName} {bytes cc : ByteArray} {maxL nL mc ms n index : Nat} {ret : Option FieldType} {hh : List (Nat × Nat × Nat × Nat)} {ws : List Cond} {rm : Room} {Pc : Array Value → State → Prop} {Qc : Array Value → State → Outcome → State → Prop} {free : Addr → Prop} {Ts : List Cond} {own : String} {As rest : List Value} {g : JFrame}
    (S : CallFix p m c cc nL s args Ts own) (hM : Met l y ws rm Pc Qc mc ms free) (cw : vx_CSW R s args own index y bytes maxL ret hh ws rm mc ms n) (hp : PreS s H Pc As)
    (hg : g.method = m) (hn : As.length = n) (hsize : g.locals.size = nL) (hstack : g.stack = As.reverse ++ rest) (hW : 2 * g.monitorRoom + (rest.map fun v => v.category).sum ≤ 8) (hdg : decode cc g.pc = .ok (.invokestatic index, 3)) (hf : cells + mc ≤ R.cells ∧ slots + ms ≤ R.slots) :
    va_Run p l e R s m args below meth c H locs cells slots mc ms g rest (Qc As.toArray) (free) := by
  obtain ⟨⟨hrc, hrs, hfr, hlo, hws, hcw⟩, hcode, hini, hy, hlen, hl, hstt⟩ := cw
  have hK : Back l R p e below s args y 3 8 (PreOf R mc ms Pc) (PostOf Qc mc ms free) := va_backW (hh := hh) (bytes := bytes) (maxL := maxL) (ret := ret) hM hp.1 hrc hrs hfr hlo hws hcw (fun a' U hW => word_at hW (Or.inl (by first | rfl | simp [Cond.onTables, Cond.keeps, Cond.steady])) hini)
  obtain ⟨hx, hb, hml, ho, -⟩ := S
  intro T hT X
  obtain ⟨v, vm₁, ⟨U', l2, c2, s2⟩, hW₁, X', ⟨g', mk, t, L, e1, e2, hq, h1, hL, h2, h3⟩, st⟩ := vx_callSW X hx (hh := hh) (bytes := bytes) (maxL := maxL) (ret := ret) ho hl hstt hini hcode hy hK hg (hsize.trans hml.symm) (argsL := As) (rest := rest) (fun sig h => hn.trans (hlen sig h)) hstack hW (by rw [hb]; exact hdg)
    (fun vm₁ hW₁ => ⟨hf.1, hf.2, hp.2 (T.setVm vm₁) hT hW₁⟩)
  dsimp only [Pt.U, Pt.locs, Pt.cells, Pt.slots] at X' e1 e2 h1 h2 h3 st
  subst h1; subst h2; subst h3
  exact ⟨v, (T.setVm vm₁).calling g' mk As.toArray, t, U', L, hT, X', hL, e1, e2, hq, st⟩
/-- not caught here, past rows that name other classes: it goes on to the caller -/
theorem vx_outP {p : Program} {l : Launch} {e : Env} {R : Room} {s : State} {m : MethodId} {args : Array Value} {below : List Frame} {meth : Method} {c : Code} {H : Heap} {locs : List Loc} {cells slots : Nat} {free : Addr → Prop} {ls : Array Slot} {rest : List Value} {Qc : Array Value → State → Outcome → State → Prop} {XC : String → State → State → Prop}
    {pc : Nat} {own E : String} {ce : Cell} {q : Addr} {mc ms : Nat} (hown : s.vm.findClass own = some m.cls) (hlocks : meth.locks = false)
    (hpass : ∀ z ∈ c.exceptionTable.toList, covers z pc = false ∨ (z.catchType ≠ 0 ∧ ∃ nm : String, (Cond.classLink own z.catchType nm).before args s = true ∧ va_Nc E nm s)) (hcell : H[q]? = some ce) (hv : ce.vm = .none) (hcl : s.vm.findClass E = some ce.cls)
    (hx : ∀ t : State, t.heap = H → s.vm.Alike t.vm → XC E s t) (hf : ∀ z ∈ locs, free z.base) (hc : cells ≤ mc) (hs : slots ≤ ms) :
    vx_W p l e R s m args below meth c H locs cells slots (vx_MQ below Qc XC args s mc ms free) (F0 m pc ls rest) q := by
  intro T hT X
  have hpl : e.platform.magicAccessors = ({} : Platform).magicAccessors := by rw [X.admits.platform]
  obtain ⟨vm', hW', X', st⟩ := X.outThrough hlocks q (g := F0 m pc ls rest) rfl rfl rfl (cell := ce) (by rw [hT]; exact hcell) (by rw [hv]; rfl)
    (by obtain ⟨k9, h9, -⟩ := Vm.findClass_spec hcl; exact ⟨k9, h9⟩) (fun z hz => by
      rcases hpass z hz with h | ⟨hz0, nm, hl1, hn1⟩
      · exact Or.inl h
      · obtain ⟨c6, hc6, hcl6⟩ := Cond.classLink_spec hown hl1 e.platform hpl
        obtain ⟨a8, b8, h1, h2, h3⟩ := hn1
        cases Option.some.inj (h1.symm.trans hcl)
        cases Option.some.inj (h2.symm.trans hc6)
        exact Or.inr ⟨hz0, _, hcl6, h3⟩)
  obtain ⟨g₀, hfr⟩ := X'.frames_eq
  have hcell9 : ((T.setVm vm').setFrames (.throwing q :: below)).heap[q]? = some ce := by
    show T.heap[q]? = some ce
    rw [hT]; exact hcell
  have hend : Ended ((T.setVm vm').setFrames (.throwing q :: below)) below (.threw q) := State.frames_setFrames _ (State.cur_lt_of_frames hfr)
  refine ⟨(T.setVm vm').setFrames (.throwing q :: below), ?_, .threw q, X'.here.running, hend, Or.inr ⟨q, rfl, E, ce, locs, hx _ hT (X'.ends _).1.alike, hcell9, hv, hcl, (X'.ends _).1, (X'.ends _).2.mono hc hs, hf⟩⟩
  rw [X.pushThrowing_eq]
  exact st
/-- a thing of a world lies in the heap -/
theorem vx_lt {D : va_G} {cl : List vw_C} {ws : va_W} {H1 : Heap} (h : va_P D cl ws H1) {k : Nat} {q : Nat × va_E} (hk : ws[k]? = some q) : q.1 < H1.size := (h k q hk).lt
end VXS
/-! ===== END ===== -/
/-! ===== BEGIN methods with a table of their own: called by a name, returning or throwing ===== -/
section VXH
/-! vx_backW, vx_callVX, vx_callSX, vx_callVW, vx_runVW, vx_runVX, vx_runSX, vx_ofWH follow the same proofs as their sisters above (Free/Laws.lean, Shelf42/LK1.lean); vx_outP calls Shelf42/NT130.lean (outThrough). -/
section
variable {l : Launch} {R : Room} {p : Program} {e : Env} {below : List Frame} {s : State} {sargs : Array Value} {y : MethodName} {len W9 : Nat}
theorem vx_backW {ws : List Cond} {rm : Room} {Pc : Array Value → State → Prop} {Qc : Array Value → State → Outcome → State → Prop} {XC : String → State → State → Prop} {mc ms : Nat} {free : Addr → Prop} {bytes : ByteArray} {maxL : Nat} {ret : Option FieldType} {hh : List (Nat × Nat × Nat × Nat)}
    (hM : vx_Met l y ws rm Pc Qc XC mc ms free) (hblind : FrameBlind Pc) (hrc : rm.cells = mc) (hrs : rm.slots = ms)
    (hframes : rm.frames + 1 ≤ R.frames) (hlocals : W9 + (maxL + 11) + rm.locals ≤ R.locals)
    (hws : ∀ w ∈ ws, ∀ a' U, s.WarmedH U.vm → w.before a' U = true) (hcode : Cond.codeWith y bytes maxL ret hh ∈ ws) (hinit : ∀ a' U, s.WarmedH U.vm → (Cond.initialized y.cls).before a' U = true) :
    vx_Back l R p e below s sargs y len W9 (PreOf R mc ms Pc) (PostOf Qc mc ms free) (vx_Post XC mc ms free) := by
  intro m meth c A g ig mk a X hg hsize hdg hW hn hp
  have h1 : (headSpec ws rm).pre.before a A.U = true := atoms_intro fun w hw => hws w hw _ _ X.warmed
  have h2 : (Cond.codeWith y bytes maxL ret hh).before a A.U = true := hws _ hcode _ _ X.warmed
  have h3 : (Cond.initialized y.cls).before a A.U = true := hinit _ _ X.warmed
  have h4 : A.cells + (headSpec ws rm).room.cells ≤ R.cells := by rw [show (headSpec ws rm).room.cells = mc from hrc]; exact hp.1
  have h5 : A.slots + (headSpec ws rm).room.slots ≤ R.slots := by rw [show (headSpec ws rm).room.slots = ms from hrs]; exact hp.2.1
  have hPc : Pc a (A.U.calling g mk a) := hblind _ _ _ _ hp.2.2
  obtain ⟨U, Ls, c0, s0⟩ := A
  dsimp only [Pt.U, Pt.locs, Pt.cells, Pt.slots] at h1 h2 h3 h4 h5 X hn hPc ⊢
  obtain ⟨m9, methY, cY, hn9, hmY, hcY, -, hlY, -⟩ := Cond.codeWith_spec h2
  cases Option.some.inj (hn9.symm.trans hn)
  obtain ⟨kY, hkY, -⟩ := className_of_methodNamed hn
  have hinitY : kY.init = .initialized := Cond.initialized_spec (findClass_of_methodNamed hn) hkY h3
  have h : At U g.method c below := by rw [hg]; exact X.here
  have hlocals9 : W9 + (maxL + 11) + (headSpec ws rm).room.locals ≤ R.locals := hlocals
  have happ : (headSpec ws rm).appliesLoose y e.platform (U.calling g mk a) = true :=
    Spec.appliesLoose_calling (g := g) h hdg hn hkY hinitY
      (X.room_calling (g := g) (R' := (headSpec ws rm).room) hsize hmY hcY hframes (by rw [hlY]; omega) h4 h5) h1
  obtain ⟨mid, hmid⟩ := h.above
  have hfr : (U.setTop g).frames = (.java g :: mid) ++ below := by rw [State.frames_setTop' g h.top, hmid]; rfl
  obtain ⟨o, s₂, hsteps, -, hend, hq⟩ := Steps.callFree hM p X.admits X.cas X.clock (acts := []) hfr happ hPc trivial
  have hq' : vx_Q Qc XC mc ms free a (U.calling g mk a) o s₂ := hq
  rw [State.frames_setTop' g h.top] at hend
  obtain ⟨g₀, hg0⟩ := Option.isSome_iff_exists.mp h.top
  obtain ⟨r, hr⟩ := State.topJava?_eq_some.mp hg0
  have hr' : (({ U with heap := s₂.heap, slotsUsed := s₂.slotsUsed } : State).setVm s₂.vm).frames = .java g₀ :: r := hr
  rcases hq' with ⟨hqc, L, hfe, hL⟩ | ⟨q, rfl, E, ce, L, hx, hce, hcv, hcl, hW₂, hsm, hL⟩
  · obtain ⟨⟨v, rfl⟩, hW₂, e2, q2, q3, q4, q5, q6⟩ := id hfe
    have e3 : s₂ = ({ (U.calling g mk a).setFrames s₂.frames with heap := s₂.heap, slotsUsed := s₂.slotsUsed } : State).setVm s₂.vm := by
      have : s₂ = ({ s₂ with vm := (U.calling g mk a).vm } : State).setVm s₂.vm := rfl
      rw [e2] at this
      exact this
    obtain ⟨c₂, i₂, len₂, hc₂, hd₂, hf₂⟩ := hend
    have hW' : U.WarmedH s₂.vm := hW₂
    have hcc : c₂ = c := by
      have h1 : s₂.code? g.method = U.code? g.method := by
        rw [State.code?_eq, State.code?_eq, hW'.alike.method?]
      exact Option.some.inj (hc₂.symm.trans (h1.trans h.code))
    subst hcc
    have hlen : len₂ = len := by rw [hdg] at hd₂; cases hd₂; rfl
    subst hlen
    have hs₂ : s₂ = (({ U with heap := s₂.heap, slotsUsed := s₂.slotsUsed } : State).setVm s₂.vm).setTop { g with pc := g.pc + len₂, stack := v.toList ++ g.stack } := by
      refine e3.trans ?_
      rw [hf₂, State.calling_eq h.top, State.setFrames_setFrames, State.setTop_of_frames _ hr', hr]
      rfl
    have hsame : U.sameButNew ({ U with heap := s₂.heap, slotsUsed := s₂.slotsUsed } : State) L mc ms := by
      refine ⟨?_, q2, q3, q4, q5, q6⟩
      obtain ⟨t, ht, -⟩ := State.frames_cons hr
      show ({ U with heap := s₂.heap, slotsUsed := s₂.slotsUsed } : State) = { U.setFrames U.frames with heap := s₂.heap, slotsUsed := s₂.slotsUsed }
      rw [State.setFrames_self ht]
    subst hg
    refine Or.inl ⟨v, ⟨(({ U with heap := s₂.heap, slotsUsed := s₂.slotsUsed } : State).setVm s₂.vm), Ls ++ L, c0 + mc, s0 + ms⟩,
      ⟨X.admits, X.cas, X.clock, X.frames, X.room, X.hears, X.method, X.code, (X.here.setHeapUsed s₂.heap s₂.slotsUsed).setVm hW'.alike, X.tail, State.WarmedH.trans X.warmed hW', X.limits, X.bytes, X.same.trans (hsame.setVm s.vm)⟩,
      ⟨g, mk, s₂, L, rfl, rfl, hqc, rfl, hL, rfl, rfl⟩, ?_⟩
    show Steps p.tables e below _ ((({ U with heap := s₂.heap, slotsUsed := s₂.slotsUsed } : State).setVm s₂.vm).setTop { g with pc := g.pc + len₂, stack := v.toList ++ g.stack })
    rw [← hs₂]
    exact hsteps
  · obtain ⟨e2, q2, q3, q4, q5, q6⟩ := id hsm
    have e3 : s₂ = ({ (U.calling g mk a).setFrames s₂.frames with heap := s₂.heap, slotsUsed := s₂.slotsUsed } : State).setVm s₂.vm := by
      have : s₂ = ({ s₂ with vm := (U.calling g mk a).vm } : State).setVm s₂.vm := rfl
      rw [e2] at this
      exact this
    have hf₂ : s₂.frames = .throwing q :: .java g :: U.frames.tail := hend
    have hW' : U.WarmedH s₂.vm := hW₂
    have hs₂ : s₂ = ((({ U with heap := s₂.heap, slotsUsed := s₂.slotsUsed } : State).setVm s₂.vm).setTop g).pushFrame (.throwing q) := by
      refine e3.trans ?_
      rw [hf₂, State.calling_eq h.top, State.setFrames_setFrames, State.pushFrame, State.frames_setTop _ hr', State.setTop_of_frames _ hr', State.setFrames_setFrames, hr]
      rfl
    have hsame : U.sameButNew ({ U with heap := s₂.heap, slotsUsed := s₂.slotsUsed } : State) L mc ms := by
      refine ⟨?_, q2, q3, q4, q5, q6⟩
      obtain ⟨t, ht, -⟩ := State.frames_cons hr
      show ({ U with heap := s₂.heap, slotsUsed := s₂.slotsUsed } : State) = { U.setFrames U.frames with heap := s₂.heap, slotsUsed := s₂.slotsUsed }
      rw [State.setFrames_self ht]
    subst hg
    refine Or.inr ⟨q, ⟨(({ U with heap := s₂.heap, slotsUsed := s₂.slotsUsed } : State).setVm s₂.vm), Ls ++ L, c0 + mc, s0 + ms⟩,
      ⟨X.admits, X.cas, X.clock, X.frames, X.room, X.hears, X.method, X.code, (X.here.setHeapUsed s₂.heap s₂.slotsUsed).setVm hW'.alike, X.tail, State.WarmedH.trans X.warmed hW', X.limits, X.bytes, X.same.trans (hsame.setVm s.vm)⟩,
      ⟨g, mk, s₂, L, E, ce, rfl, rfl, hx, hce, hcv, hcl, rfl, hL, rfl, rfl⟩, ?_⟩
    show Steps p.tables e below _ (((({ U with heap := s₂.heap, slotsUsed := s₂.slotsUsed } : State).setVm s₂.vm).setTop g).pushFrame (.throwing q))
    rw [← hs₂]
    exact hsteps
end
variable {p : Program} {l : Launch} {e : Env} {R : Room} {s : State} {m : MethodId} {args : Array Value} {below : List Frame} {meth : Method} {c : Code} {T : State} {H : Heap} {locs : List Loc} {cells slots : Nat}
theorem vx_callVX (X : Stand p l e R s m args below meth c T locs cells slots) (hexec : p.tables.exec = Jvm.exec) {own C : String} {index : Nat} {y : MethodName} {bytes : ByteArray} {maxL : Nat} {ret : Option FieldType} {hh : List (Nat × Nat × Nat × Nat)}
    (hown : s.vm.findClass own = some m.cls) (hlink : (Cond.methodLink own index y).before args s = true) (hinst : (Cond.instanceMethod y).before args s = true) (hsel : (Cond.selects C y y).before args s = true)
    (hcode : (Cond.codeWith y bytes maxL ret hh).before args s = true) (hy : y.cls ≠ "java/lang/invoke/MethodHandle" ∧ y.cls ≠ "java/lang/invoke/VarHandle")
    {W9 : Nat} {Pre : Pt → Array Value → Prop} {Post : Pt → Array Value → Option Value → Pt → Prop} {PostX : Pt → Array Value → Addr → Pt → Prop} (hK : vx_Back l R p e below s args y 3 W9 Pre Post PostX)
    {b : Addr} {cellB : Cell} (hcell : T.heap[b]? = some cellB) (hobj : cellB.vm.isStatics = false) (hcls : s.vm.findClass C = some cellB.cls)
    {g : JFrame} (hg : g.method = m) (hsize : g.locals.size = c.maxLocals) {argsL rest : List Value} (hlen : ∀ sig, parseMethodDescriptor y.desc = some sig → argsL.length = sig.parameters.length)
    (hstack : g.stack = argsL.reverse ++ .ref b :: rest) (hW : 2 * g.monitorRoom + (rest.map fun v => v.category).sum ≤ W9) (hdg : decode c.code g.pc = .ok (.invokevirtual index, 3))
    (hpre : ∀ vm₁, s.WarmedH vm₁ → Pre ⟨T.setVm vm₁, locs, cells, slots⟩ (Value.ref b :: argsL).toArray) :
    (∃ (v : Option Value) (vm₁ : Vm) (B : Pt), s.WarmedH vm₁ ∧ Stand p l e R s m args below meth c B.U B.locs B.cells B.slots ∧ Post ⟨T.setVm vm₁, locs, cells, slots⟩ (Value.ref b :: argsL).toArray v B ∧
      ∀ target, Steps p.tables e below (B.U.setTop { g with pc := g.pc + 3, stack := v.toList ++ rest }) target → Steps p.tables e below (T.setTop g) target) ∨
    (∃ (q : Addr) (vm₁ : Vm) (B : Pt), s.WarmedH vm₁ ∧ Stand p l e R s m args below meth c B.U B.locs B.cells B.slots ∧ PostX ⟨T.setVm vm₁, locs, cells, slots⟩ (Value.ref b :: argsL).toArray q B ∧
      Steps p.tables e below (T.setTop g) ((B.U.setTop { g with stack := rest }).pushFrame (.throwing q))) := by
  obtain ⟨mk, methM, hnamed, hmethM, hstM, habM⟩ := Cond.instanceMethod_spec hinst
  obtain ⟨m8, methM', cM, hn8, hmethM', -, -, -, -, -, -, hsigM⟩ := Cond.codeWith_spec hcode
  cases Option.some.inj (hn8.symm.trans hnamed)
  cases hmethM.symm.trans hmethM'
  obtain ⟨c2, r2, m2, q1, q2, q3, q4, kP, hkP, hkPi⟩ := Cond.selects_spec hsel
  cases hcls.symm.trans q1
  cases (State.methodFound?_of_named hnamed hy).symm.trans q2
  cases hnamed.symm.trans q3
  have hselP : selectMethod e.platform s.vm cellB.cls mk = .method mk := by rw [Launch.admits_selectMethod X.admits]; exact q4
  obtain ⟨vm₁, X₁, hstep₁⟩ := X.invokevirtual hexec hown hlink hnamed hmethM hstM hkP hkPi hy (a := b) (cell := cellB) hcell
    (fun z h => by rw [h] at hobj; cases hobj) hselP hmethM habM hkP hkPi (g := g) hg (argsL := argsL) (rest := rest) (hlen _ hsigM) hstack hdg
  rcases hK m meth c ⟨T.setVm vm₁, locs, cells, slots⟩ { g with stack := rest } (.invokevirtual index) mk (Value.ref b :: argsL).toArray X₁ hg hsize hdg hW (X₁.named hnamed) (hpre vm₁ X₁.warmed) with ⟨v, B, X', hpost, hsteps⟩ | ⟨q, B, X', hpost, hsteps⟩
  · exact Or.inl ⟨v, vm₁, B, X₁.warmed, X', hpost, fun target h => hstep₁ _ fun acts => by rw [doInvoke_state]; exact hsteps.trans h⟩
  · exact Or.inr ⟨q, vm₁, B, X₁.warmed, X', hpost, hstep₁ _ fun acts => by rw [doInvoke_state]; exact hsteps⟩
theorem vx_callSX (X : Stand p l e R s m args below meth c T locs cells slots) (hexec : p.tables.exec = Jvm.exec) {own : String} {index : Nat} {y : MethodName} {bytes : ByteArray} {maxL : Nat} {ret : Option FieldType} {hh : List (Nat × Nat × Nat × Nat)}
    (hown : s.vm.findClass own = some m.cls) (hlink : (Cond.methodLink own index y).before args s = true) (hstat : (Cond.static y).before args s = true) (hinit : (Cond.initialized y.cls).before args s = true)
    (hcode : (Cond.codeWith y bytes maxL ret hh).before args s = true) (hy : y.cls ≠ "java/lang/invoke/MethodHandle" ∧ y.cls ≠ "java/lang/invoke/VarHandle")
    {W9 : Nat} {Pre : Pt → Array Value → Prop} {Post : Pt → Array Value → Option Value → Pt → Prop} {PostX : Pt → Array Value → Addr → Pt → Prop} (hK : vx_Back l R p e below s args y 3 W9 Pre Post PostX)
    {g : JFrame} (hg : g.method = m) (hsize : g.locals.size = c.maxLocals) {argsL rest : List Value} (hlen : ∀ sig, parseMethodDescriptor y.desc = some sig → argsL.length = sig.parameters.length)
    (hstack : g.stack = argsL.reverse ++ rest) (hW : 2 * g.monitorRoom + (rest.map fun v => v.category).sum ≤ W9) (hdg : decode c.code g.pc = .ok (.invokestatic index, 3))
    (hpre : ∀ vm₁, s.WarmedH vm₁ → Pre ⟨T.setVm vm₁, locs, cells, slots⟩ argsL.toArray) :
    (∃ (v : Option Value) (vm₁ : Vm) (B : Pt), s.WarmedH vm₁ ∧ Stand p l e R s m args below meth c B.U B.locs B.cells B.slots ∧ Post ⟨T.setVm vm₁, locs, cells, slots⟩ argsL.toArray v B ∧
      ∀ target, Steps p.tables e below (B.U.setTop { g with pc := g.pc + 3, stack := v.toList ++ rest }) target → Steps p.tables e below (T.setTop g) target) ∨
    (∃ (q : Addr) (vm₁ : Vm) (B : Pt), s.WarmedH vm₁ ∧ Stand p l e R s m args below meth c B.U B.locs B.cells B.slots ∧ PostX ⟨T.setVm vm₁, locs, cells, slots⟩ argsL.toArray q B ∧
      Steps p.tables e below (T.setTop g) ((B.U.setTop { g with stack := rest }).pushFrame (.throwing q))) := by
  obtain ⟨mk, methM, cM, hnamed, hmethM, -, -, -, -, -, -, hsigM⟩ := Cond.codeWith_spec hcode
  have hstatic : methM.isStatic = true := Cond.static_spec hnamed hmethM hstat
  obtain ⟨kP, hkP, -⟩ := className_of_methodNamed hnamed
  have hinitP : kP.init = .initialized := Cond.initialized_spec (findClass_of_methodNamed hnamed) hkP hinit
  obtain ⟨vm₁, X₁, hstep₁⟩ := X.invokestatic hexec hown hlink hnamed hmethM hstatic hkP hinitP hy (g := g) hg (argsL := argsL) (rest := rest) (hlen _ hsigM) hstack hdg
  rcases hK m meth c ⟨T.setVm vm₁, locs, cells, slots⟩ { g with stack := rest } (.invokestatic index) mk argsL.toArray X₁ hg hsize hdg hW (X₁.named hnamed) (hpre vm₁ X₁.warmed) with ⟨v, B, X', hpost, hsteps⟩ | ⟨q, B, X', hpost, hsteps⟩
  · exact Or.inl ⟨v, vm₁, B, X₁.warmed, X', hpost, fun target h => hstep₁ _ fun acts => by rw [doInvoke_state]; exact hsteps.trans h⟩
  · exact Or.inr ⟨q, vm₁, B, X₁.warmed, X', hpost, hstep₁ _ fun acts => by rw [doInvoke_state]; exact hsteps⟩
theorem vx_callVW (X : Stand p l e R s m args below meth c T locs cells slots) (hexec : p.tables.exec = Jvm.exec) {own C : String} {index : Nat} {y : MethodName} {bytes : ByteArray} {maxL : Nat} {ret : Option FieldType} {hh : List (Nat × Nat × Nat × Nat)}
    (hown : s.vm.findClass own = some m.cls) (hlink : (Cond.methodLink own index y).before args s = true) (hinst : (Cond.instanceMethod y).before args s = true) (hsel : (Cond.selects C y y).before args s = true)
    (hcode : (Cond.codeWith y bytes maxL ret hh).before args s = true) (hy : y.cls ≠ "java/lang/invoke/MethodHandle" ∧ y.cls ≠ "java/lang/invoke/VarHandle")
    {W9 : Nat} {Pre : Pt → Array Value → Prop} {Post : Pt → Array Value → Option Value → Pt → Prop} (hK : Back l R p e below s args y 3 W9 Pre Post)
    {b : Addr} {cellB : Cell} (hcell : T.heap[b]? = some cellB) (hobj : cellB.vm.isStatics = false) (hcls : s.vm.findClass C = some cellB.cls)
    {g : JFrame} (hg : g.method = m) (hsize : g.locals.size = c.maxLocals) {argsL rest : List Value} (hlen : ∀ sig, parseMethodDescriptor y.desc = some sig → argsL.length = sig.parameters.length)
    (hstack : g.stack = argsL.reverse ++ .ref b :: rest) (hW : 2 * g.monitorRoom + (rest.map fun v => v.category).sum ≤ W9) (hdg : decode c.code g.pc = .ok (.invokevirtual index, 3))
    (hpre : ∀ vm₁, s.WarmedH vm₁ → Pre ⟨T.setVm vm₁, locs, cells, slots⟩ (Value.ref b :: argsL).toArray) :
    ∃ (v : Option Value) (vm₁ : Vm) (B : Pt), s.WarmedH vm₁ ∧ Stand p l e R s m args below meth c B.U B.locs B.cells B.slots ∧ Post ⟨T.setVm vm₁, locs, cells, slots⟩ (Value.ref b :: argsL).toArray v B ∧
      ∀ target, Steps p.tables e below (B.U.setTop { g with pc := g.pc + 3, stack := v.toList ++ rest }) target → Steps p.tables e below (T.setTop g) target := by
  obtain ⟨mk, methM, hnamed, hmethM, hstM, habM⟩ := Cond.instanceMethod_spec hinst
  obtain ⟨m8, methM', cM, hn8, hmethM', -, -, -, -, -, -, hsigM⟩ := Cond.codeWith_spec hcode
  cases Option.some.inj (hn8.symm.trans hnamed)
  cases hmethM.symm.trans hmethM'
  obtain ⟨c2, r2, m2, q1, q2, q3, q4, kP, hkP, hkPi⟩ := Cond.selects_spec hsel
  cases hcls.symm.trans q1
  cases (State.methodFound?_of_named hnamed hy).symm.trans q2
  cases hnamed.symm.trans q3
  have hselP : selectMethod e.platform s.vm cellB.cls mk = .method mk := by rw [Launch.admits_selectMethod X.admits]; exact q4
  obtain ⟨vm₁, X₁, hstep₁⟩ := X.invokevirtual hexec hown hlink hnamed hmethM hstM hkP hkPi hy (a := b) (cell := cellB) hcell
    (fun z h => by rw [h] at hobj; cases hobj) hselP hmethM habM hkP hkPi (g := g) hg (argsL := argsL) (rest := rest) (hlen _ hsigM) hstack hdg
  obtain ⟨v, B, X', hpost, hsteps⟩ := hK m meth c ⟨T.setVm vm₁, locs, cells, slots⟩ { g with stack := rest } (.invokevirtual index) mk (Value.ref b :: argsL).toArray X₁ hg hsize hdg hW (X₁.named hnamed) (hpre vm₁ X₁.warmed)
  exact ⟨v, vm₁, B, X₁.warmed, X', hpost, fun target h => hstep₁ _ fun acts => by rw [doInvoke_state]; exact hsteps.trans h⟩
abbrev vx_CVW (R : Room) (s : State) (args : Array Value) (own C : String) (index : Nat) (y : MethodName) (bytes : ByteArray) (maxL : Nat) (ret : Option FieldType) (hh : List (Nat × Nat × Nat × Nat)) (ws : List Cond) (rm : Room) (mc ms n : Nat) : Prop :=
  (rm.cells = mc ∧ rm.slots = ms ∧ rm.frames + 1 ≤ R.frames ∧ 8 + (maxL + 11) + rm.locals ≤ R.locals ∧ (∀ w ∈ ws, ∀ (a' : Array Value) (U : State), s.WarmedH U.vm → w.before a' U = true) ∧ Cond.codeWith y bytes maxL ret hh ∈ ws) ∧
  (Cond.codeWith y bytes maxL ret hh).before args s = true ∧ (Cond.initialized y.cls).before args s = true ∧ (y.cls ≠ "java/lang/invoke/MethodHandle" ∧ y.cls ≠ "java/lang/invoke/VarHandle") ∧
  (∀ sig, parseMethodDescriptor y.desc = some sig → n = sig.parameters.length) ∧ (Cond.methodLink own index y).before args s = true ∧ (Cond.instanceMethod y).before args s = true ∧ (Cond.selects C y y).before args s = true
theorem vx_cwVW {own C : String} {index maxL mc ms : Nat} {y : MethodName} {bytes : ByteArray} {ret : Option FieldType} {hh : List (Nat × Nat × Nat × Nat)} {Ts ws ws' : List Cond} {rm : Room} (n : Nat) (ht : ∀ w ∈ Ts, w.before args s = true) (hT : GoodIn Ts (wsV own index C y ws)) (hw : ws = Cond.codeWith y bytes maxL ret hh :: ws') (hrc : rm.cells = mc) (hrs : rm.slots = ms)
    (hd : y.cls = C ∧ y.cls ≠ "java/lang/invoke/MethodHandle" ∧ y.cls ≠ "java/lang/invoke/VarHandle" ∧ (parseMethodDescriptor y.desc).map (fun d => d.parameters.length) = some n) (hR : rm.frames + 1 ≤ R.frames ∧ 8 + (maxL + 11) + rm.locals ≤ R.locals) :
    vx_CVW R s args own C index y bytes maxL ret hh ws rm mc ms n := by
  obtain ⟨hC, hd⟩ := hd
  subst hC
  have ok : ∀ w ∈ wsV own index y.cls y ws, w.before args s = true := fun w h => ht w (hT w h).1
  have hG : GoodIn Ts ws := fun w h => hT w (by unfold wsV; exact List.mem_append_right _ h)
  have hc : Cond.codeWith y bytes maxL ret hh ∈ ws := by rw [hw]; exact List.mem_cons_self
  refine ⟨⟨hrc, hrs, hR.1, hR.2, pay_in ht hG, hc⟩, ht _ (hG _ hc).1, ok _ (by simp [wsV]), ⟨hd.1, hd.2.1⟩, fun sig h => ?_, ok _ (by simp [wsV]), ok _ (by simp [wsV]), ok _ (by simp [wsV])⟩
  have h2 := hd.2.2
  rw [h] at h2
  exact (Option.some.inj h2).symm
theorem vx_runVW {y : MethodName} {bytes cc : ByteArray} {maxL nL mc ms n index : Nat} {ret : Option FieldType} {hh : List (Nat × Nat × Nat × Nat)} {ws : List Cond} {rm : Room} {Pc : Array Value → State → Prop} {Qc : Array Value → State → Outcome → State → Prop} {free : Addr → Prop} {Ts : List Cond} {own C : String} {b : Addr} {As rest : List Value} {g : JFrame}
    (S : CallFix p m c cc nL s args Ts own) (hM : Met l y ws rm Pc Qc mc ms free) (cw : vx_CVW R s args own C index y bytes maxL ret hh ws rm mc ms n) (hp : PreV s H C b Pc As)
    (hg : g.method = m) (hn : As.length = n) (hsize : g.locals.size = nL) (hstack : g.stack = As.reverse ++ .ref b :: rest) (hW : 2 * g.monitorRoom + (rest.map fun v => v.category).sum ≤ 8) (hdg : decode cc g.pc = .ok (.invokevirtual index, 3)) (hf : cells + mc ≤ R.cells ∧ slots + ms ≤ R.slots) :
    va_Run p l e R s m args below meth c H locs cells slots mc ms g rest (Qc (Value.ref b :: As).toArray) free := by
  obtain ⟨⟨hrc, hrs, hfr, hlo, hws, hcw⟩, hcode, hini, hy, hlen, hl, hin, hse⟩ := cw
  have hK : Back l R p e below s args y 3 8 (PreOf R mc ms Pc) (PostOf Qc mc ms free) := va_backW (hh := hh) (bytes := bytes) (maxL := maxL) (ret := ret) hM hp.1 hrc hrs hfr hlo hws hcw (fun a' U hW => word_at hW (Or.inl (by first | rfl | simp [Cond.onTables, Cond.keeps, Cond.steady])) hini)
  obtain ⟨hx, hb, hml, ho, -⟩ := S
  obtain ⟨-, ⟨cellB, hcB, hoB, hclB⟩, hPc⟩ := hp
  intro T hT X
  obtain ⟨v, vm₁, ⟨U', l2, c2, s2⟩, hW₁, X', ⟨g', mk, t, L, e1, e2, hq, h1, hL, h2, h3⟩, st⟩ := vx_callVW X hx (C := C) (hh := hh) (bytes := bytes) (maxL := maxL) (ret := ret) ho hl hin hse hcode hy hK (by rw [hT]; exact hcB) hoB hclB hg (hsize.trans hml.symm) (argsL := As) (rest := rest) (fun sig h => hn.trans (hlen sig h)) hstack hW (by rw [hb]; exact hdg)
    (fun vm₁ hW₁ => ⟨hf.1, hf.2, hPc (T.setVm vm₁) hT hW₁⟩)
  dsimp only [Pt.U, Pt.locs, Pt.cells, Pt.slots] at X' e1 e2 h1 h2 h3 st
  subst h1; subst h2; subst h3
  exact ⟨v, (T.setVm vm₁).calling g' mk (Value.ref b :: As).toArray, t, U', L, hT, X', hL, e1, e2, hq, st⟩
section
variable {y : MethodName} {bytes cc : ByteArray} {maxL nL mc ms n index : Nat} {ret : Option FieldType} {ws : List Cond} {rm : Room} {Pc : Array Value → State → Prop} {Qc : Array Value → State → Outcome → State → Prop} {XC : String → State → State → Prop} {free : Addr → Prop} {Ts : List Cond} {own C : String} {b : Addr} {As rest : List Value} {g : JFrame}
theorem vx_runVX {hh : List (Nat × Nat × Nat × Nat)} (S : CallFix p m c cc nL s args Ts own) (hM : vx_Met l y ws rm Pc Qc XC mc ms free) (cw : vx_CVW R s args own C index y bytes maxL ret hh ws rm mc ms n) (hp : PreV s H C b Pc As)
    (hg : g.method = m) (hn : As.length = n) (hsize : g.locals.size = nL) (hstack : g.stack = As.reverse ++ .ref b :: rest) (hW : 2 * g.monitorRoom + (rest.map fun v => v.category).sum ≤ 8) (hdg : decode cc g.pc = .ok (.invokevirtual index, 3)) (hf : cells + mc ≤ R.cells ∧ slots + ms ≤ R.slots) :
    vx_Run p l e R s m args below meth c H locs cells slots mc ms g rest (Qc (Value.ref b :: As).toArray) XC free := by
  obtain ⟨⟨hrc, hrs, hfr, hlo, hws, hcw⟩, hcode, hini, hy, hlen, hl, hin, hse⟩ := cw
  have hK : vx_Back l R p e below s args y 3 8 (PreOf R mc ms Pc) (PostOf Qc mc ms free) (vx_Post XC mc ms free) := vx_backW (hh := hh) (bytes := bytes) (maxL := maxL) (ret := ret) hM hp.1 hrc hrs hfr hlo hws hcw (fun a' U hW => word_at hW (Or.inl (by first | rfl | simp [Cond.onTables, Cond.keeps, Cond.steady])) hini)
  obtain ⟨hx, hb, hml, ho, -⟩ := S
  obtain ⟨-, ⟨cellB, hcB, hoB, hclB⟩, hPc⟩ := hp
  intro T hT X
  rcases vx_callVX X hx (C := C) (hh := hh) (bytes := bytes) (maxL := maxL) (ret := ret) ho hl hin hse hcode hy hK (by rw [hT]; exact hcB) hoB hclB hg (hsize.trans hml.symm) (argsL := As) (rest := rest) (fun sig h => hn.trans (hlen sig h)) hstack hW (by rw [hb]; exact hdg)
    (fun vm₁ hW₁ => ⟨hf.1, hf.2, hPc (T.setVm vm₁) hT hW₁⟩) with ⟨v, vm₁, ⟨U', l2, c2, s2⟩, hW₁, X', ⟨g', mk, t, L, e1, e2, hq, h1, hL, h2, h3⟩, st⟩ | ⟨q, vm₁, ⟨U', l2, c2, s2⟩, hW₁, X', ⟨g', mk, t, L, E, ce, e1, e2, hq, hce, hcv, hcl, h1, hL, h2, h3⟩, st⟩
  · dsimp only [Pt.U, Pt.locs, Pt.cells, Pt.slots] at X' e1 e2 h1 h2 h3 st
    subst h1; subst h2; subst h3
    exact Or.inl ⟨v, (T.setVm vm₁).calling g' mk (Value.ref b :: As).toArray, t, U', L, hT, X', hL, e1, e2, hq, st⟩
  · dsimp only [Pt.U, Pt.locs, Pt.cells, Pt.slots] at X' e1 e2 h1 h2 h3 st hcl
    subst h1; subst h2; subst h3
    exact Or.inr ⟨q, (T.setVm vm₁).calling g' mk (Value.ref b :: As).toArray, t, U', L, E, ce, hT, X', hL, e1, e2, hq, hce, hcv, vx_cls hW₁ hcl, st⟩
theorem vx_runSX {hh : List (Nat × Nat × Nat × Nat)} (S : CallFix p m c cc nL s args Ts own) (hM : vx_Met l y ws rm Pc Qc XC mc ms free) (cw : vx_CSW R s args own index y bytes maxL ret hh ws rm mc ms n) (hp : PreS s H Pc As)
    (hg : g.method = m) (hn : As.length = n) (hsize : g.locals.size = nL) (hstack : g.stack = As.reverse ++ rest) (hW : 2 * g.monitorRoom + (rest.map fun v => v.category).sum ≤ 8) (hdg : decode cc g.pc = .ok (.invokestatic index, 3)) (hf : cells + mc ≤ R.cells ∧ slots + ms ≤ R.slots) :
    vx_Run p l e R s m args below meth c H locs cells slots mc ms g rest (Qc As.toArray) XC free := by
  obtain ⟨⟨hrc, hrs, hfr, hlo, hws, hcw⟩, hcode, hini, hy, hlen, hl, hstt⟩ := cw
  have hK : vx_Back l R p e below s args y 3 8 (PreOf R mc ms Pc) (PostOf Qc mc ms free) (vx_Post XC mc ms free) := vx_backW (hh := hh) (bytes := bytes) (maxL := maxL) (ret := ret) hM hp.1 hrc hrs hfr hlo hws hcw (fun a' U hW => word_at hW (Or.inl (by first | rfl | simp [Cond.onTables, Cond.keeps, Cond.steady])) hini)
  obtain ⟨hx, hb, hml, ho, -⟩ := S
  intro T hT X
  rcases vx_callSX X hx (hh := hh) (bytes := bytes) (maxL := maxL) (ret := ret) ho hl hstt hini hcode hy hK hg (hsize.trans hml.symm) (argsL := As) (rest := rest) (fun sig h => hn.trans (hlen sig h)) hstack hW (by rw [hb]; exact hdg)
    (fun vm₁ hW₁ => ⟨hf.1, hf.2, hp.2 (T.setVm vm₁) hT hW₁⟩) with ⟨v, vm₁, ⟨U', l2, c2, s2⟩, hW₁, X', ⟨g', mk, t, L, e1, e2, hq, h1, hL, h2, h3⟩, st⟩ | ⟨q, vm₁, ⟨U', l2, c2, s2⟩, hW₁, X', ⟨g', mk, t, L, E, ce, e1, e2, hq, hce, hcv, hcl, h1, hL, h2, h3⟩, st⟩
  · dsimp only [Pt.U, Pt.locs, Pt.cells, Pt.slots] at X' e1 e2 h1 h2 h3 st
    subst h1; subst h2; subst h3
    exact Or.inl ⟨v, (T.setVm vm₁).calling g' mk As.toArray, t, U', L, hT, X', hL, e1, e2, hq, st⟩
  · dsimp only [Pt.U, Pt.locs, Pt.cells, Pt.slots] at X' e1 e2 h1 h2 h3 st hcl
    subst h1; subst h2; subst h3
    exact Or.inr ⟨q, (T.setVm vm₁).calling g' mk As.toArray, t, U', L, E, ce, hT, X', hL, e1, e2, hq, hce, hcv, vx_cls hW₁ hcl, st⟩
end
end VXH
theorem vx_ofWH {l : Launch} {y : MethodName} {ws ws' : List Cond} {rm : Room} {Pc : Array Value → State → Prop} {Qc : Array Value → State → Outcome → State → Prop} {XC : String → State → State → Prop} {mc ms : Nat} {free : Addr → Prop} {cc : ByteArray} {maxL : Nat} {ret : Option FieldType} {hh : List (Nat × Nat × Nat × Nat)}
    (hy : plainName y.cls = true) (hw : ws = Cond.codeWith y cc maxL ret hh :: ws')
    (body : ∀ p e s m args below meth c s₁, BodyLoose p l y (headSpec ws rm) cc maxL ret e s m args below meth c s₁ → c.maxLocals = maxL → Pc args s →
      W p l e (headSpec ws rm).room s m args below meth c s.heap [] 0 0 (vx_MQ below Qc XC args s mc ms free) (entryFrame m args maxL)) : vx_Met l y ws rm Pc Qc XC mc ms free := by
  refine MetFree.of_bodyS (code := cc) (maxLocals := maxL) (ret := ret) hy ?_ ?_
  · intro args s m h hn
    obtain ⟨m9, meth, c, hn9, h1, h2, h3, h4, -, h5, h6, -⟩ := Cond.codeWith_spec (atoms_spec (ws := ws) h _ (by rw [hw]; exact List.mem_cons_self))
    cases hn.symm.trans hn9
    exact ⟨meth, c, h1, h2, h3, h4, h5, h6⟩
  · intro p e s m args below meth c s₁ B hml hP _
    have hh0 : s₁.heap = s.heap := by rw [B.state]; rfl
    obtain ⟨t, a1, o, b1, b2, b3⟩ := body p e s m args below meth c s₁ B hml hP s₁ hh0 (Stand.of_body B)
    exact ⟨t, o, a1, b1, b2, b3⟩
/-! ===== END ===== -/
end
section
/-! numbers: an int of Java by an integer; the kit's rows said in such numbers -/
def iI (z : Int) : Int32 := Int32.ofInt z
abbrev iR (z : Int) : Prop := -2147483648 ≤ z ∧ z < 2147483648
theorem iI_add (a b : Int) : iI a + iI b = iI (a + b) := (Int32.ofInt_add a b).symm
theorem iI_sub (a b : Int) : iI a - iI b = iI (a - b) := (Int32.ofInt_sub a b).symm
theorem iI_mul (a b : Int) : iI a * iI b = iI (a * b) := (Int32.ofInt_mul a b).symm
theorem iI_toInt {a : Int} (h : iR a) : (iI a).toInt = a := Int32.toInt_ofInt_of_le (by have := h.1; omega) (by have := h.2; omega)
theorem iI_lt {a b : Int} (ha : iR a) (hb : iR b) : iI a < iI b ↔ a < b := by rw [Int32.lt_iff_toInt_lt, iI_toInt ha, iI_toInt hb]
theorem iI_le {a b : Int} (ha : iR a) (hb : iR b) : iI a ≤ iI b ↔ a ≤ b := by rw [Int32.le_iff_toInt_le, iI_toInt ha, iI_toInt hb]
theorem iI_eq {a b : Int} (ha : iR a) (hb : iR b) : iI a = iI b ↔ a = b := by rw [← Int32.toInt_inj, iI_toInt ha, iI_toInt hb]
theorem iI_0 : iI 0 = 0 := rfl
theorem iI_of (x : Int32) : ∃ z, iR z ∧ x = iI z := ⟨x.toInt, ⟨by have := x.le_toInt; omega, by have := x.toInt_lt; omega⟩, (Int32.ofInt_toInt x).symm⟩
theorem iI_clamp {a : Int} (h0 : 0 ≤ a) (h : a < 2147483648) : (iI a).toNatClampNeg = a.toNat := Int32.toNatClampNeg_ofInt_of_le (by omega) (by omega)
theorem iI_in {a : Int} {n : Nat} (h0 : 0 ≤ a) (h1 : a < n) (hn : n < 2147483648) : vp_in (iI a) n := vp_in_iff.mpr (by rw [iI_toInt ⟨by omega, by omega⟩]; exact ⟨h0, h1⟩)
theorem iI_ne0 {a : Int} (h : 0 < a) (h2 : a < 2147483648) : ¬ iI a = 0 := fun q => by
  have q2 : iI a = iI 0 := q
  rw [iI_eq ⟨by omega, by omega⟩ ⟨by omega, by omega⟩] at q2
  omega
theorem iI_nem1 {a : Int} (h : 0 < a) (h2 : a < 2147483648) : iI a ≠ -1 := fun q => by
  have q2 : iI a = iI (-1) := q
  rw [iI_eq ⟨by omega, by omega⟩ ⟨by omega, by omega⟩] at q2
  omega
theorem iI_div {a b : Int} (ha : 0 ≤ a) (ha2 : a < 2147483648) (hb : 0 < b) (hb2 : b < 2147483648) : iI a / iI b = iI (a / b) := by
  have h1 : 0 ≤ a / b := Int.ediv_nonneg ha (by omega)
  have h2 : a / b ≤ a := Int.ediv_le_self b ha
  refine Int32.toInt_inj.mp ?_
  rw [Int32.toInt_div_of_ne_right _ _ (iI_nem1 hb hb2), iI_toInt ⟨by omega, ha2⟩, iI_toInt ⟨by omega, hb2⟩, iI_toInt ⟨by omega, by omega⟩]
  exact Int.tdiv_eq_ediv_of_nonneg ha
theorem iI_rem {a b : Int} (ha : 0 ≤ a) (ha2 : a < 2147483648) (hb : 0 < b) (hb2 : b < 2147483648) : iI a - iI a / iI b * iI b = iI (a % b) := by
  rw [iI_div ha ha2 hb hb2, iI_mul, iI_sub, Int.emod_def, Int.mul_comm]
section RW
variable {p : Program} {l : Launch} {e : Env} {R : Room} {s : State} {m : MethodId} {args : Array Value} {below : List Frame} {meth : Method} {c : Code} {H : Heap} {locs : List Loc} {cells slots : Nat} {Q : State → Prop}
variable {cc : ByteArray} {pc : Nat} {ls : Array Slot} {rest : List Value}
theorem r_iconst (hx : p.tables.exec = Jvm.exec) (hb : c.code = cc) {n : Int} (d : decode cc pc = .ok (.iconst n, 1)) (k : W p l e R s m args below meth c H locs cells slots Q (F0 m (pc + 1) ls (.int (iI n) :: rest))) : W p l e R s m args below meth c H locs cells slots Q (F0 m pc ls rest) := lv_iconst hx hb d rfl k
theorem r_bipush (hx : p.tables.exec = Jvm.exec) (hb : c.code = cc) {n : Int} (d : decode cc pc = .ok (.bipush n, 2)) (hv : (Int8.ofInt n).toInt32 = iI n) (k : W p l e R s m args below meth c H locs cells slots Q (F0 m (pc + 2) ls (.int (iI n) :: rest))) : W p l e R s m args below meth c H locs cells slots Q (F0 m pc ls rest) := lv_bipush hx hb d hv k
theorem r_sipush (hx : p.tables.exec = Jvm.exec) (hb : c.code = cc) {n : Int} (d : decode cc pc = .ok (.sipush n, 3)) (hv : (Int16.ofInt n).toInt32 = iI n) (k : W p l e R s m args below meth c H locs cells slots Q (F0 m (pc + 3) ls (.int (iI n) :: rest))) : W p l e R s m args below meth c H locs cells slots Q (F0 m pc ls rest) := lv_sipush hx hb d hv k
theorem r_iadd (hx : p.tables.exec = Jvm.exec) (hb : c.code = cc) {a b : Int} (d : decode cc pc = .ok (.iadd, 1)) (k : W p l e R s m args below meth c H locs cells slots Q (F0 m (pc + 1) ls (.int (iI (a + b)) :: rest))) : W p l e R s m args below meth c H locs cells slots Q (F0 m pc ls (.int (iI b) :: .int (iI a) :: rest)) := lv_iadd hx hb d (by rw [iI_add]; exact k)
theorem r_isub (hx : p.tables.exec = Jvm.exec) (hb : c.code = cc) {a b : Int} (d : decode cc pc = .ok (.isub, 1)) (k : W p l e R s m args below meth c H locs cells slots Q (F0 m (pc + 1) ls (.int (iI (a - b)) :: rest))) : W p l e R s m args below meth c H locs cells slots Q (F0 m pc ls (.int (iI b) :: .int (iI a) :: rest)) := lv_isub hx hb d (by rw [iI_sub]; exact k)
theorem r_imul (hx : p.tables.exec = Jvm.exec) (hb : c.code = cc) {a b : Int} (d : decode cc pc = .ok (.imul, 1)) (k : W p l e R s m args below meth c H locs cells slots Q (F0 m (pc + 1) ls (.int (iI (a * b)) :: rest))) : W p l e R s m args below meth c H locs cells slots Q (F0 m pc ls (.int (iI b) :: .int (iI a) :: rest)) := lv_imul hx hb d (by rw [iI_mul]; exact k)
theorem r_idiv (hx : p.tables.exec = Jvm.exec) (hb : c.code = cc) {a b : Int} (d : decode cc pc = .ok (.idiv, 1)) (ha : 0 ≤ a) (ha2 : a < 2147483648) (h0 : 0 < b) (h2 : b < 2147483648) (k : W p l e R s m args below meth c H locs cells slots Q (F0 m (pc + 1) ls (.int (iI (a / b)) :: rest))) : W p l e R s m args below meth c H locs cells slots Q (F0 m pc ls (.int (iI b) :: .int (iI a) :: rest)) := lv_idiv hx hb d (iI_ne0 h0 h2) (by rw [iI_div ha ha2 h0 h2]; exact k)
theorem r_irem (hx : p.tables.exec = Jvm.exec) (hb : c.code = cc) {a b : Int} (d : decode cc pc = .ok (.irem, 1)) (ha : 0 ≤ a) (ha2 : a < 2147483648) (h0 : 0 < b) (h2 : b < 2147483648) (k : W p l e R s m args below meth c H locs cells slots Q (F0 m (pc + 1) ls (.int (iI (a % b)) :: rest))) : W p l e R s m args below meth c H locs cells slots Q (F0 m pc ls (.int (iI b) :: .int (iI a) :: rest)) := lv_irem hx hb d (iI_ne0 h0 h2) (by rw [iI_rem ha ha2 h0 h2]; exact k)
theorem r_icmp_eq (hx : p.tables.exec = Jvm.exec) (hb : c.code = cc) {a b off : Int} {tgt : Nat} (d : decode cc pc = .ok (.if_icmp .eq off, 3)) (ht : (pc : Int) + off = (tgt : Int)) (ha : iR a) (hb2 : iR b) (kt : a = b → W p l e R s m args below meth c H locs cells slots Q (F0 m tgt ls rest)) (kf : ¬ a = b → W p l e R s m args below meth c H locs cells slots Q (F0 m (pc + 3) ls rest)) : W p l e R s m args below meth c H locs cells slots Q (F0 m pc ls (.int (iI b) :: .int (iI a) :: rest)) := lv_icmp_eq hx hb d ht (fun h => kt ((iI_eq ha hb2).mp h)) (fun h => kf (fun q => h ((iI_eq ha hb2).mpr q)))
theorem r_if_eq (hx : p.tables.exec = Jvm.exec) (hb : c.code = cc) {a off : Int} {tgt : Nat} (d : decode cc pc = .ok (.ifCond .eq off, 3)) (ht : (pc : Int) + off = (tgt : Int)) (ha : iR a) (kt : a = 0 → W p l e R s m args below meth c H locs cells slots Q (F0 m tgt ls rest)) (kf : ¬ a = 0 → W p l e R s m args below meth c H locs cells slots Q (F0 m (pc + 3) ls rest)) : W p l e R s m args below meth c H locs cells slots Q (F0 m pc ls (.int (iI a) :: rest)) :=
  have z0 : iR 0 := ⟨by omega, by omega⟩
  lv_if_eq hx hb d ht (fun (h : iI a = iI 0) => kt ((iI_eq ha z0).mp h)) (fun (h : ¬ iI a = iI 0) => kf (fun q => h ((iI_eq ha z0).mpr q)))
theorem r_icmp_ne (hx : p.tables.exec = Jvm.exec) (hb : c.code = cc) {a b off : Int} {tgt : Nat} (d : decode cc pc = .ok (.if_icmp .ne off, 3)) (ht : (pc : Int) + off = (tgt : Int)) (ha : iR a) (hb2 : iR b) (kt : ¬ a = b → W p l e R s m args below meth c H locs cells slots Q (F0 m tgt ls rest)) (kf : a = b → W p l e R s m args below meth c H locs cells slots Q (F0 m (pc + 3) ls rest)) : W p l e R s m args below meth c H locs cells slots Q (F0 m pc ls (.int (iI b) :: .int (iI a) :: rest)) := lv_icmp_ne hx hb d ht (fun h => kt (fun q => h ((iI_eq ha hb2).mpr q))) (fun h => kf ((iI_eq ha hb2).mp h))
theorem r_if_ne (hx : p.tables.exec = Jvm.exec) (hb : c.code = cc) {a off : Int} {tgt : Nat} (d : decode cc pc = .ok (.ifCond .ne off, 3)) (ht : (pc : Int) + off = (tgt : Int)) (ha : iR a) (kt : ¬ a = 0 → W p l e R s m args below meth c H locs cells slots Q (F0 m tgt ls rest)) (kf : a = 0 → W p l e R s m args below meth c H locs cells slots Q (F0 m (pc + 3) ls rest)) : W p l e R s m args below meth c H locs cells slots Q (F0 m pc ls (.int (iI a) :: rest)) :=
  have z0 : iR 0 := ⟨by omega, by omega⟩
  lv_if_ne hx hb d ht (fun (h : ¬ iI a = iI 0) => kt (fun q => h ((iI_eq ha z0).mpr q))) (fun (h : iI a = iI 0) => kf ((iI_eq ha z0).mp h))
theorem r_icmp_lt (hx : p.tables.exec = Jvm.exec) (hb : c.code = cc) {a b off : Int} {tgt : Nat} (d : decode cc pc = .ok (.if_icmp .lt off, 3)) (ht : (pc : Int) + off = (tgt : Int)) (ha : iR a) (hb2 : iR b) (kt : a < b → W p l e R s m args below meth c H locs cells slots Q (F0 m tgt ls rest)) (kf : b ≤ a → W p l e R s m args below meth c H locs cells slots Q (F0 m (pc + 3) ls rest)) : W p l e R s m args below meth c H locs cells slots Q (F0 m pc ls (.int (iI b) :: .int (iI a) :: rest)) := lv_icmp_lt hx hb d ht (fun h => kt ((iI_lt ha hb2).mp h)) (fun h => kf (Int.not_lt.mp fun q => h ((iI_lt ha hb2).mpr q)))
theorem r_if_lt (hx : p.tables.exec = Jvm.exec) (hb : c.code = cc) {a off : Int} {tgt : Nat} (d : decode cc pc = .ok (.ifCond .lt off, 3)) (ht : (pc : Int) + off = (tgt : Int)) (ha : iR a) (kt : a < 0 → W p l e R s m args below meth c H locs cells slots Q (F0 m tgt ls rest)) (kf : 0 ≤ a → W p l e R s m args below meth c H locs cells slots Q (F0 m (pc + 3) ls rest)) : W p l e R s m args below meth c H locs cells slots Q (F0 m pc ls (.int (iI a) :: rest)) :=
  have z0 : iR 0 := ⟨by omega, by omega⟩
  lv_if_lt hx hb d ht (fun (h : iI a < iI 0) => kt ((iI_lt ha z0).mp h)) (fun (h : ¬ iI a < iI 0) => kf (Int.not_lt.mp fun q => h ((iI_lt ha z0).mpr q)))
theorem r_icmp_ge (hx : p.tables.exec = Jvm.exec) (hb : c.code = cc) {a b off : Int} {tgt : Nat} (d : decode cc pc = .ok (.if_icmp .ge off, 3)) (ht : (pc : Int) + off = (tgt : Int)) (ha : iR a) (hb2 : iR b) (kt : b ≤ a → W p l e R s m args below meth c H locs cells slots Q (F0 m tgt ls rest)) (kf : a < b → W p l e R s m args below meth c H locs cells slots Q (F0 m (pc + 3) ls rest)) : W p l e R s m args below meth c H locs cells slots Q (F0 m pc ls (.int (iI b) :: .int (iI a) :: rest)) := lv_icmp_ge hx hb d ht (fun h => kt ((iI_le hb2 ha).mp h)) (fun h => kf (Int.not_le.mp fun q => h ((iI_le hb2 ha).mpr q)))
theorem r_if_ge (hx : p.tables.exec = Jvm.exec) (hb : c.code = cc) {a off : Int} {tgt : Nat} (d : decode cc pc = .ok (.ifCond .ge off, 3)) (ht : (pc : Int) + off = (tgt : Int)) (ha : iR a) (kt : 0 ≤ a → W p l e R s m args below meth c H locs cells slots Q (F0 m tgt ls rest)) (kf : a < 0 → W p l e R s m args below meth c H locs cells slots Q (F0 m (pc + 3) ls rest)) : W p l e R s m args below meth c H locs cells slots Q (F0 m pc ls (.int (iI a) :: rest)) :=
  have z0 : iR 0 := ⟨by omega, by omega⟩
  lv_if_ge hx hb d ht (fun (h : iI 0 ≤ iI a) => kt ((iI_le z0 ha).mp h)) (fun (h : ¬ iI 0 ≤ iI a) => kf (Int.not_le.mp fun q => h ((iI_le z0 ha).mpr q)))
theorem r_icmp_gt (hx : p.tables.exec = Jvm.exec) (hb : c.code = cc) {a b off : Int} {tgt : Nat} (d : decode cc pc = .ok (.if_icmp .gt off, 3)) (ht : (pc : Int) + off = (tgt : Int)) (ha : iR a) (hb2 : iR b) (kt : b < a → W p l e R s m args below meth c H locs cells slots Q (F0 m tgt ls rest)) (kf : a ≤ b → W p l e R s m args below meth c H locs cells slots Q (F0 m (pc + 3) ls rest)) : W p l e R s m args below meth c H locs cells slots Q (F0 m pc ls (.int (iI b) :: .int (iI a) :: rest)) := lv_icmp_gt hx hb d ht (fun h => kt ((iI_lt hb2 ha).mp h)) (fun h => kf (Int.not_lt.mp fun q => h ((iI_lt hb2 ha).mpr q)))
theorem r_if_gt (hx : p.tables.exec = Jvm.exec) (hb : c.code = cc) {a off : Int} {tgt : Nat} (d : decode cc pc = .ok (.ifCond .gt off, 3)) (ht : (pc : Int) + off = (tgt : Int)) (ha : iR a) (kt : 0 < a → W p l e R s m args below meth c H locs cells slots Q (F0 m tgt ls rest)) (kf : a ≤ 0 → W p l e R s m args below meth c H locs cells slots Q (F0 m (pc + 3) ls rest)) : W p l e R s m args below meth c H locs cells slots Q (F0 m pc ls (.int (iI a) :: rest)) :=
  have z0 : iR 0 := ⟨by omega, by omega⟩
  lv_if_gt hx hb d ht (fun (h : iI 0 < iI a) => kt ((iI_lt z0 ha).mp h)) (fun (h : ¬ iI 0 < iI a) => kf (Int.not_lt.mp fun q => h ((iI_lt z0 ha).mpr q)))
theorem r_icmp_le (hx : p.tables.exec = Jvm.exec) (hb : c.code = cc) {a b off : Int} {tgt : Nat} (d : decode cc pc = .ok (.if_icmp .le off, 3)) (ht : (pc : Int) + off = (tgt : Int)) (ha : iR a) (hb2 : iR b) (kt : a ≤ b → W p l e R s m args below meth c H locs cells slots Q (F0 m tgt ls rest)) (kf : b < a → W p l e R s m args below meth c H locs cells slots Q (F0 m (pc + 3) ls rest)) : W p l e R s m args below meth c H locs cells slots Q (F0 m pc ls (.int (iI b) :: .int (iI a) :: rest)) := lv_icmp_le hx hb d ht (fun h => kt ((iI_le ha hb2).mp h)) (fun h => kf (Int.not_le.mp fun q => h ((iI_le ha hb2).mpr q)))
theorem r_if_le (hx : p.tables.exec = Jvm.exec) (hb : c.code = cc) {a off : Int} {tgt : Nat} (d : decode cc pc = .ok (.ifCond .le off, 3)) (ht : (pc : Int) + off = (tgt : Int)) (ha : iR a) (kt : a ≤ 0 → W p l e R s m args below meth c H locs cells slots Q (F0 m tgt ls rest)) (kf : 0 < a → W p l e R s m args below meth c H locs cells slots Q (F0 m (pc + 3) ls rest)) : W p l e R s m args below meth c H locs cells slots Q (F0 m pc ls (.int (iI a) :: rest)) :=
  have z0 : iR 0 := ⟨by omega, by omega⟩
  lv_if_le hx hb d ht (fun (h : iI a ≤ iI 0) => kt ((iI_le ha z0).mp h)) (fun (h : ¬ iI a ≤ iI 0) => kf (Int.not_le.mp fun q => h ((iI_le ha z0).mpr q)))
theorem r_iinc (hx : p.tables.exec = Jvm.exec) (hb : c.code = cc) {i nL k : Nat} {n z : Int} {lv lv' : List (Nat × Value)} (d : decode cc pc = .ok (.iinc i n, 3)) (h : lv_has ls nL lv) (hk : lv[k]? = some (i, .int (iI z))) (hn : i < nL) (hl : (i, Value.int (iI (z + n))) :: lv.filter (fun q => !(q.1 == i) && !(q.1 + 1 == i && q.2.category == 2)) = lv')
    (kk : ∀ ls' : Array Slot, lv_has ls' nL lv' → W p l e R s m args below meth c H locs cells slots Q (F0 m (pc + 3) ls' rest)) : W p l e R s m args below meth c H locs cells slots Q (F0 m pc ls rest) := lv_iinc hx hb d h hk (iI_add z n) hn hl kk
/-- the value on top is another name of it -/
theorem r_top {v w : Value} (h : v = w) (k : W p l e R s m args below meth c H locs cells slots Q (F0 m pc ls (w :: rest))) : W p l e R s m args below meth c H locs cells slots Q (F0 m pc ls (v :: rest)) := h ▸ k
theorem r_topi {a b : Int} (h : a = b) (k : W p l e R s m args below meth c H locs cells slots Q (F0 m pc ls (.int (iI b) :: rest))) : W p l e R s m args below meth c H locs cells slots Q (F0 m pc ls (.int (iI a) :: rest)) := h ▸ k
variable {D : va_G} {cl : List vw_C} {A : Nat → Prop} {a : Nat} {tys : List (ClassId × FieldType)} {ws : va_W} {H0 : Heap}
theorem r_iald (hx : p.tables.exec = Jvm.exec) (hb : c.code = cc) (hK : va_K D cl tys s) (hP : va_P D cl ws H) (q0 t0 : Nat) {cA : ClassId} {n : Nat} {f : Nat → Int} (ha : ws[q0]? = some (a, .inl (cA, n, .inl (fun j => iI (f j))))) (ht : tys[t0]? = some (cA, .int)) {i : Int} (h0 : 0 ≤ i) (h1 : i < n) (hn : n < 2147483648) (d : decode cc pc = .ok (.iaload, 1))
    (k : W p l e R s m args below meth c H locs cells slots Q (F0 m (pc + 1) ls (.int (iI (f i.toNat)) :: rest))) : W p l e R s m args below meth c H locs cells slots Q (F0 m pc ls (.int (iI i) :: .ref a :: rest)) := va_iald hx hb hK hP q0 t0 ha ht (iI_in h0 h1 hn) d (by rw [iI_clamp h0 (by omega)]; exact k)
theorem r_zald (hx : p.tables.exec = Jvm.exec) (hb : c.code = cc) (hK : va_K D cl tys s) (hP : va_P D cl ws H) (q0 t0 : Nat) {cA : ClassId} {n : Nat} {f : Nat → Int} (ha : ws[q0]? = some (a, .inl (cA, n, .inl (fun j => iI (f j))))) (ht : tys[t0]? = some (cA, .boolean)) {i : Int} (h0 : 0 ≤ i) (h1 : i < n) (hn : n < 2147483648) (d : decode cc pc = .ok (.baload, 1))
    (k : W p l e R s m args below meth c H locs cells slots Q (F0 m (pc + 1) ls (.int (iI (f i.toNat)) :: rest))) : W p l e R s m args below meth c H locs cells slots Q (F0 m pc ls (.int (iI i) :: .ref a :: rest)) := va_zald hx hb hK hP q0 t0 ha ht (iI_in h0 h1 hn) d (by rw [iI_clamp h0 (by omega)]; exact k)
theorem r_lald (hx : p.tables.exec = Jvm.exec) (hb : c.code = cc) (hK : va_K D cl tys s) (hP : va_P D cl ws H) (q0 t0 : Nat) {cA : ClassId} {n : Nat} {f : Nat → Int64} (ha : ws[q0]? = some (a, .inl (cA, n, .inr (.inl f)))) (ht : tys[t0]? = some (cA, .long)) {i : Int} (h0 : 0 ≤ i) (h1 : i < n) (hn : n < 2147483648) (d : decode cc pc = .ok (.laload, 1))
    (k : W p l e R s m args below meth c H locs cells slots Q (F0 m (pc + 1) ls (.long (f i.toNat) :: rest))) : W p l e R s m args below meth c H locs cells slots Q (F0 m pc ls (.int (iI i) :: .ref a :: rest)) := va_lald hx hb hK hP q0 t0 ha ht (iI_in h0 h1 hn) d (by rw [iI_clamp h0 (by omega)]; exact k)
end RW
def uZ (f : Nat → Int) (k : Nat) (x : Int) : Nat → Int := fun j => if j = k then x else f j
theorem uZ_s {f : Nat → Int} {k : Nat} {x : Int} : uZ f k x k = x := if_pos rfl
theorem uZ_n {f : Nat → Int} {k j : Nat} {x : Int} (h : j ≠ k) : uZ f k x j = f j := if_neg h
theorem uZ_upd (f : Nat → Int) (k : Nat) (x : Int) : upd (fun j => iI (f j)) k (iI x) = fun j => iI (uZ f k x j) := by
  funext j
  unfold upd uZ
  split <;> rfl
section RST
variable {p : Program} {l : Launch} {e : Env} {R : Room} {s : State} {m : MethodId} {args : Array Value} {below : List Frame} {meth : Method} {c : Code} {H : Heap} {locs : List Loc} {cells slots : Nat} {Q : State → Prop}
variable {cc : ByteArray} {pc : Nat} {ls : Array Slot} {rest : List Value}
variable {D : va_G} {cl : List vw_C} {A : Nat → Prop} {a : Nat} {tys : List (ClassId × FieldType)} {ws : va_W} {H0 : Heap}
theorem r_iast (hx : p.tables.exec = Jvm.exec) (hb : c.code = cc) (hK : va_K D cl tys s) (hP : va_P D cl ws H) (hD : va_D A ws) (hS : va_S A H0 H locs) (q0 t0 : Nat) {cA : ClassId} {n : Nat} {f : Nat → Int} (ha : ws[q0]? = some (a, .inl (cA, n, .inl (fun j => iI (f j))))) (ht : tys[t0]? = some (cA, .int)) {i x : Int} (h0 : 0 ≤ i) (h1 : i < n) (hn : n < 2147483648) (d : decode cc pc = .ok (.iastore, 1))
    (kk : ∀ (H1 : Heap) (locs1 : List Loc), va_P D cl (ws.set q0 (a, .inl (cA, n, .inl (fun j => iI (uZ f i.toNat x j))))) H1 → va_D A (ws.set q0 (a, .inl (cA, n, .inl (fun j => iI (uZ f i.toNat x j))))) → va_S A H0 H1 locs1 → W p l e R s m args below meth c H1 locs1 cells slots Q (F0 m (pc + 1) ls rest)) : W p l e R s m args below meth c H locs cells slots Q (F0 m pc ls (.int (iI x) :: .int (iI i) :: .ref a :: rest)) := by
  refine va_iast hx hb hK hP hD hS q0 t0 ha ht (iI_in h0 h1 hn) d (fun H1 locs1 g1 g2 g3 => kk H1 locs1 ?_ ?_ g3)
  · rw [iI_clamp h0 (by omega), uZ_upd] at g1
    exact g1
  · rw [iI_clamp h0 (by omega), uZ_upd] at g2
    exact g2
theorem r_zast (hx : p.tables.exec = Jvm.exec) (hb : c.code = cc) (hK : va_K D cl tys s) (hP : va_P D cl ws H) (hD : va_D A ws) (hS : va_S A H0 H locs) (q0 t0 : Nat) {cA : ClassId} {n : Nat} {f : Nat → Int} (ha : ws[q0]? = some (a, .inl (cA, n, .inl (fun j => iI (f j))))) (ht : tys[t0]? = some (cA, .boolean)) {i x : Int} (h0 : 0 ≤ i) (h1 : i < n) (hn : n < 2147483648) (hx01 : x = 0 ∨ x = 1) (d : decode cc pc = .ok (.bastore, 1))
    (kk : ∀ (H1 : Heap) (locs1 : List Loc), va_P D cl (ws.set q0 (a, .inl (cA, n, .inl (fun j => iI (uZ f i.toNat x j))))) H1 → va_D A (ws.set q0 (a, .inl (cA, n, .inl (fun j => iI (uZ f i.toNat x j))))) → va_S A H0 H1 locs1 → W p l e R s m args below meth c H1 locs1 cells slots Q (F0 m (pc + 1) ls rest)) : W p l e R s m args below meth c H locs cells slots Q (F0 m pc ls (.int (iI x) :: .int (iI i) :: .ref a :: rest)) := by
  have e : vp_nar .boolean (iI x) = iI x := by rcases hx01 with rfl | rfl <;> rfl
  refine va_zast hx hb hK hP hD hS q0 t0 ha ht (iI_in h0 h1 hn) d (fun H1 locs1 g1 g2 g3 => kk H1 locs1 ?_ ?_ g3)
  · rw [iI_clamp h0 (by omega), e, uZ_upd] at g1
    exact g1
  · rw [iI_clamp h0 (by omega), e, uZ_upd] at g2
    exact g2
theorem r_last (hx : p.tables.exec = Jvm.exec) (hb : c.code = cc) (hK : va_K D cl tys s) (hP : va_P D cl ws H) (hD : va_D A ws) (hS : va_S A H0 H locs) (q0 t0 : Nat) {cA : ClassId} {n : Nat} {f : Nat → Int64} (ha : ws[q0]? = some (a, .inl (cA, n, .inr (.inl f)))) (ht : tys[t0]? = some (cA, .long)) {i : Int} {x : Int64} (h0 : 0 ≤ i) (h1 : i < n) (hn : n < 2147483648) (d : decode cc pc = .ok (.lastore, 1))
    (kk : ∀ (H1 : Heap) (locs1 : List Loc), va_P D cl (ws.set q0 (a, .inl (cA, n, .inr (.inl (vp_updL f i.toNat x))))) H1 → va_D A (ws.set q0 (a, .inl (cA, n, .inr (.inl (vp_updL f i.toNat x))))) → va_S A H0 H1 locs1 → W p l e R s m args below meth c H1 locs1 cells slots Q (F0 m (pc + 1) ls rest)) : W p l e R s m args below meth c H locs cells slots Q (F0 m pc ls (.long x :: .int (iI i) :: .ref a :: rest)) := by
  refine va_last hx hb hK hP hD hS q0 t0 ha ht (iI_in h0 h1 hn) d (fun H1 locs1 g1 g2 g3 => kk H1 locs1 ?_ ?_ g3)
  · rw [iI_clamp h0 (by omega)] at g1
    exact g1
  · rw [iI_clamp h0 (by omega)] at g2
    exact g2
/-- two longs compared, then a branch on the answer -/
theorem r_lcmp_eq (hx : p.tables.exec = Jvm.exec) (hb : c.code = cc) {x y : Int64} {off : Int} {tgt : Nat} (d : decode cc pc = .ok (.lcmp, 1)) (d1 : decode cc (pc + 1) = .ok (.ifCond .eq off, 3)) (ht : ((pc + 1 : Nat) : Int) + off = (tgt : Int)) (kt : x = y → W p l e R s m args below meth c H locs cells slots Q (F0 m tgt ls rest)) (kf : ¬ x = y → W p l e R s m args below meth c H locs cells slots Q (F0 m (pc + 1 + 3) ls rest)) : W p l e R s m args below meth c H locs cells slots Q (F0 m pc ls (.long y :: .long x :: rest)) :=
  W.lcmp hx hb d (lv_if_eq hx hb d1 ht (fun h => kt ((lg_cmp_eq x y).mp h)) (fun h => kf (fun q => h ((lg_cmp_eq x y).mpr q))))
theorem r_lcmp_ne (hx : p.tables.exec = Jvm.exec) (hb : c.code = cc) {x y : Int64} {off : Int} {tgt : Nat} (d : decode cc pc = .ok (.lcmp, 1)) (d1 : decode cc (pc + 1) = .ok (.ifCond .ne off, 3)) (ht : ((pc + 1 : Nat) : Int) + off = (tgt : Int)) (kt : ¬ x = y → W p l e R s m args below meth c H locs cells slots Q (F0 m tgt ls rest)) (kf : x = y → W p l e R s m args below meth c H locs cells slots Q (F0 m (pc + 1 + 3) ls rest)) : W p l e R s m args below meth c H locs cells slots Q (F0 m pc ls (.long y :: .long x :: rest)) :=
  W.lcmp hx hb d (lv_if_ne hx hb d1 ht (fun h => kt (fun q => h ((lg_cmp_eq x y).mpr q))) (fun h => kf ((lg_cmp_eq x y).mp h)))
end RST
end
section
/-! what the dumps mean: n dumps, L d the level of dump d, S d its size, r the blocks of a volume behind its label; a dump or none is told by its number and one (0: none) -/
def sm (S : Nat → Nat) : Nat → Nat
  | 0 => 0
  | d + 1 => sm S d + S d
/-- the latest of the first k dumps whose level is below x -/
def ba (L : Nat → Nat) (x : Nat) : Nat → Nat
  | 0 => 0
  | k + 1 => if L k < x then k + 1 else ba L x k
def bs (L : Nat → Nat) (d : Nat) : Nat := ba L (L d) d
theorem ba_le (L : Nat → Nat) (x : Nat) : ∀ k, ba L x k ≤ k
  | 0 => Nat.le_refl 0
  | k + 1 => by
    unfold ba
    split
    · exact Nat.le_refl _
    · exact Nat.le_succ_of_le (ba_le L x k)
theorem bs_le (L : Nat → Nat) (d : Nat) : bs L d ≤ d := ba_le L (L d) d
theorem ba_congr {L L' : Nat → Nat} {x : Nat} : ∀ {k : Nat}, (∀ j, j < k → L j = L' j) → ba L x k = ba L' x k
  | 0, _ => rfl
  | k + 1, h => by
    unfold ba
    rw [h k (Nat.lt_succ_self k), ba_congr (fun j hj => h j (Nat.lt_succ_of_lt hj))]
theorem bs_congr {L L' : Nat → Nat} {d : Nat} (h : ∀ j, j ≤ d → L j = L' j) : bs L d = bs L' d := by
  unfold bs
  rw [h d (Nat.le_refl d)]
  exact ba_congr (fun j hj => h j (Nat.le_of_lt hj))
theorem sm_congr {S S' : Nat → Nat} : ∀ {k : Nat}, (∀ j, j < k → S j = S' j) → sm S k = sm S' k
  | 0, _ => rfl
  | k + 1, h => by
    unfold sm
    rw [h k (Nat.lt_succ_self k), sm_congr (fun j hj => h j (Nat.lt_succ_of_lt hj))]
theorem sm_mono {S : Nat → Nat} : ∀ {a b : Nat}, a ≤ b → sm S a ≤ sm S b
  | a, 0, h => by
    have : a = 0 := by omega
    subst this
    exact Nat.le_refl _
  | a, b + 1, h => by
    by_cases e : a = b + 1
    · subst e
      exact Nat.le_refl _
    · have := sm_mono (S := S) (a := a) (b := b) (by omega)
      show sm S a ≤ sm S b + S b
      omega
/-- how long the chain of a dump is -/
def dp (L : Nat → Nat) : Nat → Nat
  | 0 => 0
  | d + 1 => dp L (bs L d) + 1
termination_by k => k
decreasing_by exact Nat.lt_succ_of_le (bs_le L d)
theorem dp_0 (L : Nat → Nat) : dp L 0 = 0 := by rw [dp]
theorem dp_s (L : Nat → Nat) (d : Nat) : dp L (d + 1) = dp L (bs L d) + 1 := by rw [dp]
theorem dp_le (L : Nat → Nat) : ∀ (N k : Nat), k ≤ N → dp L k ≤ k
  | _, 0, _ => by rw [dp_0]; exact Nat.le_refl 0
  | 0, k + 1, h => absurd h (by omega)
  | N + 1, k + 1, h => by
    rw [dp_s]
    have h1 := bs_le L k
    have h2 := dp_le L N (bs L k) (by omega)
    omega
theorem dp_congr {L L' : Nat → Nat} : ∀ (N k : Nat), k ≤ N → (∀ j, j < k → L j = L' j) → dp L k = dp L' k
  | _, 0, _, _ => by rw [dp_0, dp_0]
  | 0, k + 1, h, _ => absurd h (by omega)
  | N + 1, k + 1, h, e => by
    have h1 := bs_le L k
    have h2 : bs L k = bs L' k := bs_congr (fun j hj => e j (by omega))
    rw [dp_s, dp_s, ← h2, dp_congr N (bs L k) (by omega) (fun j hj => e j (by omega))]
/-- the volumes that dump d itself lies on -/
def onV (S : Nat → Nat) (r d v : Nat) : Bool := decide (sm S d / r ≤ v) && decide (v ≤ (sm S d + S d - 1) / r)
/-- the volumes that must be there -/
def nd (L S : Nat → Nat) (r v : Nat) : Nat → Bool
  | 0 => false
  | d + 1 => onV S r d v || nd L S r v (bs L d)
termination_by k => k
decreasing_by exact Nat.lt_succ_of_le (bs_le L d)
theorem nd_0 (L S : Nat → Nat) (r v : Nat) : nd L S r v 0 = false := by rw [nd]
theorem nd_s (L S : Nat → Nat) (r v d : Nat) : nd L S r v (d + 1) = (onV S r d v || nd L S r v (bs L d)) := by rw [nd]
theorem nd_congr {L L' S S' : Nat → Nat} {r v : Nat} : ∀ (N k : Nat), k ≤ N → (∀ j, j < k → L j = L' j ∧ S j = S' j) → nd L S r v k = nd L' S' r v k
  | _, 0, _, _ => by rw [nd_0, nd_0]
  | 0, k + 1, h, _ => absurd h (by omega)
  | N + 1, k + 1, h, e => by
    have h1 := bs_le L k
    have h2 : bs L k = bs L' k := bs_congr (fun j hj => (e j (by omega)).1)
    have h3 : sm S k = sm S' k := sm_congr (fun j hj => (e j (by omega)).2)
    rw [nd_s, nd_s, ← h2, nd_congr N (bs L k) (by omega) (fun j hj => e j (by omega))]
    unfold onV
    rw [h3, (e k (by omega)).2]
/-- the chain of a dump, link by link -/
def nx (L : Nat → Nat) : Nat → Nat
  | 0 => 0
  | d + 1 => bs L d
def ch (L : Nat → Nat) (q : Nat) : Nat → Nat
  | 0 => q
  | k + 1 => nx L (ch L q k)
theorem nx_le (L : Nat → Nat) : ∀ k, nx L k ≤ k - 1
  | 0 => Nat.le_refl 0
  | d + 1 => bs_le L d
theorem ch_le (L : Nat → Nat) (q : Nat) : ∀ k, ch L q k ≤ q
  | 0 => Nat.le_refl q
  | k + 1 => by
    have h1 := ch_le L q k
    have h2 := nx_le L (ch L q k)
    show nx L (ch L q k) ≤ q
    omega
theorem ch_0 {L : Nat → Nat} {q : Nat} {i : Nat} (h : ch L q i = 0) : ∀ k, i ≤ k → ch L q k = 0
  | 0, hk => by
    have : i = 0 := by omega
    subst this
    exact h
  | k + 1, hk => by
    by_cases e : i = k + 1
    · subst e
      exact h
    · have h1 := ch_0 h k (by omega)
      show nx L (ch L q k) = 0
      rw [h1]
      rfl
/-- the latest good one of the first k dumps -/
def la (P : Nat → Bool) : Nat → Nat
  | 0 => 0
  | k + 1 => if P k then k + 1 else la P k
def noH (P : Nat → Bool) : Nat → Bool
  | 0 => true
  | k + 1 => noH P k && !P k
theorem noH_t {P : Nat → Bool} : ∀ {k : Nat}, noH P k = true ↔ ∀ v, v < k → P v = false
  | 0 => ⟨fun _ v h => absurd h (Nat.not_lt_zero v), fun _ => rfl⟩
  | k + 1 => by
    unfold noH
    rw [Bool.and_eq_true, noH_t]
    constructor
    · intro h v hv
      by_cases e : v = k
      · subst e
        simpa using h.2
      · exact h.1 v (by omega)
    · intro h
      exact ⟨fun v hv => h v (by omega), by simp [h k (Nat.lt_succ_self k)]⟩
def cn (P : Nat → Bool) : Nat → Nat
  | 0 => 0
  | k + 1 => cn P k + (if P k then 1 else 0)
theorem cn_le (P : Nat → Bool) : ∀ k, cn P k ≤ k
  | 0 => Nat.le_refl 0
  | k + 1 => by
    have := cn_le P k
    unfold cn
    split <;> omega
def mx (f : Nat → Nat) : Nat → Nat
  | 0 => 0
  | k + 1 => if mx f k < f k then f k else mx f k
def b2 (b : Bool) : Int := if b then 1 else 0
def gd (L S : Nat → Nat) (r : Nat) (lo : Nat → Bool) (d : Nat) : Bool := noH (fun v => nd L S r v (d + 1) && lo v) 64
/-- written volumes -/
def wr (S : Nat → Nat) (r n : Nat) : Nat := (sm S n + r - 1) / r
def okS (n : Nat) (L S : Nat → Nat) (r : Nat) : Prop := n ≤ 300 ∧ 1 ≤ r ∧ r ≤ 999 ∧ (∀ d, d < n → L d ≤ 9 ∧ 1 ≤ S d ∧ S d ≤ 500) ∧ sm S n ≤ 64 * r
/-! bits of a long -/
def bL (x : Int64) (v : Nat) : Bool := x.toBitVec.getLsbD v
theorem bL_ext {x y : Int64} (h : ∀ v, v < 64 → bL x v = bL y v) : x = y := by
  apply Int64.toBitVec_inj.mp
  apply BitVec.eq_of_getLsbD_eq
  intro i hi
  exact h i hi
theorem bL_0 (v : Nat) : bL 0 v = false := by
  show (0#64).getLsbD v = false
  simp
theorem bL_m1 {v : Nat} (h : v < 64) : bL (-1) v = true := by
  show (-1#64).getLsbD v = true
  rw [BitVec.neg_one_eq_allOnes, BitVec.getLsbD_allOnes]
  simpa using h
theorem bL_and (x y : Int64) (v : Nat) : bL (x &&& y) v = (bL x v && bL y v) := BitVec.getLsbD_and
theorem bL_or (x y : Int64) (v : Nat) : bL (x ||| y) v = (bL x v || bL y v) := BitVec.getLsbD_or
theorem bL_not (x : Int64) {v : Nat} (h : v < 64) : bL (x ^^^ (-1)) v = !bL x v := by
  have h1 : bL (x ^^^ (-1)) v = (bL x v ^^ bL (-1) v) := BitVec.getLsbD_xor
  rw [h1, bL_m1 h]
  simp
theorem sh_l : ∀ k : Nat, k < 64 → (((iI (k : Int)).toInt64 &&& 63).toBitVec.smod 64).toNat = k := by decide +kernel
theorem sh_u : ∀ k : Nat, k < 64 → (((iI (k : Int)).toInt64.toUInt64 &&& Int64.toUInt64 63).toBitVec % 64).toNat = k := by decide +kernel
theorem bL_shl (x : Int64) {k v : Nat} (hk : k < 64) (hv : v < 64) : bL (x <<< ((iI (k : Int)).toInt64 &&& 63)) v = (decide (k ≤ v) && bL x (v - k)) := by
  show (x.toBitVec <<< (((iI (k : Int)).toInt64 &&& 63).toBitVec.smod 64)).getLsbD v = _
  rw [BitVec.shiftLeft_eq', sh_l k hk, BitVec.getLsbD_shiftLeft]
  by_cases h : v < k
  · simp [h, Nat.not_le.mpr h]
  · simp [h, hv, Nat.not_lt.mp h, bL]
theorem bL_ushr (x : Int64) {k : Nat} (hk : k < 64) (v : Nat) : bL (x.toUInt64 >>> ((iI (k : Int)).toInt64.toUInt64 &&& Int64.toUInt64 63)).toInt64 v = bL x (k + v) := by
  show (x.toBitVec >>> (((iI (k : Int)).toInt64.toUInt64 &&& Int64.toUInt64 63).toBitVec % 64)).getLsbD v = _
  rw [BitVec.ushiftRight_eq', sh_u k hk, BitVec.getLsbD_ushiftRight]
  rfl
theorem bL_1 (v : Nat) : bL 1 v = decide (v = 0) := by
  show (1#64).getLsbD v = _
  simp
theorem bL_bit {k v : Nat} (hk : k < 64) (hv : v < 64) : bL ((1 : Int64) <<< ((iI (k : Int)).toInt64 &&& 63)) v = decide (v = k) := by
  rw [bL_shl 1 hk hv, bL_1]
  by_cases h : k ≤ v
  · by_cases h2 : v = k
    · subst h2; simp
    · have : ¬ v - k = 0 := by omega
      simp [h, h2, this]
  · have : ¬ v = k := by omega
    simp [h, this]
theorem bL_z {x : Int64} : x = 0 ↔ ∀ v, v < 64 → bL x v = false := ⟨fun h v _ => by rw [h]; exact bL_0 v, fun h => bL_ext fun v hv => by rw [h v hv, bL_0]⟩
/-- the bits from a to b -/
theorem bL_from {a b v : Nat} (ha : a < 64) (hb : b < 64) (hv : v < 64) :
    bL ((-1 : Int64) <<< ((iI (a : Int)).toInt64 &&& 63) &&& ((-1 : Int64).toUInt64 >>> ((iI ((63 - b : Nat) : Int)).toInt64.toUInt64 &&& Int64.toUInt64 63)).toInt64) v = (decide (a ≤ v) && decide (v ≤ b)) := by
  rw [bL_and, bL_shl _ ha hv, bL_ushr _ (by omega : 63 - b < 64)]
  by_cases h : a ≤ v
  · rw [bL_m1 (by omega)]
    by_cases h2 : v ≤ b
    · rw [bL_m1 (by omega)]; simp [h, h2]
    · have : bL (-1) (63 - b + v) = false := by
        show (-1#64).getLsbD _ = false
        exact BitVec.getLsbD_of_ge _ _ (by omega)
      rw [this]; simp [h2]
  · simp [h]
/-! on what dump a block lies: the first of k dumps that ends behind place q -/
def ow (S : Nat → Nat) (q : Nat) : Nat → Nat
  | 0 => 0
  | k + 1 => if ow S q k = 0 then (if q < sm S (k + 1) then k + 1 else 0) else ow S q k
theorem ow_hit {S : Nat → Nat} {q k : Nat} (h : ow S q k = 0) (hq : q < sm S (k + 1)) : ow S q (k + 1) = k + 1 := by
  show (if ow S q k = 0 then (if q < sm S (k + 1) then k + 1 else 0) else ow S q k) = k + 1
  rw [if_pos h, if_pos hq]
theorem ow_miss {S : Nat → Nat} {q k : Nat} (h : ow S q k = 0) (hq : sm S (k + 1) ≤ q) : ow S q (k + 1) = 0 := by
  show (if ow S q k = 0 then (if q < sm S (k + 1) then k + 1 else 0) else ow S q k) = 0
  rw [if_pos h, if_neg (by omega)]
theorem ow_keep {S : Nat → Nat} {q k : Nat} (h : ow S q k ≠ 0) : ∀ n, k ≤ n → ow S q n = ow S q k
  | 0, hn => by
    have : k = 0 := by omega
    subst this
    rfl
  | n + 1, hn => by
    by_cases e : k = n + 1
    · subst e
      rfl
    · have h1 := ow_keep h n (by omega)
      show (if ow S q n = 0 then (if q < sm S (n + 1) then n + 1 else 0) else ow S q n) = _
      rw [if_neg (by rw [h1]; exact h), h1]
theorem wr_pos {S : Nat → Nat} {r n : Nat} (hr : 1 ≤ r) (h : 0 < sm S n) : wr S r n = (sm S n - 1) / r + 1 := by
  unfold wr
  have e : sm S n + r - 1 = (sm S n - 1) + r := by omega
  rw [e, Nat.add_div_right _ hr]
theorem wr_zero {S : Nat → Nat} {r n : Nat} (hr : 1 ≤ r) (h : sm S n = 0) : wr S r n = 0 := by
  unfold wr
  rw [h]
  exact Nat.div_eq_of_lt (by omega)
theorem wr_le {S : Nat → Nat} {r n : Nat} (hr : 1 ≤ r) (h : sm S n ≤ 64 * r) : wr S r n ≤ 64 := by
  unfold wr
  have : (sm S n + r - 1) / r < 65 := Nat.div_lt_of_lt_mul (by omega)
  omega
theorem vo_lt {q r : Nat} (h : q < 64 * r) : q / r < 64 := Nat.div_lt_of_lt_mul (by omega)
def uN (f : Nat → Nat) (k x : Nat) : Nat → Nat := fun j => if j = k then x else f j
theorem uN_s {f : Nat → Nat} {k x : Nat} : uN f k x k = x := if_pos rfl
theorem uN_n {f : Nat → Nat} {k j x : Nat} (h : j ≠ k) : uN f k x j = f j := if_neg h
/-- the class's numbers say what the dumps are -/
def tX (n : Nat) (L S : Nat → Nat) (r : Nat) (lo : Nat → Bool) (gL gB gD : Nat → Int) (gN : Nat → Int64) (gS : Nat → Int) (x : Int64) : Prop :=
  (∀ d, d < n → gL d = (L d : Int) ∧ gB d = (bs L d : Int) - 1 ∧ gD d = (dp L (d + 1) : Int) ∧ ∀ v, v < 64 → bL (gN d) v = nd L S r v (d + 1)) ∧ (∀ d, d ≤ n → gS d = (sm S d : Int)) ∧ ∀ v, v < 64 → bL x v = lo v
theorem tX_drop {n k : Nat} {L S : Nat → Nat} {r : Nat} {lo : Nat → Bool} {gL gB gD : Nat → Int} {gN : Nat → Int64} {gS : Nat → Int} {x : Int64} (hk : k ≤ n) (h : tX n L S r lo gL gB gD gN gS x) : tX k L S r lo gL gB gD gN gS x :=
  ⟨fun d hd => h.1 d (by omega), fun d hd => h.2.1 d (by omega), h.2.2⟩
theorem okS_drop {n k : Nat} {L S : Nat → Nat} {r : Nat} (hk : k ≤ n) (h : okS n L S r) : okS k L S r :=
  ⟨by have := h.1; omega, h.2.1, h.2.2.1, fun d hd => h.2.2.2.1 d (by omega), Nat.le_trans (sm_mono hk) h.2.2.2.2⟩
theorem okS_push {n lv b : Nat} {L S : Nat → Nat} {r : Nat} (h : okS n L S r) (hn : n < 300) (hl : lv ≤ 9) (h1 : 1 ≤ b) (h2 : b ≤ 500) (hs : sm S n + b ≤ 64 * r) : okS (n + 1) (uN L n lv) (uN S n b) r := by
  refine ⟨by omega, h.2.1, h.2.2.1, fun d hd => ?_, ?_⟩
  · by_cases e : d = n
    · subst e
      rw [uN_s, uN_s]
      exact ⟨hl, h1, h2⟩
    · rw [uN_n e, uN_n e]
      exact h.2.2.2.1 d (by omega)
  · show sm (uN S n b) n + uN S n b n ≤ 64 * r
    rw [uN_s, sm_congr (S' := S) (fun j hj => uN_n (by omega))]
    exact hs
theorem bs_push {n lv : Nat} {L : Nat → Nat} : bs (uN L n lv) n = ba L lv n := by
  unfold bs
  rw [uN_s]
  exact ba_congr (fun j hj => uN_n (by omega))
theorem bs_old {n lv d : Nat} {L : Nat → Nat} (h : d < n) : bs (uN L n lv) d = bs L d := bs_congr (fun j hj => uN_n (by omega))
theorem dp_old {n lv k : Nat} {L : Nat → Nat} (h : k ≤ n) : dp (uN L n lv) k = dp L k := dp_congr k k (Nat.le_refl k) (fun j hj => uN_n (by omega))
theorem nd_old {n lv b k r v : Nat} {L S : Nat → Nat} (h : k ≤ n) : nd (uN L n lv) (uN S n b) r v k = nd L S r v k := nd_congr k k (Nat.le_refl k) (fun j hj => ⟨uN_n (by omega), uN_n (by omega)⟩)
theorem sm_old {n b k : Nat} {S : Nat → Nat} (h : k ≤ n) : sm (uN S n b) k = sm S k := sm_congr (fun j hj => uN_n (by omega))
theorem sm_push {n b : Nat} {S : Nat → Nat} : sm (uN S n b) (n + 1) = sm S n + b := by
  show sm (uN S n b) n + uN S n b n = _
  rw [uN_s, sm_old (Nat.le_refl n)]
/-- a dump more -/
theorem tX_push {n lv b : Nat} {L S : Nat → Nat} {r : Nat} {lo : Nat → Bool} {gL gB gD : Nat → Int} {gN : Nat → Int64} {gS : Nat → Int} {x : Int64} {zB zD : Int} {zN : Int64} {zS : Int} (h : tX n L S r lo gL gB gD gN gS x)
    (hB : zB = (ba L lv n : Int) - 1) (hD : zD = (dp L (ba L lv n) : Int) + 1) (hN : ∀ v, v < 64 → bL zN v = (onV (uN S n b) r n v || nd L S r v (ba L lv n))) (hS : zS = ((sm S n + b : Nat) : Int)) :
    tX (n + 1) (uN L n lv) (uN S n b) r lo (uZ gL n (lv : Int)) (uZ gB n zB) (uZ gD n zD) (vp_updL gN n zN) (uZ gS (n + 1) zS) x := by
  have hba := ba_le L lv n
  refine ⟨fun d hd => ?_, fun d hd => ?_, h.2.2⟩
  · by_cases e : d = n
    · subst e
      rw [uZ_s, uZ_s, uZ_s, pk_uLs, uN_s, bs_push, dp_s, bs_push, dp_old hba]
      refine ⟨rfl, hB, hD, fun v hv => ?_⟩
      rw [hN v hv, nd_s, bs_push, nd_old hba]
    · rw [uZ_n e, uZ_n e, uZ_n e, pk_uLn e, uN_n e, bs_old (by omega), dp_old (by omega)]
      obtain ⟨a1, a2, a3, a4⟩ := h.1 d (by omega)
      exact ⟨a1, a2, a3, fun v hv => by rw [a4 v hv, nd_old (by omega)]⟩
  · by_cases e : d = n + 1
    · subst e
      rw [uZ_s, sm_push]
      exact hS
    · rw [uZ_n e, sm_old (by omega)]
      exact h.2.1 d (by omega)
/-- the reference's numbers -/
def tM (n : Nat) (L S : Nat → Nat) (lo : Nat → Bool) (gl gz go : Nat → Int) : Prop :=
  (∀ d, d < n → gl d = (L d : Int) ∧ gz d = (S d : Int)) ∧ ∀ v, v < 64 → go v = b2 (lo v)
theorem tM_drop {n k : Nat} {L S : Nat → Nat} {lo : Nat → Bool} {gl gz go : Nat → Int} (hk : k ≤ n) (h : tM n L S lo gl gz go) : tM k L S lo gl gz go := ⟨fun d hd => h.1 d (by omega), h.2⟩
theorem tM_push {n lv b : Nat} {L S : Nat → Nat} {lo : Nat → Bool} {gl gz go : Nat → Int} (h : tM n L S lo gl gz go) : tM (n + 1) (uN L n lv) (uN S n b) lo (uZ gl n (lv : Int)) (uZ gz n (b : Int)) go := by
  refine ⟨fun d hd => ?_, h.2⟩
  by_cases e : d = n
  · subst e
    rw [uZ_s, uZ_s, uN_s, uN_s]
    exact ⟨rfl, rfl⟩
  · rw [uZ_n e, uZ_n e, uN_n e, uN_n e]
    exact h.1 d (by omega)
end
section
/-! counting the bits of a long as the JDK does it, over numbers -/
theorem pc_split (k : Nat) {a c : Nat} (ha : a < 2 ^ k) (hc : c < 2 ^ k) (b d : Nat) : (2 ^ k * b + a) &&& (2 ^ k * d + c) = 2 ^ k * (b &&& d) + (a &&& c) := by
  apply Nat.eq_of_testBit_eq
  intro j
  rw [Nat.testBit_and, Nat.testBit_two_pow_mul_add b ha, Nat.testBit_two_pow_mul_add d hc, Nat.testBit_two_pow_mul_add (b &&& d) (Nat.and_lt_two_pow a hc)]
  split <;> rw [Nat.testBit_and]
theorem pc_8 {a c : Nat} (ha : a < 256) (hc : c < 256) (b d : Nat) : (256 * b + a) &&& (256 * d + c) = 256 * (b &&& d) + (a &&& c) := pc_split 8 ha hc b d
def pc_m (m : Nat) : Nat → Nat
  | 0 => 0
  | k + 1 => 256 * pc_m m k + m
def pc_1 (k n : Nat) : Nat := n - ((n / 2) &&& pc_m 85 k)
def pc_2 (k n : Nat) : Nat := (n &&& pc_m 51 k) + ((n / 4) &&& pc_m 51 k)
def pc_3 (k n : Nat) : Nat := (n + n / 16) &&& pc_m 15 k
theorem pc_d1 : ∀ a, a < 256 → ∀ t, t < 2 → (128 * t + a / 2) &&& 85 = (a / 2) &&& 85 := by decide +kernel
theorem pc_d2 : ∀ a, a < 256 → ∀ t, t < 4 → (64 * t + a / 4) &&& 51 = (a / 4) &&& 51 := by decide +kernel
theorem pc_d3 : ∀ a, a < 128 → ∀ t, t < 16 → (16 * t + (a + a / 16)) &&& 15 = (a + a / 16) &&& 15 := by decide +kernel
theorem pc_1s (k b : Nat) {a : Nat} (ha : a < 256) : pc_1 (k + 1) (256 * b + a) = 256 * pc_1 k b + (a - ((a / 2) &&& 85)) := by
  have e : (256 * b + a) / 2 = 256 * (b / 2) + (128 * (b % 2) + a / 2) := by omega
  have h1 := pc_d1 a ha (b % 2) (by omega)
  have h2 : (a / 2) &&& 85 ≤ a := Nat.le_trans Nat.and_le_left (by omega)
  have h3 : (b / 2) &&& pc_m 85 k ≤ b := Nat.le_trans Nat.and_le_left (by omega)
  show 256 * b + a - ((256 * b + a) / 2 &&& (256 * pc_m 85 k + 85)) = 256 * (b - ((b / 2) &&& pc_m 85 k)) + (a - ((a / 2) &&& 85))
  rw [e, pc_8 (by omega) (by decide), h1]
  omega
theorem pc_2s (k b : Nat) {a : Nat} (ha : a < 256) : pc_2 (k + 1) (256 * b + a) = 256 * pc_2 k b + ((a &&& 51) + ((a / 4) &&& 51)) := by
  have e : (256 * b + a) / 4 = 256 * (b / 4) + (64 * (b % 4) + a / 4) := by omega
  have h1 := pc_d2 a ha (b % 4) (by omega)
  show ((256 * b + a) &&& (256 * pc_m 51 k + 51)) + ((256 * b + a) / 4 &&& (256 * pc_m 51 k + 51)) = 256 * ((b &&& pc_m 51 k) + ((b / 4) &&& pc_m 51 k)) + ((a &&& 51) + ((a / 4) &&& 51))
  rw [e, pc_8 ha (by decide), pc_8 (by omega) (by decide), h1]
  omega
theorem pc_3s (k b : Nat) {a : Nat} (ha : a ≤ 102) (hb : b % 16 ≤ 6) : pc_3 (k + 1) (256 * b + a) = 256 * pc_3 k b + ((a + a / 16) &&& 15) := by
  have e : (256 * b + a) + (256 * b + a) / 16 = 256 * (b + b / 16) + (16 * (b % 16) + (a + a / 16)) := by omega
  have h1 := pc_d3 a (by omega) (b % 16) (by omega)
  show ((256 * b + a) + (256 * b + a) / 16) &&& (256 * pc_m 15 k + 15) = _
  rw [e, pc_8 (by omega) (by decide), h1]
  rfl
theorem pc_m16 : ∀ k, pc_m 51 k % 16 ≤ 3
  | 0 => by decide
  | k + 1 => by
    show (256 * pc_m 51 k + 51) % 16 ≤ 3
    omega
theorem pc_and16 (y : Nat) (k : Nat) : (y &&& pc_m 51 k) % 16 ≤ 3 := by
  have e1 : y = 2 ^ 4 * (y / 16) + y % 16 := by omega
  have e2 : pc_m 51 k = 2 ^ 4 * (pc_m 51 k / 16) + pc_m 51 k % 16 := by omega
  rw [e1, e2, pc_split 4 (by omega) (by omega)]
  have h := pc_m16 k
  have h2 : (y % 16 &&& pc_m 51 k % 16) ≤ pc_m 51 k % 16 := Nat.and_le_right
  omega
theorem pc_2b (k y : Nat) : pc_2 k y % 16 ≤ 6 := by
  have h1 := pc_and16 y k
  have h2 := pc_and16 (y / 4) k
  unfold pc_2
  omega
def pc_b (a : Nat) : Nat := cn (fun v => a.testBit v) 8
def pc_a1 (a : Nat) : Nat := a - ((a / 2) &&& 85)
def pc_a2 (a : Nat) : Nat := (a &&& 51) + ((a / 4) &&& 51)
theorem pc_q : ∀ a, a < 256 → pc_a1 a < 256 ∧ pc_a2 (pc_a1 a) ≤ 102 ∧ ((pc_a2 (pc_a1 a) + pc_a2 (pc_a1 a) / 16) &&& 15) = pc_b a := by decide +kernel
def pc_G : Nat → Nat → Nat
  | 0, _ => 0
  | k + 1, n => 256 * pc_G k (n / 256) + pc_b (n % 256)
theorem pc_all : ∀ (k n : Nat), pc_3 k (pc_2 k (pc_1 k n)) = pc_G k n
  | 0, n => by
    show (_ &&& 0) = 0
    exact Nat.and_zero _
  | k + 1, n => by
    have hn : n = 256 * (n / 256) + n % 256 := by omega
    obtain ⟨q1, q2, q3⟩ := pc_q (n % 256) (by omega)
    have e1 : pc_1 (k + 1) n = 256 * pc_1 k (n / 256) + pc_a1 (n % 256) := by
      conv => lhs; rw [hn]
      exact pc_1s k (n / 256) (by omega)
    have e2 : pc_2 (k + 1) (256 * pc_1 k (n / 256) + pc_a1 (n % 256)) = 256 * pc_2 k (pc_1 k (n / 256)) + pc_a2 (pc_a1 (n % 256)) := pc_2s k _ q1
    rw [e1, e2, pc_3s k _ q2 (pc_2b k _), q3, pc_all k (n / 256)]
    rfl
theorem cn_congr {P P' : Nat → Bool} : ∀ {k : Nat}, (∀ v, v < k → P v = P' v) → cn P k = cn P' k
  | 0, _ => rfl
  | k + 1, h => by
    unfold cn
    rw [h k (Nat.lt_succ_self k), cn_congr (fun v hv => h v (Nat.lt_succ_of_lt hv))]
theorem cn_add (P : Nat → Bool) (a : Nat) : ∀ b, cn P (a + b) = cn P a + cn (fun v => P (a + v)) b
  | 0 => rfl
  | b + 1 => by
    show cn P (a + b) + _ = cn P a + (cn (fun v => P (a + v)) b + _)
    rw [cn_add P a b]
    exact Nat.add_assoc _ _ _
theorem pc_b_le (a : Nat) : pc_b a ≤ 8 := cn_le _ 8
theorem pc_sum (n k : Nat) : cn (fun v => n.testBit v) (8 + k) = pc_b (n % 256) + cn (fun v => (n / 256).testBit v) k := by
  rw [cn_add]
  have h1 : cn (fun v => n.testBit v) 8 = pc_b (n % 256) := cn_congr fun v hv => by
    show n.testBit v = (n % 2 ^ 8).testBit v
    rw [Nat.testBit_mod_two_pow]
    simp [hv]
  have h2 : cn (fun v => n.testBit (8 + v)) k = cn (fun v => (n / 256).testBit v) k := cn_congr fun v _ => by
    show n.testBit (8 + v) = (n / 2 ^ 8).testBit v
    rw [Nat.testBit_div_two_pow, Nat.add_comm]
  rw [h1, h2]
def pc_f (a3 : Nat) : Nat :=
  let a4 := a3 + a3 / 256
  let a5 := a4 + a4 / 65536
  a5 + a5 / 4294967296
theorem pc_div (a k q m : Nat) (h : q < m) (e : a = m * k + q) (hm : 0 < m) : a / m = k := by
  rw [e, Nat.mul_add_div hm, Nat.div_eq_of_lt h]
  rfl
theorem pc_val (x0 x1 x2 x3 x4 x5 x6 x7 : Nat) (c0 : x0 ≤ 8) (c1 : x1 ≤ 8) (c2 : x2 ≤ 8) (c3 : x3 ≤ 8) (c4 : x4 ≤ 8) (c5 : x5 ≤ 8) (c6 : x6 ≤ 8) (c7 : x7 ≤ 8) : pc_f (256 * (256 * (256 * (256 * (256 * (256 * (256 * (256 * 0 + x7) + x6) + x5) + x4) + x3) + x2) + x1) + x0) = (256 * (256 * (256 * (256 * (256 * (256 * (256 * x7 + (x6 + x7)) + ((x5 + x6) + x7)) + ((x4 + x5) + (x6 + x7))) + (((x3 + x4) + (x5 + x6)) + x7)) + (((x2 + x3) + (x4 + x5)) + (x6 + x7))) + (((x1 + x2) + (x3 + x4)) + ((x5 + x6) + x7))) + (((x0 + x1) + (x2 + x3)) + ((x4 + x5) + (x6 + x7)))) := by
  have h4 : (256 * (256 * (256 * (256 * (256 * (256 * (256 * (256 * 0 + x7) + x6) + x5) + x4) + x3) + x2) + x1) + x0) / 256 = (256 * (256 * (256 * (256 * (256 * (256 * x7 + x6) + x5) + x4) + x3) + x2) + x1) := pc_div _ _ x0 256 (by omega) (by omega) (by omega)
  have e4 : (256 * (256 * (256 * (256 * (256 * (256 * (256 * (256 * 0 + x7) + x6) + x5) + x4) + x3) + x2) + x1) + x0) + (256 * (256 * (256 * (256 * (256 * (256 * x7 + x6) + x5) + x4) + x3) + x2) + x1) = (256 * (256 * (256 * (256 * (256 * (256 * (256 * x7 + (x6 + x7)) + (x5 + x6)) + (x4 + x5)) + (x3 + x4)) + (x2 + x3)) + (x1 + x2)) + (x0 + x1)) := by omega
  have h5 : (256 * (256 * (256 * (256 * (256 * (256 * (256 * x7 + (x6 + x7)) + (x5 + x6)) + (x4 + x5)) + (x3 + x4)) + (x2 + x3)) + (x1 + x2)) + (x0 + x1)) / 65536 = (256 * (256 * (256 * (256 * (256 * x7 + (x6 + x7)) + (x5 + x6)) + (x4 + x5)) + (x3 + x4)) + (x2 + x3)) := pc_div _ _ (256 * (x1 + x2) + (x0 + x1)) 65536 (by omega) (by omega) (by omega)
  have e5 : (256 * (256 * (256 * (256 * (256 * (256 * (256 * x7 + (x6 + x7)) + (x5 + x6)) + (x4 + x5)) + (x3 + x4)) + (x2 + x3)) + (x1 + x2)) + (x0 + x1)) + (256 * (256 * (256 * (256 * (256 * x7 + (x6 + x7)) + (x5 + x6)) + (x4 + x5)) + (x3 + x4)) + (x2 + x3)) = (256 * (256 * (256 * (256 * (256 * (256 * (256 * x7 + (x6 + x7)) + ((x5 + x6) + x7)) + ((x4 + x5) + (x6 + x7))) + ((x3 + x4) + (x5 + x6))) + ((x2 + x3) + (x4 + x5))) + ((x1 + x2) + (x3 + x4))) + ((x0 + x1) + (x2 + x3))) := by omega
  have h6 : (256 * (256 * (256 * (256 * (256 * (256 * (256 * x7 + (x6 + x7)) + ((x5 + x6) + x7)) + ((x4 + x5) + (x6 + x7))) + ((x3 + x4) + (x5 + x6))) + ((x2 + x3) + (x4 + x5))) + ((x1 + x2) + (x3 + x4))) + ((x0 + x1) + (x2 + x3))) / 4294967296 = (256 * (256 * (256 * x7 + (x6 + x7)) + ((x5 + x6) + x7)) + ((x4 + x5) + (x6 + x7))) := pc_div _ _ (256 * (256 * (256 * ((x3 + x4) + (x5 + x6)) + ((x2 + x3) + (x4 + x5))) + ((x1 + x2) + (x3 + x4))) + ((x0 + x1) + (x2 + x3))) 4294967296 (by omega) (by omega) (by omega)
  unfold pc_f
  dsimp only
  rw [h4, e4, h5, e5, h6]
  omega
theorem pc_num (x0 x1 x2 x3 x4 x5 x6 x7 : Nat) (c0 : x0 ≤ 8) (c1 : x1 ≤ 8) (c2 : x2 ≤ 8) (c3 : x3 ≤ 8) (c4 : x4 ≤ 8) (c5 : x5 ≤ 8) (c6 : x6 ≤ 8) (c7 : x7 ≤ 8) : pc_f (256 * (256 * (256 * (256 * (256 * (256 * (256 * (256 * 0 + x7) + x6) + x5) + x4) + x3) + x2) + x1) + x0) % 128 = x0 + (x1 + (x2 + (x3 + (x4 + (x5 + (x6 + x7)))))) := by
  rw [pc_val x0 x1 x2 x3 x4 x5 x6 x7 c0 c1 c2 c3 c4 c5 c6 c7]
  omega
theorem pc_num2 (x0 x1 x2 x3 x4 x5 x6 x7 : Nat) (c0 : x0 ≤ 8) (c1 : x1 ≤ 8) (c2 : x2 ≤ 8) (c3 : x3 ≤ 8) (c4 : x4 ≤ 8) (c5 : x5 ≤ 8) (c6 : x6 ≤ 8) (c7 : x7 ≤ 8) : pc_f (256 * (256 * (256 * (256 * (256 * (256 * (256 * (256 * 0 + x7) + x6) + x5) + x4) + x3) + x2) + x1) + x0) < 18446744073709551616 := by
  rw [pc_val x0 x1 x2 x3 x4 x5 x6 x7 c0 c1 c2 c3 c4 c5 c6 c7]
  omega
theorem pc_end (n : Nat) : pc_f (pc_G 8 n) % 128 = cn (fun v => n.testBit v) 64 ∧ pc_f (pc_G 8 n) < 18446744073709551616 := by
  have e : cn (fun v => n.testBit v) 64 = pc_b (n % 256) + (pc_b (n / 256 % 256) + (pc_b (n / 256 / 256 % 256) + (pc_b (n / 256 / 256 / 256 % 256) + (pc_b (n / 256 / 256 / 256 / 256 % 256) + (pc_b (n / 256 / 256 / 256 / 256 / 256 % 256) + (pc_b (n / 256 / 256 / 256 / 256 / 256 / 256 % 256) + pc_b (n / 256 / 256 / 256 / 256 / 256 / 256 / 256 % 256))))))) := by
    rw [show 64 = 8 + (8 + (8 + (8 + (8 + (8 + (8 + (8 + 0))))))) from rfl, pc_sum, pc_sum, pc_sum, pc_sum, pc_sum, pc_sum, pc_sum, pc_sum]
    rfl
  have g : pc_G 8 n = 256 * (256 * (256 * (256 * (256 * (256 * (256 * (256 * 0 + pc_b (n / 256 / 256 / 256 / 256 / 256 / 256 / 256 % 256)) + pc_b (n / 256 / 256 / 256 / 256 / 256 / 256 % 256)) + pc_b (n / 256 / 256 / 256 / 256 / 256 % 256)) + pc_b (n / 256 / 256 / 256 / 256 % 256)) + pc_b (n / 256 / 256 / 256 % 256)) + pc_b (n / 256 / 256 % 256)) + pc_b (n / 256 % 256)) + pc_b (n % 256) := rfl
  have b0 := pc_b_le (n % 256)
  have b1 := pc_b_le (n / 256 % 256)
  have b2 := pc_b_le (n / 256 / 256 % 256)
  have b3 := pc_b_le (n / 256 / 256 / 256 % 256)
  have b4 := pc_b_le (n / 256 / 256 / 256 / 256 % 256)
  have b5 := pc_b_le (n / 256 / 256 / 256 / 256 / 256 % 256)
  have b6 := pc_b_le (n / 256 / 256 / 256 / 256 / 256 / 256 % 256)
  have b7 := pc_b_le (n / 256 / 256 / 256 / 256 / 256 / 256 / 256 % 256)
  rw [e, g]
  generalize pc_b (n % 256) = x0 at *
  generalize pc_b (n / 256 % 256) = x1 at *
  generalize pc_b (n / 256 / 256 % 256) = x2 at *
  generalize pc_b (n / 256 / 256 / 256 % 256) = x3 at *
  generalize pc_b (n / 256 / 256 / 256 / 256 % 256) = x4 at *
  generalize pc_b (n / 256 / 256 / 256 / 256 / 256 % 256) = x5 at *
  generalize pc_b (n / 256 / 256 / 256 / 256 / 256 / 256 % 256) = x6 at *
  generalize pc_b (n / 256 / 256 / 256 / 256 / 256 / 256 / 256 % 256) = x7 at *
  have c0 := b0
  have c1 := b1
  have c2 := b2
  have c3 := b3
  have c4 := b4
  have c5 := b5
  have c6 := b6
  have c7 := b7
  clear e g
  clear b0 b1 b2 b3 b4 b5 b6 b7
  exact ⟨pc_num x0 x1 x2 x3 x4 x5 x6 x7 c0 c1 c2 c3 c4 c5 c6 c7, pc_num2 x0 x1 x2 x3 x4 x5 x6 x7 c0 c1 c2 c3 c4 c5 c6 c7⟩
end
section
/-! longs by numbers (wb_ rows: of kit/laws/BITS.to-paste), and the bits of a long counted -/
theorem wb_tb (n : Nat) : (lN n).toBitVec = BitVec.ofNat 64 n := rfl
theorem wb_inj {a b : Int64} (h : a.toBitVec = b.toBitVec) : a = b := Int64.toBitVec_inj.mp h
theorem wb_tn {n : Nat} (h : n < 2 ^ 64) : (lN n).toBitVec.toNat = n := by rw [wb_tb, BitVec.toNat_ofNat, Nat.mod_eq_of_lt h]
theorem wb_of (x : Int64) : ∃ n, n < 2 ^ 64 ∧ x = lN n := ⟨x.toBitVec.toNat, x.toBitVec.isLt, wb_inj (by rw [wb_tb]; simp)⟩
theorem wb_cu : ∀ k, k < 64 → ((nI k).toInt64.toUInt64 &&& Int64.toUInt64 63) = UInt64.ofNat k := by decide +kernel
theorem wb_shr {n k : Nat} (hn : n < 2 ^ 64) (hk : k < 64) : ((lN n).toUInt64 >>> ((nI k).toInt64.toUInt64 &&& Int64.toUInt64 63)).toInt64 = lN (n / 2 ^ k) := by
  rw [wb_cu k hk]
  apply wb_inj
  apply BitVec.eq_of_toNat_eq
  show ((lN n).toUInt64 >>> UInt64.ofNat k).toNat = (BitVec.ofNat 64 _).toNat
  have h1 : (UInt64.ofNat k).toNat = k := by
    show (BitVec.ofNat 64 k).toNat = k
    rw [BitVec.toNat_ofNat, Nat.mod_eq_of_lt (by omega)]
  have h2 : (lN n).toUInt64.toNat = n := wb_tn hn
  rw [UInt64.toNat_shiftRight, h1, h2, Nat.mod_eq_of_lt hk, Nat.shiftRight_eq_div_pow, BitVec.toNat_ofNat, Nat.mod_eq_of_lt (Nat.lt_of_le_of_lt (Nat.div_le_self _ _) hn)]
theorem wb_and {a b : Nat} (ha : a < 2 ^ 64) (hb : b < 2 ^ 64) : lN a &&& lN b = lN (a &&& b) := by
  apply wb_inj
  rw [Int64.toBitVec_and, wb_tb, wb_tb, wb_tb]
  apply BitVec.eq_of_toNat_eq
  rw [BitVec.toNat_and, BitVec.toNat_ofNat, BitVec.toNat_ofNat, BitVec.toNat_ofNat, Nat.mod_eq_of_lt ha, Nat.mod_eq_of_lt hb, Nat.mod_eq_of_lt (Nat.and_lt_two_pow _ hb)]
def lsr (x : Int64) (k : Int) : Int64 := (x.toUInt64 >>> ((iI k).toInt64.toUInt64 &&& Int64.toUInt64 63)).toInt64
theorem iI_nI (k : Nat) : iI (k : Int) = nI k := Int32.ofInt_eq_ofNat
theorem lsr_n {n k : Nat} (hn : n < 18446744073709551616) (hk : k < 64) : lsr (lN n) (k : Int) = lN (n / 2 ^ k) := by
  unfold lsr
  rw [iI_nI]
  exact wb_shr hn hk
def pp1 (x : Int64) : Int64 := x - (lsr x 1 &&& 6148914691236517205)
def pp2 (x : Int64) : Int64 := (x &&& 3689348814741910323) + (lsr x 2 &&& 3689348814741910323)
def pp3 (x : Int64) : Int64 := (x + lsr x 4) &&& 1085102592571150095
def pp4 (x : Int64) : Int64 := x + lsr x 8
def pp5 (x : Int64) : Int64 := x + lsr x 16
def pp6 (x : Int64) : Int64 := x + lsr x 32
theorem pp1_n {n : Nat} (hn : n < 18446744073709551616) : pp1 (lN n) = lN (pc_1 8 n) := by
  unfold pp1
  rw [show lsr (lN n) 1 = lN (n / 2) from lsr_n (k := 1) hn (by decide), show (6148914691236517205 : Int64) = lN (pc_m 85 8) from rfl, wb_and (Nat.lt_of_le_of_lt (Nat.div_le_self _ _) hn) (by decide), lN_sub (Nat.le_trans Nat.and_le_left (Nat.div_le_self _ _))]
  rfl
theorem pp2_n {n : Nat} (hn : n < 18446744073709551616) : pp2 (lN n) = lN (pc_2 8 n) := by
  unfold pp2
  rw [show lsr (lN n) 2 = lN (n / 4) from lsr_n (k := 2) hn (by decide), show (3689348814741910323 : Int64) = lN (pc_m 51 8) from rfl, wb_and hn (by decide), wb_and (Nat.lt_of_le_of_lt (Nat.div_le_self _ _) hn) (by decide), lN_add]
  rfl
theorem pc_2lt (n : Nat) : pc_2 8 n < 8000000000000000000 := by
  have h1 : (n &&& pc_m 51 8) ≤ pc_m 51 8 := Nat.and_le_right
  have h2 : (n / 4 &&& pc_m 51 8) ≤ pc_m 51 8 := Nat.and_le_right
  have h3 : pc_m 51 8 = 3689348814741910323 := rfl
  unfold pc_2
  omega
theorem pp3_n {n : Nat} (hn : n < 8000000000000000000) : pp3 (lN n) = lN (pc_3 8 n) := by
  unfold pp3
  rw [show lsr (lN n) 4 = lN (n / 16) from lsr_n (k := 4) (by omega) (by decide), show (1085102592571150095 : Int64) = lN (pc_m 15 8) from rfl, lN_add, wb_and (by omega) (by decide)]
  rfl
theorem pc_3lt (n : Nat) : pc_3 8 n < 2000000000000000000 := by
  have h1 : ((n + n / 16) &&& pc_m 15 8) ≤ pc_m 15 8 := Nat.and_le_right
  have h3 : pc_m 15 8 = 1085102592571150095 := rfl
  unfold pc_3
  omega
theorem pp456_n {n : Nat} (hn : n < 2000000000000000000) : pp6 (pp5 (pp4 (lN n))) = lN (pc_f n) := by
  have e4 : pp4 (lN n) = lN (n + n / 256) := by
    unfold pp4
    rw [show lsr (lN n) 8 = lN (n / 256) from lsr_n (k := 8) (by omega) (by decide), lN_add]
  have e5 : pp5 (lN (n + n / 256)) = lN ((n + n / 256) + (n + n / 256) / 65536) := by
    unfold pp5
    rw [show lsr (lN (n + n / 256)) 16 = lN ((n + n / 256) / 65536) from lsr_n (k := 16) (by omega) (by decide), lN_add]
  have e6 : pp6 (lN ((n + n / 256) + (n + n / 256) / 65536)) = lN (pc_f n) := by
    unfold pp6
    rw [show lsr (lN ((n + n / 256) + (n + n / 256) / 65536)) 32 = lN (((n + n / 256) + (n + n / 256) / 65536) / 4294967296) from lsr_n (k := 32) (by omega) (by decide), lN_add]
    rfl
  rw [e4, e5, e6]
theorem pp_all (x : Int64) : (pp6 (pp5 (pp4 (pp3 (pp2 (pp1 x)))))).toInt32 &&& iI 127 = iI (cn (bL x) 64 : Int) := by
  obtain ⟨n, hn, rfl⟩ := wb_of x
  have h1 : pc_1 8 n < 18446744073709551616 := Nat.lt_of_le_of_lt (Nat.sub_le _ _) hn
  rw [pp1_n hn, pp2_n h1, pp3_n (pc_2lt _), pp456_n (pc_3lt _), pc_all, lN_i]
  obtain ⟨h2, h3⟩ := pc_end n
  have h4 := pk_and (nI (pc_f (pc_G 8 n))) (m := iI 127) 7 (by decide)
  rw [h4, iI_nI]
  congr 1
  have h5 : (nI (pc_f (pc_G 8 n))).toBitVec.toNat = pc_f (pc_G 8 n) % 4294967296 := by
    show (BitVec.ofNat 32 _).toNat = _
    rw [BitVec.toNat_ofNat]
  rw [h5]
  have h6 : cn (bL (lN n)) 64 = cn (fun v => n.testBit v) 64 := cn_congr fun v hv => by
    show (BitVec.ofNat 64 n).getLsbD v = n.testBit v
    rw [BitVec.getLsbD_ofNat]
    simp [hv]
  rw [h6, ← h2]
  omega
end
section
/-! worlds, contracts' starts and ends, calls -/
def inW (w : va_W) (q : Nat) : Prop := ∃ (k : Nat) (e : va_E), w[k]? = some (q, e)
abbrev nF : Nat → Prop := fun _ => False
theorem wD_own {A : Nat → Prop} {w : va_W} (h : va_D A w) : va_D (inW w) w := ⟨h.1, fun k q hq => ⟨k, q.2, hq⟩⟩
theorem wD_in {A : Nat → Prop} {w : va_W} (h : va_D A w) : ∀ q, inW w q → A q := fun q ⟨k, e, hk⟩ => h.2 k (q, e) hk
theorem wD_at {w w' : va_W} (e : w.map (fun q => q.1) = w'.map (fun q => q.1)) {i : Nat} {p : Nat × va_E} (h : w'[i]? = some p) : ∃ p0, w[i]? = some p0 ∧ p0.1 = p.1 := by
  have h1 : (w'.map (fun q => q.1))[i]? = some p.1 := by rw [List.getElem?_map, h]; rfl
  rw [← e, List.getElem?_map] at h1
  cases h2 : w[i]? with
  | none => rw [h2] at h1; cases h1
  | some p0 => rw [h2] at h1; exact ⟨p0, rfl, Option.some.inj h1⟩
theorem wD_same {A : Nat → Prop} {w w' : va_W} (h : va_D A w) (e : w.map (fun q => q.1) = w'.map (fun q => q.1)) : va_D A w' := by
  refine ⟨fun i j p q hi hj hpq => ?_, fun k q hk => ?_⟩
  · obtain ⟨p0, h1, h2⟩ := wD_at e hi
    obtain ⟨q0, h3, h4⟩ := wD_at e hj
    exact h.1 i j p0 q0 h1 h3 (by rw [h2, h4]; exact hpq)
  · obtain ⟨p0, h1, h2⟩ := wD_at e hk
    rw [← h2]
    exact h.2 k p0 h1
theorem inW_same {w w' : va_W} (e : w.map (fun q => q.1) = w'.map (fun q => q.1)) {q : Nat} (h : inW w' q) : inW w q := by
  obtain ⟨k, x, hk⟩ := h
  obtain ⟨p0, h1, h2⟩ := wD_at e hk
  exact ⟨k, p0.2, h1.trans (congrArg some (Prod.ext h2 rfl))⟩
/-- a method's start: its world, the classes, the cells apart -/
def PX (D : va_G) (cl : List vw_C) (tys : List (ClassId × FieldType)) (w : va_W) (av : List Value) : Array Value → State → Prop := va_Pc av (fun U => va_P D cl w U.heap ∧ va_K D cl tys U ∧ va_D (fun _ => True) w)
section PXs
variable {D : va_G} {cl : List vw_C} {tys : List (ClassId × FieldType)} {w : va_W} {av As : List Value} {s : State} {H : Heap} {A : Nat → Prop}
theorem PX_blind : FrameBlind (PX D cl tys w av) := fun a U g mk q => ⟨q.1, q.2.1, va_K.moved (u := U) (U := U.calling g mk a) (Vm.Alike.refl U.vm) q.2.2.1, q.2.2.2⟩
theorem PX_pre (hP : va_P D cl w H) (hK : va_K D cl tys s) (hD : va_D A w) : ∀ U : State, U.heap = H → s.WarmedH U.vm → PX D cl tys w av av.toArray U := fun U hU hW => ⟨rfl, by rw [hU]; exact hP, va_K.moved hW.alike hK, hD.weaken (fun _ _ _ _ => trivial)⟩
theorem PX_V {b q0 ci : Nat} {q : vw_C} {fs : List Value} (hP : va_P D cl w H) (hK : va_K D cl tys s) (hD : va_D A w) (hc : cl[ci]? = some q) (he : w[q0]? = some (b, .inr (ci, fs))) : PreV s H q.1 b (PX D cl tys w (.ref b :: As)) As := ⟨PX_blind, va_recv hK hP hc he, PX_pre hP hK hD⟩
theorem PX_S (hP : va_P D cl w H) (hK : va_K D cl tys s) (hD : va_D A w) : PreS s H (PX D cl tys w As) As := ⟨PX_blind, PX_pre hP hK hD⟩
end PXs
/-- ends of methods that change nothing -/
abbrev RQi (Pz : Int32 → Prop) : Array Value → State → Outcome → State → Prop := va_Qi (fun z (_ : Unit) => Pz z) (fun _ _ => True) nF
abbrev RQl (Pz : Int64 → Prop) : Array Value → State → Outcome → State → Prop := va_Ql (fun z (_ : Unit) => Pz z) (fun _ _ => True) nF
/-- what an exception leaves: nothing changed, its class as PE says -/
abbrev xcE (PE : String → Prop) : String → State → State → Prop := vx_X (S := Unit) (fun _ => True) (fun E _ _ => PE E) nF
section Cs
variable {p : Program} {l : Launch} {e : Env} {R : Room} {s : State} {m : MethodId} {args : Array Value} {below : List Frame} {meth : Method} {c : Code} {H : Heap} {locs : List Loc} {cells slots : Nat} {Q : State → Prop}
variable {pc : Nat} {ls : Array Slot} {rest st0 : List Value} {a : Array Value} {A0 : Nat → Prop} {H0 : Heap} {mc ms : Nat} {D : va_G} {cl : List vw_C} {w : va_W} {S : Type} {w' : S → va_W}
theorem ro_i {Pz : Int32 → Prop} (hr : va_Run p l e R s m args below meth c H locs cells slots 0 0 (F0 m pc ls st0) rest (RQi Pz a) nF) (hS : va_S A0 H0 H locs) (hP : va_P D cl w H)
    (kk : ∀ (r : Int32) (H1 : Heap) (locs1 : List Loc), Pz r → va_P D cl w H1 → va_S A0 H0 H1 locs1 → W p l e R s m args below meth c H1 locs1 cells slots Q (F0 m (pc + 3) ls (.int r :: rest))) : W p l e R s m args below meth c H locs cells slots Q (F0 m pc ls st0) :=
  va_calli hr hS (fun q _ h => h.elim) (fun q h => h.elim) (fun r u t H1 locs1 ht hvm hp hB hz hk hS1 => kk r H1 locs1 hp (hP.kept (fun k q hq => hk q.1 (hP k q hq).lt (fun h => h))) hS1)
theorem ro_l {Pz : Int64 → Prop} (hr : va_Run p l e R s m args below meth c H locs cells slots 0 0 (F0 m pc ls st0) rest (RQl Pz a) nF) (hS : va_S A0 H0 H locs) (hP : va_P D cl w H)
    (kk : ∀ (r : Int64) (H1 : Heap) (locs1 : List Loc), Pz r → va_P D cl w H1 → va_S A0 H0 H1 locs1 → W p l e R s m args below meth c H1 locs1 cells slots Q (F0 m (pc + 3) ls (.long r :: rest))) : W p l e R s m args below meth c H locs cells slots Q (F0 m pc ls st0) :=
  va_calll hr hS (fun q _ h => h.elim) (fun q h => h.elim) (fun r u t H1 locs1 ht hvm hp hB hz hk hS1 => kk r H1 locs1 hp (hP.kept (fun k q hq => hk q.1 (hP k q hq).lt (fun h => h))) hS1)
theorem ro_z {z : Int} (hr : va_Run p l e R s m args below meth c H locs cells slots 0 0 (F0 m pc ls st0) rest (RQi (fun y => y = iI z) a) nF) (hS : va_S A0 H0 H locs) (hP : va_P D cl w H)
    (kk : ∀ (H1 : Heap) (locs1 : List Loc), va_P D cl w H1 → va_S A0 H0 H1 locs1 → W p l e R s m args below meth c H1 locs1 cells slots Q (F0 m (pc + 3) ls (.int (iI z) :: rest))) : W p l e R s m args below meth c H locs cells slots Q (F0 m pc ls st0) :=
  ro_i hr hS hP (fun r H1 locs1 hr hP hS => by subst hr; exact kk H1 locs1 hP hS)
theorem wc_i {post : Int32 → S → Prop} (hr : va_Run p l e R s m args below meth c H locs cells slots mc ms (F0 m pc ls st0) rest (va_Qi post (fun u t => va_P D cl (w' u) t.heap) (inW w) a) (inW w)) (hS : va_S A0 H0 H locs) (hA : ∀ q, inW w q → A0 q)
    (kk : ∀ (r : Int32) (u : S) (H1 : Heap) (locs1 : List Loc), post r u → va_P D cl (w' u) H1 → va_S A0 H0 H1 locs1 → (∀ q : Nat, q < H.size → ¬ inW w q → H1[q]? = H[q]?) → W p l e R s m args below meth c H1 locs1 (cells + mc) (slots + ms) Q (F0 m (pc + 3) ls (.int r :: rest))) : W p l e R s m args below meth c H locs cells slots Q (F0 m pc ls st0) :=
  va_calli hr hS (fun q _ h => hA q h) hA (fun r u t H1 locs1 ht hvm hp hB hz hk hS1 => kk r u H1 locs1 hp (by rw [← ht]; exact hB) hS1 hk)
theorem wc_l {post : Int64 → S → Prop} (hr : va_Run p l e R s m args below meth c H locs cells slots mc ms (F0 m pc ls st0) rest (va_Ql post (fun u t => va_P D cl (w' u) t.heap) (inW w) a) (inW w)) (hS : va_S A0 H0 H locs) (hA : ∀ q, inW w q → A0 q)
    (kk : ∀ (r : Int64) (u : S) (H1 : Heap) (locs1 : List Loc), post r u → va_P D cl (w' u) H1 → va_S A0 H0 H1 locs1 → (∀ q : Nat, q < H.size → ¬ inW w q → H1[q]? = H[q]?) → W p l e R s m args below meth c H1 locs1 (cells + mc) (slots + ms) Q (F0 m (pc + 3) ls (.long r :: rest))) : W p l e R s m args below meth c H locs cells slots Q (F0 m pc ls st0) :=
  va_calll hr hS (fun q _ h => hA q h) hA (fun r u t H1 locs1 ht hvm hp hB hz hk hS1 => kk r u H1 locs1 hp (by rw [← ht]; exact hB) hS1 hk)
theorem wc_v {post : S → Prop} (hr : va_Run p l e R s m args below meth c H locs cells slots mc ms (F0 m pc ls st0) rest (va_Qv post (fun u t => va_P D cl (w' u) t.heap) (inW w) a) (inW w)) (hS : va_S A0 H0 H locs) (hA : ∀ q, inW w q → A0 q)
    (kk : ∀ (u : S) (H1 : Heap) (locs1 : List Loc), post u → va_P D cl (w' u) H1 → va_S A0 H0 H1 locs1 → (∀ q : Nat, q < H.size → ¬ inW w q → H1[q]? = H[q]?) → W p l e R s m args below meth c H1 locs1 (cells + mc) (slots + ms) Q (F0 m (pc + 3) ls rest)) : W p l e R s m args below meth c H locs cells slots Q (F0 m pc ls st0) :=
  va_callv hr hS (fun q _ h => hA q h) hA (fun u t H1 locs1 ht hvm hp hB hz hk hS1 => kk u H1 locs1 hp (by rw [← ht]; exact hB) hS1 hk)
end Cs
end
section
/-! names: classes, fields in the order of their slots, methods, words of the tables -/
def RX0 : String := "TapeChains"
def RX1 : String := "TapeChainsModel"
def RL : String := "TapeChainsLaw"
def RJ13 : String := "java/lang/Long"
def TX0 : u_T := fun k => match k with
  | 0 => ("TapeChains", "levels", "[I", true)
  | 1 => ("TapeChains", "bases", "[I", true)
  | 2 => ("TapeChains", "depths", "[I", true)
  | 3 => ("TapeChains", "neededVolumes", "[J", true)
  | 4 => ("TapeChains", "starts", "[I", true)
  | 5 => ("TapeChains", "dumps", "I", false)
  | 6 => ("TapeChains", "room", "I", false)
  | _ => ("TapeChains", "lostVolumes", "J", false)
def tyX0 : Nat → FieldType := fun k => match k with
  | 0 => .array .int
  | 1 => .array .int
  | 2 => .array .int
  | 3 => .array .long
  | 4 => .array .int
  | 5 => .int
  | 6 => .int
  | _ => .long
theorem nmX0 : ∀ a, a < 8 → ∀ b, b < 8 → a ≠ b → (TX0 a).2.1 ≠ (TX0 b).2.1 := by decide +kernel
theorem tyX0_ok : ∀ k, k < 8 → parseFieldDescriptor (TX0 k).2.2.1 = some (tyX0 k) := by decide +kernel
def TX1 : u_T := fun k => match k with
  | 0 => ("TapeChainsModel", "err", "I", false)
  | 1 => ("TapeChainsModel", "level", "[I", true)
  | 2 => ("TapeChainsModel", "size", "[I", true)
  | 3 => ("TapeChainsModel", "lost", "[Z", true)
  | 4 => ("TapeChainsModel", "wanted", "[Z", true)
  | 5 => ("TapeChainsModel", "many", "I", false)
  | _ => ("TapeChainsModel", "volume", "I", false)
def tyX1 : Nat → FieldType := fun k => match k with
  | 0 => .int
  | 1 => .array .int
  | 2 => .array .int
  | 3 => .array .boolean
  | 4 => .array .boolean
  | 5 => .int
  | _ => .int
theorem nmX1 : ∀ a, a < 7 → ∀ b, b < 7 → a ≠ b → (TX1 a).2.1 ≠ (TX1 b).2.1 := by decide +kernel
theorem tyX1_ok : ∀ k, k < 7 → parseFieldDescriptor (TX1 k).2.2.1 = some (tyX1 k) := by decide +kernel
abbrev vwCl : List vw_C := [(RX0, TX0, 8), (RX1, TX1, 7)]
def wAll : List Cond := lw_tbl.filter goodWord
theorem wA_of {w : Cond} (i : Nat) (h : tables_1[i]? = some w) (g : goodWord w = true) : w ∈ wAll := List.mem_filter.mpr ⟨List.mem_append_right _ (List.mem_of_getElem? h), g⟩
theorem wA_sel {w : Cond} (h : w ∈ k2_sels lw_privs) (g : goodWord w = true) : w ∈ wAll := List.mem_filter.mpr ⟨List.mem_append_left _ h, g⟩
theorem wA_good {w : Cond} (h : w ∈ wAll) : (w.onTables && w.keeps) = true ∨ ∃ ty, w = .arrayClass ty := good_of_word (List.mem_filter.mp h).2
theorem gA {c c' : Cond} (h : c' ∈ wAll) : GoodIn (c :: wAll) (c' :: wAll) := fun w hw => (List.mem_cons.mp hw).elim (fun e => by rw [e]; exact ⟨List.mem_cons_of_mem _ h, wA_good h⟩) (fun h => ⟨List.mem_cons_of_mem _ h, wA_good h⟩)
theorem gV {c c' : Cond} {own C : String} {idx : Nat} {y : MethodName} (h1 : .methodLink own idx y ∈ wAll) (h2 : .instanceMethod y ∈ wAll) (h3 : .selects C y y ∈ wAll) (h4 : .initialized C ∈ wAll) (h : c' ∈ wAll) : GoodIn (c :: wAll) (wsV own idx C y (c' :: wAll)) := fun w hw => by
  rcases List.mem_append.mp hw with h9 | h9
  · have : w ∈ wAll := by
      simp only [List.mem_cons, List.not_mem_nil, or_false] at h9
      rcases h9 with rfl | rfl | rfl | rfl <;> assumption
    exact ⟨List.mem_cons_of_mem _ this, wA_good this⟩
  · exact gA h w h9
theorem gSt {c c' : Cond} {own : String} {idx : Nat} {y : MethodName} (h1 : .methodLink own idx y ∈ wAll) (h2 : .static y ∈ wAll) (h4 : .initialized y.cls ∈ wAll) (h : c' ∈ wAll) : GoodIn (c :: wAll) (va_wsS own idx y (c' :: wAll)) := fun w hw => by
  rcases List.mem_append.mp hw with h9 | h9
  · have : w ∈ wAll := by
      simp only [List.mem_cons, List.not_mem_nil, or_false] at h9
      rcases h9 with rfl | rfl | rfl <;> assumption
    exact ⟨List.mem_cons_of_mem _ this, wA_good this⟩
  · exact gA h w h9
theorem wA_u {C : String} {T : u_T} {N : Nat} {c : Cond} (h : ∀ k, k < N → u_lay C T k ∈ wAll) : ∀ w ∈ u_ws C T N, w ∈ (c :: wAll) := fun w hw => by
  obtain ⟨k, hk, rfl⟩ := List.mem_map.mp hw
  exact List.mem_cons_of_mem _ (h k (List.mem_range.mp hk))
abbrev cX0_init : ByteArray := prog_1_method_1_code
def yX0_init : MethodName := ⟨RX0, "<init>", "()V"⟩
def wsX0_init : List Cond := .code yX0_init cX0_init 1 none :: wAll
theorem wcX0_init : (.code yX0_init cX0_init 1 none : Cond) ∈ wAll := wA_of 15 (by decide +kernel) (by decide +kernel)
abbrev cX0_clear : ByteArray := prog_1_method_15_code
def yX0_clear : MethodName := ⟨RX0, "clear", "(I)V"⟩
def wsX0_clear : List Cond := .code yX0_clear cX0_clear 2 none :: wAll
theorem wcX0_clear : (.code yX0_clear cX0_clear 2 none : Cond) ∈ wAll := wA_of 22 (by decide +kernel) (by decide +kernel)
abbrev cL_begin : ByteArray := method_3_code
def yL_begin : MethodName := ⟨RL, "begin", "(LTapeChains;I)I"⟩
def wsL_begin : List Cond := .codeWith yL_begin cL_begin 3 (some .int) [(0, 5, 8, 13)] :: wAll
theorem wcL_begin : (.codeWith yL_begin cL_begin 3 (some .int) [(0, 5, 8, 13)] : Cond) ∈ wAll := wA_of 52 (by decide +kernel) (by decide +kernel)
abbrev cX0_begin : ByteArray := prog_1_method_2_code
def yX0_begin : MethodName := ⟨RX0, "begin", "(I)V"⟩
def wsX0_begin : List Cond := .code yX0_begin cX0_begin 2 none :: wAll
theorem wcX0_begin : (.code yX0_begin cX0_begin 2 none : Cond) ∈ wAll := wA_of 57 (by decide +kernel) (by decide +kernel)
abbrev cL_dump : ByteArray := method_4_code
def yL_dump : MethodName := ⟨RL, "dump", "(LTapeChains;II[J)I"⟩
def wsL_dump : List Cond := .codeWith yL_dump cL_dump 5 (some .int) [(0, 10, 13, 13), (0, 10, 17, 19)] :: wAll
theorem wcL_dump : (.codeWith yL_dump cL_dump 5 (some .int) [(0, 10, 13, 13), (0, 10, 17, 19)] : Cond) ∈ wAll := wA_of 128 (by decide +kernel) (by decide +kernel)
abbrev cX0_dump : ByteArray := prog_1_method_3_code
def yX0_dump : MethodName := ⟨RX0, "dump", "(II)I"⟩
def wsX0_dump : List Cond := .code yX0_dump cX0_dump 3 (some .int) :: wAll
theorem wcX0_dump : (.code yX0_dump cX0_dump 3 (some .int) : Cond) ∈ wAll := wA_of 133 (by decide +kernel) (by decide +kernel)
abbrev cX0_append : ByteArray := prog_1_method_18_code
def yX0_append : MethodName := ⟨RX0, "append", "(II)I"⟩
def wsX0_append : List Cond := .code yX0_append cX0_append 8 (some .int) :: wAll
theorem wcX0_append : (.code yX0_append cX0_append 8 (some .int) : Cond) ∈ wAll := wA_of 156 (by decide +kernel) (by decide +kernel)
abbrev cX0_latestBelow : ByteArray := prog_1_method_19_code
def yX0_latestBelow : MethodName := ⟨RX0, "latestBelow", "(I)I"⟩
def wsX0_latestBelow : List Cond := .code yX0_latestBelow cX0_latestBelow 3 (some .int) :: wAll
theorem wcX0_latestBelow : (.code yX0_latestBelow cX0_latestBelow 3 (some .int) : Cond) ∈ wAll := wA_of 160 (by decide +kernel) (by decide +kernel)
abbrev cX0_volumeAt : ByteArray := prog_1_method_20_code
def yX0_volumeAt : MethodName := ⟨RX0, "volumeAt", "(I)I"⟩
def wsX0_volumeAt : List Cond := .code yX0_volumeAt cX0_volumeAt 2 (some .int) :: wAll
theorem wcX0_volumeAt : (.code yX0_volumeAt cX0_volumeAt 2 (some .int) : Cond) ∈ wAll := wA_of 164 (by decide +kernel) (by decide +kernel)
abbrev cX0_bitsFromTo : ByteArray := prog_1_method_23_code
def yX0_bitsFromTo : MethodName := ⟨RX0, "bitsFromTo", "(II)J"⟩
def wsX0_bitsFromTo : List Cond := .code yX0_bitsFromTo cX0_bitsFromTo 2 (some .long) :: wAll
theorem wcX0_bitsFromTo : (.code yX0_bitsFromTo cX0_bitsFromTo 2 (some .long) : Cond) ∈ wAll := wA_of 167 (by decide +kernel) (by decide +kernel)
abbrev cL_drop : ByteArray := method_5_code
def yL_drop : MethodName := ⟨RL, "drop", "(LTapeChains;I)I"⟩
def wsL_drop : List Cond := .codeWith yL_drop cL_drop 3 (some .int) [(0, 5, 8, 13)] :: wAll
theorem wcL_drop : (.codeWith yL_drop cL_drop 3 (some .int) [(0, 5, 8, 13)] : Cond) ∈ wAll := wA_of 171 (by decide +kernel) (by decide +kernel)
abbrev cX0_drop : ByteArray := prog_1_method_4_code
def yX0_drop : MethodName := ⟨RX0, "drop", "(I)V"⟩
def wsX0_drop : List Cond := .code yX0_drop cX0_drop 2 none :: wAll
theorem wcX0_drop : (.code yX0_drop cX0_drop 2 none : Cond) ∈ wAll := wA_of 175 (by decide +kernel) (by decide +kernel)
abbrev cL_chain : ByteArray := method_6_code
def yL_chain : MethodName := ⟨RL, "chain", "(LTapeChains;II[J)I"⟩
def wsL_chain : List Cond := .codeWith yL_chain cL_chain 5 (some .int) [(0, 10, 13, 27), (0, 10, 17, 13)] :: wAll
theorem wcL_chain : (.codeWith yL_chain cL_chain 5 (some .int) [(0, 10, 13, 27), (0, 10, 17, 13)] : Cond) ∈ wAll := wA_of 179 (by decide +kernel) (by decide +kernel)
abbrev cX0_chain : ByteArray := prog_1_method_5_code
def yX0_chain : MethodName := ⟨RX0, "chain", "(II)I"⟩
def wsX0_chain : List Cond := .code yX0_chain cX0_chain 5 (some .int) :: wAll
theorem wcX0_chain : (.code yX0_chain cX0_chain 5 (some .int) : Cond) ∈ wAll := wA_of 184 (by decide +kernel) (by decide +kernel)
abbrev cX0_checkDump : ByteArray := prog_1_method_16_code
def yX0_checkDump : MethodName := ⟨RX0, "checkDump", "(I)V"⟩
def wsX0_checkDump : List Cond := .code yX0_checkDump cX0_checkDump 2 none :: wAll
theorem wcX0_checkDump : (.code yX0_checkDump cX0_checkDump 2 none : Cond) ∈ wAll := wA_of 188 (by decide +kernel) (by decide +kernel)
abbrev cL_depth : ByteArray := method_7_code
def yL_depth : MethodName := ⟨RL, "depth", "(LTapeChains;I[J)I"⟩
def wsL_depth : List Cond := .codeWith yL_depth cL_depth 4 (some .int) [(0, 9, 12, 27)] :: wAll
theorem wcL_depth : (.codeWith yL_depth cL_depth 4 (some .int) [(0, 9, 12, 27)] : Cond) ∈ wAll := wA_of 208 (by decide +kernel) (by decide +kernel)
abbrev cX0_depth : ByteArray := prog_1_method_6_code
def yX0_depth : MethodName := ⟨RX0, "depth", "(I)I"⟩
def wsX0_depth : List Cond := .code yX0_depth cX0_depth 2 (some .int) :: wAll
theorem wcX0_depth : (.code yX0_depth cX0_depth 2 (some .int) : Cond) ∈ wAll := wA_of 212 (by decide +kernel) (by decide +kernel)
abbrev cL_place : ByteArray := method_8_code
def yL_place : MethodName := ⟨RL, "place", "(LTapeChains;II[J)I"⟩
def wsL_place : List Cond := .codeWith yL_place cL_place 5 (some .int) [(0, 10, 13, 27), (0, 10, 17, 13)] :: wAll
theorem wcL_place : (.codeWith yL_place cL_place 5 (some .int) [(0, 10, 13, 27), (0, 10, 17, 13)] : Cond) ∈ wAll := wA_of 215 (by decide +kernel) (by decide +kernel)
abbrev cX0_place : ByteArray := prog_1_method_7_code
def yX0_place : MethodName := ⟨RX0, "place", "(II)I"⟩
def wsX0_place : List Cond := .code yX0_place cX0_place 4 (some .int) :: wAll
theorem wcX0_place : (.code yX0_place cX0_place 4 (some .int) : Cond) ∈ wAll := wA_of 219 (by decide +kernel) (by decide +kernel)
abbrev cL_owner : ByteArray := method_9_code
def yL_owner : MethodName := ⟨RL, "owner", "(LTapeChains;II[J)I"⟩
def wsL_owner : List Cond := .codeWith yL_owner cL_owner 5 (some .int) [(0, 10, 13, 13)] :: wAll
theorem wcL_owner : (.codeWith yL_owner cL_owner 5 (some .int) [(0, 10, 13, 13)] : Cond) ∈ wAll := wA_of 223 (by decide +kernel) (by decide +kernel)
abbrev cX0_owner : ByteArray := prog_1_method_8_code
def yX0_owner : MethodName := ⟨RX0, "owner", "(II)I"⟩
def wsX0_owner : List Cond := .code yX0_owner cX0_owner 3 (some .int) :: wAll
theorem wcX0_owner : (.code yX0_owner cX0_owner 3 (some .int) : Cond) ∈ wAll := wA_of 227 (by decide +kernel) (by decide +kernel)
abbrev cX0_checkVolume : ByteArray := prog_1_method_17_code
def yX0_checkVolume : MethodName := ⟨RX0, "checkVolume", "(I)V"⟩
def wsX0_checkVolume : List Cond := .code yX0_checkVolume cX0_checkVolume 2 none :: wAll
theorem wcX0_checkVolume : (.code yX0_checkVolume cX0_checkVolume 2 none : Cond) ∈ wAll := wA_of 231 (by decide +kernel) (by decide +kernel)
abbrev cX0_dumpAt : ByteArray := prog_1_method_21_code
def yX0_dumpAt : MethodName := ⟨RX0, "dumpAt", "(I)I"⟩
def wsX0_dumpAt : List Cond := .code yX0_dumpAt cX0_dumpAt 3 (some .int) :: wAll
theorem wcX0_dumpAt : (.code yX0_dumpAt cX0_dumpAt 3 (some .int) : Cond) ∈ wAll := wA_of 237 (by decide +kernel) (by decide +kernel)
abbrev cL_needs : ByteArray := method_10_code
def yL_needs : MethodName := ⟨RL, "needs", "(LTapeChains;I[J)I"⟩
def wsL_needs : List Cond := .codeWith yL_needs cL_needs 4 (some .int) [(0, 8, 11, 27)] :: wAll
theorem wcL_needs : (.codeWith yL_needs cL_needs 4 (some .int) [(0, 8, 11, 27)] : Cond) ∈ wAll := wA_of 240 (by decide +kernel) (by decide +kernel)
abbrev cX0_needs : ByteArray := prog_1_method_9_code
def yX0_needs : MethodName := ⟨RX0, "needs", "(I)J"⟩
def wsX0_needs : List Cond := .code yX0_needs cX0_needs 2 (some .long) :: wAll
theorem wcX0_needs : (.code yX0_needs cX0_needs 2 (some .long) : Cond) ∈ wAll := wA_of 244 (by decide +kernel) (by decide +kernel)
abbrev cL_lose : ByteArray := method_11_code
def yL_lose : MethodName := ⟨RL, "lose", "(LTapeChains;IZ[J)I"⟩
def wsL_lose : List Cond := .codeWith yL_lose cL_lose 5 (some .int) [(0, 17, 20, 13)] :: wAll
theorem wcL_lose : (.codeWith yL_lose cL_lose 5 (some .int) [(0, 17, 20, 13)] : Cond) ∈ wAll := wA_of 247 (by decide +kernel) (by decide +kernel)
abbrev cX0_lose : ByteArray := prog_1_method_10_code
def yX0_lose : MethodName := ⟨RX0, "lose", "(IZ)Z"⟩
def wsX0_lose : List Cond := .code yX0_lose cX0_lose 6 (some .boolean) :: wAll
theorem wcX0_lose : (.code yX0_lose cX0_lose 6 (some .boolean) : Cond) ∈ wAll := wA_of 251 (by decide +kernel) (by decide +kernel)
abbrev cL_good : ByteArray := method_12_code
def yL_good : MethodName := ⟨RL, "good", "(LTapeChains;I[J)I"⟩
def wsL_good : List Cond := .codeWith yL_good cL_good 4 (some .int) [(0, 16, 19, 27)] :: wAll
theorem wcL_good : (.codeWith yL_good cL_good 4 (some .int) [(0, 16, 19, 27)] : Cond) ∈ wAll := wA_of 254 (by decide +kernel) (by decide +kernel)
abbrev cX0_good : ByteArray := prog_1_method_11_code
def yX0_good : MethodName := ⟨RX0, "good", "(I)Z"⟩
def wsX0_good : List Cond := .code yX0_good cX0_good 2 (some .boolean) :: wAll
theorem wcX0_good : (.code yX0_good cX0_good 2 (some .boolean) : Cond) ∈ wAll := wA_of 258 (by decide +kernel) (by decide +kernel)
abbrev cX0_isGood : ByteArray := prog_1_method_24_code
def yX0_isGood : MethodName := ⟨RX0, "isGood", "(I)Z"⟩
def wsX0_isGood : List Cond := .code yX0_isGood cX0_isGood 2 (some .boolean) :: wAll
theorem wcX0_isGood : (.code yX0_isGood cX0_isGood 2 (some .boolean) : Cond) ∈ wAll := wA_of 262 (by decide +kernel) (by decide +kernel)
abbrev cL_latest : ByteArray := method_13_code
def yL_latest : MethodName := ⟨RL, "latest", "(LTapeChains;I[J)I"⟩
def wsL_latest : List Cond := .codeWith yL_latest cL_latest 4 (some .int) [(0, 9, 12, 27)] :: wAll
theorem wcL_latest : (.codeWith yL_latest cL_latest 4 (some .int) [(0, 9, 12, 27)] : Cond) ∈ wAll := wA_of 265 (by decide +kernel) (by decide +kernel)
abbrev cX0_latest : ByteArray := prog_1_method_12_code
def yX0_latest : MethodName := ⟨RX0, "latest", "(I)I"⟩
def wsX0_latest : List Cond := .code yX0_latest cX0_latest 3 (some .int) :: wAll
theorem wcX0_latest : (.code yX0_latest cX0_latest 3 (some .int) : Cond) ∈ wAll := wA_of 269 (by decide +kernel) (by decide +kernel)
abbrev cL_spare : ByteArray := method_14_code
def yL_spare : MethodName := ⟨RL, "spare", "(LTapeChains;I[J)I"⟩
def wsL_spare : List Cond := .codeWith yL_spare cL_spare 4 (some .int) [(0, 8, 11, 13)] :: wAll
theorem wcL_spare : (.codeWith yL_spare cL_spare 4 (some .int) [(0, 8, 11, 13)] : Cond) ∈ wAll := wA_of 272 (by decide +kernel) (by decide +kernel)
abbrev cX0_spare : ByteArray := prog_1_method_13_code
def yX0_spare : MethodName := ⟨RX0, "spare", "(I)J"⟩
def wsX0_spare : List Cond := .code yX0_spare cX0_spare 6 (some .long) :: wAll
theorem wcX0_spare : (.code yX0_spare cX0_spare 6 (some .long) : Cond) ∈ wAll := wA_of 276 (by decide +kernel) (by decide +kernel)
abbrev cX0_writtenVolumes : ByteArray := prog_1_method_22_code
def yX0_writtenVolumes : MethodName := ⟨RX0, "writtenVolumes", "()I"⟩
def wsX0_writtenVolumes : List Cond := .code yX0_writtenVolumes cX0_writtenVolumes 2 (some .int) :: wAll
theorem wcX0_writtenVolumes : (.code yX0_writtenVolumes cX0_writtenVolumes 2 (some .int) : Cond) ∈ wAll := wA_of 281 (by decide +kernel) (by decide +kernel)
abbrev cL_count : ByteArray := method_15_code
def yL_count : MethodName := ⟨RL, "count", "(LTapeChains;I[J)I"⟩
def wsL_count : List Cond := .codeWith yL_count cL_count 4 (some .int) [(0, 9, 12, 13)] :: wAll
theorem wcL_count : (.codeWith yL_count cL_count 4 (some .int) [(0, 9, 12, 13)] : Cond) ∈ wAll := wA_of 287 (by decide +kernel) (by decide +kernel)
abbrev cX0_count : ByteArray := prog_1_method_14_code
def yX0_count : MethodName := ⟨RX0, "count", "(I)I"⟩
def wsX0_count : List Cond := .code yX0_count cX0_count 2 (some .int) :: wAll
theorem wcX0_count : (.code yX0_count cX0_count 2 (some .int) : Cond) ∈ wAll := wA_of 291 (by decide +kernel) (by decide +kernel)
abbrev cX0_goodDumps : ByteArray := prog_1_method_25_code
def yX0_goodDumps : MethodName := ⟨RX0, "goodDumps", "()I"⟩
def wsX0_goodDumps : List Cond := .code yX0_goodDumps cX0_goodDumps 3 (some .int) :: wAll
theorem wcX0_goodDumps : (.code yX0_goodDumps cX0_goodDumps 3 (some .int) : Cond) ∈ wAll := wA_of 295 (by decide +kernel) (by decide +kernel)
abbrev cX0_longestChain : ByteArray := prog_1_method_26_code
def yX0_longestChain : MethodName := ⟨RX0, "longestChain", "()I"⟩
def wsX0_longestChain : List Cond := .code yX0_longestChain cX0_longestChain 3 (some .int) :: wAll
theorem wcX0_longestChain : (.code yX0_longestChain cX0_longestChain 3 (some .int) : Cond) ∈ wAll := wA_of 299 (by decide +kernel) (by decide +kernel)
abbrev cJ13_bitCount : ByteArray := prog_8_method_50_code
def yJ13_bitCount : MethodName := ⟨RJ13, "bitCount", "(J)I"⟩
def wsJ13_bitCount : List Cond := .code yJ13_bitCount cJ13_bitCount 2 (some .int) :: wAll
theorem wcJ13_bitCount : (.code yJ13_bitCount cJ13_bitCount 2 (some .int) : Cond) ∈ wAll := wA_of 302 (by decide +kernel) (by decide +kernel)
abbrev cX1_init : ByteArray := prog_3_method_1_code
def yX1_init : MethodName := ⟨RX1, "<init>", "()V"⟩
def wsX1_init : List Cond := .code yX1_init cX1_init 1 none :: wAll
theorem wcX1_init : (.code yX1_init cX1_init 1 none : Cond) ∈ wAll := wA_of 311 (by decide +kernel) (by decide +kernel)
abbrev cX1_thrown : ByteArray := prog_3_method_2_code
def yX1_thrown : MethodName := ⟨RX1, "thrown", "()I"⟩
def wsX1_thrown : List Cond := .code yX1_thrown cX1_thrown 1 (some .int) :: wAll
theorem wcX1_thrown : (.code yX1_thrown cX1_thrown 1 (some .int) : Cond) ∈ wAll := wA_of 339 (by decide +kernel) (by decide +kernel)
abbrev cX1_begin : ByteArray := prog_3_method_5_code
def yX1_begin : MethodName := ⟨RX1, "begin", "(I)V"⟩
def wsX1_begin : List Cond := .code yX1_begin cX1_begin 3 none :: wAll
theorem wcX1_begin : (.code yX1_begin cX1_begin 3 none : Cond) ∈ wAll := wA_of 343 (by decide +kernel) (by decide +kernel)
abbrev cX1_fails : ByteArray := prog_3_method_3_code
def yX1_fails : MethodName := ⟨RX1, "fails", "(ZI)Z"⟩
def wsX1_fails : List Cond := .code yX1_fails cX1_fails 3 (some .boolean) :: wAll
theorem wcX1_fails : (.code yX1_fails cX1_fails 3 (some .boolean) : Cond) ∈ wAll := wA_of 347 (by decide +kernel) (by decide +kernel)
abbrev cX1_dump : ByteArray := prog_3_method_7_code
def yX1_dump : MethodName := ⟨RX1, "dump", "(II)I"⟩
def wsX1_dump : List Cond := .code yX1_dump cX1_dump 3 (some .int) :: wAll
theorem wcX1_dump : (.code yX1_dump cX1_dump 3 (some .int) : Cond) ∈ wAll := wA_of 351 (by decide +kernel) (by decide +kernel)
abbrev cX1_before : ByteArray := prog_3_method_6_code
def yX1_before : MethodName := ⟨RX1, "before", "(I)I"⟩
def wsX1_before : List Cond := .code yX1_before cX1_before 4 (some .int) :: wAll
theorem wcX1_before : (.code yX1_before cX1_before 4 (some .int) : Cond) ∈ wAll := wA_of 355 (by decide +kernel) (by decide +kernel)
abbrev cX1_drop : ByteArray := prog_3_method_8_code
def yX1_drop : MethodName := ⟨RX1, "drop", "(I)V"⟩
def wsX1_drop : List Cond := .code yX1_drop cX1_drop 2 none :: wAll
theorem wcX1_drop : (.code yX1_drop cX1_drop 2 none : Cond) ∈ wAll := wA_of 359 (by decide +kernel) (by decide +kernel)
abbrev cX1_chain : ByteArray := prog_3_method_10_code
def yX1_chain : MethodName := ⟨RX1, "chain", "(II)I"⟩
def wsX1_chain : List Cond := .code yX1_chain cX1_chain 5 (some .int) :: wAll
theorem wcX1_chain : (.code yX1_chain cX1_chain 5 (some .int) : Cond) ∈ wAll := wA_of 363 (by decide +kernel) (by decide +kernel)
abbrev cX1_none : ByteArray := prog_3_method_4_code
def yX1_none : MethodName := ⟨RX1, "none", "(I)Z"⟩
def wsX1_none : List Cond := .code yX1_none cX1_none 2 (some .boolean) :: wAll
theorem wcX1_none : (.code yX1_none cX1_none 2 (some .boolean) : Cond) ∈ wAll := wA_of 367 (by decide +kernel) (by decide +kernel)
abbrev cX1_base : ByteArray := prog_3_method_9_code
def yX1_base : MethodName := ⟨RX1, "base", "(I)I"⟩
def wsX1_base : List Cond := .code yX1_base cX1_base 3 (some .int) :: wAll
theorem wcX1_base : (.code yX1_base cX1_base 3 (some .int) : Cond) ∈ wAll := wA_of 371 (by decide +kernel) (by decide +kernel)
abbrev cX1_depth : ByteArray := prog_3_method_12_code
def yX1_depth : MethodName := ⟨RX1, "depth", "(I)I"⟩
def wsX1_depth : List Cond := .code yX1_depth cX1_depth 2 (some .int) :: wAll
theorem wcX1_depth : (.code yX1_depth cX1_depth 2 (some .int) : Cond) ∈ wAll := wA_of 375 (by decide +kernel) (by decide +kernel)
abbrev cX1_depthOf : ByteArray := prog_3_method_11_code
def yX1_depthOf : MethodName := ⟨RX1, "depthOf", "(I)I"⟩
def wsX1_depthOf : List Cond := .code yX1_depthOf cX1_depthOf 4 (some .int) :: wAll
theorem wcX1_depthOf : (.code yX1_depthOf cX1_depthOf 4 (some .int) : Cond) ∈ wAll := wA_of 379 (by decide +kernel) (by decide +kernel)
abbrev cX1_place : ByteArray := prog_3_method_13_code
def yX1_place : MethodName := ⟨RX1, "place", "(II)I"⟩
def wsX1_place : List Cond := .code yX1_place cX1_place 4 (some .int) :: wAll
theorem wcX1_place : (.code yX1_place cX1_place 4 (some .int) : Cond) ∈ wAll := wA_of 383 (by decide +kernel) (by decide +kernel)
abbrev cX1_owner : ByteArray := prog_3_method_14_code
def yX1_owner : MethodName := ⟨RX1, "owner", "(II)I"⟩
def wsX1_owner : List Cond := .code yX1_owner cX1_owner 5 (some .int) :: wAll
theorem wcX1_owner : (.code yX1_owner cX1_owner 5 (some .int) : Cond) ∈ wAll := wA_of 387 (by decide +kernel) (by decide +kernel)
abbrev cX1_needs : ByteArray := prog_3_method_17_code
def yX1_needs : MethodName := ⟨RX1, "needs", "(I)J"⟩
def wsX1_needs : List Cond := .code yX1_needs cX1_needs 5 (some .long) :: wAll
theorem wcX1_needs : (.code yX1_needs cX1_needs 5 (some .long) : Cond) ∈ wAll := wA_of 391 (by decide +kernel) (by decide +kernel)
abbrev cX1_nothing : ByteArray := prog_3_method_16_code
def yX1_nothing : MethodName := ⟨RX1, "nothing", "()V"⟩
def wsX1_nothing : List Cond := .code yX1_nothing cX1_nothing 2 none :: wAll
theorem wcX1_nothing : (.code yX1_nothing cX1_nothing 2 none : Cond) ∈ wAll := wA_of 395 (by decide +kernel) (by decide +kernel)
abbrev cX1_want : ByteArray := prog_3_method_15_code
def yX1_want : MethodName := ⟨RX1, "want", "(I)V"⟩
def wsX1_want : List Cond := .code yX1_want cX1_want 5 none :: wAll
theorem wcX1_want : (.code yX1_want cX1_want 5 none : Cond) ∈ wAll := wA_of 399 (by decide +kernel) (by decide +kernel)
abbrev cX1_lose : ByteArray := prog_3_method_18_code
def yX1_lose : MethodName := ⟨RX1, "lose", "(IZ)Z"⟩
def wsX1_lose : List Cond := .code yX1_lose cX1_lose 4 (some .boolean) :: wAll
theorem wcX1_lose : (.code yX1_lose cX1_lose 4 (some .boolean) : Cond) ∈ wAll := wA_of 403 (by decide +kernel) (by decide +kernel)
abbrev cX1_good : ByteArray := prog_3_method_20_code
def yX1_good : MethodName := ⟨RX1, "good", "(I)Z"⟩
def wsX1_good : List Cond := .code yX1_good cX1_good 2 (some .boolean) :: wAll
theorem wcX1_good : (.code yX1_good cX1_good 2 (some .boolean) : Cond) ∈ wAll := wA_of 407 (by decide +kernel) (by decide +kernel)
abbrev cX1_isGood : ByteArray := prog_3_method_19_code
def yX1_isGood : MethodName := ⟨RX1, "isGood", "(I)Z"⟩
def wsX1_isGood : List Cond := .code yX1_isGood cX1_isGood 3 (some .boolean) :: wAll
theorem wcX1_isGood : (.code yX1_isGood cX1_isGood 3 (some .boolean) : Cond) ∈ wAll := wA_of 411 (by decide +kernel) (by decide +kernel)
abbrev cX1_latest : ByteArray := prog_3_method_21_code
def yX1_latest : MethodName := ⟨RX1, "latest", "(I)I"⟩
def wsX1_latest : List Cond := .code yX1_latest cX1_latest 3 (some .int) :: wAll
theorem wcX1_latest : (.code yX1_latest cX1_latest 3 (some .int) : Cond) ∈ wAll := wA_of 415 (by decide +kernel) (by decide +kernel)
abbrev cX1_spare : ByteArray := prog_3_method_23_code
def yX1_spare : MethodName := ⟨RX1, "spare", "(I)J"⟩
def wsX1_spare : List Cond := .code yX1_spare cX1_spare 5 (some .long) :: wAll
theorem wcX1_spare : (.code yX1_spare cX1_spare 5 (some .long) : Cond) ∈ wAll := wA_of 419 (by decide +kernel) (by decide +kernel)
abbrev cX1_written : ByteArray := prog_3_method_22_code
def yX1_written : MethodName := ⟨RX1, "written", "()I"⟩
def wsX1_written : List Cond := .code yX1_written cX1_written 1 (some .int) :: wAll
theorem wcX1_written : (.code yX1_written cX1_written 1 (some .int) : Cond) ∈ wAll := wA_of 423 (by decide +kernel) (by decide +kernel)
abbrev cX1_count : ByteArray := prog_3_method_24_code
def yX1_count : MethodName := ⟨RX1, "count", "(I)I"⟩
def wsX1_count : List Cond := .code yX1_count cX1_count 4 (some .int) :: wAll
theorem wcX1_count : (.code yX1_count cX1_count 4 (some .int) : Cond) ∈ wAll := wA_of 427 (by decide +kernel) (by decide +kernel)
abbrev cL_law : ByteArray := code
def yL_law : MethodName := ⟨RL, "law", "([I)Z"⟩
theorem wi_0 : (.initialized RL : Cond) ∈ wAll := wA_of 0 (by decide +kernel) (by decide +kernel)
theorem wi_1 : (.initialized RX0 : Cond) ∈ wAll := wA_of 1 (by decide +kernel) (by decide +kernel)
theorem wi_2 : (.initialized RX1 : Cond) ∈ wAll := wA_of 2 (by decide +kernel) (by decide +kernel)
theorem wi_3 : (.initialized "java/lang/Throwable" : Cond) ∈ wAll := wA_of 3 (by decide +kernel) (by decide +kernel)
theorem wi_4 : (.initialized "java/lang/Exception" : Cond) ∈ wAll := wA_of 4 (by decide +kernel) (by decide +kernel)
theorem wi_5 : (.initialized "java/lang/RuntimeException" : Cond) ∈ wAll := wA_of 5 (by decide +kernel) (by decide +kernel)
theorem wi_6 : (.initialized "java/lang/IllegalArgumentException" : Cond) ∈ wAll := wA_of 6 (by decide +kernel) (by decide +kernel)
theorem wi_7 : (.initialized "java/lang/IllegalStateException" : Cond) ∈ wAll := wA_of 7 (by decide +kernel) (by decide +kernel)
theorem wi_8 : (.initialized "java/lang/IndexOutOfBoundsException" : Cond) ∈ wAll := wA_of 8 (by decide +kernel) (by decide +kernel)
theorem wi_9 : (.initialized "java/lang/Math" : Cond) ∈ wAll := wA_of 9 (by decide +kernel) (by decide +kernel)
theorem wi_10 : (.initialized RJ13 : Cond) ∈ wAll := wA_of 10 (by decide +kernel) (by decide +kernel)
theorem wkL_8 : (.classLink RL 8 RX0 : Cond) ∈ wAll := wA_of 11 (by decide +kernel) (by decide +kernel)
theorem wnX0 : (.instantiable RX0 8 : Cond) ∈ wAll := wA_of 12 (by decide +kernel) (by decide +kernel)
theorem wlL_60 : (.methodLink RL 60 yX0_init : Cond) ∈ wAll := wA_of 13 (by decide +kernel) (by decide +kernel)
theorem wo_X0_init : (.instanceMethod yX0_init : Cond) ∈ wAll := wA_of 14 (by decide +kernel) (by decide +kernel)
theorem wlX0_1 : (.methodLink RX0 1 objectInit : Cond) ∈ wAll := wA_of 16 (by decide +kernel) (by decide +kernel)
theorem wo_objectInit : (.instanceMethod objectInit : Cond) ∈ wAll := wA_of 17 (by decide +kernel) (by decide +kernel)
theorem wlX0_26 : (.methodLink RX0 26 yX0_clear : Cond) ∈ wAll := wA_of 19 (by decide +kernel) (by decide +kernel)
theorem wo_X0_clear : (.instanceMethod yX0_clear : Cond) ∈ wAll := wA_of 21 (by decide +kernel) (by decide +kernel)
theorem wfX0_9 : (.fieldLink RX0 9 "TapeChains" "levels" "[I" : Cond) ∈ wAll := wA_of 23 (by decide +kernel) (by decide +kernel)
theorem wfX0_13 : (.fieldLink RX0 13 "TapeChains" "bases" "[I" : Cond) ∈ wAll := wA_of 24 (by decide +kernel) (by decide +kernel)
theorem wfX0_16 : (.fieldLink RX0 16 "TapeChains" "depths" "[I" : Cond) ∈ wAll := wA_of 25 (by decide +kernel) (by decide +kernel)
theorem wfX0_19 : (.fieldLink RX0 19 "TapeChains" "neededVolumes" "[J" : Cond) ∈ wAll := wA_of 26 (by decide +kernel) (by decide +kernel)
theorem wfX0_23 : (.fieldLink RX0 23 "TapeChains" "starts" "[I" : Cond) ∈ wAll := wA_of 27 (by decide +kernel) (by decide +kernel)
theorem wfX0_41 : (.fieldLink RX0 41 "TapeChains" "dumps" "I" : Cond) ∈ wAll := wA_of 28 (by decide +kernel) (by decide +kernel)
theorem wfX0_50 : (.fieldLink RX0 50 "TapeChains" "room" "I" : Cond) ∈ wAll := wA_of 29 (by decide +kernel) (by decide +kernel)
theorem wfX0_80 : (.fieldLink RX0 80 "TapeChains" "lostVolumes" "J" : Cond) ∈ wAll := wA_of 30 (by decide +kernel) (by decide +kernel)
theorem wy_int : (.arrayClass .int : Cond) ∈ wAll := wA_of 48 (by decide +kernel) (by decide +kernel)
theorem wy_long : (.arrayClass .long : Cond) ∈ wAll := wA_of 49 (by decide +kernel) (by decide +kernel)
theorem wlL_64 : (.methodLink RL 64 yL_begin : Cond) ∈ wAll := wA_of 50 (by decide +kernel) (by decide +kernel)
theorem wt_L_begin : (.static yL_begin : Cond) ∈ wAll := wA_of 51 (by decide +kernel) (by decide +kernel)
theorem wkL_13 : (.classLink RL 13 "java/lang/IllegalArgumentException" : Cond) ∈ wAll := wA_of 53 (by decide +kernel) (by decide +kernel)
theorem wlL_7 : (.methodLink RL 7 yX0_begin : Cond) ∈ wAll := wA_of 54 (by decide +kernel) (by decide +kernel)
theorem wo_X0_begin : (.instanceMethod yX0_begin : Cond) ∈ wAll := wA_of 55 (by decide +kernel) (by decide +kernel)
theorem wz_X0_begin : (.selects RX0 yX0_begin yX0_begin : Cond) ∈ wAll := wA_of 56 (by decide +kernel) (by decide +kernel)
theorem wkX0_30 : (.classLink RX0 30 "java/lang/IllegalArgumentException" : Cond) ∈ wAll := wA_of 58 (by decide +kernel) (by decide +kernel)
theorem wy_byte : (.arrayClass .byte : Cond) ∈ wAll := wA_of 125 (by decide +kernel) (by decide +kernel)
theorem wlL_74 : (.methodLink RL 74 yL_dump : Cond) ∈ wAll := wA_of 126 (by decide +kernel) (by decide +kernel)
theorem wt_L_dump : (.static yL_dump : Cond) ∈ wAll := wA_of 127 (by decide +kernel) (by decide +kernel)
theorem wkL_19 : (.classLink RL 19 "java/lang/IllegalStateException" : Cond) ∈ wAll := wA_of 129 (by decide +kernel) (by decide +kernel)
theorem wlL_15 : (.methodLink RL 15 yX0_dump : Cond) ∈ wAll := wA_of 130 (by decide +kernel) (by decide +kernel)
theorem wo_X0_dump : (.instanceMethod yX0_dump : Cond) ∈ wAll := wA_of 131 (by decide +kernel) (by decide +kernel)
theorem wz_X0_dump : (.selects RX0 yX0_dump yX0_dump : Cond) ∈ wAll := wA_of 132 (by decide +kernel) (by decide +kernel)
theorem wkX0_45 : (.classLink RX0 45 "java/lang/IllegalStateException" : Cond) ∈ wAll := wA_of 136 (by decide +kernel) (by decide +kernel)
theorem wlX0_55 : (.methodLink RX0 55 yX0_append : Cond) ∈ wAll := wA_of 153 (by decide +kernel) (by decide +kernel)
theorem wo_X0_append : (.instanceMethod yX0_append : Cond) ∈ wAll := wA_of 155 (by decide +kernel) (by decide +kernel)
theorem wlX0_126 : (.methodLink RX0 126 yX0_latestBelow : Cond) ∈ wAll := wA_of 157 (by decide +kernel) (by decide +kernel)
theorem wo_X0_latestBelow : (.instanceMethod yX0_latestBelow : Cond) ∈ wAll := wA_of 159 (by decide +kernel) (by decide +kernel)
theorem wlX0_68 : (.methodLink RX0 68 yX0_volumeAt : Cond) ∈ wAll := wA_of 161 (by decide +kernel) (by decide +kernel)
theorem wo_X0_volumeAt : (.instanceMethod yX0_volumeAt : Cond) ∈ wAll := wA_of 163 (by decide +kernel) (by decide +kernel)
theorem wlX0_96 : (.methodLink RX0 96 yX0_bitsFromTo : Cond) ∈ wAll := wA_of 165 (by decide +kernel) (by decide +kernel)
theorem wt_X0_bitsFromTo : (.static yX0_bitsFromTo : Cond) ∈ wAll := wA_of 166 (by decide +kernel) (by decide +kernel)
theorem wjX0_84 : (.constantLong RX0 84 (-1) : Cond) ∈ wAll := wA_of 168 (by decide +kernel) (by decide +kernel)
theorem wlL_78 : (.methodLink RL 78 yL_drop : Cond) ∈ wAll := wA_of 169 (by decide +kernel) (by decide +kernel)
theorem wt_L_drop : (.static yL_drop : Cond) ∈ wAll := wA_of 170 (by decide +kernel) (by decide +kernel)
theorem wlL_21 : (.methodLink RL 21 yX0_drop : Cond) ∈ wAll := wA_of 172 (by decide +kernel) (by decide +kernel)
theorem wo_X0_drop : (.instanceMethod yX0_drop : Cond) ∈ wAll := wA_of 173 (by decide +kernel) (by decide +kernel)
theorem wz_X0_drop : (.selects RX0 yX0_drop yX0_drop : Cond) ∈ wAll := wA_of 174 (by decide +kernel) (by decide +kernel)
theorem wlL_81 : (.methodLink RL 81 yL_chain : Cond) ∈ wAll := wA_of 177 (by decide +kernel) (by decide +kernel)
theorem wt_L_chain : (.static yL_chain : Cond) ∈ wAll := wA_of 178 (by decide +kernel) (by decide +kernel)
theorem wkL_27 : (.classLink RL 27 "java/lang/IndexOutOfBoundsException" : Cond) ∈ wAll := wA_of 180 (by decide +kernel) (by decide +kernel)
theorem wlL_24 : (.methodLink RL 24 yX0_chain : Cond) ∈ wAll := wA_of 181 (by decide +kernel) (by decide +kernel)
theorem wo_X0_chain : (.instanceMethod yX0_chain : Cond) ∈ wAll := wA_of 182 (by decide +kernel) (by decide +kernel)
theorem wz_X0_chain : (.selects RX0 yX0_chain yX0_chain : Cond) ∈ wAll := wA_of 183 (by decide +kernel) (by decide +kernel)
theorem wlX0_61 : (.methodLink RX0 61 yX0_checkDump : Cond) ∈ wAll := wA_of 185 (by decide +kernel) (by decide +kernel)
theorem wo_X0_checkDump : (.instanceMethod yX0_checkDump : Cond) ∈ wAll := wA_of 187 (by decide +kernel) (by decide +kernel)
theorem wkX0_119 : (.classLink RX0 119 "java/lang/IndexOutOfBoundsException" : Cond) ∈ wAll := wA_of 189 (by decide +kernel) (by decide +kernel)
theorem wlL_84 : (.methodLink RL 84 yL_depth : Cond) ∈ wAll := wA_of 206 (by decide +kernel) (by decide +kernel)
theorem wt_L_depth : (.static yL_depth : Cond) ∈ wAll := wA_of 207 (by decide +kernel) (by decide +kernel)
theorem wlL_29 : (.methodLink RL 29 yX0_depth : Cond) ∈ wAll := wA_of 209 (by decide +kernel) (by decide +kernel)
theorem wo_X0_depth : (.instanceMethod yX0_depth : Cond) ∈ wAll := wA_of 210 (by decide +kernel) (by decide +kernel)
theorem wz_X0_depth : (.selects RX0 yX0_depth yX0_depth : Cond) ∈ wAll := wA_of 211 (by decide +kernel) (by decide +kernel)
theorem wlL_88 : (.methodLink RL 88 yL_place : Cond) ∈ wAll := wA_of 213 (by decide +kernel) (by decide +kernel)
theorem wt_L_place : (.static yL_place : Cond) ∈ wAll := wA_of 214 (by decide +kernel) (by decide +kernel)
theorem wlL_33 : (.methodLink RL 33 yX0_place : Cond) ∈ wAll := wA_of 216 (by decide +kernel) (by decide +kernel)
theorem wo_X0_place : (.instanceMethod yX0_place : Cond) ∈ wAll := wA_of 217 (by decide +kernel) (by decide +kernel)
theorem wz_X0_place : (.selects RX0 yX0_place yX0_place : Cond) ∈ wAll := wA_of 218 (by decide +kernel) (by decide +kernel)
theorem wlL_91 : (.methodLink RL 91 yL_owner : Cond) ∈ wAll := wA_of 221 (by decide +kernel) (by decide +kernel)
theorem wt_L_owner : (.static yL_owner : Cond) ∈ wAll := wA_of 222 (by decide +kernel) (by decide +kernel)
theorem wlL_36 : (.methodLink RL 36 yX0_owner : Cond) ∈ wAll := wA_of 224 (by decide +kernel) (by decide +kernel)
theorem wo_X0_owner : (.instanceMethod yX0_owner : Cond) ∈ wAll := wA_of 225 (by decide +kernel) (by decide +kernel)
theorem wz_X0_owner : (.selects RX0 yX0_owner yX0_owner : Cond) ∈ wAll := wA_of 226 (by decide +kernel) (by decide +kernel)
theorem wlX0_72 : (.methodLink RX0 72 yX0_checkVolume : Cond) ∈ wAll := wA_of 228 (by decide +kernel) (by decide +kernel)
theorem wo_X0_checkVolume : (.instanceMethod yX0_checkVolume : Cond) ∈ wAll := wA_of 230 (by decide +kernel) (by decide +kernel)
theorem wlX0_77 : (.methodLink RX0 77 yX0_dumpAt : Cond) ∈ wAll := wA_of 234 (by decide +kernel) (by decide +kernel)
theorem wo_X0_dumpAt : (.instanceMethod yX0_dumpAt : Cond) ∈ wAll := wA_of 236 (by decide +kernel) (by decide +kernel)
theorem wlL_94 : (.methodLink RL 94 yL_needs : Cond) ∈ wAll := wA_of 238 (by decide +kernel) (by decide +kernel)
theorem wt_L_needs : (.static yL_needs : Cond) ∈ wAll := wA_of 239 (by decide +kernel) (by decide +kernel)
theorem wlL_39 : (.methodLink RL 39 yX0_needs : Cond) ∈ wAll := wA_of 241 (by decide +kernel) (by decide +kernel)
theorem wo_X0_needs : (.instanceMethod yX0_needs : Cond) ∈ wAll := wA_of 242 (by decide +kernel) (by decide +kernel)
theorem wz_X0_needs : (.selects RX0 yX0_needs yX0_needs : Cond) ∈ wAll := wA_of 243 (by decide +kernel) (by decide +kernel)
theorem wlL_97 : (.methodLink RL 97 yL_lose : Cond) ∈ wAll := wA_of 245 (by decide +kernel) (by decide +kernel)
theorem wt_L_lose : (.static yL_lose : Cond) ∈ wAll := wA_of 246 (by decide +kernel) (by decide +kernel)
theorem wlL_43 : (.methodLink RL 43 yX0_lose : Cond) ∈ wAll := wA_of 248 (by decide +kernel) (by decide +kernel)
theorem wo_X0_lose : (.instanceMethod yX0_lose : Cond) ∈ wAll := wA_of 249 (by decide +kernel) (by decide +kernel)
theorem wz_X0_lose : (.selects RX0 yX0_lose yX0_lose : Cond) ∈ wAll := wA_of 250 (by decide +kernel) (by decide +kernel)
theorem wlL_101 : (.methodLink RL 101 yL_good : Cond) ∈ wAll := wA_of 252 (by decide +kernel) (by decide +kernel)
theorem wt_L_good : (.static yL_good : Cond) ∈ wAll := wA_of 253 (by decide +kernel) (by decide +kernel)
theorem wlL_47 : (.methodLink RL 47 yX0_good : Cond) ∈ wAll := wA_of 255 (by decide +kernel) (by decide +kernel)
theorem wo_X0_good : (.instanceMethod yX0_good : Cond) ∈ wAll := wA_of 256 (by decide +kernel) (by decide +kernel)
theorem wz_X0_good : (.selects RX0 yX0_good yX0_good : Cond) ∈ wAll := wA_of 257 (by decide +kernel) (by decide +kernel)
theorem wlX0_86 : (.methodLink RX0 86 yX0_isGood : Cond) ∈ wAll := wA_of 259 (by decide +kernel) (by decide +kernel)
theorem wo_X0_isGood : (.instanceMethod yX0_isGood : Cond) ∈ wAll := wA_of 261 (by decide +kernel) (by decide +kernel)
theorem wlL_104 : (.methodLink RL 104 yL_latest : Cond) ∈ wAll := wA_of 263 (by decide +kernel) (by decide +kernel)
theorem wt_L_latest : (.static yL_latest : Cond) ∈ wAll := wA_of 264 (by decide +kernel) (by decide +kernel)
theorem wlL_51 : (.methodLink RL 51 yX0_latest : Cond) ∈ wAll := wA_of 266 (by decide +kernel) (by decide +kernel)
theorem wo_X0_latest : (.instanceMethod yX0_latest : Cond) ∈ wAll := wA_of 267 (by decide +kernel) (by decide +kernel)
theorem wz_X0_latest : (.selects RX0 yX0_latest yX0_latest : Cond) ∈ wAll := wA_of 268 (by decide +kernel) (by decide +kernel)
theorem wlL_107 : (.methodLink RL 107 yL_spare : Cond) ∈ wAll := wA_of 270 (by decide +kernel) (by decide +kernel)
theorem wt_L_spare : (.static yL_spare : Cond) ∈ wAll := wA_of 271 (by decide +kernel) (by decide +kernel)
theorem wlL_54 : (.methodLink RL 54 yX0_spare : Cond) ∈ wAll := wA_of 273 (by decide +kernel) (by decide +kernel)
theorem wo_X0_spare : (.instanceMethod yX0_spare : Cond) ∈ wAll := wA_of 274 (by decide +kernel) (by decide +kernel)
theorem wz_X0_spare : (.selects RX0 yX0_spare yX0_spare : Cond) ∈ wAll := wA_of 275 (by decide +kernel) (by decide +kernel)
theorem wlX0_92 : (.methodLink RX0 92 yX0_writtenVolumes : Cond) ∈ wAll := wA_of 278 (by decide +kernel) (by decide +kernel)
theorem wo_X0_writtenVolumes : (.instanceMethod yX0_writtenVolumes : Cond) ∈ wAll := wA_of 280 (by decide +kernel) (by decide +kernel)
theorem wlL_110 : (.methodLink RL 110 yL_count : Cond) ∈ wAll := wA_of 285 (by decide +kernel) (by decide +kernel)
theorem wt_L_count : (.static yL_count : Cond) ∈ wAll := wA_of 286 (by decide +kernel) (by decide +kernel)
theorem wlL_57 : (.methodLink RL 57 yX0_count : Cond) ∈ wAll := wA_of 288 (by decide +kernel) (by decide +kernel)
theorem wo_X0_count : (.instanceMethod yX0_count : Cond) ∈ wAll := wA_of 289 (by decide +kernel) (by decide +kernel)
theorem wz_X0_count : (.selects RX0 yX0_count yX0_count : Cond) ∈ wAll := wA_of 290 (by decide +kernel) (by decide +kernel)
theorem wlX0_105 : (.methodLink RX0 105 yX0_goodDumps : Cond) ∈ wAll := wA_of 292 (by decide +kernel) (by decide +kernel)
theorem wo_X0_goodDumps : (.instanceMethod yX0_goodDumps : Cond) ∈ wAll := wA_of 294 (by decide +kernel) (by decide +kernel)
theorem wlX0_108 : (.methodLink RX0 108 yX0_longestChain : Cond) ∈ wAll := wA_of 296 (by decide +kernel) (by decide +kernel)
theorem wo_X0_longestChain : (.instanceMethod yX0_longestChain : Cond) ∈ wAll := wA_of 298 (by decide +kernel) (by decide +kernel)
theorem wlX0_111 : (.methodLink RX0 111 yJ13_bitCount : Cond) ∈ wAll := wA_of 300 (by decide +kernel) (by decide +kernel)
theorem wt_J13_bitCount : (.static yJ13_bitCount : Cond) ∈ wAll := wA_of 301 (by decide +kernel) (by decide +kernel)
theorem wjJ13_314 : (.constantLong RJ13 314 (6148914691236517205) : Cond) ∈ wAll := wA_of 303 (by decide +kernel) (by decide +kernel)
theorem wjJ13_316 : (.constantLong RJ13 316 (3689348814741910323) : Cond) ∈ wAll := wA_of 304 (by decide +kernel) (by decide +kernel)
theorem wjJ13_318 : (.constantLong RJ13 318 (1085102592571150095) : Cond) ∈ wAll := wA_of 305 (by decide +kernel) (by decide +kernel)
theorem wkL_61 : (.classLink RL 61 RX1 : Cond) ∈ wAll := wA_of 307 (by decide +kernel) (by decide +kernel)
theorem wnX1 : (.instantiable RX1 7 : Cond) ∈ wAll := wA_of 308 (by decide +kernel) (by decide +kernel)
theorem wlL_63 : (.methodLink RL 63 yX1_init : Cond) ∈ wAll := wA_of 309 (by decide +kernel) (by decide +kernel)
theorem wo_X1_init : (.instanceMethod yX1_init : Cond) ∈ wAll := wA_of 310 (by decide +kernel) (by decide +kernel)
theorem wlX1_1 : (.methodLink RX1 1 objectInit : Cond) ∈ wAll := wA_of 312 (by decide +kernel) (by decide +kernel)
theorem wfX1_27 : (.fieldLink RX1 27 "TapeChainsModel" "err" "I" : Cond) ∈ wAll := wA_of 313 (by decide +kernel) (by decide +kernel)
theorem wfX1_7 : (.fieldLink RX1 7 "TapeChainsModel" "level" "[I" : Cond) ∈ wAll := wA_of 314 (by decide +kernel) (by decide +kernel)
theorem wfX1_13 : (.fieldLink RX1 13 "TapeChainsModel" "size" "[I" : Cond) ∈ wAll := wA_of 315 (by decide +kernel) (by decide +kernel)
theorem wfX1_16 : (.fieldLink RX1 16 "TapeChainsModel" "lost" "[Z" : Cond) ∈ wAll := wA_of 316 (by decide +kernel) (by decide +kernel)
theorem wfX1_20 : (.fieldLink RX1 20 "TapeChainsModel" "wanted" "[Z" : Cond) ∈ wAll := wA_of 317 (by decide +kernel) (by decide +kernel)
theorem wfX1_30 : (.fieldLink RX1 30 "TapeChainsModel" "many" "I" : Cond) ∈ wAll := wA_of 318 (by decide +kernel) (by decide +kernel)
theorem wfX1_23 : (.fieldLink RX1 23 "TapeChainsModel" "volume" "I" : Cond) ∈ wAll := wA_of 319 (by decide +kernel) (by decide +kernel)
theorem wy_boolean : (.arrayClass .boolean : Cond) ∈ wAll := wA_of 335 (by decide +kernel) (by decide +kernel)
theorem wlL_70 : (.methodLink RL 70 yX1_thrown : Cond) ∈ wAll := wA_of 336 (by decide +kernel) (by decide +kernel)
theorem wo_X1_thrown : (.instanceMethod yX1_thrown : Cond) ∈ wAll := wA_of 337 (by decide +kernel) (by decide +kernel)
theorem wz_X1_thrown : (.selects RX1 yX1_thrown yX1_thrown : Cond) ∈ wAll := wA_of 338 (by decide +kernel) (by decide +kernel)
theorem wlL_69 : (.methodLink RL 69 yX1_begin : Cond) ∈ wAll := wA_of 340 (by decide +kernel) (by decide +kernel)
theorem wo_X1_begin : (.instanceMethod yX1_begin : Cond) ∈ wAll := wA_of 341 (by decide +kernel) (by decide +kernel)
theorem wz_X1_begin : (.selects RX1 yX1_begin yX1_begin : Cond) ∈ wAll := wA_of 342 (by decide +kernel) (by decide +kernel)
theorem wlX1_33 : (.methodLink RX1 33 yX1_fails : Cond) ∈ wAll := wA_of 344 (by decide +kernel) (by decide +kernel)
theorem wo_X1_fails : (.instanceMethod yX1_fails : Cond) ∈ wAll := wA_of 346 (by decide +kernel) (by decide +kernel)
theorem wlL_77 : (.methodLink RL 77 yX1_dump : Cond) ∈ wAll := wA_of 348 (by decide +kernel) (by decide +kernel)
theorem wo_X1_dump : (.instanceMethod yX1_dump : Cond) ∈ wAll := wA_of 349 (by decide +kernel) (by decide +kernel)
theorem wz_X1_dump : (.selects RX1 yX1_dump yX1_dump : Cond) ∈ wAll := wA_of 350 (by decide +kernel) (by decide +kernel)
theorem wlX1_37 : (.methodLink RX1 37 yX1_before : Cond) ∈ wAll := wA_of 352 (by decide +kernel) (by decide +kernel)
theorem wo_X1_before : (.instanceMethod yX1_before : Cond) ∈ wAll := wA_of 354 (by decide +kernel) (by decide +kernel)
theorem wlL_80 : (.methodLink RL 80 yX1_drop : Cond) ∈ wAll := wA_of 356 (by decide +kernel) (by decide +kernel)
theorem wo_X1_drop : (.instanceMethod yX1_drop : Cond) ∈ wAll := wA_of 357 (by decide +kernel) (by decide +kernel)
theorem wz_X1_drop : (.selects RX1 yX1_drop yX1_drop : Cond) ∈ wAll := wA_of 358 (by decide +kernel) (by decide +kernel)
theorem wlL_83 : (.methodLink RL 83 yX1_chain : Cond) ∈ wAll := wA_of 360 (by decide +kernel) (by decide +kernel)
theorem wo_X1_chain : (.instanceMethod yX1_chain : Cond) ∈ wAll := wA_of 361 (by decide +kernel) (by decide +kernel)
theorem wz_X1_chain : (.selects RX1 yX1_chain yX1_chain : Cond) ∈ wAll := wA_of 362 (by decide +kernel) (by decide +kernel)
theorem wlX1_41 : (.methodLink RX1 41 yX1_none : Cond) ∈ wAll := wA_of 364 (by decide +kernel) (by decide +kernel)
theorem wo_X1_none : (.instanceMethod yX1_none : Cond) ∈ wAll := wA_of 366 (by decide +kernel) (by decide +kernel)
theorem wlX1_45 : (.methodLink RX1 45 yX1_base : Cond) ∈ wAll := wA_of 368 (by decide +kernel) (by decide +kernel)
theorem wo_X1_base : (.instanceMethod yX1_base : Cond) ∈ wAll := wA_of 370 (by decide +kernel) (by decide +kernel)
theorem wlL_87 : (.methodLink RL 87 yX1_depth : Cond) ∈ wAll := wA_of 372 (by decide +kernel) (by decide +kernel)
theorem wo_X1_depth : (.instanceMethod yX1_depth : Cond) ∈ wAll := wA_of 373 (by decide +kernel) (by decide +kernel)
theorem wz_X1_depth : (.selects RX1 yX1_depth yX1_depth : Cond) ∈ wAll := wA_of 374 (by decide +kernel) (by decide +kernel)
theorem wlX1_48 : (.methodLink RX1 48 yX1_depthOf : Cond) ∈ wAll := wA_of 376 (by decide +kernel) (by decide +kernel)
theorem wo_X1_depthOf : (.instanceMethod yX1_depthOf : Cond) ∈ wAll := wA_of 378 (by decide +kernel) (by decide +kernel)
theorem wlL_90 : (.methodLink RL 90 yX1_place : Cond) ∈ wAll := wA_of 380 (by decide +kernel) (by decide +kernel)
theorem wo_X1_place : (.instanceMethod yX1_place : Cond) ∈ wAll := wA_of 381 (by decide +kernel) (by decide +kernel)
theorem wz_X1_place : (.selects RX1 yX1_place yX1_place : Cond) ∈ wAll := wA_of 382 (by decide +kernel) (by decide +kernel)
theorem wlL_93 : (.methodLink RL 93 yX1_owner : Cond) ∈ wAll := wA_of 384 (by decide +kernel) (by decide +kernel)
theorem wo_X1_owner : (.instanceMethod yX1_owner : Cond) ∈ wAll := wA_of 385 (by decide +kernel) (by decide +kernel)
theorem wz_X1_owner : (.selects RX1 yX1_owner yX1_owner : Cond) ∈ wAll := wA_of 386 (by decide +kernel) (by decide +kernel)
theorem wlL_96 : (.methodLink RL 96 yX1_needs : Cond) ∈ wAll := wA_of 388 (by decide +kernel) (by decide +kernel)
theorem wo_X1_needs : (.instanceMethod yX1_needs : Cond) ∈ wAll := wA_of 389 (by decide +kernel) (by decide +kernel)
theorem wz_X1_needs : (.selects RX1 yX1_needs yX1_needs : Cond) ∈ wAll := wA_of 390 (by decide +kernel) (by decide +kernel)
theorem wlX1_51 : (.methodLink RX1 51 yX1_nothing : Cond) ∈ wAll := wA_of 392 (by decide +kernel) (by decide +kernel)
theorem wo_X1_nothing : (.instanceMethod yX1_nothing : Cond) ∈ wAll := wA_of 394 (by decide +kernel) (by decide +kernel)
theorem wlX1_54 : (.methodLink RX1 54 yX1_want : Cond) ∈ wAll := wA_of 396 (by decide +kernel) (by decide +kernel)
theorem wo_X1_want : (.instanceMethod yX1_want : Cond) ∈ wAll := wA_of 398 (by decide +kernel) (by decide +kernel)
theorem wlL_100 : (.methodLink RL 100 yX1_lose : Cond) ∈ wAll := wA_of 400 (by decide +kernel) (by decide +kernel)
theorem wo_X1_lose : (.instanceMethod yX1_lose : Cond) ∈ wAll := wA_of 401 (by decide +kernel) (by decide +kernel)
theorem wz_X1_lose : (.selects RX1 yX1_lose yX1_lose : Cond) ∈ wAll := wA_of 402 (by decide +kernel) (by decide +kernel)
theorem wlL_103 : (.methodLink RL 103 yX1_good : Cond) ∈ wAll := wA_of 404 (by decide +kernel) (by decide +kernel)
theorem wo_X1_good : (.instanceMethod yX1_good : Cond) ∈ wAll := wA_of 405 (by decide +kernel) (by decide +kernel)
theorem wz_X1_good : (.selects RX1 yX1_good yX1_good : Cond) ∈ wAll := wA_of 406 (by decide +kernel) (by decide +kernel)
theorem wlX1_58 : (.methodLink RX1 58 yX1_isGood : Cond) ∈ wAll := wA_of 408 (by decide +kernel) (by decide +kernel)
theorem wo_X1_isGood : (.instanceMethod yX1_isGood : Cond) ∈ wAll := wA_of 410 (by decide +kernel) (by decide +kernel)
theorem wlL_106 : (.methodLink RL 106 yX1_latest : Cond) ∈ wAll := wA_of 412 (by decide +kernel) (by decide +kernel)
theorem wo_X1_latest : (.instanceMethod yX1_latest : Cond) ∈ wAll := wA_of 413 (by decide +kernel) (by decide +kernel)
theorem wz_X1_latest : (.selects RX1 yX1_latest yX1_latest : Cond) ∈ wAll := wA_of 414 (by decide +kernel) (by decide +kernel)
theorem wlL_109 : (.methodLink RL 109 yX1_spare : Cond) ∈ wAll := wA_of 416 (by decide +kernel) (by decide +kernel)
theorem wo_X1_spare : (.instanceMethod yX1_spare : Cond) ∈ wAll := wA_of 417 (by decide +kernel) (by decide +kernel)
theorem wz_X1_spare : (.selects RX1 yX1_spare yX1_spare : Cond) ∈ wAll := wA_of 418 (by decide +kernel) (by decide +kernel)
theorem wlX1_61 : (.methodLink RX1 61 yX1_written : Cond) ∈ wAll := wA_of 420 (by decide +kernel) (by decide +kernel)
theorem wo_X1_written : (.instanceMethod yX1_written : Cond) ∈ wAll := wA_of 422 (by decide +kernel) (by decide +kernel)
theorem wlL_112 : (.methodLink RL 112 yX1_count : Cond) ∈ wAll := wA_of 424 (by decide +kernel) (by decide +kernel)
theorem wo_X1_count : (.instanceMethod yX1_count : Cond) ∈ wAll := wA_of 425 (by decide +kernel) (by decide +kernel)
theorem wz_X1_count : (.selects RX1 yX1_count yX1_count : Cond) ∈ wAll := wA_of 426 (by decide +kernel) (by decide +kernel)
theorem wc_obj : (.code objectInit ⟨#[0xb1]⟩ 1 none : Cond) ∈ wAll := wA_of 18 (by decide +kernel) (by decide +kernel)
theorem wuX0 : ∀ k, k < 8 → u_lay RX0 TX0 k ∈ wAll := fun k hk => by
  have h : k = 0 ∨ k = 1 ∨ k = 2 ∨ k = 3 ∨ k = 4 ∨ k = 5 ∨ k = 6 ∨ k = 7 := by omega
  rcases h with rfl | rfl | rfl | rfl | rfl | rfl | rfl | rfl
  · exact wA_of 31 (by decide +kernel) (by decide +kernel)
  · exact wA_of 33 (by decide +kernel) (by decide +kernel)
  · exact wA_of 35 (by decide +kernel) (by decide +kernel)
  · exact wA_of 37 (by decide +kernel) (by decide +kernel)
  · exact wA_of 39 (by decide +kernel) (by decide +kernel)
  · exact wA_of 41 (by decide +kernel) (by decide +kernel)
  · exact wA_of 43 (by decide +kernel) (by decide +kernel)
  · exact wA_of 45 (by decide +kernel) (by decide +kernel)
theorem wuX1 : ∀ k, k < 7 → u_lay RX1 TX1 k ∈ wAll := fun k hk => by
  have h : k = 0 ∨ k = 1 ∨ k = 2 ∨ k = 3 ∨ k = 4 ∨ k = 5 ∨ k = 6 := by omega
  rcases h with rfl | rfl | rfl | rfl | rfl | rfl | rfl
  · exact wA_of 320 (by decide +kernel) (by decide +kernel)
  · exact wA_of 322 (by decide +kernel) (by decide +kernel)
  · exact wA_of 324 (by decide +kernel) (by decide +kernel)
  · exact wA_of 326 (by decide +kernel) (by decide +kernel)
  · exact wA_of 328 (by decide +kernel) (by decide +kernel)
  · exact wA_of 330 (by decide +kernel) (by decide +kernel)
  · exact wA_of 332 (by decide +kernel) (by decide +kernel)
theorem wz_X0_clear : (.selects RX0 yX0_clear yX0_clear : Cond) ∈ wAll := wA_sel (by decide +kernel) (by decide +kernel)
theorem wz_X0_append : (.selects RX0 yX0_append yX0_append : Cond) ∈ wAll := wA_sel (by decide +kernel) (by decide +kernel)
theorem wz_X0_latestBelow : (.selects RX0 yX0_latestBelow yX0_latestBelow : Cond) ∈ wAll := wA_sel (by decide +kernel) (by decide +kernel)
theorem wz_X0_volumeAt : (.selects RX0 yX0_volumeAt yX0_volumeAt : Cond) ∈ wAll := wA_sel (by decide +kernel) (by decide +kernel)
theorem wz_X0_checkDump : (.selects RX0 yX0_checkDump yX0_checkDump : Cond) ∈ wAll := wA_sel (by decide +kernel) (by decide +kernel)
theorem wz_X0_checkVolume : (.selects RX0 yX0_checkVolume yX0_checkVolume : Cond) ∈ wAll := wA_sel (by decide +kernel) (by decide +kernel)
theorem wz_X0_dumpAt : (.selects RX0 yX0_dumpAt yX0_dumpAt : Cond) ∈ wAll := wA_sel (by decide +kernel) (by decide +kernel)
theorem wz_X0_isGood : (.selects RX0 yX0_isGood yX0_isGood : Cond) ∈ wAll := wA_sel (by decide +kernel) (by decide +kernel)
theorem wz_X0_writtenVolumes : (.selects RX0 yX0_writtenVolumes yX0_writtenVolumes : Cond) ∈ wAll := wA_sel (by decide +kernel) (by decide +kernel)
theorem wz_X0_goodDumps : (.selects RX0 yX0_goodDumps yX0_goodDumps : Cond) ∈ wAll := wA_sel (by decide +kernel) (by decide +kernel)
theorem wz_X0_longestChain : (.selects RX0 yX0_longestChain yX0_longestChain : Cond) ∈ wAll := wA_sel (by decide +kernel) (by decide +kernel)
theorem wz_X1_fails : (.selects RX1 yX1_fails yX1_fails : Cond) ∈ wAll := wA_sel (by decide +kernel) (by decide +kernel)
theorem wz_X1_before : (.selects RX1 yX1_before yX1_before : Cond) ∈ wAll := wA_sel (by decide +kernel) (by decide +kernel)
theorem wz_X1_none : (.selects RX1 yX1_none yX1_none : Cond) ∈ wAll := wA_sel (by decide +kernel) (by decide +kernel)
theorem wz_X1_base : (.selects RX1 yX1_base yX1_base : Cond) ∈ wAll := wA_sel (by decide +kernel) (by decide +kernel)
theorem wz_X1_depthOf : (.selects RX1 yX1_depthOf yX1_depthOf : Cond) ∈ wAll := wA_sel (by decide +kernel) (by decide +kernel)
theorem wz_X1_nothing : (.selects RX1 yX1_nothing yX1_nothing : Cond) ∈ wAll := wA_sel (by decide +kernel) (by decide +kernel)
theorem wz_X1_want : (.selects RX1 yX1_want yX1_want : Cond) ∈ wAll := wA_sel (by decide +kernel) (by decide +kernel)
theorem wz_X1_isGood : (.selects RX1 yX1_isGood yX1_isGood : Cond) ∈ wAll := wA_sel (by decide +kernel) (by decide +kernel)
theorem wz_X1_written : (.selects RX1 yX1_written yX1_written : Cond) ∈ wAll := wA_sel (by decide +kernel) (by decide +kernel)
theorem wx_34 : ∀ w ∈ (vx_atS RX0 34 "java/lang/IllegalArgumentException" ["java/lang/RuntimeException", "java/lang/Exception"]).filter goodWord, w ∈ wAll := fun w hw => List.mem_filter.mpr ⟨(by decide +kernel : ∀ w ∈ (vx_atS RX0 34 "java/lang/IllegalArgumentException" ["java/lang/RuntimeException", "java/lang/Exception"]).filter goodWord, w ∈ lw_tbl) w hw, (List.mem_filter.mp hw).2⟩
theorem wx_49 : ∀ w ∈ (vx_atS RX0 49 "java/lang/IllegalStateException" ["java/lang/RuntimeException", "java/lang/Exception"]).filter goodWord, w ∈ wAll := fun w hw => List.mem_filter.mpr ⟨(by decide +kernel : ∀ w ∈ (vx_atS RX0 49 "java/lang/IllegalStateException" ["java/lang/RuntimeException", "java/lang/Exception"]).filter goodWord, w ∈ lw_tbl) w hw, (List.mem_filter.mp hw).2⟩
theorem wx_123 : ∀ w ∈ (vx_atS RX0 123 "java/lang/IndexOutOfBoundsException" ["java/lang/RuntimeException", "java/lang/Exception"]).filter goodWord, w ∈ wAll := fun w hw => List.mem_filter.mpr ⟨(by decide +kernel : ∀ w ∈ (vx_atS RX0 123 "java/lang/IndexOutOfBoundsException" ["java/lang/RuntimeException", "java/lang/Exception"]).filter goodWord, w ∈ lw_tbl) w hw, (List.mem_filter.mp hw).2⟩
end
section
/-! the instructions, decoded -/
theorem dX0_init_0 : decode cX0_init 0 = .ok (.aload_n 0, 1) := by decide +kernel
theorem dX0_init_1 : decode cX0_init 1 = .ok (.invokespecial 1, 3) := by decide +kernel
theorem dX0_init_4 : decode cX0_init 4 = .ok (.aload_n 0, 1) := by decide +kernel
theorem dX0_init_5 : decode cX0_init 5 = .ok (.sipush 300, 3) := by decide +kernel
theorem dX0_init_8 : decode cX0_init 8 = .ok (.newarray .int, 2) := by decide +kernel
theorem dX0_init_10 : decode cX0_init 10 = .ok (.putfield 9, 3) := by decide +kernel
theorem dX0_init_13 : decode cX0_init 13 = .ok (.aload_n 0, 1) := by decide +kernel
theorem dX0_init_14 : decode cX0_init 14 = .ok (.sipush 300, 3) := by decide +kernel
theorem dX0_init_17 : decode cX0_init 17 = .ok (.newarray .int, 2) := by decide +kernel
theorem dX0_init_19 : decode cX0_init 19 = .ok (.putfield 13, 3) := by decide +kernel
theorem dX0_init_22 : decode cX0_init 22 = .ok (.aload_n 0, 1) := by decide +kernel
theorem dX0_init_23 : decode cX0_init 23 = .ok (.sipush 300, 3) := by decide +kernel
theorem dX0_init_26 : decode cX0_init 26 = .ok (.newarray .int, 2) := by decide +kernel
theorem dX0_init_28 : decode cX0_init 28 = .ok (.putfield 16, 3) := by decide +kernel
theorem dX0_init_31 : decode cX0_init 31 = .ok (.aload_n 0, 1) := by decide +kernel
theorem dX0_init_32 : decode cX0_init 32 = .ok (.sipush 300, 3) := by decide +kernel
theorem dX0_init_35 : decode cX0_init 35 = .ok (.newarray .long, 2) := by decide +kernel
theorem dX0_init_37 : decode cX0_init 37 = .ok (.putfield 19, 3) := by decide +kernel
theorem dX0_init_40 : decode cX0_init 40 = .ok (.aload_n 0, 1) := by decide +kernel
theorem dX0_init_41 : decode cX0_init 41 = .ok (.sipush 301, 3) := by decide +kernel
theorem dX0_init_44 : decode cX0_init 44 = .ok (.newarray .int, 2) := by decide +kernel
theorem dX0_init_46 : decode cX0_init 46 = .ok (.putfield 23, 3) := by decide +kernel
theorem dX0_init_49 : decode cX0_init 49 = .ok (.aload_n 0, 1) := by decide +kernel
theorem dX0_init_50 : decode cX0_init 50 = .ok (.bipush 100, 2) := by decide +kernel
theorem dX0_init_52 : decode cX0_init 52 = .ok (.invokevirtual 26, 3) := by decide +kernel
theorem dX0_init_55 : decode cX0_init 55 = .ok (.return_, 1) := by decide +kernel
theorem dX0_clear_0 : decode cX0_clear 0 = .ok (.aload_n 0, 1) := by decide +kernel
theorem dX0_clear_1 : decode cX0_clear 1 = .ok (.iconst 0, 1) := by decide +kernel
theorem dX0_clear_2 : decode cX0_clear 2 = .ok (.putfield 41, 3) := by decide +kernel
theorem dX0_clear_5 : decode cX0_clear 5 = .ok (.aload_n 0, 1) := by decide +kernel
theorem dX0_clear_6 : decode cX0_clear 6 = .ok (.iload_n 1, 1) := by decide +kernel
theorem dX0_clear_7 : decode cX0_clear 7 = .ok (.iconst 1, 1) := by decide +kernel
theorem dX0_clear_8 : decode cX0_clear 8 = .ok (.isub, 1) := by decide +kernel
theorem dX0_clear_9 : decode cX0_clear 9 = .ok (.putfield 50, 3) := by decide +kernel
theorem dX0_clear_12 : decode cX0_clear 12 = .ok (.aload_n 0, 1) := by decide +kernel
theorem dX0_clear_13 : decode cX0_clear 13 = .ok (.lconst 0, 1) := by decide +kernel
theorem dX0_clear_14 : decode cX0_clear 14 = .ok (.putfield 80, 3) := by decide +kernel
theorem dX0_clear_17 : decode cX0_clear 17 = .ok (.return_, 1) := by decide +kernel
theorem dX0_begin_0 : decode cX0_begin 0 = .ok (.iload_n 1, 1) := by decide +kernel
theorem dX0_begin_1 : decode cX0_begin 1 = .ok (.iconst 2, 1) := by decide +kernel
theorem dX0_begin_2 : decode cX0_begin 2 = .ok (.if_icmp .lt 10, 3) := by decide +kernel
theorem dX0_begin_5 : decode cX0_begin 5 = .ok (.iload_n 1, 1) := by decide +kernel
theorem dX0_begin_6 : decode cX0_begin 6 = .ok (.sipush 1000, 3) := by decide +kernel
theorem dX0_begin_9 : decode cX0_begin 9 = .ok (.if_icmp .le 13, 3) := by decide +kernel
theorem dX0_begin_12 : decode cX0_begin 12 = .ok (.new 30, 3) := by decide +kernel
theorem dX0_begin_15 : decode cX0_begin 15 = .ok (.dup, 1) := by decide +kernel
theorem dX0_begin_16 : decode cX0_begin 16 = .ok (.ldc 32, 2) := by decide +kernel
theorem dX0_begin_18 : decode cX0_begin 18 = .ok (.invokespecial 34, 3) := by decide +kernel
theorem dX0_begin_21 : decode cX0_begin 21 = .ok (.athrow, 1) := by decide +kernel
theorem dX0_begin_22 : decode cX0_begin 22 = .ok (.aload_n 0, 1) := by decide +kernel
theorem dX0_begin_23 : decode cX0_begin 23 = .ok (.iload_n 1, 1) := by decide +kernel
theorem dX0_begin_24 : decode cX0_begin 24 = .ok (.invokevirtual 26, 3) := by decide +kernel
theorem dX0_begin_27 : decode cX0_begin 27 = .ok (.return_, 1) := by decide +kernel
theorem dX0_dump_0 : decode cX0_dump 0 = .ok (.iload_n 1, 1) := by decide +kernel
theorem dX0_dump_1 : decode cX0_dump 1 = .ok (.ifCond .lt 9, 3) := by decide +kernel
theorem dX0_dump_4 : decode cX0_dump 4 = .ok (.iload_n 1, 1) := by decide +kernel
theorem dX0_dump_5 : decode cX0_dump 5 = .ok (.bipush 9, 2) := by decide +kernel
theorem dX0_dump_7 : decode cX0_dump 7 = .ok (.if_icmp .le 13, 3) := by decide +kernel
theorem dX0_dump_10 : decode cX0_dump 10 = .ok (.new 30, 3) := by decide +kernel
theorem dX0_dump_13 : decode cX0_dump 13 = .ok (.dup, 1) := by decide +kernel
theorem dX0_dump_14 : decode cX0_dump 14 = .ok (.ldc 37, 2) := by decide +kernel
theorem dX0_dump_16 : decode cX0_dump 16 = .ok (.invokespecial 34, 3) := by decide +kernel
theorem dX0_dump_19 : decode cX0_dump 19 = .ok (.athrow, 1) := by decide +kernel
theorem dX0_dump_20 : decode cX0_dump 20 = .ok (.iload_n 2, 1) := by decide +kernel
theorem dX0_dump_21 : decode cX0_dump 21 = .ok (.iconst 1, 1) := by decide +kernel
theorem dX0_dump_22 : decode cX0_dump 22 = .ok (.if_icmp .lt 10, 3) := by decide +kernel
theorem dX0_dump_25 : decode cX0_dump 25 = .ok (.iload_n 2, 1) := by decide +kernel
theorem dX0_dump_26 : decode cX0_dump 26 = .ok (.sipush 500, 3) := by decide +kernel
theorem dX0_dump_29 : decode cX0_dump 29 = .ok (.if_icmp .le 13, 3) := by decide +kernel
theorem dX0_dump_32 : decode cX0_dump 32 = .ok (.new 30, 3) := by decide +kernel
theorem dX0_dump_35 : decode cX0_dump 35 = .ok (.dup, 1) := by decide +kernel
theorem dX0_dump_36 : decode cX0_dump 36 = .ok (.ldc 39, 2) := by decide +kernel
theorem dX0_dump_38 : decode cX0_dump 38 = .ok (.invokespecial 34, 3) := by decide +kernel
theorem dX0_dump_41 : decode cX0_dump 41 = .ok (.athrow, 1) := by decide +kernel
theorem dX0_dump_42 : decode cX0_dump 42 = .ok (.aload_n 0, 1) := by decide +kernel
theorem dX0_dump_43 : decode cX0_dump 43 = .ok (.getfield 41, 3) := by decide +kernel
theorem dX0_dump_46 : decode cX0_dump 46 = .ok (.sipush 300, 3) := by decide +kernel
theorem dX0_dump_49 : decode cX0_dump 49 = .ok (.if_icmp .lt 13, 3) := by decide +kernel
theorem dX0_dump_52 : decode cX0_dump 52 = .ok (.new 45, 3) := by decide +kernel
theorem dX0_dump_55 : decode cX0_dump 55 = .ok (.dup, 1) := by decide +kernel
theorem dX0_dump_56 : decode cX0_dump 56 = .ok (.ldc 47, 2) := by decide +kernel
theorem dX0_dump_58 : decode cX0_dump 58 = .ok (.invokespecial 49, 3) := by decide +kernel
theorem dX0_dump_61 : decode cX0_dump 61 = .ok (.athrow, 1) := by decide +kernel
theorem dX0_dump_62 : decode cX0_dump 62 = .ok (.aload_n 0, 1) := by decide +kernel
theorem dX0_dump_63 : decode cX0_dump 63 = .ok (.getfield 23, 3) := by decide +kernel
theorem dX0_dump_66 : decode cX0_dump 66 = .ok (.aload_n 0, 1) := by decide +kernel
theorem dX0_dump_67 : decode cX0_dump 67 = .ok (.getfield 41, 3) := by decide +kernel
theorem dX0_dump_70 : decode cX0_dump 70 = .ok (.iaload, 1) := by decide +kernel
theorem dX0_dump_71 : decode cX0_dump 71 = .ok (.iload_n 2, 1) := by decide +kernel
theorem dX0_dump_72 : decode cX0_dump 72 = .ok (.iadd, 1) := by decide +kernel
theorem dX0_dump_73 : decode cX0_dump 73 = .ok (.bipush 64, 2) := by decide +kernel
theorem dX0_dump_75 : decode cX0_dump 75 = .ok (.aload_n 0, 1) := by decide +kernel
theorem dX0_dump_76 : decode cX0_dump 76 = .ok (.getfield 50, 3) := by decide +kernel
theorem dX0_dump_79 : decode cX0_dump 79 = .ok (.imul, 1) := by decide +kernel
theorem dX0_dump_80 : decode cX0_dump 80 = .ok (.if_icmp .le 13, 3) := by decide +kernel
theorem dX0_dump_83 : decode cX0_dump 83 = .ok (.new 45, 3) := by decide +kernel
theorem dX0_dump_86 : decode cX0_dump 86 = .ok (.dup, 1) := by decide +kernel
theorem dX0_dump_87 : decode cX0_dump 87 = .ok (.ldc 53, 2) := by decide +kernel
theorem dX0_dump_89 : decode cX0_dump 89 = .ok (.invokespecial 49, 3) := by decide +kernel
theorem dX0_dump_92 : decode cX0_dump 92 = .ok (.athrow, 1) := by decide +kernel
theorem dX0_dump_93 : decode cX0_dump 93 = .ok (.aload_n 0, 1) := by decide +kernel
theorem dX0_dump_94 : decode cX0_dump 94 = .ok (.iload_n 1, 1) := by decide +kernel
theorem dX0_dump_95 : decode cX0_dump 95 = .ok (.iload_n 2, 1) := by decide +kernel
theorem dX0_dump_96 : decode cX0_dump 96 = .ok (.invokevirtual 55, 3) := by decide +kernel
theorem dX0_dump_99 : decode cX0_dump 99 = .ok (.ireturn, 1) := by decide +kernel
theorem dX0_append_0 : decode cX0_append 0 = .ok (.aload_n 0, 1) := by decide +kernel
theorem dX0_append_1 : decode cX0_append 1 = .ok (.getfield 41, 3) := by decide +kernel
theorem dX0_append_4 : decode cX0_append 4 = .ok (.istore_n 3, 1) := by decide +kernel
theorem dX0_append_5 : decode cX0_append 5 = .ok (.aload_n 0, 1) := by decide +kernel
theorem dX0_append_6 : decode cX0_append 6 = .ok (.iload_n 1, 1) := by decide +kernel
theorem dX0_append_7 : decode cX0_append 7 = .ok (.invokevirtual 126, 3) := by decide +kernel
theorem dX0_append_10 : decode cX0_append 10 = .ok (.istore 4, 2) := by decide +kernel
theorem dX0_append_12 : decode cX0_append 12 = .ok (.aload_n 0, 1) := by decide +kernel
theorem dX0_append_13 : decode cX0_append 13 = .ok (.getfield 23, 3) := by decide +kernel
theorem dX0_append_16 : decode cX0_append 16 = .ok (.iload_n 3, 1) := by decide +kernel
theorem dX0_append_17 : decode cX0_append 17 = .ok (.iaload, 1) := by decide +kernel
theorem dX0_append_18 : decode cX0_append 18 = .ok (.iload_n 2, 1) := by decide +kernel
theorem dX0_append_19 : decode cX0_append 19 = .ok (.iadd, 1) := by decide +kernel
theorem dX0_append_20 : decode cX0_append 20 = .ok (.istore 5, 2) := by decide +kernel
theorem dX0_append_22 : decode cX0_append 22 = .ok (.aload_n 0, 1) := by decide +kernel
theorem dX0_append_23 : decode cX0_append 23 = .ok (.aload_n 0, 1) := by decide +kernel
theorem dX0_append_24 : decode cX0_append 24 = .ok (.getfield 23, 3) := by decide +kernel
theorem dX0_append_27 : decode cX0_append 27 = .ok (.iload_n 3, 1) := by decide +kernel
theorem dX0_append_28 : decode cX0_append 28 = .ok (.iaload, 1) := by decide +kernel
theorem dX0_append_29 : decode cX0_append 29 = .ok (.invokevirtual 68, 3) := by decide +kernel
theorem dX0_append_32 : decode cX0_append 32 = .ok (.aload_n 0, 1) := by decide +kernel
theorem dX0_append_33 : decode cX0_append 33 = .ok (.iload 5, 2) := by decide +kernel
theorem dX0_append_35 : decode cX0_append 35 = .ok (.iconst 1, 1) := by decide +kernel
theorem dX0_append_36 : decode cX0_append 36 = .ok (.isub, 1) := by decide +kernel
theorem dX0_append_37 : decode cX0_append 37 = .ok (.invokevirtual 68, 3) := by decide +kernel
theorem dX0_append_40 : decode cX0_append 40 = .ok (.invokestatic 96, 3) := by decide +kernel
theorem dX0_append_43 : decode cX0_append 43 = .ok (.lstore 6, 2) := by decide +kernel
theorem dX0_append_45 : decode cX0_append 45 = .ok (.aload_n 0, 1) := by decide +kernel
theorem dX0_append_46 : decode cX0_append 46 = .ok (.getfield 9, 3) := by decide +kernel
theorem dX0_append_49 : decode cX0_append 49 = .ok (.iload_n 3, 1) := by decide +kernel
theorem dX0_append_50 : decode cX0_append 50 = .ok (.iload_n 1, 1) := by decide +kernel
theorem dX0_append_51 : decode cX0_append 51 = .ok (.iastore, 1) := by decide +kernel
theorem dX0_append_52 : decode cX0_append 52 = .ok (.aload_n 0, 1) := by decide +kernel
theorem dX0_append_53 : decode cX0_append 53 = .ok (.getfield 13, 3) := by decide +kernel
theorem dX0_append_56 : decode cX0_append 56 = .ok (.iload_n 3, 1) := by decide +kernel
theorem dX0_append_57 : decode cX0_append 57 = .ok (.iload 4, 2) := by decide +kernel
theorem dX0_append_59 : decode cX0_append 59 = .ok (.iastore, 1) := by decide +kernel
theorem dX0_append_60 : decode cX0_append 60 = .ok (.aload_n 0, 1) := by decide +kernel
theorem dX0_append_61 : decode cX0_append 61 = .ok (.getfield 16, 3) := by decide +kernel
theorem dX0_append_64 : decode cX0_append 64 = .ok (.iload_n 3, 1) := by decide +kernel
theorem dX0_append_65 : decode cX0_append 65 = .ok (.iload 4, 2) := by decide +kernel
theorem dX0_append_67 : decode cX0_append 67 = .ok (.iconst (-1), 1) := by decide +kernel
theorem dX0_append_68 : decode cX0_append 68 = .ok (.if_icmp .ne 7, 3) := by decide +kernel
theorem dX0_append_71 : decode cX0_append 71 = .ok (.iconst 1, 1) := by decide +kernel
theorem dX0_append_72 : decode cX0_append 72 = .ok (.goto 12, 3) := by decide +kernel
theorem dX0_append_75 : decode cX0_append 75 = .ok (.aload_n 0, 1) := by decide +kernel
theorem dX0_append_76 : decode cX0_append 76 = .ok (.getfield 16, 3) := by decide +kernel
theorem dX0_append_79 : decode cX0_append 79 = .ok (.iload 4, 2) := by decide +kernel
theorem dX0_append_81 : decode cX0_append 81 = .ok (.iaload, 1) := by decide +kernel
theorem dX0_append_82 : decode cX0_append 82 = .ok (.iconst 1, 1) := by decide +kernel
theorem dX0_append_83 : decode cX0_append 83 = .ok (.iadd, 1) := by decide +kernel
theorem dX0_append_84 : decode cX0_append 84 = .ok (.iastore, 1) := by decide +kernel
theorem dX0_append_85 : decode cX0_append 85 = .ok (.aload_n 0, 1) := by decide +kernel
theorem dX0_append_86 : decode cX0_append 86 = .ok (.getfield 19, 3) := by decide +kernel
theorem dX0_append_89 : decode cX0_append 89 = .ok (.iload_n 3, 1) := by decide +kernel
theorem dX0_append_90 : decode cX0_append 90 = .ok (.iload 4, 2) := by decide +kernel
theorem dX0_append_92 : decode cX0_append 92 = .ok (.iconst (-1), 1) := by decide +kernel
theorem dX0_append_93 : decode cX0_append 93 = .ok (.if_icmp .ne 8, 3) := by decide +kernel
theorem dX0_append_96 : decode cX0_append 96 = .ok (.lload 6, 2) := by decide +kernel
theorem dX0_append_98 : decode cX0_append 98 = .ok (.goto 13, 3) := by decide +kernel
theorem dX0_append_101 : decode cX0_append 101 = .ok (.lload 6, 2) := by decide +kernel
theorem dX0_append_103 : decode cX0_append 103 = .ok (.aload_n 0, 1) := by decide +kernel
theorem dX0_append_104 : decode cX0_append 104 = .ok (.getfield 19, 3) := by decide +kernel
theorem dX0_append_107 : decode cX0_append 107 = .ok (.iload 4, 2) := by decide +kernel
theorem dX0_append_109 : decode cX0_append 109 = .ok (.laload, 1) := by decide +kernel
theorem dX0_append_110 : decode cX0_append 110 = .ok (.lor, 1) := by decide +kernel
theorem dX0_append_111 : decode cX0_append 111 = .ok (.lastore, 1) := by decide +kernel
theorem dX0_append_112 : decode cX0_append 112 = .ok (.aload_n 0, 1) := by decide +kernel
theorem dX0_append_113 : decode cX0_append 113 = .ok (.getfield 23, 3) := by decide +kernel
theorem dX0_append_116 : decode cX0_append 116 = .ok (.iload_n 3, 1) := by decide +kernel
theorem dX0_append_117 : decode cX0_append 117 = .ok (.iconst 1, 1) := by decide +kernel
theorem dX0_append_118 : decode cX0_append 118 = .ok (.iadd, 1) := by decide +kernel
theorem dX0_append_119 : decode cX0_append 119 = .ok (.iload 5, 2) := by decide +kernel
theorem dX0_append_121 : decode cX0_append 121 = .ok (.iastore, 1) := by decide +kernel
theorem dX0_append_122 : decode cX0_append 122 = .ok (.aload_n 0, 1) := by decide +kernel
theorem dX0_append_123 : decode cX0_append 123 = .ok (.dup, 1) := by decide +kernel
theorem dX0_append_124 : decode cX0_append 124 = .ok (.getfield 41, 3) := by decide +kernel
theorem dX0_append_127 : decode cX0_append 127 = .ok (.iconst 1, 1) := by decide +kernel
theorem dX0_append_128 : decode cX0_append 128 = .ok (.iadd, 1) := by decide +kernel
theorem dX0_append_129 : decode cX0_append 129 = .ok (.putfield 41, 3) := by decide +kernel
theorem dX0_append_132 : decode cX0_append 132 = .ok (.iload_n 3, 1) := by decide +kernel
theorem dX0_append_133 : decode cX0_append 133 = .ok (.ireturn, 1) := by decide +kernel
theorem dX0_latestBelow_0 : decode cX0_latestBelow 0 = .ok (.aload_n 0, 1) := by decide +kernel
theorem dX0_latestBelow_1 : decode cX0_latestBelow 1 = .ok (.getfield 41, 3) := by decide +kernel
theorem dX0_latestBelow_4 : decode cX0_latestBelow 4 = .ok (.iconst 1, 1) := by decide +kernel
theorem dX0_latestBelow_5 : decode cX0_latestBelow 5 = .ok (.isub, 1) := by decide +kernel
theorem dX0_latestBelow_6 : decode cX0_latestBelow 6 = .ok (.istore_n 2, 1) := by decide +kernel
theorem dX0_latestBelow_7 : decode cX0_latestBelow 7 = .ok (.iload_n 2, 1) := by decide +kernel
theorem dX0_latestBelow_8 : decode cX0_latestBelow 8 = .ok (.ifCond .lt 21, 3) := by decide +kernel
theorem dX0_latestBelow_11 : decode cX0_latestBelow 11 = .ok (.aload_n 0, 1) := by decide +kernel
theorem dX0_latestBelow_12 : decode cX0_latestBelow 12 = .ok (.getfield 9, 3) := by decide +kernel
theorem dX0_latestBelow_15 : decode cX0_latestBelow 15 = .ok (.iload_n 2, 1) := by decide +kernel
theorem dX0_latestBelow_16 : decode cX0_latestBelow 16 = .ok (.iaload, 1) := by decide +kernel
theorem dX0_latestBelow_17 : decode cX0_latestBelow 17 = .ok (.iload_n 1, 1) := by decide +kernel
theorem dX0_latestBelow_18 : decode cX0_latestBelow 18 = .ok (.if_icmp .ge 5, 3) := by decide +kernel
theorem dX0_latestBelow_21 : decode cX0_latestBelow 21 = .ok (.iload_n 2, 1) := by decide +kernel
theorem dX0_latestBelow_22 : decode cX0_latestBelow 22 = .ok (.ireturn, 1) := by decide +kernel
theorem dX0_latestBelow_23 : decode cX0_latestBelow 23 = .ok (.iinc 2 (-1), 3) := by decide +kernel
theorem dX0_latestBelow_26 : decode cX0_latestBelow 26 = .ok (.goto (-19), 3) := by decide +kernel
theorem dX0_latestBelow_29 : decode cX0_latestBelow 29 = .ok (.iconst (-1), 1) := by decide +kernel
theorem dX0_latestBelow_30 : decode cX0_latestBelow 30 = .ok (.ireturn, 1) := by decide +kernel
theorem dX0_volumeAt_0 : decode cX0_volumeAt 0 = .ok (.iload_n 1, 1) := by decide +kernel
theorem dX0_volumeAt_1 : decode cX0_volumeAt 1 = .ok (.aload_n 0, 1) := by decide +kernel
theorem dX0_volumeAt_2 : decode cX0_volumeAt 2 = .ok (.getfield 50, 3) := by decide +kernel
theorem dX0_volumeAt_5 : decode cX0_volumeAt 5 = .ok (.idiv, 1) := by decide +kernel
theorem dX0_volumeAt_6 : decode cX0_volumeAt 6 = .ok (.ireturn, 1) := by decide +kernel
theorem dX0_bitsFromTo_0 : decode cX0_bitsFromTo 0 = .ok (.ldc2_w 84, 3) := by decide +kernel
theorem dX0_bitsFromTo_3 : decode cX0_bitsFromTo 3 = .ok (.iload_n 0, 1) := by decide +kernel
theorem dX0_bitsFromTo_4 : decode cX0_bitsFromTo 4 = .ok (.lshl, 1) := by decide +kernel
theorem dX0_bitsFromTo_5 : decode cX0_bitsFromTo 5 = .ok (.ldc2_w 84, 3) := by decide +kernel
theorem dX0_bitsFromTo_8 : decode cX0_bitsFromTo 8 = .ok (.bipush 63, 2) := by decide +kernel
theorem dX0_bitsFromTo_10 : decode cX0_bitsFromTo 10 = .ok (.iload_n 1, 1) := by decide +kernel
theorem dX0_bitsFromTo_11 : decode cX0_bitsFromTo 11 = .ok (.isub, 1) := by decide +kernel
theorem dX0_bitsFromTo_12 : decode cX0_bitsFromTo 12 = .ok (.lushr, 1) := by decide +kernel
theorem dX0_bitsFromTo_13 : decode cX0_bitsFromTo 13 = .ok (.land, 1) := by decide +kernel
theorem dX0_bitsFromTo_14 : decode cX0_bitsFromTo 14 = .ok (.lreturn, 1) := by decide +kernel
theorem dX0_drop_0 : decode cX0_drop 0 = .ok (.iload_n 1, 1) := by decide +kernel
theorem dX0_drop_1 : decode cX0_drop 1 = .ok (.ifCond .lt 11, 3) := by decide +kernel
theorem dX0_drop_4 : decode cX0_drop 4 = .ok (.iload_n 1, 1) := by decide +kernel
theorem dX0_drop_5 : decode cX0_drop 5 = .ok (.aload_n 0, 1) := by decide +kernel
theorem dX0_drop_6 : decode cX0_drop 6 = .ok (.getfield 41, 3) := by decide +kernel
theorem dX0_drop_9 : decode cX0_drop 9 = .ok (.if_icmp .le 13, 3) := by decide +kernel
theorem dX0_drop_12 : decode cX0_drop 12 = .ok (.new 30, 3) := by decide +kernel
theorem dX0_drop_15 : decode cX0_drop 15 = .ok (.dup, 1) := by decide +kernel
theorem dX0_drop_16 : decode cX0_drop 16 = .ok (.ldc 59, 2) := by decide +kernel
theorem dX0_drop_18 : decode cX0_drop 18 = .ok (.invokespecial 34, 3) := by decide +kernel
theorem dX0_drop_21 : decode cX0_drop 21 = .ok (.athrow, 1) := by decide +kernel
theorem dX0_drop_22 : decode cX0_drop 22 = .ok (.aload_n 0, 1) := by decide +kernel
theorem dX0_drop_23 : decode cX0_drop 23 = .ok (.dup, 1) := by decide +kernel
theorem dX0_drop_24 : decode cX0_drop 24 = .ok (.getfield 41, 3) := by decide +kernel
theorem dX0_drop_27 : decode cX0_drop 27 = .ok (.iload_n 1, 1) := by decide +kernel
theorem dX0_drop_28 : decode cX0_drop 28 = .ok (.isub, 1) := by decide +kernel
theorem dX0_drop_29 : decode cX0_drop 29 = .ok (.putfield 41, 3) := by decide +kernel
theorem dX0_drop_32 : decode cX0_drop 32 = .ok (.return_, 1) := by decide +kernel
theorem dX0_chain_0 : decode cX0_chain 0 = .ok (.aload_n 0, 1) := by decide +kernel
theorem dX0_chain_1 : decode cX0_chain 1 = .ok (.iload_n 1, 1) := by decide +kernel
theorem dX0_chain_2 : decode cX0_chain 2 = .ok (.invokevirtual 61, 3) := by decide +kernel
theorem dX0_chain_5 : decode cX0_chain 5 = .ok (.iload_n 2, 1) := by decide +kernel
theorem dX0_chain_6 : decode cX0_chain 6 = .ok (.ifCond .ge 13, 3) := by decide +kernel
theorem dX0_chain_9 : decode cX0_chain 9 = .ok (.new 30, 3) := by decide +kernel
theorem dX0_chain_12 : decode cX0_chain 12 = .ok (.dup, 1) := by decide +kernel
theorem dX0_chain_13 : decode cX0_chain 13 = .ok (.ldc 64, 2) := by decide +kernel
theorem dX0_chain_15 : decode cX0_chain 15 = .ok (.invokespecial 34, 3) := by decide +kernel
theorem dX0_chain_18 : decode cX0_chain 18 = .ok (.athrow, 1) := by decide +kernel
theorem dX0_chain_19 : decode cX0_chain 19 = .ok (.iload_n 1, 1) := by decide +kernel
theorem dX0_chain_20 : decode cX0_chain 20 = .ok (.istore_n 3, 1) := by decide +kernel
theorem dX0_chain_21 : decode cX0_chain 21 = .ok (.iconst 0, 1) := by decide +kernel
theorem dX0_chain_22 : decode cX0_chain 22 = .ok (.istore 4, 2) := by decide +kernel
theorem dX0_chain_24 : decode cX0_chain 24 = .ok (.iload 4, 2) := by decide +kernel
theorem dX0_chain_26 : decode cX0_chain 26 = .ok (.iload_n 2, 1) := by decide +kernel
theorem dX0_chain_27 : decode cX0_chain 27 = .ok (.if_icmp .ge 21, 3) := by decide +kernel
theorem dX0_chain_30 : decode cX0_chain 30 = .ok (.iload_n 3, 1) := by decide +kernel
theorem dX0_chain_31 : decode cX0_chain 31 = .ok (.iconst (-1), 1) := by decide +kernel
theorem dX0_chain_32 : decode cX0_chain 32 = .ok (.if_icmp .eq 16, 3) := by decide +kernel
theorem dX0_chain_35 : decode cX0_chain 35 = .ok (.aload_n 0, 1) := by decide +kernel
theorem dX0_chain_36 : decode cX0_chain 36 = .ok (.getfield 13, 3) := by decide +kernel
theorem dX0_chain_39 : decode cX0_chain 39 = .ok (.iload_n 3, 1) := by decide +kernel
theorem dX0_chain_40 : decode cX0_chain 40 = .ok (.iaload, 1) := by decide +kernel
theorem dX0_chain_41 : decode cX0_chain 41 = .ok (.istore_n 3, 1) := by decide +kernel
theorem dX0_chain_42 : decode cX0_chain 42 = .ok (.iinc 4 1, 3) := by decide +kernel
theorem dX0_chain_45 : decode cX0_chain 45 = .ok (.goto (-21), 3) := by decide +kernel
theorem dX0_chain_48 : decode cX0_chain 48 = .ok (.iload_n 3, 1) := by decide +kernel
theorem dX0_chain_49 : decode cX0_chain 49 = .ok (.ireturn, 1) := by decide +kernel
theorem dX0_checkDump_0 : decode cX0_checkDump 0 = .ok (.iload_n 1, 1) := by decide +kernel
theorem dX0_checkDump_1 : decode cX0_checkDump 1 = .ok (.ifCond .lt 11, 3) := by decide +kernel
theorem dX0_checkDump_4 : decode cX0_checkDump 4 = .ok (.iload_n 1, 1) := by decide +kernel
theorem dX0_checkDump_5 : decode cX0_checkDump 5 = .ok (.aload_n 0, 1) := by decide +kernel
theorem dX0_checkDump_6 : decode cX0_checkDump 6 = .ok (.getfield 41, 3) := by decide +kernel
theorem dX0_checkDump_9 : decode cX0_checkDump 9 = .ok (.if_icmp .lt 13, 3) := by decide +kernel
theorem dX0_checkDump_12 : decode cX0_checkDump 12 = .ok (.new 119, 3) := by decide +kernel
theorem dX0_checkDump_15 : decode cX0_checkDump 15 = .ok (.dup, 1) := by decide +kernel
theorem dX0_checkDump_16 : decode cX0_checkDump 16 = .ok (.ldc 121, 2) := by decide +kernel
theorem dX0_checkDump_18 : decode cX0_checkDump 18 = .ok (.invokespecial 123, 3) := by decide +kernel
theorem dX0_checkDump_21 : decode cX0_checkDump 21 = .ok (.athrow, 1) := by decide +kernel
theorem dX0_checkDump_22 : decode cX0_checkDump 22 = .ok (.return_, 1) := by decide +kernel
theorem dX0_depth_0 : decode cX0_depth 0 = .ok (.aload_n 0, 1) := by decide +kernel
theorem dX0_depth_1 : decode cX0_depth 1 = .ok (.iload_n 1, 1) := by decide +kernel
theorem dX0_depth_2 : decode cX0_depth 2 = .ok (.invokevirtual 61, 3) := by decide +kernel
theorem dX0_depth_5 : decode cX0_depth 5 = .ok (.aload_n 0, 1) := by decide +kernel
theorem dX0_depth_6 : decode cX0_depth 6 = .ok (.getfield 16, 3) := by decide +kernel
theorem dX0_depth_9 : decode cX0_depth 9 = .ok (.iload_n 1, 1) := by decide +kernel
theorem dX0_depth_10 : decode cX0_depth 10 = .ok (.iaload, 1) := by decide +kernel
theorem dX0_depth_11 : decode cX0_depth 11 = .ok (.ireturn, 1) := by decide +kernel
theorem dX0_place_0 : decode cX0_place 0 = .ok (.aload_n 0, 1) := by decide +kernel
theorem dX0_place_1 : decode cX0_place 1 = .ok (.iload_n 1, 1) := by decide +kernel
theorem dX0_place_2 : decode cX0_place 2 = .ok (.invokevirtual 61, 3) := by decide +kernel
theorem dX0_place_5 : decode cX0_place 5 = .ok (.iload_n 2, 1) := by decide +kernel
theorem dX0_place_6 : decode cX0_place 6 = .ok (.ifCond .lt 22, 3) := by decide +kernel
theorem dX0_place_9 : decode cX0_place 9 = .ok (.iload_n 2, 1) := by decide +kernel
theorem dX0_place_10 : decode cX0_place 10 = .ok (.aload_n 0, 1) := by decide +kernel
theorem dX0_place_11 : decode cX0_place 11 = .ok (.getfield 23, 3) := by decide +kernel
theorem dX0_place_14 : decode cX0_place 14 = .ok (.iload_n 1, 1) := by decide +kernel
theorem dX0_place_15 : decode cX0_place 15 = .ok (.iconst 1, 1) := by decide +kernel
theorem dX0_place_16 : decode cX0_place 16 = .ok (.iadd, 1) := by decide +kernel
theorem dX0_place_17 : decode cX0_place 17 = .ok (.iaload, 1) := by decide +kernel
theorem dX0_place_18 : decode cX0_place 18 = .ok (.aload_n 0, 1) := by decide +kernel
theorem dX0_place_19 : decode cX0_place 19 = .ok (.getfield 23, 3) := by decide +kernel
theorem dX0_place_22 : decode cX0_place 22 = .ok (.iload_n 1, 1) := by decide +kernel
theorem dX0_place_23 : decode cX0_place 23 = .ok (.iaload, 1) := by decide +kernel
theorem dX0_place_24 : decode cX0_place 24 = .ok (.isub, 1) := by decide +kernel
theorem dX0_place_25 : decode cX0_place 25 = .ok (.if_icmp .lt 13, 3) := by decide +kernel
theorem dX0_place_28 : decode cX0_place 28 = .ok (.new 30, 3) := by decide +kernel
theorem dX0_place_31 : decode cX0_place 31 = .ok (.dup, 1) := by decide +kernel
theorem dX0_place_32 : decode cX0_place 32 = .ok (.ldc 66, 2) := by decide +kernel
theorem dX0_place_34 : decode cX0_place 34 = .ok (.invokespecial 34, 3) := by decide +kernel
theorem dX0_place_37 : decode cX0_place 37 = .ok (.athrow, 1) := by decide +kernel
theorem dX0_place_38 : decode cX0_place 38 = .ok (.aload_n 0, 1) := by decide +kernel
theorem dX0_place_39 : decode cX0_place 39 = .ok (.getfield 23, 3) := by decide +kernel
theorem dX0_place_42 : decode cX0_place 42 = .ok (.iload_n 1, 1) := by decide +kernel
theorem dX0_place_43 : decode cX0_place 43 = .ok (.iaload, 1) := by decide +kernel
theorem dX0_place_44 : decode cX0_place 44 = .ok (.iload_n 2, 1) := by decide +kernel
theorem dX0_place_45 : decode cX0_place 45 = .ok (.iadd, 1) := by decide +kernel
theorem dX0_place_46 : decode cX0_place 46 = .ok (.istore_n 3, 1) := by decide +kernel
theorem dX0_place_47 : decode cX0_place 47 = .ok (.sipush 1000, 3) := by decide +kernel
theorem dX0_place_50 : decode cX0_place 50 = .ok (.aload_n 0, 1) := by decide +kernel
theorem dX0_place_51 : decode cX0_place 51 = .ok (.iload_n 3, 1) := by decide +kernel
theorem dX0_place_52 : decode cX0_place 52 = .ok (.invokevirtual 68, 3) := by decide +kernel
theorem dX0_place_55 : decode cX0_place 55 = .ok (.imul, 1) := by decide +kernel
theorem dX0_place_56 : decode cX0_place 56 = .ok (.iconst 1, 1) := by decide +kernel
theorem dX0_place_57 : decode cX0_place 57 = .ok (.iadd, 1) := by decide +kernel
theorem dX0_place_58 : decode cX0_place 58 = .ok (.iload_n 3, 1) := by decide +kernel
theorem dX0_place_59 : decode cX0_place 59 = .ok (.aload_n 0, 1) := by decide +kernel
theorem dX0_place_60 : decode cX0_place 60 = .ok (.getfield 50, 3) := by decide +kernel
theorem dX0_place_63 : decode cX0_place 63 = .ok (.irem, 1) := by decide +kernel
theorem dX0_place_64 : decode cX0_place 64 = .ok (.iadd, 1) := by decide +kernel
theorem dX0_place_65 : decode cX0_place 65 = .ok (.ireturn, 1) := by decide +kernel
theorem dX0_owner_0 : decode cX0_owner 0 = .ok (.aload_n 0, 1) := by decide +kernel
theorem dX0_owner_1 : decode cX0_owner 1 = .ok (.iload_n 1, 1) := by decide +kernel
theorem dX0_owner_2 : decode cX0_owner 2 = .ok (.invokevirtual 72, 3) := by decide +kernel
theorem dX0_owner_5 : decode cX0_owner 5 = .ok (.iload_n 2, 1) := by decide +kernel
theorem dX0_owner_6 : decode cX0_owner 6 = .ok (.ifCond .lt 11, 3) := by decide +kernel
theorem dX0_owner_9 : decode cX0_owner 9 = .ok (.iload_n 2, 1) := by decide +kernel
theorem dX0_owner_10 : decode cX0_owner 10 = .ok (.aload_n 0, 1) := by decide +kernel
theorem dX0_owner_11 : decode cX0_owner 11 = .ok (.getfield 50, 3) := by decide +kernel
theorem dX0_owner_14 : decode cX0_owner 14 = .ok (.if_icmp .le 13, 3) := by decide +kernel
theorem dX0_owner_17 : decode cX0_owner 17 = .ok (.new 30, 3) := by decide +kernel
theorem dX0_owner_20 : decode cX0_owner 20 = .ok (.dup, 1) := by decide +kernel
theorem dX0_owner_21 : decode cX0_owner 21 = .ok (.ldc 75, 2) := by decide +kernel
theorem dX0_owner_23 : decode cX0_owner 23 = .ok (.invokespecial 34, 3) := by decide +kernel
theorem dX0_owner_26 : decode cX0_owner 26 = .ok (.athrow, 1) := by decide +kernel
theorem dX0_owner_27 : decode cX0_owner 27 = .ok (.iload_n 2, 1) := by decide +kernel
theorem dX0_owner_28 : decode cX0_owner 28 = .ok (.ifCond .ne 7, 3) := by decide +kernel
theorem dX0_owner_31 : decode cX0_owner 31 = .ok (.iconst (-1), 1) := by decide +kernel
theorem dX0_owner_32 : decode cX0_owner 32 = .ok (.goto 17, 3) := by decide +kernel
theorem dX0_owner_35 : decode cX0_owner 35 = .ok (.aload_n 0, 1) := by decide +kernel
theorem dX0_owner_36 : decode cX0_owner 36 = .ok (.iload_n 1, 1) := by decide +kernel
theorem dX0_owner_37 : decode cX0_owner 37 = .ok (.aload_n 0, 1) := by decide +kernel
theorem dX0_owner_38 : decode cX0_owner 38 = .ok (.getfield 50, 3) := by decide +kernel
theorem dX0_owner_41 : decode cX0_owner 41 = .ok (.imul, 1) := by decide +kernel
theorem dX0_owner_42 : decode cX0_owner 42 = .ok (.iload_n 2, 1) := by decide +kernel
theorem dX0_owner_43 : decode cX0_owner 43 = .ok (.iadd, 1) := by decide +kernel
theorem dX0_owner_44 : decode cX0_owner 44 = .ok (.iconst 1, 1) := by decide +kernel
theorem dX0_owner_45 : decode cX0_owner 45 = .ok (.isub, 1) := by decide +kernel
theorem dX0_owner_46 : decode cX0_owner 46 = .ok (.invokevirtual 77, 3) := by decide +kernel
theorem dX0_owner_49 : decode cX0_owner 49 = .ok (.ireturn, 1) := by decide +kernel
theorem dX0_checkVolume_0 : decode cX0_checkVolume 0 = .ok (.iload_n 1, 1) := by decide +kernel
theorem dX0_checkVolume_1 : decode cX0_checkVolume 1 = .ok (.ifCond .lt 9, 3) := by decide +kernel
theorem dX0_checkVolume_4 : decode cX0_checkVolume 4 = .ok (.iload_n 1, 1) := by decide +kernel
theorem dX0_checkVolume_5 : decode cX0_checkVolume 5 = .ok (.bipush 64, 2) := by decide +kernel
theorem dX0_checkVolume_7 : decode cX0_checkVolume 7 = .ok (.if_icmp .lt 13, 3) := by decide +kernel
theorem dX0_checkVolume_10 : decode cX0_checkVolume 10 = .ok (.new 30, 3) := by decide +kernel
theorem dX0_checkVolume_13 : decode cX0_checkVolume 13 = .ok (.dup, 1) := by decide +kernel
theorem dX0_checkVolume_14 : decode cX0_checkVolume 14 = .ok (.ldc 124, 2) := by decide +kernel
theorem dX0_checkVolume_16 : decode cX0_checkVolume 16 = .ok (.invokespecial 34, 3) := by decide +kernel
theorem dX0_checkVolume_19 : decode cX0_checkVolume 19 = .ok (.athrow, 1) := by decide +kernel
theorem dX0_checkVolume_20 : decode cX0_checkVolume 20 = .ok (.return_, 1) := by decide +kernel
theorem dX0_dumpAt_0 : decode cX0_dumpAt 0 = .ok (.iconst 0, 1) := by decide +kernel
theorem dX0_dumpAt_1 : decode cX0_dumpAt 1 = .ok (.istore_n 2, 1) := by decide +kernel
theorem dX0_dumpAt_2 : decode cX0_dumpAt 2 = .ok (.iload_n 2, 1) := by decide +kernel
theorem dX0_dumpAt_3 : decode cX0_dumpAt 3 = .ok (.aload_n 0, 1) := by decide +kernel
theorem dX0_dumpAt_4 : decode cX0_dumpAt 4 = .ok (.getfield 41, 3) := by decide +kernel
theorem dX0_dumpAt_7 : decode cX0_dumpAt 7 = .ok (.if_icmp .ge 23, 3) := by decide +kernel
theorem dX0_dumpAt_10 : decode cX0_dumpAt 10 = .ok (.iload_n 1, 1) := by decide +kernel
theorem dX0_dumpAt_11 : decode cX0_dumpAt 11 = .ok (.aload_n 0, 1) := by decide +kernel
theorem dX0_dumpAt_12 : decode cX0_dumpAt 12 = .ok (.getfield 23, 3) := by decide +kernel
theorem dX0_dumpAt_15 : decode cX0_dumpAt 15 = .ok (.iload_n 2, 1) := by decide +kernel
theorem dX0_dumpAt_16 : decode cX0_dumpAt 16 = .ok (.iconst 1, 1) := by decide +kernel
theorem dX0_dumpAt_17 : decode cX0_dumpAt 17 = .ok (.iadd, 1) := by decide +kernel
theorem dX0_dumpAt_18 : decode cX0_dumpAt 18 = .ok (.iaload, 1) := by decide +kernel
theorem dX0_dumpAt_19 : decode cX0_dumpAt 19 = .ok (.if_icmp .ge 5, 3) := by decide +kernel
theorem dX0_dumpAt_22 : decode cX0_dumpAt 22 = .ok (.iload_n 2, 1) := by decide +kernel
theorem dX0_dumpAt_23 : decode cX0_dumpAt 23 = .ok (.ireturn, 1) := by decide +kernel
theorem dX0_dumpAt_24 : decode cX0_dumpAt 24 = .ok (.iinc 2 1, 3) := by decide +kernel
theorem dX0_dumpAt_27 : decode cX0_dumpAt 27 = .ok (.goto (-25), 3) := by decide +kernel
theorem dX0_dumpAt_30 : decode cX0_dumpAt 30 = .ok (.iconst (-1), 1) := by decide +kernel
theorem dX0_dumpAt_31 : decode cX0_dumpAt 31 = .ok (.ireturn, 1) := by decide +kernel
theorem dX0_needs_0 : decode cX0_needs 0 = .ok (.aload_n 0, 1) := by decide +kernel
theorem dX0_needs_1 : decode cX0_needs 1 = .ok (.iload_n 1, 1) := by decide +kernel
theorem dX0_needs_2 : decode cX0_needs 2 = .ok (.invokevirtual 61, 3) := by decide +kernel
theorem dX0_needs_5 : decode cX0_needs 5 = .ok (.aload_n 0, 1) := by decide +kernel
theorem dX0_needs_6 : decode cX0_needs 6 = .ok (.getfield 19, 3) := by decide +kernel
theorem dX0_needs_9 : decode cX0_needs 9 = .ok (.iload_n 1, 1) := by decide +kernel
theorem dX0_needs_10 : decode cX0_needs 10 = .ok (.laload, 1) := by decide +kernel
theorem dX0_needs_11 : decode cX0_needs 11 = .ok (.lreturn, 1) := by decide +kernel
theorem dX0_lose_0 : decode cX0_lose 0 = .ok (.aload_n 0, 1) := by decide +kernel
theorem dX0_lose_1 : decode cX0_lose 1 = .ok (.iload_n 1, 1) := by decide +kernel
theorem dX0_lose_2 : decode cX0_lose 2 = .ok (.invokevirtual 72, 3) := by decide +kernel
theorem dX0_lose_5 : decode cX0_lose 5 = .ok (.lconst 1, 1) := by decide +kernel
theorem dX0_lose_6 : decode cX0_lose 6 = .ok (.iload_n 1, 1) := by decide +kernel
theorem dX0_lose_7 : decode cX0_lose 7 = .ok (.lshl, 1) := by decide +kernel
theorem dX0_lose_8 : decode cX0_lose 8 = .ok (.lstore_n 3, 1) := by decide +kernel
theorem dX0_lose_9 : decode cX0_lose 9 = .ok (.aload_n 0, 1) := by decide +kernel
theorem dX0_lose_10 : decode cX0_lose 10 = .ok (.getfield 80, 3) := by decide +kernel
theorem dX0_lose_13 : decode cX0_lose 13 = .ok (.lload_n 3, 1) := by decide +kernel
theorem dX0_lose_14 : decode cX0_lose 14 = .ok (.land, 1) := by decide +kernel
theorem dX0_lose_15 : decode cX0_lose 15 = .ok (.lconst 0, 1) := by decide +kernel
theorem dX0_lose_16 : decode cX0_lose 16 = .ok (.lcmp, 1) := by decide +kernel
theorem dX0_lose_17 : decode cX0_lose 17 = .ok (.ifCond .eq 7, 3) := by decide +kernel
theorem dX0_lose_20 : decode cX0_lose 20 = .ok (.iconst 1, 1) := by decide +kernel
theorem dX0_lose_21 : decode cX0_lose 21 = .ok (.goto 4, 3) := by decide +kernel
theorem dX0_lose_24 : decode cX0_lose 24 = .ok (.iconst 0, 1) := by decide +kernel
theorem dX0_lose_25 : decode cX0_lose 25 = .ok (.istore 5, 2) := by decide +kernel
theorem dX0_lose_27 : decode cX0_lose 27 = .ok (.aload_n 0, 1) := by decide +kernel
theorem dX0_lose_28 : decode cX0_lose 28 = .ok (.iload_n 2, 1) := by decide +kernel
theorem dX0_lose_29 : decode cX0_lose 29 = .ok (.ifCond .eq 12, 3) := by decide +kernel
theorem dX0_lose_32 : decode cX0_lose 32 = .ok (.aload_n 0, 1) := by decide +kernel
theorem dX0_lose_33 : decode cX0_lose 33 = .ok (.getfield 80, 3) := by decide +kernel
theorem dX0_lose_36 : decode cX0_lose 36 = .ok (.lload_n 3, 1) := by decide +kernel
theorem dX0_lose_37 : decode cX0_lose 37 = .ok (.lor, 1) := by decide +kernel
theorem dX0_lose_38 : decode cX0_lose 38 = .ok (.goto 13, 3) := by decide +kernel
theorem dX0_lose_41 : decode cX0_lose 41 = .ok (.aload_n 0, 1) := by decide +kernel
theorem dX0_lose_42 : decode cX0_lose 42 = .ok (.getfield 80, 3) := by decide +kernel
theorem dX0_lose_45 : decode cX0_lose 45 = .ok (.lload_n 3, 1) := by decide +kernel
theorem dX0_lose_46 : decode cX0_lose 46 = .ok (.ldc2_w 84, 3) := by decide +kernel
theorem dX0_lose_49 : decode cX0_lose 49 = .ok (.lxor, 1) := by decide +kernel
theorem dX0_lose_50 : decode cX0_lose 50 = .ok (.land, 1) := by decide +kernel
theorem dX0_lose_51 : decode cX0_lose 51 = .ok (.putfield 80, 3) := by decide +kernel
theorem dX0_lose_54 : decode cX0_lose 54 = .ok (.iload 5, 2) := by decide +kernel
theorem dX0_lose_56 : decode cX0_lose 56 = .ok (.ireturn, 1) := by decide +kernel
theorem dX0_good_0 : decode cX0_good 0 = .ok (.aload_n 0, 1) := by decide +kernel
theorem dX0_good_1 : decode cX0_good 1 = .ok (.iload_n 1, 1) := by decide +kernel
theorem dX0_good_2 : decode cX0_good 2 = .ok (.invokevirtual 61, 3) := by decide +kernel
theorem dX0_good_5 : decode cX0_good 5 = .ok (.aload_n 0, 1) := by decide +kernel
theorem dX0_good_6 : decode cX0_good 6 = .ok (.iload_n 1, 1) := by decide +kernel
theorem dX0_good_7 : decode cX0_good 7 = .ok (.invokevirtual 86, 3) := by decide +kernel
theorem dX0_good_10 : decode cX0_good 10 = .ok (.ireturn, 1) := by decide +kernel
theorem dX0_isGood_0 : decode cX0_isGood 0 = .ok (.aload_n 0, 1) := by decide +kernel
theorem dX0_isGood_1 : decode cX0_isGood 1 = .ok (.getfield 19, 3) := by decide +kernel
theorem dX0_isGood_4 : decode cX0_isGood 4 = .ok (.iload_n 1, 1) := by decide +kernel
theorem dX0_isGood_5 : decode cX0_isGood 5 = .ok (.laload, 1) := by decide +kernel
theorem dX0_isGood_6 : decode cX0_isGood 6 = .ok (.aload_n 0, 1) := by decide +kernel
theorem dX0_isGood_7 : decode cX0_isGood 7 = .ok (.getfield 80, 3) := by decide +kernel
theorem dX0_isGood_10 : decode cX0_isGood 10 = .ok (.land, 1) := by decide +kernel
theorem dX0_isGood_11 : decode cX0_isGood 11 = .ok (.lconst 0, 1) := by decide +kernel
theorem dX0_isGood_12 : decode cX0_isGood 12 = .ok (.lcmp, 1) := by decide +kernel
theorem dX0_isGood_13 : decode cX0_isGood 13 = .ok (.ifCond .ne 7, 3) := by decide +kernel
theorem dX0_isGood_16 : decode cX0_isGood 16 = .ok (.iconst 1, 1) := by decide +kernel
theorem dX0_isGood_17 : decode cX0_isGood 17 = .ok (.goto 4, 3) := by decide +kernel
theorem dX0_isGood_20 : decode cX0_isGood 20 = .ok (.iconst 0, 1) := by decide +kernel
theorem dX0_isGood_21 : decode cX0_isGood 21 = .ok (.ireturn, 1) := by decide +kernel
theorem dX0_latest_0 : decode cX0_latest 0 = .ok (.aload_n 0, 1) := by decide +kernel
theorem dX0_latest_1 : decode cX0_latest 1 = .ok (.iload_n 1, 1) := by decide +kernel
theorem dX0_latest_2 : decode cX0_latest 2 = .ok (.invokevirtual 61, 3) := by decide +kernel
theorem dX0_latest_5 : decode cX0_latest 5 = .ok (.iload_n 1, 1) := by decide +kernel
theorem dX0_latest_6 : decode cX0_latest 6 = .ok (.istore_n 2, 1) := by decide +kernel
theorem dX0_latest_7 : decode cX0_latest 7 = .ok (.iload_n 2, 1) := by decide +kernel
theorem dX0_latest_8 : decode cX0_latest 8 = .ok (.ifCond .lt 19, 3) := by decide +kernel
theorem dX0_latest_11 : decode cX0_latest 11 = .ok (.aload_n 0, 1) := by decide +kernel
theorem dX0_latest_12 : decode cX0_latest 12 = .ok (.iload_n 2, 1) := by decide +kernel
theorem dX0_latest_13 : decode cX0_latest 13 = .ok (.invokevirtual 86, 3) := by decide +kernel
theorem dX0_latest_16 : decode cX0_latest 16 = .ok (.ifCond .eq 5, 3) := by decide +kernel
theorem dX0_latest_19 : decode cX0_latest 19 = .ok (.iload_n 2, 1) := by decide +kernel
theorem dX0_latest_20 : decode cX0_latest 20 = .ok (.ireturn, 1) := by decide +kernel
theorem dX0_latest_21 : decode cX0_latest 21 = .ok (.iinc 2 (-1), 3) := by decide +kernel
theorem dX0_latest_24 : decode cX0_latest 24 = .ok (.goto (-17), 3) := by decide +kernel
theorem dX0_latest_27 : decode cX0_latest 27 = .ok (.iconst (-1), 1) := by decide +kernel
theorem dX0_latest_28 : decode cX0_latest 28 = .ok (.ireturn, 1) := by decide +kernel
theorem dX0_spare_0 : decode cX0_spare 0 = .ok (.iload_n 1, 1) := by decide +kernel
theorem dX0_spare_1 : decode cX0_spare 1 = .ok (.ifCond .ge 13, 3) := by decide +kernel
theorem dX0_spare_4 : decode cX0_spare 4 = .ok (.new 30, 3) := by decide +kernel
theorem dX0_spare_7 : decode cX0_spare 7 = .ok (.dup, 1) := by decide +kernel
theorem dX0_spare_8 : decode cX0_spare 8 = .ok (.ldc 90, 2) := by decide +kernel
theorem dX0_spare_10 : decode cX0_spare 10 = .ok (.invokespecial 34, 3) := by decide +kernel
theorem dX0_spare_13 : decode cX0_spare 13 = .ok (.athrow, 1) := by decide +kernel
theorem dX0_spare_14 : decode cX0_spare 14 = .ok (.aload_n 0, 1) := by decide +kernel
theorem dX0_spare_15 : decode cX0_spare 15 = .ok (.invokevirtual 92, 3) := by decide +kernel
theorem dX0_spare_18 : decode cX0_spare 18 = .ok (.istore_n 2, 1) := by decide +kernel
theorem dX0_spare_19 : decode cX0_spare 19 = .ok (.iload_n 2, 1) := by decide +kernel
theorem dX0_spare_20 : decode cX0_spare 20 = .ok (.ifCond .ne 7, 3) := by decide +kernel
theorem dX0_spare_23 : decode cX0_spare 23 = .ok (.lconst 0, 1) := by decide +kernel
theorem dX0_spare_24 : decode cX0_spare 24 = .ok (.goto 10, 3) := by decide +kernel
theorem dX0_spare_27 : decode cX0_spare 27 = .ok (.iconst 0, 1) := by decide +kernel
theorem dX0_spare_28 : decode cX0_spare 28 = .ok (.iload_n 2, 1) := by decide +kernel
theorem dX0_spare_29 : decode cX0_spare 29 = .ok (.iconst 1, 1) := by decide +kernel
theorem dX0_spare_30 : decode cX0_spare 30 = .ok (.isub, 1) := by decide +kernel
theorem dX0_spare_31 : decode cX0_spare 31 = .ok (.invokestatic 96, 3) := by decide +kernel
theorem dX0_spare_34 : decode cX0_spare 34 = .ok (.lstore_n 3, 1) := by decide +kernel
theorem dX0_spare_35 : decode cX0_spare 35 = .ok (.iconst 0, 1) := by decide +kernel
theorem dX0_spare_36 : decode cX0_spare 36 = .ok (.aload_n 0, 1) := by decide +kernel
theorem dX0_spare_37 : decode cX0_spare 37 = .ok (.getfield 41, 3) := by decide +kernel
theorem dX0_spare_40 : decode cX0_spare 40 = .ok (.iload_n 1, 1) := by decide +kernel
theorem dX0_spare_41 : decode cX0_spare 41 = .ok (.isub, 1) := by decide +kernel
theorem dX0_spare_42 : decode cX0_spare 42 = .ok (.invokestatic 100, 3) := by decide +kernel
theorem dX0_spare_45 : decode cX0_spare 45 = .ok (.istore 5, 2) := by decide +kernel
theorem dX0_spare_47 : decode cX0_spare 47 = .ok (.iload 5, 2) := by decide +kernel
theorem dX0_spare_49 : decode cX0_spare 49 = .ok (.aload_n 0, 1) := by decide +kernel
theorem dX0_spare_50 : decode cX0_spare 50 = .ok (.getfield 41, 3) := by decide +kernel
theorem dX0_spare_53 : decode cX0_spare 53 = .ok (.if_icmp .ge 23, 3) := by decide +kernel
theorem dX0_spare_56 : decode cX0_spare 56 = .ok (.lload_n 3, 1) := by decide +kernel
theorem dX0_spare_57 : decode cX0_spare 57 = .ok (.aload_n 0, 1) := by decide +kernel
theorem dX0_spare_58 : decode cX0_spare 58 = .ok (.getfield 19, 3) := by decide +kernel
theorem dX0_spare_61 : decode cX0_spare 61 = .ok (.iload 5, 2) := by decide +kernel
theorem dX0_spare_63 : decode cX0_spare 63 = .ok (.laload, 1) := by decide +kernel
theorem dX0_spare_64 : decode cX0_spare 64 = .ok (.ldc2_w 84, 3) := by decide +kernel
theorem dX0_spare_67 : decode cX0_spare 67 = .ok (.lxor, 1) := by decide +kernel
theorem dX0_spare_68 : decode cX0_spare 68 = .ok (.land, 1) := by decide +kernel
theorem dX0_spare_69 : decode cX0_spare 69 = .ok (.lstore_n 3, 1) := by decide +kernel
theorem dX0_spare_70 : decode cX0_spare 70 = .ok (.iinc 5 1, 3) := by decide +kernel
theorem dX0_spare_73 : decode cX0_spare 73 = .ok (.goto (-26), 3) := by decide +kernel
theorem dX0_spare_76 : decode cX0_spare 76 = .ok (.lload_n 3, 1) := by decide +kernel
theorem dX0_spare_77 : decode cX0_spare 77 = .ok (.lreturn, 1) := by decide +kernel
theorem dX0_writtenVolumes_0 : decode cX0_writtenVolumes 0 = .ok (.aload_n 0, 1) := by decide +kernel
theorem dX0_writtenVolumes_1 : decode cX0_writtenVolumes 1 = .ok (.getfield 23, 3) := by decide +kernel
theorem dX0_writtenVolumes_4 : decode cX0_writtenVolumes 4 = .ok (.aload_n 0, 1) := by decide +kernel
theorem dX0_writtenVolumes_5 : decode cX0_writtenVolumes 5 = .ok (.getfield 41, 3) := by decide +kernel
theorem dX0_writtenVolumes_8 : decode cX0_writtenVolumes 8 = .ok (.iaload, 1) := by decide +kernel
theorem dX0_writtenVolumes_9 : decode cX0_writtenVolumes 9 = .ok (.istore_n 1, 1) := by decide +kernel
theorem dX0_writtenVolumes_10 : decode cX0_writtenVolumes 10 = .ok (.iload_n 1, 1) := by decide +kernel
theorem dX0_writtenVolumes_11 : decode cX0_writtenVolumes 11 = .ok (.ifCond .ne 7, 3) := by decide +kernel
theorem dX0_writtenVolumes_14 : decode cX0_writtenVolumes 14 = .ok (.iconst 0, 1) := by decide +kernel
theorem dX0_writtenVolumes_15 : decode cX0_writtenVolumes 15 = .ok (.goto 12, 3) := by decide +kernel
theorem dX0_writtenVolumes_18 : decode cX0_writtenVolumes 18 = .ok (.aload_n 0, 1) := by decide +kernel
theorem dX0_writtenVolumes_19 : decode cX0_writtenVolumes 19 = .ok (.iload_n 1, 1) := by decide +kernel
theorem dX0_writtenVolumes_20 : decode cX0_writtenVolumes 20 = .ok (.iconst 1, 1) := by decide +kernel
theorem dX0_writtenVolumes_21 : decode cX0_writtenVolumes 21 = .ok (.isub, 1) := by decide +kernel
theorem dX0_writtenVolumes_22 : decode cX0_writtenVolumes 22 = .ok (.invokevirtual 68, 3) := by decide +kernel
theorem dX0_writtenVolumes_25 : decode cX0_writtenVolumes 25 = .ok (.iconst 1, 1) := by decide +kernel
theorem dX0_writtenVolumes_26 : decode cX0_writtenVolumes 26 = .ok (.iadd, 1) := by decide +kernel
theorem dX0_writtenVolumes_27 : decode cX0_writtenVolumes 27 = .ok (.ireturn, 1) := by decide +kernel
theorem dX0_count_0 : decode cX0_count 0 = .ok (.iload_n 1, 1) := by decide +kernel
theorem dX0_count_1 : decode cX0_count 1 = .ok (.tableswitch 82 0 5 #[39, 44, 49, 64, 69, 74], 39) := by decide +kernel
theorem dX0_count_40 : decode cX0_count 40 = .ok (.aload_n 0, 1) := by decide +kernel
theorem dX0_count_41 : decode cX0_count 41 = .ok (.getfield 41, 3) := by decide +kernel
theorem dX0_count_44 : decode cX0_count 44 = .ok (.ireturn, 1) := by decide +kernel
theorem dX0_count_45 : decode cX0_count 45 = .ok (.aload_n 0, 1) := by decide +kernel
theorem dX0_count_46 : decode cX0_count 46 = .ok (.invokevirtual 92, 3) := by decide +kernel
theorem dX0_count_49 : decode cX0_count 49 = .ok (.ireturn, 1) := by decide +kernel
theorem dX0_count_50 : decode cX0_count 50 = .ok (.aload_n 0, 1) := by decide +kernel
theorem dX0_count_51 : decode cX0_count 51 = .ok (.getfield 23, 3) := by decide +kernel
theorem dX0_count_54 : decode cX0_count 54 = .ok (.aload_n 0, 1) := by decide +kernel
theorem dX0_count_55 : decode cX0_count 55 = .ok (.getfield 41, 3) := by decide +kernel
theorem dX0_count_58 : decode cX0_count 58 = .ok (.iaload, 1) := by decide +kernel
theorem dX0_count_59 : decode cX0_count 59 = .ok (.aload_n 0, 1) := by decide +kernel
theorem dX0_count_60 : decode cX0_count 60 = .ok (.invokevirtual 92, 3) := by decide +kernel
theorem dX0_count_63 : decode cX0_count 63 = .ok (.iadd, 1) := by decide +kernel
theorem dX0_count_64 : decode cX0_count 64 = .ok (.ireturn, 1) := by decide +kernel
theorem dX0_count_65 : decode cX0_count 65 = .ok (.aload_n 0, 1) := by decide +kernel
theorem dX0_count_66 : decode cX0_count 66 = .ok (.invokevirtual 105, 3) := by decide +kernel
theorem dX0_count_69 : decode cX0_count 69 = .ok (.ireturn, 1) := by decide +kernel
theorem dX0_count_70 : decode cX0_count 70 = .ok (.aload_n 0, 1) := by decide +kernel
theorem dX0_count_71 : decode cX0_count 71 = .ok (.invokevirtual 108, 3) := by decide +kernel
theorem dX0_count_74 : decode cX0_count 74 = .ok (.ireturn, 1) := by decide +kernel
theorem dX0_count_75 : decode cX0_count 75 = .ok (.aload_n 0, 1) := by decide +kernel
theorem dX0_count_76 : decode cX0_count 76 = .ok (.getfield 80, 3) := by decide +kernel
theorem dX0_count_79 : decode cX0_count 79 = .ok (.invokestatic 111, 3) := by decide +kernel
theorem dX0_count_82 : decode cX0_count 82 = .ok (.ireturn, 1) := by decide +kernel
theorem dX0_count_83 : decode cX0_count 83 = .ok (.new 30, 3) := by decide +kernel
theorem dX0_count_86 : decode cX0_count 86 = .ok (.dup, 1) := by decide +kernel
theorem dX0_count_87 : decode cX0_count 87 = .ok (.ldc 117, 2) := by decide +kernel
theorem dX0_count_89 : decode cX0_count 89 = .ok (.invokespecial 34, 3) := by decide +kernel
theorem dX0_count_92 : decode cX0_count 92 = .ok (.athrow, 1) := by decide +kernel
theorem dX0_goodDumps_0 : decode cX0_goodDumps 0 = .ok (.iconst 0, 1) := by decide +kernel
theorem dX0_goodDumps_1 : decode cX0_goodDumps 1 = .ok (.istore_n 1, 1) := by decide +kernel
theorem dX0_goodDumps_2 : decode cX0_goodDumps 2 = .ok (.iconst 0, 1) := by decide +kernel
theorem dX0_goodDumps_3 : decode cX0_goodDumps 3 = .ok (.istore_n 2, 1) := by decide +kernel
theorem dX0_goodDumps_4 : decode cX0_goodDumps 4 = .ok (.iload_n 2, 1) := by decide +kernel
theorem dX0_goodDumps_5 : decode cX0_goodDumps 5 = .ok (.aload_n 0, 1) := by decide +kernel
theorem dX0_goodDumps_6 : decode cX0_goodDumps 6 = .ok (.getfield 41, 3) := by decide +kernel
theorem dX0_goodDumps_9 : decode cX0_goodDumps 9 = .ok (.if_icmp .ge 20, 3) := by decide +kernel
theorem dX0_goodDumps_12 : decode cX0_goodDumps 12 = .ok (.aload_n 0, 1) := by decide +kernel
theorem dX0_goodDumps_13 : decode cX0_goodDumps 13 = .ok (.iload_n 2, 1) := by decide +kernel
theorem dX0_goodDumps_14 : decode cX0_goodDumps 14 = .ok (.invokevirtual 86, 3) := by decide +kernel
theorem dX0_goodDumps_17 : decode cX0_goodDumps 17 = .ok (.ifCond .eq 6, 3) := by decide +kernel
theorem dX0_goodDumps_20 : decode cX0_goodDumps 20 = .ok (.iinc 1 1, 3) := by decide +kernel
theorem dX0_goodDumps_23 : decode cX0_goodDumps 23 = .ok (.iinc 2 1, 3) := by decide +kernel
theorem dX0_goodDumps_26 : decode cX0_goodDumps 26 = .ok (.goto (-22), 3) := by decide +kernel
theorem dX0_goodDumps_29 : decode cX0_goodDumps 29 = .ok (.iload_n 1, 1) := by decide +kernel
theorem dX0_goodDumps_30 : decode cX0_goodDumps 30 = .ok (.ireturn, 1) := by decide +kernel
theorem dX0_longestChain_0 : decode cX0_longestChain 0 = .ok (.iconst 0, 1) := by decide +kernel
theorem dX0_longestChain_1 : decode cX0_longestChain 1 = .ok (.istore_n 1, 1) := by decide +kernel
theorem dX0_longestChain_2 : decode cX0_longestChain 2 = .ok (.iconst 0, 1) := by decide +kernel
theorem dX0_longestChain_3 : decode cX0_longestChain 3 = .ok (.istore_n 2, 1) := by decide +kernel
theorem dX0_longestChain_4 : decode cX0_longestChain 4 = .ok (.iload_n 2, 1) := by decide +kernel
theorem dX0_longestChain_5 : decode cX0_longestChain 5 = .ok (.aload_n 0, 1) := by decide +kernel
theorem dX0_longestChain_6 : decode cX0_longestChain 6 = .ok (.getfield 41, 3) := by decide +kernel
theorem dX0_longestChain_9 : decode cX0_longestChain 9 = .ok (.if_icmp .ge 20, 3) := by decide +kernel
theorem dX0_longestChain_12 : decode cX0_longestChain 12 = .ok (.iload_n 1, 1) := by decide +kernel
theorem dX0_longestChain_13 : decode cX0_longestChain 13 = .ok (.aload_n 0, 1) := by decide +kernel
theorem dX0_longestChain_14 : decode cX0_longestChain 14 = .ok (.getfield 16, 3) := by decide +kernel
theorem dX0_longestChain_17 : decode cX0_longestChain 17 = .ok (.iload_n 2, 1) := by decide +kernel
theorem dX0_longestChain_18 : decode cX0_longestChain 18 = .ok (.iaload, 1) := by decide +kernel
theorem dX0_longestChain_19 : decode cX0_longestChain 19 = .ok (.invokestatic 100, 3) := by decide +kernel
theorem dX0_longestChain_22 : decode cX0_longestChain 22 = .ok (.istore_n 1, 1) := by decide +kernel
theorem dX0_longestChain_23 : decode cX0_longestChain 23 = .ok (.iinc 2 1, 3) := by decide +kernel
theorem dX0_longestChain_26 : decode cX0_longestChain 26 = .ok (.goto (-22), 3) := by decide +kernel
theorem dX0_longestChain_29 : decode cX0_longestChain 29 = .ok (.iload_n 1, 1) := by decide +kernel
theorem dX0_longestChain_30 : decode cX0_longestChain 30 = .ok (.ireturn, 1) := by decide +kernel
end
section
/-! the instructions, decoded -/
theorem dJ13_bitCount_0 : decode cJ13_bitCount 0 = .ok (.lload_n 0, 1) := by decide +kernel
theorem dJ13_bitCount_1 : decode cJ13_bitCount 1 = .ok (.lload_n 0, 1) := by decide +kernel
theorem dJ13_bitCount_2 : decode cJ13_bitCount 2 = .ok (.iconst 1, 1) := by decide +kernel
theorem dJ13_bitCount_3 : decode cJ13_bitCount 3 = .ok (.lushr, 1) := by decide +kernel
theorem dJ13_bitCount_4 : decode cJ13_bitCount 4 = .ok (.ldc2_w 314, 3) := by decide +kernel
theorem dJ13_bitCount_7 : decode cJ13_bitCount 7 = .ok (.land, 1) := by decide +kernel
theorem dJ13_bitCount_8 : decode cJ13_bitCount 8 = .ok (.lsub, 1) := by decide +kernel
theorem dJ13_bitCount_9 : decode cJ13_bitCount 9 = .ok (.lstore_n 0, 1) := by decide +kernel
theorem dJ13_bitCount_10 : decode cJ13_bitCount 10 = .ok (.lload_n 0, 1) := by decide +kernel
theorem dJ13_bitCount_11 : decode cJ13_bitCount 11 = .ok (.ldc2_w 316, 3) := by decide +kernel
theorem dJ13_bitCount_14 : decode cJ13_bitCount 14 = .ok (.land, 1) := by decide +kernel
theorem dJ13_bitCount_15 : decode cJ13_bitCount 15 = .ok (.lload_n 0, 1) := by decide +kernel
theorem dJ13_bitCount_16 : decode cJ13_bitCount 16 = .ok (.iconst 2, 1) := by decide +kernel
theorem dJ13_bitCount_17 : decode cJ13_bitCount 17 = .ok (.lushr, 1) := by decide +kernel
theorem dJ13_bitCount_18 : decode cJ13_bitCount 18 = .ok (.ldc2_w 316, 3) := by decide +kernel
theorem dJ13_bitCount_21 : decode cJ13_bitCount 21 = .ok (.land, 1) := by decide +kernel
theorem dJ13_bitCount_22 : decode cJ13_bitCount 22 = .ok (.ladd, 1) := by decide +kernel
theorem dJ13_bitCount_23 : decode cJ13_bitCount 23 = .ok (.lstore_n 0, 1) := by decide +kernel
theorem dJ13_bitCount_24 : decode cJ13_bitCount 24 = .ok (.lload_n 0, 1) := by decide +kernel
theorem dJ13_bitCount_25 : decode cJ13_bitCount 25 = .ok (.lload_n 0, 1) := by decide +kernel
theorem dJ13_bitCount_26 : decode cJ13_bitCount 26 = .ok (.iconst 4, 1) := by decide +kernel
theorem dJ13_bitCount_27 : decode cJ13_bitCount 27 = .ok (.lushr, 1) := by decide +kernel
theorem dJ13_bitCount_28 : decode cJ13_bitCount 28 = .ok (.ladd, 1) := by decide +kernel
theorem dJ13_bitCount_29 : decode cJ13_bitCount 29 = .ok (.ldc2_w 318, 3) := by decide +kernel
theorem dJ13_bitCount_32 : decode cJ13_bitCount 32 = .ok (.land, 1) := by decide +kernel
theorem dJ13_bitCount_33 : decode cJ13_bitCount 33 = .ok (.lstore_n 0, 1) := by decide +kernel
theorem dJ13_bitCount_34 : decode cJ13_bitCount 34 = .ok (.lload_n 0, 1) := by decide +kernel
theorem dJ13_bitCount_35 : decode cJ13_bitCount 35 = .ok (.lload_n 0, 1) := by decide +kernel
theorem dJ13_bitCount_36 : decode cJ13_bitCount 36 = .ok (.bipush 8, 2) := by decide +kernel
theorem dJ13_bitCount_38 : decode cJ13_bitCount 38 = .ok (.lushr, 1) := by decide +kernel
theorem dJ13_bitCount_39 : decode cJ13_bitCount 39 = .ok (.ladd, 1) := by decide +kernel
theorem dJ13_bitCount_40 : decode cJ13_bitCount 40 = .ok (.lstore_n 0, 1) := by decide +kernel
theorem dJ13_bitCount_41 : decode cJ13_bitCount 41 = .ok (.lload_n 0, 1) := by decide +kernel
theorem dJ13_bitCount_42 : decode cJ13_bitCount 42 = .ok (.lload_n 0, 1) := by decide +kernel
theorem dJ13_bitCount_43 : decode cJ13_bitCount 43 = .ok (.bipush 16, 2) := by decide +kernel
theorem dJ13_bitCount_45 : decode cJ13_bitCount 45 = .ok (.lushr, 1) := by decide +kernel
theorem dJ13_bitCount_46 : decode cJ13_bitCount 46 = .ok (.ladd, 1) := by decide +kernel
theorem dJ13_bitCount_47 : decode cJ13_bitCount 47 = .ok (.lstore_n 0, 1) := by decide +kernel
theorem dJ13_bitCount_48 : decode cJ13_bitCount 48 = .ok (.lload_n 0, 1) := by decide +kernel
theorem dJ13_bitCount_49 : decode cJ13_bitCount 49 = .ok (.lload_n 0, 1) := by decide +kernel
theorem dJ13_bitCount_50 : decode cJ13_bitCount 50 = .ok (.bipush 32, 2) := by decide +kernel
theorem dJ13_bitCount_52 : decode cJ13_bitCount 52 = .ok (.lushr, 1) := by decide +kernel
theorem dJ13_bitCount_53 : decode cJ13_bitCount 53 = .ok (.ladd, 1) := by decide +kernel
theorem dJ13_bitCount_54 : decode cJ13_bitCount 54 = .ok (.lstore_n 0, 1) := by decide +kernel
theorem dJ13_bitCount_55 : decode cJ13_bitCount 55 = .ok (.lload_n 0, 1) := by decide +kernel
theorem dJ13_bitCount_56 : decode cJ13_bitCount 56 = .ok (.l2i, 1) := by decide +kernel
theorem dJ13_bitCount_57 : decode cJ13_bitCount 57 = .ok (.bipush 127, 2) := by decide +kernel
theorem dJ13_bitCount_59 : decode cJ13_bitCount 59 = .ok (.iand, 1) := by decide +kernel
theorem dJ13_bitCount_60 : decode cJ13_bitCount 60 = .ok (.ireturn, 1) := by decide +kernel
theorem dX1_init_0 : decode cX1_init 0 = .ok (.aload_n 0, 1) := by decide +kernel
theorem dX1_init_1 : decode cX1_init 1 = .ok (.invokespecial 1, 3) := by decide +kernel
theorem dX1_init_4 : decode cX1_init 4 = .ok (.aload_n 0, 1) := by decide +kernel
theorem dX1_init_5 : decode cX1_init 5 = .ok (.sipush 300, 3) := by decide +kernel
theorem dX1_init_8 : decode cX1_init 8 = .ok (.newarray .int, 2) := by decide +kernel
theorem dX1_init_10 : decode cX1_init 10 = .ok (.putfield 7, 3) := by decide +kernel
theorem dX1_init_13 : decode cX1_init 13 = .ok (.aload_n 0, 1) := by decide +kernel
theorem dX1_init_14 : decode cX1_init 14 = .ok (.sipush 300, 3) := by decide +kernel
theorem dX1_init_17 : decode cX1_init 17 = .ok (.newarray .int, 2) := by decide +kernel
theorem dX1_init_19 : decode cX1_init 19 = .ok (.putfield 13, 3) := by decide +kernel
theorem dX1_init_22 : decode cX1_init 22 = .ok (.aload_n 0, 1) := by decide +kernel
theorem dX1_init_23 : decode cX1_init 23 = .ok (.bipush 64, 2) := by decide +kernel
theorem dX1_init_25 : decode cX1_init 25 = .ok (.newarray .boolean, 2) := by decide +kernel
theorem dX1_init_27 : decode cX1_init 27 = .ok (.putfield 16, 3) := by decide +kernel
theorem dX1_init_30 : decode cX1_init 30 = .ok (.aload_n 0, 1) := by decide +kernel
theorem dX1_init_31 : decode cX1_init 31 = .ok (.bipush 64, 2) := by decide +kernel
theorem dX1_init_33 : decode cX1_init 33 = .ok (.newarray .boolean, 2) := by decide +kernel
theorem dX1_init_35 : decode cX1_init 35 = .ok (.putfield 20, 3) := by decide +kernel
theorem dX1_init_38 : decode cX1_init 38 = .ok (.aload_n 0, 1) := by decide +kernel
theorem dX1_init_39 : decode cX1_init 39 = .ok (.bipush 100, 2) := by decide +kernel
theorem dX1_init_41 : decode cX1_init 41 = .ok (.putfield 23, 3) := by decide +kernel
theorem dX1_init_44 : decode cX1_init 44 = .ok (.return_, 1) := by decide +kernel
theorem dX1_thrown_0 : decode cX1_thrown 0 = .ok (.aload_n 0, 1) := by decide +kernel
theorem dX1_thrown_1 : decode cX1_thrown 1 = .ok (.getfield 27, 3) := by decide +kernel
theorem dX1_thrown_4 : decode cX1_thrown 4 = .ok (.ireturn, 1) := by decide +kernel
theorem dX1_begin_0 : decode cX1_begin 0 = .ok (.aload_n 0, 1) := by decide +kernel
theorem dX1_begin_1 : decode cX1_begin 1 = .ok (.iload_n 1, 1) := by decide +kernel
theorem dX1_begin_2 : decode cX1_begin 2 = .ok (.iconst 2, 1) := by decide +kernel
theorem dX1_begin_3 : decode cX1_begin 3 = .ok (.if_icmp .lt 10, 3) := by decide +kernel
theorem dX1_begin_6 : decode cX1_begin 6 = .ok (.iload_n 1, 1) := by decide +kernel
theorem dX1_begin_7 : decode cX1_begin 7 = .ok (.sipush 1000, 3) := by decide +kernel
theorem dX1_begin_10 : decode cX1_begin 10 = .ok (.if_icmp .le 7, 3) := by decide +kernel
theorem dX1_begin_13 : decode cX1_begin 13 = .ok (.iconst 1, 1) := by decide +kernel
theorem dX1_begin_14 : decode cX1_begin 14 = .ok (.goto 4, 3) := by decide +kernel
theorem dX1_begin_17 : decode cX1_begin 17 = .ok (.iconst 0, 1) := by decide +kernel
theorem dX1_begin_18 : decode cX1_begin 18 = .ok (.iconst 1, 1) := by decide +kernel
theorem dX1_begin_19 : decode cX1_begin 19 = .ok (.invokevirtual 33, 3) := by decide +kernel
theorem dX1_begin_22 : decode cX1_begin 22 = .ok (.ifCond .eq 4, 3) := by decide +kernel
theorem dX1_begin_25 : decode cX1_begin 25 = .ok (.return_, 1) := by decide +kernel
theorem dX1_begin_26 : decode cX1_begin 26 = .ok (.aload_n 0, 1) := by decide +kernel
theorem dX1_begin_27 : decode cX1_begin 27 = .ok (.iload_n 1, 1) := by decide +kernel
theorem dX1_begin_28 : decode cX1_begin 28 = .ok (.putfield 23, 3) := by decide +kernel
theorem dX1_begin_31 : decode cX1_begin 31 = .ok (.aload_n 0, 1) := by decide +kernel
theorem dX1_begin_32 : decode cX1_begin 32 = .ok (.iconst 0, 1) := by decide +kernel
theorem dX1_begin_33 : decode cX1_begin 33 = .ok (.putfield 30, 3) := by decide +kernel
theorem dX1_begin_36 : decode cX1_begin 36 = .ok (.iconst 0, 1) := by decide +kernel
theorem dX1_begin_37 : decode cX1_begin 37 = .ok (.istore_n 2, 1) := by decide +kernel
theorem dX1_begin_38 : decode cX1_begin 38 = .ok (.iload_n 2, 1) := by decide +kernel
theorem dX1_begin_39 : decode cX1_begin 39 = .ok (.bipush 64, 2) := by decide +kernel
theorem dX1_begin_41 : decode cX1_begin 41 = .ok (.if_icmp .ge 16, 3) := by decide +kernel
theorem dX1_begin_44 : decode cX1_begin 44 = .ok (.aload_n 0, 1) := by decide +kernel
theorem dX1_begin_45 : decode cX1_begin 45 = .ok (.getfield 16, 3) := by decide +kernel
theorem dX1_begin_48 : decode cX1_begin 48 = .ok (.iload_n 2, 1) := by decide +kernel
theorem dX1_begin_49 : decode cX1_begin 49 = .ok (.iconst 0, 1) := by decide +kernel
theorem dX1_begin_50 : decode cX1_begin 50 = .ok (.bastore, 1) := by decide +kernel
theorem dX1_begin_51 : decode cX1_begin 51 = .ok (.iinc 2 1, 3) := by decide +kernel
theorem dX1_begin_54 : decode cX1_begin 54 = .ok (.goto (-16), 3) := by decide +kernel
theorem dX1_begin_57 : decode cX1_begin 57 = .ok (.return_, 1) := by decide +kernel
theorem dX1_fails_0 : decode cX1_fails 0 = .ok (.aload_n 0, 1) := by decide +kernel
theorem dX1_fails_1 : decode cX1_fails 1 = .ok (.iload_n 1, 1) := by decide +kernel
theorem dX1_fails_2 : decode cX1_fails 2 = .ok (.ifCond .eq 7, 3) := by decide +kernel
theorem dX1_fails_5 : decode cX1_fails 5 = .ok (.iload_n 2, 1) := by decide +kernel
theorem dX1_fails_6 : decode cX1_fails 6 = .ok (.goto 4, 3) := by decide +kernel
theorem dX1_fails_9 : decode cX1_fails 9 = .ok (.iconst 0, 1) := by decide +kernel
theorem dX1_fails_10 : decode cX1_fails 10 = .ok (.putfield 27, 3) := by decide +kernel
theorem dX1_fails_13 : decode cX1_fails 13 = .ok (.iload_n 1, 1) := by decide +kernel
theorem dX1_fails_14 : decode cX1_fails 14 = .ok (.ireturn, 1) := by decide +kernel
theorem dX1_dump_0 : decode cX1_dump 0 = .ok (.aload_n 0, 1) := by decide +kernel
theorem dX1_dump_1 : decode cX1_dump 1 = .ok (.iload_n 1, 1) := by decide +kernel
theorem dX1_dump_2 : decode cX1_dump 2 = .ok (.ifCond .lt 21, 3) := by decide +kernel
theorem dX1_dump_5 : decode cX1_dump 5 = .ok (.iload_n 1, 1) := by decide +kernel
theorem dX1_dump_6 : decode cX1_dump 6 = .ok (.bipush 9, 2) := by decide +kernel
theorem dX1_dump_8 : decode cX1_dump 8 = .ok (.if_icmp .gt 15, 3) := by decide +kernel
theorem dX1_dump_11 : decode cX1_dump 11 = .ok (.iload_n 2, 1) := by decide +kernel
theorem dX1_dump_12 : decode cX1_dump 12 = .ok (.iconst 1, 1) := by decide +kernel
theorem dX1_dump_13 : decode cX1_dump 13 = .ok (.if_icmp .lt 10, 3) := by decide +kernel
theorem dX1_dump_16 : decode cX1_dump 16 = .ok (.iload_n 2, 1) := by decide +kernel
theorem dX1_dump_17 : decode cX1_dump 17 = .ok (.sipush 500, 3) := by decide +kernel
theorem dX1_dump_20 : decode cX1_dump 20 = .ok (.if_icmp .le 7, 3) := by decide +kernel
theorem dX1_dump_23 : decode cX1_dump 23 = .ok (.iconst 1, 1) := by decide +kernel
theorem dX1_dump_24 : decode cX1_dump 24 = .ok (.goto 4, 3) := by decide +kernel
theorem dX1_dump_27 : decode cX1_dump 27 = .ok (.iconst 0, 1) := by decide +kernel
theorem dX1_dump_28 : decode cX1_dump 28 = .ok (.iconst 1, 1) := by decide +kernel
theorem dX1_dump_29 : decode cX1_dump 29 = .ok (.invokevirtual 33, 3) := by decide +kernel
theorem dX1_dump_32 : decode cX1_dump 32 = .ok (.ifCond .eq 5, 3) := by decide +kernel
theorem dX1_dump_35 : decode cX1_dump 35 = .ok (.iconst 0, 1) := by decide +kernel
theorem dX1_dump_36 : decode cX1_dump 36 = .ok (.ireturn, 1) := by decide +kernel
theorem dX1_dump_37 : decode cX1_dump 37 = .ok (.aload_n 0, 1) := by decide +kernel
theorem dX1_dump_38 : decode cX1_dump 38 = .ok (.aload_n 0, 1) := by decide +kernel
theorem dX1_dump_39 : decode cX1_dump 39 = .ok (.getfield 30, 3) := by decide +kernel
theorem dX1_dump_42 : decode cX1_dump 42 = .ok (.sipush 300, 3) := by decide +kernel
theorem dX1_dump_45 : decode cX1_dump 45 = .ok (.if_icmp .eq 25, 3) := by decide +kernel
theorem dX1_dump_48 : decode cX1_dump 48 = .ok (.aload_n 0, 1) := by decide +kernel
theorem dX1_dump_49 : decode cX1_dump 49 = .ok (.aload_n 0, 1) := by decide +kernel
theorem dX1_dump_50 : decode cX1_dump 50 = .ok (.getfield 30, 3) := by decide +kernel
theorem dX1_dump_53 : decode cX1_dump 53 = .ok (.invokevirtual 37, 3) := by decide +kernel
theorem dX1_dump_56 : decode cX1_dump 56 = .ok (.iload_n 2, 1) := by decide +kernel
theorem dX1_dump_57 : decode cX1_dump 57 = .ok (.iadd, 1) := by decide +kernel
theorem dX1_dump_58 : decode cX1_dump 58 = .ok (.bipush 64, 2) := by decide +kernel
theorem dX1_dump_60 : decode cX1_dump 60 = .ok (.aload_n 0, 1) := by decide +kernel
theorem dX1_dump_61 : decode cX1_dump 61 = .ok (.getfield 23, 3) := by decide +kernel
theorem dX1_dump_64 : decode cX1_dump 64 = .ok (.iconst 1, 1) := by decide +kernel
theorem dX1_dump_65 : decode cX1_dump 65 = .ok (.isub, 1) := by decide +kernel
theorem dX1_dump_66 : decode cX1_dump 66 = .ok (.imul, 1) := by decide +kernel
theorem dX1_dump_67 : decode cX1_dump 67 = .ok (.if_icmp .le 7, 3) := by decide +kernel
theorem dX1_dump_70 : decode cX1_dump 70 = .ok (.iconst 1, 1) := by decide +kernel
theorem dX1_dump_71 : decode cX1_dump 71 = .ok (.goto 4, 3) := by decide +kernel
theorem dX1_dump_74 : decode cX1_dump 74 = .ok (.iconst 0, 1) := by decide +kernel
theorem dX1_dump_75 : decode cX1_dump 75 = .ok (.iconst 2, 1) := by decide +kernel
theorem dX1_dump_76 : decode cX1_dump 76 = .ok (.invokevirtual 33, 3) := by decide +kernel
theorem dX1_dump_79 : decode cX1_dump 79 = .ok (.ifCond .eq 5, 3) := by decide +kernel
theorem dX1_dump_82 : decode cX1_dump 82 = .ok (.iconst 0, 1) := by decide +kernel
theorem dX1_dump_83 : decode cX1_dump 83 = .ok (.ireturn, 1) := by decide +kernel
theorem dX1_dump_84 : decode cX1_dump 84 = .ok (.aload_n 0, 1) := by decide +kernel
theorem dX1_dump_85 : decode cX1_dump 85 = .ok (.getfield 7, 3) := by decide +kernel
theorem dX1_dump_88 : decode cX1_dump 88 = .ok (.aload_n 0, 1) := by decide +kernel
theorem dX1_dump_89 : decode cX1_dump 89 = .ok (.getfield 30, 3) := by decide +kernel
theorem dX1_dump_92 : decode cX1_dump 92 = .ok (.iload_n 1, 1) := by decide +kernel
theorem dX1_dump_93 : decode cX1_dump 93 = .ok (.iastore, 1) := by decide +kernel
theorem dX1_dump_94 : decode cX1_dump 94 = .ok (.aload_n 0, 1) := by decide +kernel
theorem dX1_dump_95 : decode cX1_dump 95 = .ok (.getfield 13, 3) := by decide +kernel
theorem dX1_dump_98 : decode cX1_dump 98 = .ok (.aload_n 0, 1) := by decide +kernel
theorem dX1_dump_99 : decode cX1_dump 99 = .ok (.dup, 1) := by decide +kernel
theorem dX1_dump_100 : decode cX1_dump 100 = .ok (.getfield 30, 3) := by decide +kernel
theorem dX1_dump_103 : decode cX1_dump 103 = .ok (.dup_x1, 1) := by decide +kernel
theorem dX1_dump_104 : decode cX1_dump 104 = .ok (.iconst 1, 1) := by decide +kernel
theorem dX1_dump_105 : decode cX1_dump 105 = .ok (.iadd, 1) := by decide +kernel
theorem dX1_dump_106 : decode cX1_dump 106 = .ok (.putfield 30, 3) := by decide +kernel
theorem dX1_dump_109 : decode cX1_dump 109 = .ok (.iload_n 2, 1) := by decide +kernel
theorem dX1_dump_110 : decode cX1_dump 110 = .ok (.iastore, 1) := by decide +kernel
theorem dX1_dump_111 : decode cX1_dump 111 = .ok (.aload_n 0, 1) := by decide +kernel
theorem dX1_dump_112 : decode cX1_dump 112 = .ok (.getfield 30, 3) := by decide +kernel
theorem dX1_dump_115 : decode cX1_dump 115 = .ok (.iconst 1, 1) := by decide +kernel
theorem dX1_dump_116 : decode cX1_dump 116 = .ok (.isub, 1) := by decide +kernel
theorem dX1_dump_117 : decode cX1_dump 117 = .ok (.ireturn, 1) := by decide +kernel
theorem dX1_before_0 : decode cX1_before 0 = .ok (.iconst 0, 1) := by decide +kernel
theorem dX1_before_1 : decode cX1_before 1 = .ok (.istore_n 2, 1) := by decide +kernel
theorem dX1_before_2 : decode cX1_before 2 = .ok (.iconst 0, 1) := by decide +kernel
theorem dX1_before_3 : decode cX1_before 3 = .ok (.istore_n 3, 1) := by decide +kernel
theorem dX1_before_4 : decode cX1_before 4 = .ok (.iload_n 3, 1) := by decide +kernel
theorem dX1_before_5 : decode cX1_before 5 = .ok (.iload_n 1, 1) := by decide +kernel
theorem dX1_before_6 : decode cX1_before 6 = .ok (.if_icmp .ge 18, 3) := by decide +kernel
theorem dX1_before_9 : decode cX1_before 9 = .ok (.iload_n 2, 1) := by decide +kernel
theorem dX1_before_10 : decode cX1_before 10 = .ok (.aload_n 0, 1) := by decide +kernel
theorem dX1_before_11 : decode cX1_before 11 = .ok (.getfield 13, 3) := by decide +kernel
theorem dX1_before_14 : decode cX1_before 14 = .ok (.iload_n 3, 1) := by decide +kernel
theorem dX1_before_15 : decode cX1_before 15 = .ok (.iaload, 1) := by decide +kernel
theorem dX1_before_16 : decode cX1_before 16 = .ok (.iadd, 1) := by decide +kernel
theorem dX1_before_17 : decode cX1_before 17 = .ok (.istore_n 2, 1) := by decide +kernel
theorem dX1_before_18 : decode cX1_before 18 = .ok (.iinc 3 1, 3) := by decide +kernel
theorem dX1_before_21 : decode cX1_before 21 = .ok (.goto (-17), 3) := by decide +kernel
theorem dX1_before_24 : decode cX1_before 24 = .ok (.iload_n 2, 1) := by decide +kernel
theorem dX1_before_25 : decode cX1_before 25 = .ok (.ireturn, 1) := by decide +kernel
theorem dX1_drop_0 : decode cX1_drop 0 = .ok (.aload_n 0, 1) := by decide +kernel
theorem dX1_drop_1 : decode cX1_drop 1 = .ok (.iload_n 1, 1) := by decide +kernel
theorem dX1_drop_2 : decode cX1_drop 2 = .ok (.ifCond .lt 11, 3) := by decide +kernel
theorem dX1_drop_5 : decode cX1_drop 5 = .ok (.iload_n 1, 1) := by decide +kernel
theorem dX1_drop_6 : decode cX1_drop 6 = .ok (.aload_n 0, 1) := by decide +kernel
theorem dX1_drop_7 : decode cX1_drop 7 = .ok (.getfield 30, 3) := by decide +kernel
theorem dX1_drop_10 : decode cX1_drop 10 = .ok (.if_icmp .le 7, 3) := by decide +kernel
theorem dX1_drop_13 : decode cX1_drop 13 = .ok (.iconst 1, 1) := by decide +kernel
theorem dX1_drop_14 : decode cX1_drop 14 = .ok (.goto 4, 3) := by decide +kernel
theorem dX1_drop_17 : decode cX1_drop 17 = .ok (.iconst 0, 1) := by decide +kernel
theorem dX1_drop_18 : decode cX1_drop 18 = .ok (.iconst 1, 1) := by decide +kernel
theorem dX1_drop_19 : decode cX1_drop 19 = .ok (.invokevirtual 33, 3) := by decide +kernel
theorem dX1_drop_22 : decode cX1_drop 22 = .ok (.ifCond .eq 4, 3) := by decide +kernel
theorem dX1_drop_25 : decode cX1_drop 25 = .ok (.return_, 1) := by decide +kernel
theorem dX1_drop_26 : decode cX1_drop 26 = .ok (.aload_n 0, 1) := by decide +kernel
theorem dX1_drop_27 : decode cX1_drop 27 = .ok (.dup, 1) := by decide +kernel
theorem dX1_drop_28 : decode cX1_drop 28 = .ok (.getfield 30, 3) := by decide +kernel
theorem dX1_drop_31 : decode cX1_drop 31 = .ok (.iload_n 1, 1) := by decide +kernel
theorem dX1_drop_32 : decode cX1_drop 32 = .ok (.isub, 1) := by decide +kernel
theorem dX1_drop_33 : decode cX1_drop 33 = .ok (.putfield 30, 3) := by decide +kernel
theorem dX1_drop_36 : decode cX1_drop 36 = .ok (.return_, 1) := by decide +kernel
theorem dX1_chain_0 : decode cX1_chain 0 = .ok (.aload_n 0, 1) := by decide +kernel
theorem dX1_chain_1 : decode cX1_chain 1 = .ok (.aload_n 0, 1) := by decide +kernel
theorem dX1_chain_2 : decode cX1_chain 2 = .ok (.iload_n 1, 1) := by decide +kernel
theorem dX1_chain_3 : decode cX1_chain 3 = .ok (.invokevirtual 41, 3) := by decide +kernel
theorem dX1_chain_6 : decode cX1_chain 6 = .ok (.iconst 1, 1) := by decide +kernel
theorem dX1_chain_7 : decode cX1_chain 7 = .ok (.invokevirtual 33, 3) := by decide +kernel
theorem dX1_chain_10 : decode cX1_chain 10 = .ok (.ifCond .eq 5, 3) := by decide +kernel
theorem dX1_chain_13 : decode cX1_chain 13 = .ok (.iconst 0, 1) := by decide +kernel
theorem dX1_chain_14 : decode cX1_chain 14 = .ok (.ireturn, 1) := by decide +kernel
theorem dX1_chain_15 : decode cX1_chain 15 = .ok (.aload_n 0, 1) := by decide +kernel
theorem dX1_chain_16 : decode cX1_chain 16 = .ok (.iload_n 2, 1) := by decide +kernel
theorem dX1_chain_17 : decode cX1_chain 17 = .ok (.ifCond .ge 7, 3) := by decide +kernel
theorem dX1_chain_20 : decode cX1_chain 20 = .ok (.iconst 1, 1) := by decide +kernel
theorem dX1_chain_21 : decode cX1_chain 21 = .ok (.goto 4, 3) := by decide +kernel
theorem dX1_chain_24 : decode cX1_chain 24 = .ok (.iconst 0, 1) := by decide +kernel
theorem dX1_chain_25 : decode cX1_chain 25 = .ok (.iconst 2, 1) := by decide +kernel
theorem dX1_chain_26 : decode cX1_chain 26 = .ok (.invokevirtual 33, 3) := by decide +kernel
theorem dX1_chain_29 : decode cX1_chain 29 = .ok (.ifCond .eq 5, 3) := by decide +kernel
theorem dX1_chain_32 : decode cX1_chain 32 = .ok (.iconst 0, 1) := by decide +kernel
theorem dX1_chain_33 : decode cX1_chain 33 = .ok (.ireturn, 1) := by decide +kernel
theorem dX1_chain_34 : decode cX1_chain 34 = .ok (.iload_n 1, 1) := by decide +kernel
theorem dX1_chain_35 : decode cX1_chain 35 = .ok (.istore_n 3, 1) := by decide +kernel
theorem dX1_chain_36 : decode cX1_chain 36 = .ok (.iconst 0, 1) := by decide +kernel
theorem dX1_chain_37 : decode cX1_chain 37 = .ok (.istore 4, 2) := by decide +kernel
theorem dX1_chain_39 : decode cX1_chain 39 = .ok (.iload 4, 2) := by decide +kernel
theorem dX1_chain_41 : decode cX1_chain 41 = .ok (.iload_n 2, 1) := by decide +kernel
theorem dX1_chain_42 : decode cX1_chain 42 = .ok (.if_icmp .ge 19, 3) := by decide +kernel
theorem dX1_chain_45 : decode cX1_chain 45 = .ok (.iload_n 3, 1) := by decide +kernel
theorem dX1_chain_46 : decode cX1_chain 46 = .ok (.ifCond .lt 15, 3) := by decide +kernel
theorem dX1_chain_49 : decode cX1_chain 49 = .ok (.aload_n 0, 1) := by decide +kernel
theorem dX1_chain_50 : decode cX1_chain 50 = .ok (.iload_n 3, 1) := by decide +kernel
theorem dX1_chain_51 : decode cX1_chain 51 = .ok (.invokevirtual 45, 3) := by decide +kernel
theorem dX1_chain_54 : decode cX1_chain 54 = .ok (.istore_n 3, 1) := by decide +kernel
theorem dX1_chain_55 : decode cX1_chain 55 = .ok (.iinc 4 1, 3) := by decide +kernel
theorem dX1_chain_58 : decode cX1_chain 58 = .ok (.goto (-19), 3) := by decide +kernel
theorem dX1_chain_61 : decode cX1_chain 61 = .ok (.iload_n 3, 1) := by decide +kernel
theorem dX1_chain_62 : decode cX1_chain 62 = .ok (.ireturn, 1) := by decide +kernel
theorem dX1_none_0 : decode cX1_none 0 = .ok (.iload_n 1, 1) := by decide +kernel
theorem dX1_none_1 : decode cX1_none 1 = .ok (.ifCond .lt 11, 3) := by decide +kernel
theorem dX1_none_4 : decode cX1_none 4 = .ok (.iload_n 1, 1) := by decide +kernel
theorem dX1_none_5 : decode cX1_none 5 = .ok (.aload_n 0, 1) := by decide +kernel
theorem dX1_none_6 : decode cX1_none 6 = .ok (.getfield 30, 3) := by decide +kernel
theorem dX1_none_9 : decode cX1_none 9 = .ok (.if_icmp .lt 7, 3) := by decide +kernel
theorem dX1_none_12 : decode cX1_none 12 = .ok (.iconst 1, 1) := by decide +kernel
theorem dX1_none_13 : decode cX1_none 13 = .ok (.goto 4, 3) := by decide +kernel
theorem dX1_none_16 : decode cX1_none 16 = .ok (.iconst 0, 1) := by decide +kernel
theorem dX1_none_17 : decode cX1_none 17 = .ok (.ireturn, 1) := by decide +kernel
theorem dX1_base_0 : decode cX1_base 0 = .ok (.iload_n 1, 1) := by decide +kernel
theorem dX1_base_1 : decode cX1_base 1 = .ok (.iconst 1, 1) := by decide +kernel
theorem dX1_base_2 : decode cX1_base 2 = .ok (.isub, 1) := by decide +kernel
theorem dX1_base_3 : decode cX1_base 3 = .ok (.istore_n 2, 1) := by decide +kernel
theorem dX1_base_4 : decode cX1_base 4 = .ok (.iload_n 2, 1) := by decide +kernel
theorem dX1_base_5 : decode cX1_base 5 = .ok (.ifCond .lt 24, 3) := by decide +kernel
theorem dX1_base_8 : decode cX1_base 8 = .ok (.aload_n 0, 1) := by decide +kernel
theorem dX1_base_9 : decode cX1_base 9 = .ok (.getfield 7, 3) := by decide +kernel
theorem dX1_base_12 : decode cX1_base 12 = .ok (.iload_n 2, 1) := by decide +kernel
theorem dX1_base_13 : decode cX1_base 13 = .ok (.iaload, 1) := by decide +kernel
theorem dX1_base_14 : decode cX1_base 14 = .ok (.aload_n 0, 1) := by decide +kernel
theorem dX1_base_15 : decode cX1_base 15 = .ok (.getfield 7, 3) := by decide +kernel
theorem dX1_base_18 : decode cX1_base 18 = .ok (.iload_n 1, 1) := by decide +kernel
theorem dX1_base_19 : decode cX1_base 19 = .ok (.iaload, 1) := by decide +kernel
theorem dX1_base_20 : decode cX1_base 20 = .ok (.if_icmp .lt 9, 3) := by decide +kernel
theorem dX1_base_23 : decode cX1_base 23 = .ok (.iinc 2 (-1), 3) := by decide +kernel
theorem dX1_base_26 : decode cX1_base 26 = .ok (.goto (-22), 3) := by decide +kernel
theorem dX1_base_29 : decode cX1_base 29 = .ok (.iload_n 2, 1) := by decide +kernel
theorem dX1_base_30 : decode cX1_base 30 = .ok (.ireturn, 1) := by decide +kernel
theorem dX1_depth_0 : decode cX1_depth 0 = .ok (.aload_n 0, 1) := by decide +kernel
theorem dX1_depth_1 : decode cX1_depth 1 = .ok (.aload_n 0, 1) := by decide +kernel
theorem dX1_depth_2 : decode cX1_depth 2 = .ok (.iload_n 1, 1) := by decide +kernel
theorem dX1_depth_3 : decode cX1_depth 3 = .ok (.invokevirtual 41, 3) := by decide +kernel
theorem dX1_depth_6 : decode cX1_depth 6 = .ok (.iconst 1, 1) := by decide +kernel
theorem dX1_depth_7 : decode cX1_depth 7 = .ok (.invokevirtual 33, 3) := by decide +kernel
theorem dX1_depth_10 : decode cX1_depth 10 = .ok (.ifCond .eq 7, 3) := by decide +kernel
theorem dX1_depth_13 : decode cX1_depth 13 = .ok (.iconst 0, 1) := by decide +kernel
theorem dX1_depth_14 : decode cX1_depth 14 = .ok (.goto 8, 3) := by decide +kernel
theorem dX1_depth_17 : decode cX1_depth 17 = .ok (.aload_n 0, 1) := by decide +kernel
theorem dX1_depth_18 : decode cX1_depth 18 = .ok (.iload_n 1, 1) := by decide +kernel
theorem dX1_depth_19 : decode cX1_depth 19 = .ok (.invokevirtual 48, 3) := by decide +kernel
theorem dX1_depth_22 : decode cX1_depth 22 = .ok (.ireturn, 1) := by decide +kernel
theorem dX1_depthOf_0 : decode cX1_depthOf 0 = .ok (.iconst 0, 1) := by decide +kernel
theorem dX1_depthOf_1 : decode cX1_depthOf 1 = .ok (.istore_n 2, 1) := by decide +kernel
theorem dX1_depthOf_2 : decode cX1_depthOf 2 = .ok (.iload_n 1, 1) := by decide +kernel
theorem dX1_depthOf_3 : decode cX1_depthOf 3 = .ok (.istore_n 3, 1) := by decide +kernel
theorem dX1_depthOf_4 : decode cX1_depthOf 4 = .ok (.iload_n 3, 1) := by decide +kernel
theorem dX1_depthOf_5 : decode cX1_depthOf 5 = .ok (.ifCond .lt 15, 3) := by decide +kernel
theorem dX1_depthOf_8 : decode cX1_depthOf 8 = .ok (.iinc 2 1, 3) := by decide +kernel
theorem dX1_depthOf_11 : decode cX1_depthOf 11 = .ok (.aload_n 0, 1) := by decide +kernel
theorem dX1_depthOf_12 : decode cX1_depthOf 12 = .ok (.iload_n 3, 1) := by decide +kernel
theorem dX1_depthOf_13 : decode cX1_depthOf 13 = .ok (.invokevirtual 45, 3) := by decide +kernel
theorem dX1_depthOf_16 : decode cX1_depthOf 16 = .ok (.istore_n 3, 1) := by decide +kernel
theorem dX1_depthOf_17 : decode cX1_depthOf 17 = .ok (.goto (-13), 3) := by decide +kernel
theorem dX1_depthOf_20 : decode cX1_depthOf 20 = .ok (.iload_n 2, 1) := by decide +kernel
theorem dX1_depthOf_21 : decode cX1_depthOf 21 = .ok (.ireturn, 1) := by decide +kernel
theorem dX1_place_0 : decode cX1_place 0 = .ok (.aload_n 0, 1) := by decide +kernel
theorem dX1_place_1 : decode cX1_place 1 = .ok (.aload_n 0, 1) := by decide +kernel
theorem dX1_place_2 : decode cX1_place 2 = .ok (.iload_n 1, 1) := by decide +kernel
theorem dX1_place_3 : decode cX1_place 3 = .ok (.invokevirtual 41, 3) := by decide +kernel
theorem dX1_place_6 : decode cX1_place 6 = .ok (.iconst 1, 1) := by decide +kernel
theorem dX1_place_7 : decode cX1_place 7 = .ok (.invokevirtual 33, 3) := by decide +kernel
theorem dX1_place_10 : decode cX1_place 10 = .ok (.ifCond .eq 5, 3) := by decide +kernel
theorem dX1_place_13 : decode cX1_place 13 = .ok (.iconst 0, 1) := by decide +kernel
theorem dX1_place_14 : decode cX1_place 14 = .ok (.ireturn, 1) := by decide +kernel
theorem dX1_place_15 : decode cX1_place 15 = .ok (.aload_n 0, 1) := by decide +kernel
theorem dX1_place_16 : decode cX1_place 16 = .ok (.iload_n 2, 1) := by decide +kernel
theorem dX1_place_17 : decode cX1_place 17 = .ok (.ifCond .lt 13, 3) := by decide +kernel
theorem dX1_place_20 : decode cX1_place 20 = .ok (.iload_n 2, 1) := by decide +kernel
theorem dX1_place_21 : decode cX1_place 21 = .ok (.aload_n 0, 1) := by decide +kernel
theorem dX1_place_22 : decode cX1_place 22 = .ok (.getfield 13, 3) := by decide +kernel
theorem dX1_place_25 : decode cX1_place 25 = .ok (.iload_n 1, 1) := by decide +kernel
theorem dX1_place_26 : decode cX1_place 26 = .ok (.iaload, 1) := by decide +kernel
theorem dX1_place_27 : decode cX1_place 27 = .ok (.if_icmp .lt 7, 3) := by decide +kernel
theorem dX1_place_30 : decode cX1_place 30 = .ok (.iconst 1, 1) := by decide +kernel
theorem dX1_place_31 : decode cX1_place 31 = .ok (.goto 4, 3) := by decide +kernel
theorem dX1_place_34 : decode cX1_place 34 = .ok (.iconst 0, 1) := by decide +kernel
theorem dX1_place_35 : decode cX1_place 35 = .ok (.iconst 2, 1) := by decide +kernel
theorem dX1_place_36 : decode cX1_place 36 = .ok (.invokevirtual 33, 3) := by decide +kernel
theorem dX1_place_39 : decode cX1_place 39 = .ok (.ifCond .eq 5, 3) := by decide +kernel
theorem dX1_place_42 : decode cX1_place 42 = .ok (.iconst 0, 1) := by decide +kernel
theorem dX1_place_43 : decode cX1_place 43 = .ok (.ireturn, 1) := by decide +kernel
theorem dX1_place_44 : decode cX1_place 44 = .ok (.aload_n 0, 1) := by decide +kernel
theorem dX1_place_45 : decode cX1_place 45 = .ok (.iload_n 1, 1) := by decide +kernel
theorem dX1_place_46 : decode cX1_place 46 = .ok (.invokevirtual 37, 3) := by decide +kernel
theorem dX1_place_49 : decode cX1_place 49 = .ok (.iload_n 2, 1) := by decide +kernel
theorem dX1_place_50 : decode cX1_place 50 = .ok (.iadd, 1) := by decide +kernel
theorem dX1_place_51 : decode cX1_place 51 = .ok (.istore_n 3, 1) := by decide +kernel
theorem dX1_place_52 : decode cX1_place 52 = .ok (.sipush 1000, 3) := by decide +kernel
theorem dX1_place_55 : decode cX1_place 55 = .ok (.iload_n 3, 1) := by decide +kernel
theorem dX1_place_56 : decode cX1_place 56 = .ok (.aload_n 0, 1) := by decide +kernel
theorem dX1_place_57 : decode cX1_place 57 = .ok (.getfield 23, 3) := by decide +kernel
theorem dX1_place_60 : decode cX1_place 60 = .ok (.iconst 1, 1) := by decide +kernel
theorem dX1_place_61 : decode cX1_place 61 = .ok (.isub, 1) := by decide +kernel
theorem dX1_place_62 : decode cX1_place 62 = .ok (.idiv, 1) := by decide +kernel
theorem dX1_place_63 : decode cX1_place 63 = .ok (.imul, 1) := by decide +kernel
theorem dX1_place_64 : decode cX1_place 64 = .ok (.iconst 1, 1) := by decide +kernel
theorem dX1_place_65 : decode cX1_place 65 = .ok (.iadd, 1) := by decide +kernel
theorem dX1_place_66 : decode cX1_place 66 = .ok (.iload_n 3, 1) := by decide +kernel
theorem dX1_place_67 : decode cX1_place 67 = .ok (.aload_n 0, 1) := by decide +kernel
theorem dX1_place_68 : decode cX1_place 68 = .ok (.getfield 23, 3) := by decide +kernel
theorem dX1_place_71 : decode cX1_place 71 = .ok (.iconst 1, 1) := by decide +kernel
theorem dX1_place_72 : decode cX1_place 72 = .ok (.isub, 1) := by decide +kernel
theorem dX1_place_73 : decode cX1_place 73 = .ok (.irem, 1) := by decide +kernel
theorem dX1_place_74 : decode cX1_place 74 = .ok (.iadd, 1) := by decide +kernel
theorem dX1_place_75 : decode cX1_place 75 = .ok (.ireturn, 1) := by decide +kernel
theorem dX1_owner_0 : decode cX1_owner 0 = .ok (.aload_n 0, 1) := by decide +kernel
theorem dX1_owner_1 : decode cX1_owner 1 = .ok (.iload_n 1, 1) := by decide +kernel
theorem dX1_owner_2 : decode cX1_owner 2 = .ok (.ifCond .lt 21, 3) := by decide +kernel
theorem dX1_owner_5 : decode cX1_owner 5 = .ok (.iload_n 1, 1) := by decide +kernel
theorem dX1_owner_6 : decode cX1_owner 6 = .ok (.bipush 64, 2) := by decide +kernel
theorem dX1_owner_8 : decode cX1_owner 8 = .ok (.if_icmp .ge 15, 3) := by decide +kernel
theorem dX1_owner_11 : decode cX1_owner 11 = .ok (.iload_n 2, 1) := by decide +kernel
theorem dX1_owner_12 : decode cX1_owner 12 = .ok (.ifCond .lt 11, 3) := by decide +kernel
theorem dX1_owner_15 : decode cX1_owner 15 = .ok (.iload_n 2, 1) := by decide +kernel
theorem dX1_owner_16 : decode cX1_owner 16 = .ok (.aload_n 0, 1) := by decide +kernel
theorem dX1_owner_17 : decode cX1_owner 17 = .ok (.getfield 23, 3) := by decide +kernel
theorem dX1_owner_20 : decode cX1_owner 20 = .ok (.if_icmp .lt 7, 3) := by decide +kernel
theorem dX1_owner_23 : decode cX1_owner 23 = .ok (.iconst 1, 1) := by decide +kernel
theorem dX1_owner_24 : decode cX1_owner 24 = .ok (.goto 4, 3) := by decide +kernel
theorem dX1_owner_27 : decode cX1_owner 27 = .ok (.iconst 0, 1) := by decide +kernel
theorem dX1_owner_28 : decode cX1_owner 28 = .ok (.iconst 1, 1) := by decide +kernel
theorem dX1_owner_29 : decode cX1_owner 29 = .ok (.invokevirtual 33, 3) := by decide +kernel
theorem dX1_owner_32 : decode cX1_owner 32 = .ok (.ifCond .eq 5, 3) := by decide +kernel
theorem dX1_owner_35 : decode cX1_owner 35 = .ok (.iconst 0, 1) := by decide +kernel
theorem dX1_owner_36 : decode cX1_owner 36 = .ok (.ireturn, 1) := by decide +kernel
theorem dX1_owner_37 : decode cX1_owner 37 = .ok (.iload_n 2, 1) := by decide +kernel
theorem dX1_owner_38 : decode cX1_owner 38 = .ok (.ifCond .ne 5, 3) := by decide +kernel
theorem dX1_owner_41 : decode cX1_owner 41 = .ok (.iconst (-1), 1) := by decide +kernel
theorem dX1_owner_42 : decode cX1_owner 42 = .ok (.ireturn, 1) := by decide +kernel
theorem dX1_owner_43 : decode cX1_owner 43 = .ok (.aload_n 0, 1) := by decide +kernel
theorem dX1_owner_44 : decode cX1_owner 44 = .ok (.getfield 23, 3) := by decide +kernel
theorem dX1_owner_47 : decode cX1_owner 47 = .ok (.iconst 1, 1) := by decide +kernel
theorem dX1_owner_48 : decode cX1_owner 48 = .ok (.isub, 1) := by decide +kernel
theorem dX1_owner_49 : decode cX1_owner 49 = .ok (.iload_n 1, 1) := by decide +kernel
theorem dX1_owner_50 : decode cX1_owner 50 = .ok (.imul, 1) := by decide +kernel
theorem dX1_owner_51 : decode cX1_owner 51 = .ok (.iload_n 2, 1) := by decide +kernel
theorem dX1_owner_52 : decode cX1_owner 52 = .ok (.iadd, 1) := by decide +kernel
theorem dX1_owner_53 : decode cX1_owner 53 = .ok (.iconst 1, 1) := by decide +kernel
theorem dX1_owner_54 : decode cX1_owner 54 = .ok (.isub, 1) := by decide +kernel
theorem dX1_owner_55 : decode cX1_owner 55 = .ok (.istore_n 3, 1) := by decide +kernel
theorem dX1_owner_56 : decode cX1_owner 56 = .ok (.iconst 0, 1) := by decide +kernel
theorem dX1_owner_57 : decode cX1_owner 57 = .ok (.istore 4, 2) := by decide +kernel
theorem dX1_owner_59 : decode cX1_owner 59 = .ok (.iload 4, 2) := by decide +kernel
theorem dX1_owner_61 : decode cX1_owner 61 = .ok (.aload_n 0, 1) := by decide +kernel
theorem dX1_owner_62 : decode cX1_owner 62 = .ok (.getfield 30, 3) := by decide +kernel
theorem dX1_owner_65 : decode cX1_owner 65 = .ok (.if_icmp .ge 33, 3) := by decide +kernel
theorem dX1_owner_68 : decode cX1_owner 68 = .ok (.iload_n 3, 1) := by decide +kernel
theorem dX1_owner_69 : decode cX1_owner 69 = .ok (.aload_n 0, 1) := by decide +kernel
theorem dX1_owner_70 : decode cX1_owner 70 = .ok (.getfield 13, 3) := by decide +kernel
theorem dX1_owner_73 : decode cX1_owner 73 = .ok (.iload 4, 2) := by decide +kernel
theorem dX1_owner_75 : decode cX1_owner 75 = .ok (.iaload, 1) := by decide +kernel
theorem dX1_owner_76 : decode cX1_owner 76 = .ok (.if_icmp .ge 6, 3) := by decide +kernel
theorem dX1_owner_79 : decode cX1_owner 79 = .ok (.iload 4, 2) := by decide +kernel
theorem dX1_owner_81 : decode cX1_owner 81 = .ok (.ireturn, 1) := by decide +kernel
theorem dX1_owner_82 : decode cX1_owner 82 = .ok (.iload_n 3, 1) := by decide +kernel
theorem dX1_owner_83 : decode cX1_owner 83 = .ok (.aload_n 0, 1) := by decide +kernel
theorem dX1_owner_84 : decode cX1_owner 84 = .ok (.getfield 13, 3) := by decide +kernel
theorem dX1_owner_87 : decode cX1_owner 87 = .ok (.iload 4, 2) := by decide +kernel
theorem dX1_owner_89 : decode cX1_owner 89 = .ok (.iaload, 1) := by decide +kernel
theorem dX1_owner_90 : decode cX1_owner 90 = .ok (.isub, 1) := by decide +kernel
theorem dX1_owner_91 : decode cX1_owner 91 = .ok (.istore_n 3, 1) := by decide +kernel
theorem dX1_owner_92 : decode cX1_owner 92 = .ok (.iinc 4 1, 3) := by decide +kernel
theorem dX1_owner_95 : decode cX1_owner 95 = .ok (.goto (-36), 3) := by decide +kernel
theorem dX1_owner_98 : decode cX1_owner 98 = .ok (.iconst (-1), 1) := by decide +kernel
theorem dX1_owner_99 : decode cX1_owner 99 = .ok (.ireturn, 1) := by decide +kernel
theorem dX1_needs_0 : decode cX1_needs 0 = .ok (.aload_n 0, 1) := by decide +kernel
theorem dX1_needs_1 : decode cX1_needs 1 = .ok (.aload_n 0, 1) := by decide +kernel
theorem dX1_needs_2 : decode cX1_needs 2 = .ok (.iload_n 1, 1) := by decide +kernel
theorem dX1_needs_3 : decode cX1_needs 3 = .ok (.invokevirtual 41, 3) := by decide +kernel
theorem dX1_needs_6 : decode cX1_needs 6 = .ok (.iconst 1, 1) := by decide +kernel
theorem dX1_needs_7 : decode cX1_needs 7 = .ok (.invokevirtual 33, 3) := by decide +kernel
theorem dX1_needs_10 : decode cX1_needs 10 = .ok (.ifCond .eq 5, 3) := by decide +kernel
theorem dX1_needs_13 : decode cX1_needs 13 = .ok (.lconst 0, 1) := by decide +kernel
theorem dX1_needs_14 : decode cX1_needs 14 = .ok (.lreturn, 1) := by decide +kernel
theorem dX1_needs_15 : decode cX1_needs 15 = .ok (.aload_n 0, 1) := by decide +kernel
theorem dX1_needs_16 : decode cX1_needs 16 = .ok (.invokevirtual 51, 3) := by decide +kernel
theorem dX1_needs_19 : decode cX1_needs 19 = .ok (.aload_n 0, 1) := by decide +kernel
theorem dX1_needs_20 : decode cX1_needs 20 = .ok (.iload_n 1, 1) := by decide +kernel
theorem dX1_needs_21 : decode cX1_needs 21 = .ok (.invokevirtual 54, 3) := by decide +kernel
theorem dX1_needs_24 : decode cX1_needs 24 = .ok (.lconst 0, 1) := by decide +kernel
theorem dX1_needs_25 : decode cX1_needs 25 = .ok (.lstore_n 2, 1) := by decide +kernel
theorem dX1_needs_26 : decode cX1_needs 26 = .ok (.iconst 0, 1) := by decide +kernel
theorem dX1_needs_27 : decode cX1_needs 27 = .ok (.istore 4, 2) := by decide +kernel
theorem dX1_needs_29 : decode cX1_needs 29 = .ok (.iload 4, 2) := by decide +kernel
theorem dX1_needs_31 : decode cX1_needs 31 = .ok (.bipush 64, 2) := by decide +kernel
theorem dX1_needs_33 : decode cX1_needs 33 = .ok (.if_icmp .ge 26, 3) := by decide +kernel
theorem dX1_needs_36 : decode cX1_needs 36 = .ok (.aload_n 0, 1) := by decide +kernel
theorem dX1_needs_37 : decode cX1_needs 37 = .ok (.getfield 20, 3) := by decide +kernel
theorem dX1_needs_40 : decode cX1_needs 40 = .ok (.iload 4, 2) := by decide +kernel
theorem dX1_needs_42 : decode cX1_needs 42 = .ok (.baload, 1) := by decide +kernel
theorem dX1_needs_43 : decode cX1_needs 43 = .ok (.ifCond .eq 10, 3) := by decide +kernel
theorem dX1_needs_46 : decode cX1_needs 46 = .ok (.lload_n 2, 1) := by decide +kernel
theorem dX1_needs_47 : decode cX1_needs 47 = .ok (.lconst 1, 1) := by decide +kernel
theorem dX1_needs_48 : decode cX1_needs 48 = .ok (.iload 4, 2) := by decide +kernel
theorem dX1_needs_50 : decode cX1_needs 50 = .ok (.lshl, 1) := by decide +kernel
theorem dX1_needs_51 : decode cX1_needs 51 = .ok (.lor, 1) := by decide +kernel
theorem dX1_needs_52 : decode cX1_needs 52 = .ok (.lstore_n 2, 1) := by decide +kernel
theorem dX1_needs_53 : decode cX1_needs 53 = .ok (.iinc 4 1, 3) := by decide +kernel
theorem dX1_needs_56 : decode cX1_needs 56 = .ok (.goto (-27), 3) := by decide +kernel
theorem dX1_needs_59 : decode cX1_needs 59 = .ok (.lload_n 2, 1) := by decide +kernel
theorem dX1_needs_60 : decode cX1_needs 60 = .ok (.lreturn, 1) := by decide +kernel
theorem dX1_nothing_0 : decode cX1_nothing 0 = .ok (.iconst 0, 1) := by decide +kernel
theorem dX1_nothing_1 : decode cX1_nothing 1 = .ok (.istore_n 1, 1) := by decide +kernel
theorem dX1_nothing_2 : decode cX1_nothing 2 = .ok (.iload_n 1, 1) := by decide +kernel
theorem dX1_nothing_3 : decode cX1_nothing 3 = .ok (.bipush 64, 2) := by decide +kernel
theorem dX1_nothing_5 : decode cX1_nothing 5 = .ok (.if_icmp .ge 16, 3) := by decide +kernel
theorem dX1_nothing_8 : decode cX1_nothing 8 = .ok (.aload_n 0, 1) := by decide +kernel
theorem dX1_nothing_9 : decode cX1_nothing 9 = .ok (.getfield 20, 3) := by decide +kernel
theorem dX1_nothing_12 : decode cX1_nothing 12 = .ok (.iload_n 1, 1) := by decide +kernel
theorem dX1_nothing_13 : decode cX1_nothing 13 = .ok (.iconst 0, 1) := by decide +kernel
theorem dX1_nothing_14 : decode cX1_nothing 14 = .ok (.bastore, 1) := by decide +kernel
theorem dX1_nothing_15 : decode cX1_nothing 15 = .ok (.iinc 1 1, 3) := by decide +kernel
theorem dX1_nothing_18 : decode cX1_nothing 18 = .ok (.goto (-16), 3) := by decide +kernel
theorem dX1_nothing_21 : decode cX1_nothing 21 = .ok (.return_, 1) := by decide +kernel
theorem dX1_want_0 : decode cX1_want 0 = .ok (.iload_n 1, 1) := by decide +kernel
theorem dX1_want_1 : decode cX1_want 1 = .ok (.istore_n 2, 1) := by decide +kernel
theorem dX1_want_2 : decode cX1_want 2 = .ok (.iload_n 2, 1) := by decide +kernel
theorem dX1_want_3 : decode cX1_want 3 = .ok (.ifCond .lt 64, 3) := by decide +kernel
theorem dX1_want_6 : decode cX1_want 6 = .ok (.aload_n 0, 1) := by decide +kernel
theorem dX1_want_7 : decode cX1_want 7 = .ok (.iload_n 2, 1) := by decide +kernel
theorem dX1_want_8 : decode cX1_want 8 = .ok (.invokevirtual 37, 3) := by decide +kernel
theorem dX1_want_11 : decode cX1_want 11 = .ok (.istore_n 3, 1) := by decide +kernel
theorem dX1_want_12 : decode cX1_want 12 = .ok (.iload_n 3, 1) := by decide +kernel
theorem dX1_want_13 : decode cX1_want 13 = .ok (.aload_n 0, 1) := by decide +kernel
theorem dX1_want_14 : decode cX1_want 14 = .ok (.getfield 23, 3) := by decide +kernel
theorem dX1_want_17 : decode cX1_want 17 = .ok (.iconst 1, 1) := by decide +kernel
theorem dX1_want_18 : decode cX1_want 18 = .ok (.isub, 1) := by decide +kernel
theorem dX1_want_19 : decode cX1_want 19 = .ok (.idiv, 1) := by decide +kernel
theorem dX1_want_20 : decode cX1_want 20 = .ok (.istore 4, 2) := by decide +kernel
theorem dX1_want_22 : decode cX1_want 22 = .ok (.iload 4, 2) := by decide +kernel
theorem dX1_want_24 : decode cX1_want 24 = .ok (.iload_n 3, 1) := by decide +kernel
theorem dX1_want_25 : decode cX1_want 25 = .ok (.aload_n 0, 1) := by decide +kernel
theorem dX1_want_26 : decode cX1_want 26 = .ok (.getfield 13, 3) := by decide +kernel
theorem dX1_want_29 : decode cX1_want 29 = .ok (.iload_n 2, 1) := by decide +kernel
theorem dX1_want_30 : decode cX1_want 30 = .ok (.iaload, 1) := by decide +kernel
theorem dX1_want_31 : decode cX1_want 31 = .ok (.iadd, 1) := by decide +kernel
theorem dX1_want_32 : decode cX1_want 32 = .ok (.iconst 1, 1) := by decide +kernel
theorem dX1_want_33 : decode cX1_want 33 = .ok (.isub, 1) := by decide +kernel
theorem dX1_want_34 : decode cX1_want 34 = .ok (.aload_n 0, 1) := by decide +kernel
theorem dX1_want_35 : decode cX1_want 35 = .ok (.getfield 23, 3) := by decide +kernel
theorem dX1_want_38 : decode cX1_want 38 = .ok (.iconst 1, 1) := by decide +kernel
theorem dX1_want_39 : decode cX1_want 39 = .ok (.isub, 1) := by decide +kernel
theorem dX1_want_40 : decode cX1_want 40 = .ok (.idiv, 1) := by decide +kernel
theorem dX1_want_41 : decode cX1_want 41 = .ok (.if_icmp .gt 17, 3) := by decide +kernel
theorem dX1_want_44 : decode cX1_want 44 = .ok (.aload_n 0, 1) := by decide +kernel
theorem dX1_want_45 : decode cX1_want 45 = .ok (.getfield 20, 3) := by decide +kernel
theorem dX1_want_48 : decode cX1_want 48 = .ok (.iload 4, 2) := by decide +kernel
theorem dX1_want_50 : decode cX1_want 50 = .ok (.iconst 1, 1) := by decide +kernel
theorem dX1_want_51 : decode cX1_want 51 = .ok (.bastore, 1) := by decide +kernel
theorem dX1_want_52 : decode cX1_want 52 = .ok (.iinc 4 1, 3) := by decide +kernel
theorem dX1_want_55 : decode cX1_want 55 = .ok (.goto (-33), 3) := by decide +kernel
theorem dX1_want_58 : decode cX1_want 58 = .ok (.aload_n 0, 1) := by decide +kernel
theorem dX1_want_59 : decode cX1_want 59 = .ok (.iload_n 2, 1) := by decide +kernel
theorem dX1_want_60 : decode cX1_want 60 = .ok (.invokevirtual 45, 3) := by decide +kernel
theorem dX1_want_63 : decode cX1_want 63 = .ok (.istore_n 2, 1) := by decide +kernel
theorem dX1_want_64 : decode cX1_want 64 = .ok (.goto (-62), 3) := by decide +kernel
theorem dX1_want_67 : decode cX1_want 67 = .ok (.return_, 1) := by decide +kernel
theorem dX1_lose_0 : decode cX1_lose 0 = .ok (.aload_n 0, 1) := by decide +kernel
theorem dX1_lose_1 : decode cX1_lose 1 = .ok (.iload_n 1, 1) := by decide +kernel
theorem dX1_lose_2 : decode cX1_lose 2 = .ok (.ifCond .lt 9, 3) := by decide +kernel
theorem dX1_lose_5 : decode cX1_lose 5 = .ok (.iload_n 1, 1) := by decide +kernel
theorem dX1_lose_6 : decode cX1_lose 6 = .ok (.bipush 64, 2) := by decide +kernel
theorem dX1_lose_8 : decode cX1_lose 8 = .ok (.if_icmp .lt 7, 3) := by decide +kernel
theorem dX1_lose_11 : decode cX1_lose 11 = .ok (.iconst 1, 1) := by decide +kernel
theorem dX1_lose_12 : decode cX1_lose 12 = .ok (.goto 4, 3) := by decide +kernel
theorem dX1_lose_15 : decode cX1_lose 15 = .ok (.iconst 0, 1) := by decide +kernel
theorem dX1_lose_16 : decode cX1_lose 16 = .ok (.iconst 1, 1) := by decide +kernel
theorem dX1_lose_17 : decode cX1_lose 17 = .ok (.invokevirtual 33, 3) := by decide +kernel
theorem dX1_lose_20 : decode cX1_lose 20 = .ok (.ifCond .eq 5, 3) := by decide +kernel
theorem dX1_lose_23 : decode cX1_lose 23 = .ok (.iconst 0, 1) := by decide +kernel
theorem dX1_lose_24 : decode cX1_lose 24 = .ok (.ireturn, 1) := by decide +kernel
theorem dX1_lose_25 : decode cX1_lose 25 = .ok (.aload_n 0, 1) := by decide +kernel
theorem dX1_lose_26 : decode cX1_lose 26 = .ok (.getfield 16, 3) := by decide +kernel
theorem dX1_lose_29 : decode cX1_lose 29 = .ok (.iload_n 1, 1) := by decide +kernel
theorem dX1_lose_30 : decode cX1_lose 30 = .ok (.baload, 1) := by decide +kernel
theorem dX1_lose_31 : decode cX1_lose 31 = .ok (.istore_n 3, 1) := by decide +kernel
theorem dX1_lose_32 : decode cX1_lose 32 = .ok (.aload_n 0, 1) := by decide +kernel
theorem dX1_lose_33 : decode cX1_lose 33 = .ok (.getfield 16, 3) := by decide +kernel
theorem dX1_lose_36 : decode cX1_lose 36 = .ok (.iload_n 1, 1) := by decide +kernel
theorem dX1_lose_37 : decode cX1_lose 37 = .ok (.iload_n 2, 1) := by decide +kernel
theorem dX1_lose_38 : decode cX1_lose 38 = .ok (.bastore, 1) := by decide +kernel
theorem dX1_lose_39 : decode cX1_lose 39 = .ok (.iload_n 3, 1) := by decide +kernel
theorem dX1_lose_40 : decode cX1_lose 40 = .ok (.ireturn, 1) := by decide +kernel
theorem dX1_good_0 : decode cX1_good 0 = .ok (.aload_n 0, 1) := by decide +kernel
theorem dX1_good_1 : decode cX1_good 1 = .ok (.aload_n 0, 1) := by decide +kernel
theorem dX1_good_2 : decode cX1_good 2 = .ok (.iload_n 1, 1) := by decide +kernel
theorem dX1_good_3 : decode cX1_good 3 = .ok (.invokevirtual 41, 3) := by decide +kernel
theorem dX1_good_6 : decode cX1_good 6 = .ok (.iconst 1, 1) := by decide +kernel
theorem dX1_good_7 : decode cX1_good 7 = .ok (.invokevirtual 33, 3) := by decide +kernel
theorem dX1_good_10 : decode cX1_good 10 = .ok (.ifCond .ne 15, 3) := by decide +kernel
theorem dX1_good_13 : decode cX1_good 13 = .ok (.aload_n 0, 1) := by decide +kernel
theorem dX1_good_14 : decode cX1_good 14 = .ok (.iload_n 1, 1) := by decide +kernel
theorem dX1_good_15 : decode cX1_good 15 = .ok (.invokevirtual 58, 3) := by decide +kernel
theorem dX1_good_18 : decode cX1_good 18 = .ok (.ifCond .eq 7, 3) := by decide +kernel
theorem dX1_good_21 : decode cX1_good 21 = .ok (.iconst 1, 1) := by decide +kernel
theorem dX1_good_22 : decode cX1_good 22 = .ok (.goto 4, 3) := by decide +kernel
theorem dX1_good_25 : decode cX1_good 25 = .ok (.iconst 0, 1) := by decide +kernel
theorem dX1_good_26 : decode cX1_good 26 = .ok (.ireturn, 1) := by decide +kernel
theorem dX1_isGood_0 : decode cX1_isGood 0 = .ok (.aload_n 0, 1) := by decide +kernel
theorem dX1_isGood_1 : decode cX1_isGood 1 = .ok (.invokevirtual 51, 3) := by decide +kernel
theorem dX1_isGood_4 : decode cX1_isGood 4 = .ok (.aload_n 0, 1) := by decide +kernel
theorem dX1_isGood_5 : decode cX1_isGood 5 = .ok (.iload_n 1, 1) := by decide +kernel
theorem dX1_isGood_6 : decode cX1_isGood 6 = .ok (.invokevirtual 54, 3) := by decide +kernel
theorem dX1_isGood_9 : decode cX1_isGood 9 = .ok (.iconst 0, 1) := by decide +kernel
theorem dX1_isGood_10 : decode cX1_isGood 10 = .ok (.istore_n 2, 1) := by decide +kernel
theorem dX1_isGood_11 : decode cX1_isGood 11 = .ok (.iload_n 2, 1) := by decide +kernel
theorem dX1_isGood_12 : decode cX1_isGood 12 = .ok (.bipush 64, 2) := by decide +kernel
theorem dX1_isGood_14 : decode cX1_isGood 14 = .ok (.if_icmp .ge 29, 3) := by decide +kernel
theorem dX1_isGood_17 : decode cX1_isGood 17 = .ok (.aload_n 0, 1) := by decide +kernel
theorem dX1_isGood_18 : decode cX1_isGood 18 = .ok (.getfield 20, 3) := by decide +kernel
theorem dX1_isGood_21 : decode cX1_isGood 21 = .ok (.iload_n 2, 1) := by decide +kernel
theorem dX1_isGood_22 : decode cX1_isGood 22 = .ok (.baload, 1) := by decide +kernel
theorem dX1_isGood_23 : decode cX1_isGood 23 = .ok (.ifCond .eq 14, 3) := by decide +kernel
theorem dX1_isGood_26 : decode cX1_isGood 26 = .ok (.aload_n 0, 1) := by decide +kernel
theorem dX1_isGood_27 : decode cX1_isGood 27 = .ok (.getfield 16, 3) := by decide +kernel
theorem dX1_isGood_30 : decode cX1_isGood 30 = .ok (.iload_n 2, 1) := by decide +kernel
theorem dX1_isGood_31 : decode cX1_isGood 31 = .ok (.baload, 1) := by decide +kernel
theorem dX1_isGood_32 : decode cX1_isGood 32 = .ok (.ifCond .eq 5, 3) := by decide +kernel
theorem dX1_isGood_35 : decode cX1_isGood 35 = .ok (.iconst 0, 1) := by decide +kernel
theorem dX1_isGood_36 : decode cX1_isGood 36 = .ok (.ireturn, 1) := by decide +kernel
theorem dX1_isGood_37 : decode cX1_isGood 37 = .ok (.iinc 2 1, 3) := by decide +kernel
theorem dX1_isGood_40 : decode cX1_isGood 40 = .ok (.goto (-29), 3) := by decide +kernel
theorem dX1_isGood_43 : decode cX1_isGood 43 = .ok (.iconst 1, 1) := by decide +kernel
theorem dX1_isGood_44 : decode cX1_isGood 44 = .ok (.ireturn, 1) := by decide +kernel
theorem dX1_latest_0 : decode cX1_latest 0 = .ok (.aload_n 0, 1) := by decide +kernel
theorem dX1_latest_1 : decode cX1_latest 1 = .ok (.aload_n 0, 1) := by decide +kernel
theorem dX1_latest_2 : decode cX1_latest 2 = .ok (.iload_n 1, 1) := by decide +kernel
theorem dX1_latest_3 : decode cX1_latest 3 = .ok (.invokevirtual 41, 3) := by decide +kernel
theorem dX1_latest_6 : decode cX1_latest 6 = .ok (.iconst 1, 1) := by decide +kernel
theorem dX1_latest_7 : decode cX1_latest 7 = .ok (.invokevirtual 33, 3) := by decide +kernel
theorem dX1_latest_10 : decode cX1_latest 10 = .ok (.ifCond .eq 5, 3) := by decide +kernel
theorem dX1_latest_13 : decode cX1_latest 13 = .ok (.iconst 0, 1) := by decide +kernel
theorem dX1_latest_14 : decode cX1_latest 14 = .ok (.ireturn, 1) := by decide +kernel
theorem dX1_latest_15 : decode cX1_latest 15 = .ok (.iload_n 1, 1) := by decide +kernel
theorem dX1_latest_16 : decode cX1_latest 16 = .ok (.istore_n 2, 1) := by decide +kernel
theorem dX1_latest_17 : decode cX1_latest 17 = .ok (.iload_n 2, 1) := by decide +kernel
theorem dX1_latest_18 : decode cX1_latest 18 = .ok (.ifCond .lt 17, 3) := by decide +kernel
theorem dX1_latest_21 : decode cX1_latest 21 = .ok (.aload_n 0, 1) := by decide +kernel
theorem dX1_latest_22 : decode cX1_latest 22 = .ok (.iload_n 2, 1) := by decide +kernel
theorem dX1_latest_23 : decode cX1_latest 23 = .ok (.invokevirtual 58, 3) := by decide +kernel
theorem dX1_latest_26 : decode cX1_latest 26 = .ok (.ifCond .ne 9, 3) := by decide +kernel
theorem dX1_latest_29 : decode cX1_latest 29 = .ok (.iinc 2 (-1), 3) := by decide +kernel
theorem dX1_latest_32 : decode cX1_latest 32 = .ok (.goto (-15), 3) := by decide +kernel
theorem dX1_latest_35 : decode cX1_latest 35 = .ok (.iload_n 2, 1) := by decide +kernel
theorem dX1_latest_36 : decode cX1_latest 36 = .ok (.ireturn, 1) := by decide +kernel
theorem dX1_spare_0 : decode cX1_spare 0 = .ok (.aload_n 0, 1) := by decide +kernel
theorem dX1_spare_1 : decode cX1_spare 1 = .ok (.iload_n 1, 1) := by decide +kernel
theorem dX1_spare_2 : decode cX1_spare 2 = .ok (.ifCond .ge 7, 3) := by decide +kernel
theorem dX1_spare_5 : decode cX1_spare 5 = .ok (.iconst 1, 1) := by decide +kernel
theorem dX1_spare_6 : decode cX1_spare 6 = .ok (.goto 4, 3) := by decide +kernel
theorem dX1_spare_9 : decode cX1_spare 9 = .ok (.iconst 0, 1) := by decide +kernel
theorem dX1_spare_10 : decode cX1_spare 10 = .ok (.iconst 1, 1) := by decide +kernel
theorem dX1_spare_11 : decode cX1_spare 11 = .ok (.invokevirtual 33, 3) := by decide +kernel
theorem dX1_spare_14 : decode cX1_spare 14 = .ok (.ifCond .eq 5, 3) := by decide +kernel
theorem dX1_spare_17 : decode cX1_spare 17 = .ok (.lconst 0, 1) := by decide +kernel
theorem dX1_spare_18 : decode cX1_spare 18 = .ok (.lreturn, 1) := by decide +kernel
theorem dX1_spare_19 : decode cX1_spare 19 = .ok (.aload_n 0, 1) := by decide +kernel
theorem dX1_spare_20 : decode cX1_spare 20 = .ok (.invokevirtual 51, 3) := by decide +kernel
theorem dX1_spare_23 : decode cX1_spare 23 = .ok (.aload_n 0, 1) := by decide +kernel
theorem dX1_spare_24 : decode cX1_spare 24 = .ok (.getfield 30, 3) := by decide +kernel
theorem dX1_spare_27 : decode cX1_spare 27 = .ok (.iconst 1, 1) := by decide +kernel
theorem dX1_spare_28 : decode cX1_spare 28 = .ok (.isub, 1) := by decide +kernel
theorem dX1_spare_29 : decode cX1_spare 29 = .ok (.istore_n 2, 1) := by decide +kernel
theorem dX1_spare_30 : decode cX1_spare 30 = .ok (.iload_n 2, 1) := by decide +kernel
theorem dX1_spare_31 : decode cX1_spare 31 = .ok (.ifCond .lt 24, 3) := by decide +kernel
theorem dX1_spare_34 : decode cX1_spare 34 = .ok (.iload_n 2, 1) := by decide +kernel
theorem dX1_spare_35 : decode cX1_spare 35 = .ok (.aload_n 0, 1) := by decide +kernel
theorem dX1_spare_36 : decode cX1_spare 36 = .ok (.getfield 30, 3) := by decide +kernel
theorem dX1_spare_39 : decode cX1_spare 39 = .ok (.iload_n 1, 1) := by decide +kernel
theorem dX1_spare_40 : decode cX1_spare 40 = .ok (.isub, 1) := by decide +kernel
theorem dX1_spare_41 : decode cX1_spare 41 = .ok (.if_icmp .lt 14, 3) := by decide +kernel
theorem dX1_spare_44 : decode cX1_spare 44 = .ok (.aload_n 0, 1) := by decide +kernel
theorem dX1_spare_45 : decode cX1_spare 45 = .ok (.iload_n 2, 1) := by decide +kernel
theorem dX1_spare_46 : decode cX1_spare 46 = .ok (.invokevirtual 54, 3) := by decide +kernel
theorem dX1_spare_49 : decode cX1_spare 49 = .ok (.iinc 2 (-1), 3) := by decide +kernel
theorem dX1_spare_52 : decode cX1_spare 52 = .ok (.goto (-22), 3) := by decide +kernel
theorem dX1_spare_55 : decode cX1_spare 55 = .ok (.lconst 0, 1) := by decide +kernel
theorem dX1_spare_56 : decode cX1_spare 56 = .ok (.lstore_n 2, 1) := by decide +kernel
theorem dX1_spare_57 : decode cX1_spare 57 = .ok (.iconst 0, 1) := by decide +kernel
theorem dX1_spare_58 : decode cX1_spare 58 = .ok (.istore 4, 2) := by decide +kernel
theorem dX1_spare_60 : decode cX1_spare 60 = .ok (.iload 4, 2) := by decide +kernel
theorem dX1_spare_62 : decode cX1_spare 62 = .ok (.aload_n 0, 1) := by decide +kernel
theorem dX1_spare_63 : decode cX1_spare 63 = .ok (.invokevirtual 61, 3) := by decide +kernel
theorem dX1_spare_66 : decode cX1_spare 66 = .ok (.if_icmp .ge 26, 3) := by decide +kernel
theorem dX1_spare_69 : decode cX1_spare 69 = .ok (.aload_n 0, 1) := by decide +kernel
theorem dX1_spare_70 : decode cX1_spare 70 = .ok (.getfield 20, 3) := by decide +kernel
theorem dX1_spare_73 : decode cX1_spare 73 = .ok (.iload 4, 2) := by decide +kernel
theorem dX1_spare_75 : decode cX1_spare 75 = .ok (.baload, 1) := by decide +kernel
theorem dX1_spare_76 : decode cX1_spare 76 = .ok (.ifCond .ne 10, 3) := by decide +kernel
theorem dX1_spare_79 : decode cX1_spare 79 = .ok (.lload_n 2, 1) := by decide +kernel
theorem dX1_spare_80 : decode cX1_spare 80 = .ok (.lconst 1, 1) := by decide +kernel
theorem dX1_spare_81 : decode cX1_spare 81 = .ok (.iload 4, 2) := by decide +kernel
theorem dX1_spare_83 : decode cX1_spare 83 = .ok (.lshl, 1) := by decide +kernel
theorem dX1_spare_84 : decode cX1_spare 84 = .ok (.lor, 1) := by decide +kernel
theorem dX1_spare_85 : decode cX1_spare 85 = .ok (.lstore_n 2, 1) := by decide +kernel
theorem dX1_spare_86 : decode cX1_spare 86 = .ok (.iinc 4 1, 3) := by decide +kernel
theorem dX1_spare_89 : decode cX1_spare 89 = .ok (.goto (-29), 3) := by decide +kernel
theorem dX1_spare_92 : decode cX1_spare 92 = .ok (.lload_n 2, 1) := by decide +kernel
theorem dX1_spare_93 : decode cX1_spare 93 = .ok (.lreturn, 1) := by decide +kernel
theorem dX1_written_0 : decode cX1_written 0 = .ok (.aload_n 0, 1) := by decide +kernel
theorem dX1_written_1 : decode cX1_written 1 = .ok (.aload_n 0, 1) := by decide +kernel
theorem dX1_written_2 : decode cX1_written 2 = .ok (.getfield 30, 3) := by decide +kernel
theorem dX1_written_5 : decode cX1_written 5 = .ok (.invokevirtual 37, 3) := by decide +kernel
theorem dX1_written_8 : decode cX1_written 8 = .ok (.aload_n 0, 1) := by decide +kernel
theorem dX1_written_9 : decode cX1_written 9 = .ok (.getfield 23, 3) := by decide +kernel
theorem dX1_written_12 : decode cX1_written 12 = .ok (.iadd, 1) := by decide +kernel
theorem dX1_written_13 : decode cX1_written 13 = .ok (.iconst 2, 1) := by decide +kernel
theorem dX1_written_14 : decode cX1_written 14 = .ok (.isub, 1) := by decide +kernel
theorem dX1_written_15 : decode cX1_written 15 = .ok (.aload_n 0, 1) := by decide +kernel
theorem dX1_written_16 : decode cX1_written 16 = .ok (.getfield 23, 3) := by decide +kernel
theorem dX1_written_19 : decode cX1_written 19 = .ok (.iconst 1, 1) := by decide +kernel
theorem dX1_written_20 : decode cX1_written 20 = .ok (.isub, 1) := by decide +kernel
theorem dX1_written_21 : decode cX1_written 21 = .ok (.idiv, 1) := by decide +kernel
theorem dX1_written_22 : decode cX1_written 22 = .ok (.ireturn, 1) := by decide +kernel
theorem dX1_count_0 : decode cX1_count 0 = .ok (.aload_n 0, 1) := by decide +kernel
theorem dX1_count_1 : decode cX1_count 1 = .ok (.iload_n 1, 1) := by decide +kernel
theorem dX1_count_2 : decode cX1_count 2 = .ok (.ifCond .lt 8, 3) := by decide +kernel
theorem dX1_count_5 : decode cX1_count 5 = .ok (.iload_n 1, 1) := by decide +kernel
theorem dX1_count_6 : decode cX1_count 6 = .ok (.iconst 5, 1) := by decide +kernel
theorem dX1_count_7 : decode cX1_count 7 = .ok (.if_icmp .le 7, 3) := by decide +kernel
theorem dX1_count_10 : decode cX1_count 10 = .ok (.iconst 1, 1) := by decide +kernel
theorem dX1_count_11 : decode cX1_count 11 = .ok (.goto 4, 3) := by decide +kernel
theorem dX1_count_14 : decode cX1_count 14 = .ok (.iconst 0, 1) := by decide +kernel
theorem dX1_count_15 : decode cX1_count 15 = .ok (.iconst 1, 1) := by decide +kernel
theorem dX1_count_16 : decode cX1_count 16 = .ok (.invokevirtual 33, 3) := by decide +kernel
theorem dX1_count_19 : decode cX1_count 19 = .ok (.ifCond .eq 5, 3) := by decide +kernel
theorem dX1_count_22 : decode cX1_count 22 = .ok (.iconst 0, 1) := by decide +kernel
theorem dX1_count_23 : decode cX1_count 23 = .ok (.ireturn, 1) := by decide +kernel
theorem dX1_count_24 : decode cX1_count 24 = .ok (.iconst 0, 1) := by decide +kernel
theorem dX1_count_25 : decode cX1_count 25 = .ok (.istore_n 2, 1) := by decide +kernel
theorem dX1_count_26 : decode cX1_count 26 = .ok (.iload_n 1, 1) := by decide +kernel
theorem dX1_count_27 : decode cX1_count 27 = .ok (.tableswitch 119 0 4 #[33, 38, 43, 57, 86], 33) := by decide +kernel
theorem dX1_count_60 : decode cX1_count 60 = .ok (.aload_n 0, 1) := by decide +kernel
theorem dX1_count_61 : decode cX1_count 61 = .ok (.getfield 30, 3) := by decide +kernel
theorem dX1_count_64 : decode cX1_count 64 = .ok (.ireturn, 1) := by decide +kernel
theorem dX1_count_65 : decode cX1_count 65 = .ok (.aload_n 0, 1) := by decide +kernel
theorem dX1_count_66 : decode cX1_count 66 = .ok (.invokevirtual 61, 3) := by decide +kernel
theorem dX1_count_69 : decode cX1_count 69 = .ok (.ireturn, 1) := by decide +kernel
theorem dX1_count_70 : decode cX1_count 70 = .ok (.aload_n 0, 1) := by decide +kernel
theorem dX1_count_71 : decode cX1_count 71 = .ok (.aload_n 0, 1) := by decide +kernel
theorem dX1_count_72 : decode cX1_count 72 = .ok (.getfield 30, 3) := by decide +kernel
theorem dX1_count_75 : decode cX1_count 75 = .ok (.invokevirtual 37, 3) := by decide +kernel
theorem dX1_count_78 : decode cX1_count 78 = .ok (.aload_n 0, 1) := by decide +kernel
theorem dX1_count_79 : decode cX1_count 79 = .ok (.invokevirtual 61, 3) := by decide +kernel
theorem dX1_count_82 : decode cX1_count 82 = .ok (.iadd, 1) := by decide +kernel
theorem dX1_count_83 : decode cX1_count 83 = .ok (.ireturn, 1) := by decide +kernel
theorem dX1_count_84 : decode cX1_count 84 = .ok (.iconst 0, 1) := by decide +kernel
theorem dX1_count_85 : decode cX1_count 85 = .ok (.istore_n 3, 1) := by decide +kernel
theorem dX1_count_86 : decode cX1_count 86 = .ok (.iload_n 3, 1) := by decide +kernel
theorem dX1_count_87 : decode cX1_count 87 = .ok (.aload_n 0, 1) := by decide +kernel
theorem dX1_count_88 : decode cX1_count 88 = .ok (.getfield 30, 3) := by decide +kernel
theorem dX1_count_91 : decode cX1_count 91 = .ok (.if_icmp .ge 20, 3) := by decide +kernel
theorem dX1_count_94 : decode cX1_count 94 = .ok (.aload_n 0, 1) := by decide +kernel
theorem dX1_count_95 : decode cX1_count 95 = .ok (.iload_n 3, 1) := by decide +kernel
theorem dX1_count_96 : decode cX1_count 96 = .ok (.invokevirtual 58, 3) := by decide +kernel
theorem dX1_count_99 : decode cX1_count 99 = .ok (.ifCond .eq 6, 3) := by decide +kernel
theorem dX1_count_102 : decode cX1_count 102 = .ok (.iinc 2 1, 3) := by decide +kernel
theorem dX1_count_105 : decode cX1_count 105 = .ok (.iinc 3 1, 3) := by decide +kernel
theorem dX1_count_108 : decode cX1_count 108 = .ok (.goto (-22), 3) := by decide +kernel
theorem dX1_count_111 : decode cX1_count 111 = .ok (.iload_n 2, 1) := by decide +kernel
theorem dX1_count_112 : decode cX1_count 112 = .ok (.ireturn, 1) := by decide +kernel
theorem dX1_count_113 : decode cX1_count 113 = .ok (.iconst 0, 1) := by decide +kernel
theorem dX1_count_114 : decode cX1_count 114 = .ok (.istore_n 3, 1) := by decide +kernel
theorem dX1_count_115 : decode cX1_count 115 = .ok (.iload_n 3, 1) := by decide +kernel
theorem dX1_count_116 : decode cX1_count 116 = .ok (.aload_n 0, 1) := by decide +kernel
theorem dX1_count_117 : decode cX1_count 117 = .ok (.getfield 30, 3) := by decide +kernel
theorem dX1_count_120 : decode cX1_count 120 = .ok (.if_icmp .ge 24, 3) := by decide +kernel
theorem dX1_count_123 : decode cX1_count 123 = .ok (.aload_n 0, 1) := by decide +kernel
theorem dX1_count_124 : decode cX1_count 124 = .ok (.iload_n 3, 1) := by decide +kernel
theorem dX1_count_125 : decode cX1_count 125 = .ok (.invokevirtual 48, 3) := by decide +kernel
theorem dX1_count_128 : decode cX1_count 128 = .ok (.iload_n 2, 1) := by decide +kernel
theorem dX1_count_129 : decode cX1_count 129 = .ok (.if_icmp .le 9, 3) := by decide +kernel
theorem dX1_count_132 : decode cX1_count 132 = .ok (.aload_n 0, 1) := by decide +kernel
theorem dX1_count_133 : decode cX1_count 133 = .ok (.iload_n 3, 1) := by decide +kernel
theorem dX1_count_134 : decode cX1_count 134 = .ok (.invokevirtual 48, 3) := by decide +kernel
theorem dX1_count_137 : decode cX1_count 137 = .ok (.istore_n 2, 1) := by decide +kernel
theorem dX1_count_138 : decode cX1_count 138 = .ok (.iinc 3 1, 3) := by decide +kernel
theorem dX1_count_141 : decode cX1_count 141 = .ok (.goto (-26), 3) := by decide +kernel
theorem dX1_count_144 : decode cX1_count 144 = .ok (.iload_n 2, 1) := by decide +kernel
theorem dX1_count_145 : decode cX1_count 145 = .ok (.ireturn, 1) := by decide +kernel
theorem dX1_count_146 : decode cX1_count 146 = .ok (.iconst 0, 1) := by decide +kernel
theorem dX1_count_147 : decode cX1_count 147 = .ok (.istore_n 3, 1) := by decide +kernel
theorem dX1_count_148 : decode cX1_count 148 = .ok (.iload_n 3, 1) := by decide +kernel
theorem dX1_count_149 : decode cX1_count 149 = .ok (.bipush 64, 2) := by decide +kernel
theorem dX1_count_151 : decode cX1_count 151 = .ok (.if_icmp .ge 21, 3) := by decide +kernel
theorem dX1_count_154 : decode cX1_count 154 = .ok (.aload_n 0, 1) := by decide +kernel
theorem dX1_count_155 : decode cX1_count 155 = .ok (.getfield 16, 3) := by decide +kernel
theorem dX1_count_158 : decode cX1_count 158 = .ok (.iload_n 3, 1) := by decide +kernel
theorem dX1_count_159 : decode cX1_count 159 = .ok (.baload, 1) := by decide +kernel
theorem dX1_count_160 : decode cX1_count 160 = .ok (.ifCond .eq 6, 3) := by decide +kernel
theorem dX1_count_163 : decode cX1_count 163 = .ok (.iinc 2 1, 3) := by decide +kernel
theorem dX1_count_166 : decode cX1_count 166 = .ok (.iinc 3 1, 3) := by decide +kernel
theorem dX1_count_169 : decode cX1_count 169 = .ok (.goto (-21), 3) := by decide +kernel
theorem dX1_count_172 : decode cX1_count 172 = .ok (.iload_n 2, 1) := by decide +kernel
theorem dX1_count_173 : decode cX1_count 173 = .ok (.ireturn, 1) := by decide +kernel
end
section
/-! the instructions, decoded -/
theorem dL_begin_0 : decode cL_begin 0 = .ok (.aload_n 0, 1) := by decide +kernel
theorem dL_begin_1 : decode cL_begin 1 = .ok (.iload_n 1, 1) := by decide +kernel
theorem dL_begin_2 : decode cL_begin 2 = .ok (.invokevirtual 7, 3) := by decide +kernel
theorem dL_begin_5 : decode cL_begin 5 = .ok (.goto 6, 3) := by decide +kernel
theorem dL_begin_8 : decode cL_begin 8 = .ok (.astore_n 2, 1) := by decide +kernel
theorem dL_begin_9 : decode cL_begin 9 = .ok (.iconst 1, 1) := by decide +kernel
theorem dL_begin_10 : decode cL_begin 10 = .ok (.ireturn, 1) := by decide +kernel
theorem dL_begin_11 : decode cL_begin 11 = .ok (.iconst 0, 1) := by decide +kernel
theorem dL_begin_12 : decode cL_begin 12 = .ok (.ireturn, 1) := by decide +kernel
theorem dL_dump_0 : decode cL_dump 0 = .ok (.aload_n 3, 1) := by decide +kernel
theorem dL_dump_1 : decode cL_dump 1 = .ok (.iconst 0, 1) := by decide +kernel
theorem dL_dump_2 : decode cL_dump 2 = .ok (.aload_n 0, 1) := by decide +kernel
theorem dL_dump_3 : decode cL_dump 3 = .ok (.iload_n 1, 1) := by decide +kernel
theorem dL_dump_4 : decode cL_dump 4 = .ok (.iload_n 2, 1) := by decide +kernel
theorem dL_dump_5 : decode cL_dump 5 = .ok (.invokevirtual 15, 3) := by decide +kernel
theorem dL_dump_8 : decode cL_dump 8 = .ok (.i2l, 1) := by decide +kernel
theorem dL_dump_9 : decode cL_dump 9 = .ok (.lastore, 1) := by decide +kernel
theorem dL_dump_10 : decode cL_dump 10 = .ok (.goto 11, 3) := by decide +kernel
theorem dL_dump_13 : decode cL_dump 13 = .ok (.astore 4, 2) := by decide +kernel
theorem dL_dump_15 : decode cL_dump 15 = .ok (.iconst 1, 1) := by decide +kernel
theorem dL_dump_16 : decode cL_dump 16 = .ok (.ireturn, 1) := by decide +kernel
theorem dL_dump_17 : decode cL_dump 17 = .ok (.astore 4, 2) := by decide +kernel
theorem dL_dump_19 : decode cL_dump 19 = .ok (.iconst 2, 1) := by decide +kernel
theorem dL_dump_20 : decode cL_dump 20 = .ok (.ireturn, 1) := by decide +kernel
theorem dL_dump_21 : decode cL_dump 21 = .ok (.iconst 0, 1) := by decide +kernel
theorem dL_dump_22 : decode cL_dump 22 = .ok (.ireturn, 1) := by decide +kernel
theorem dL_drop_0 : decode cL_drop 0 = .ok (.aload_n 0, 1) := by decide +kernel
theorem dL_drop_1 : decode cL_drop 1 = .ok (.iload_n 1, 1) := by decide +kernel
theorem dL_drop_2 : decode cL_drop 2 = .ok (.invokevirtual 21, 3) := by decide +kernel
theorem dL_drop_5 : decode cL_drop 5 = .ok (.goto 6, 3) := by decide +kernel
theorem dL_drop_8 : decode cL_drop 8 = .ok (.astore_n 2, 1) := by decide +kernel
theorem dL_drop_9 : decode cL_drop 9 = .ok (.iconst 1, 1) := by decide +kernel
theorem dL_drop_10 : decode cL_drop 10 = .ok (.ireturn, 1) := by decide +kernel
theorem dL_drop_11 : decode cL_drop 11 = .ok (.iconst 0, 1) := by decide +kernel
theorem dL_drop_12 : decode cL_drop 12 = .ok (.ireturn, 1) := by decide +kernel
theorem dL_chain_0 : decode cL_chain 0 = .ok (.aload_n 3, 1) := by decide +kernel
theorem dL_chain_1 : decode cL_chain 1 = .ok (.iconst 0, 1) := by decide +kernel
theorem dL_chain_2 : decode cL_chain 2 = .ok (.aload_n 0, 1) := by decide +kernel
theorem dL_chain_3 : decode cL_chain 3 = .ok (.iload_n 1, 1) := by decide +kernel
theorem dL_chain_4 : decode cL_chain 4 = .ok (.iload_n 2, 1) := by decide +kernel
theorem dL_chain_5 : decode cL_chain 5 = .ok (.invokevirtual 24, 3) := by decide +kernel
theorem dL_chain_8 : decode cL_chain 8 = .ok (.i2l, 1) := by decide +kernel
theorem dL_chain_9 : decode cL_chain 9 = .ok (.lastore, 1) := by decide +kernel
theorem dL_chain_10 : decode cL_chain 10 = .ok (.goto 11, 3) := by decide +kernel
theorem dL_chain_13 : decode cL_chain 13 = .ok (.astore 4, 2) := by decide +kernel
theorem dL_chain_15 : decode cL_chain 15 = .ok (.iconst 1, 1) := by decide +kernel
theorem dL_chain_16 : decode cL_chain 16 = .ok (.ireturn, 1) := by decide +kernel
theorem dL_chain_17 : decode cL_chain 17 = .ok (.astore 4, 2) := by decide +kernel
theorem dL_chain_19 : decode cL_chain 19 = .ok (.iconst 2, 1) := by decide +kernel
theorem dL_chain_20 : decode cL_chain 20 = .ok (.ireturn, 1) := by decide +kernel
theorem dL_chain_21 : decode cL_chain 21 = .ok (.iconst 0, 1) := by decide +kernel
theorem dL_chain_22 : decode cL_chain 22 = .ok (.ireturn, 1) := by decide +kernel
theorem dL_depth_0 : decode cL_depth 0 = .ok (.aload_n 2, 1) := by decide +kernel
theorem dL_depth_1 : decode cL_depth 1 = .ok (.iconst 0, 1) := by decide +kernel
theorem dL_depth_2 : decode cL_depth 2 = .ok (.aload_n 0, 1) := by decide +kernel
theorem dL_depth_3 : decode cL_depth 3 = .ok (.iload_n 1, 1) := by decide +kernel
theorem dL_depth_4 : decode cL_depth 4 = .ok (.invokevirtual 29, 3) := by decide +kernel
theorem dL_depth_7 : decode cL_depth 7 = .ok (.i2l, 1) := by decide +kernel
theorem dL_depth_8 : decode cL_depth 8 = .ok (.lastore, 1) := by decide +kernel
theorem dL_depth_9 : decode cL_depth 9 = .ok (.goto 6, 3) := by decide +kernel
theorem dL_depth_12 : decode cL_depth 12 = .ok (.astore_n 3, 1) := by decide +kernel
theorem dL_depth_13 : decode cL_depth 13 = .ok (.iconst 1, 1) := by decide +kernel
theorem dL_depth_14 : decode cL_depth 14 = .ok (.ireturn, 1) := by decide +kernel
theorem dL_depth_15 : decode cL_depth 15 = .ok (.iconst 0, 1) := by decide +kernel
theorem dL_depth_16 : decode cL_depth 16 = .ok (.ireturn, 1) := by decide +kernel
theorem dL_place_0 : decode cL_place 0 = .ok (.aload_n 3, 1) := by decide +kernel
theorem dL_place_1 : decode cL_place 1 = .ok (.iconst 0, 1) := by decide +kernel
theorem dL_place_2 : decode cL_place 2 = .ok (.aload_n 0, 1) := by decide +kernel
theorem dL_place_3 : decode cL_place 3 = .ok (.iload_n 1, 1) := by decide +kernel
theorem dL_place_4 : decode cL_place 4 = .ok (.iload_n 2, 1) := by decide +kernel
theorem dL_place_5 : decode cL_place 5 = .ok (.invokevirtual 33, 3) := by decide +kernel
theorem dL_place_8 : decode cL_place 8 = .ok (.i2l, 1) := by decide +kernel
theorem dL_place_9 : decode cL_place 9 = .ok (.lastore, 1) := by decide +kernel
theorem dL_place_10 : decode cL_place 10 = .ok (.goto 11, 3) := by decide +kernel
theorem dL_place_13 : decode cL_place 13 = .ok (.astore 4, 2) := by decide +kernel
theorem dL_place_15 : decode cL_place 15 = .ok (.iconst 1, 1) := by decide +kernel
theorem dL_place_16 : decode cL_place 16 = .ok (.ireturn, 1) := by decide +kernel
theorem dL_place_17 : decode cL_place 17 = .ok (.astore 4, 2) := by decide +kernel
theorem dL_place_19 : decode cL_place 19 = .ok (.iconst 2, 1) := by decide +kernel
theorem dL_place_20 : decode cL_place 20 = .ok (.ireturn, 1) := by decide +kernel
theorem dL_place_21 : decode cL_place 21 = .ok (.iconst 0, 1) := by decide +kernel
theorem dL_place_22 : decode cL_place 22 = .ok (.ireturn, 1) := by decide +kernel
theorem dL_owner_0 : decode cL_owner 0 = .ok (.aload_n 3, 1) := by decide +kernel
theorem dL_owner_1 : decode cL_owner 1 = .ok (.iconst 0, 1) := by decide +kernel
theorem dL_owner_2 : decode cL_owner 2 = .ok (.aload_n 0, 1) := by decide +kernel
theorem dL_owner_3 : decode cL_owner 3 = .ok (.iload_n 1, 1) := by decide +kernel
theorem dL_owner_4 : decode cL_owner 4 = .ok (.iload_n 2, 1) := by decide +kernel
theorem dL_owner_5 : decode cL_owner 5 = .ok (.invokevirtual 36, 3) := by decide +kernel
theorem dL_owner_8 : decode cL_owner 8 = .ok (.i2l, 1) := by decide +kernel
theorem dL_owner_9 : decode cL_owner 9 = .ok (.lastore, 1) := by decide +kernel
theorem dL_owner_10 : decode cL_owner 10 = .ok (.goto 7, 3) := by decide +kernel
theorem dL_owner_13 : decode cL_owner 13 = .ok (.astore 4, 2) := by decide +kernel
theorem dL_owner_15 : decode cL_owner 15 = .ok (.iconst 1, 1) := by decide +kernel
theorem dL_owner_16 : decode cL_owner 16 = .ok (.ireturn, 1) := by decide +kernel
theorem dL_owner_17 : decode cL_owner 17 = .ok (.iconst 0, 1) := by decide +kernel
theorem dL_owner_18 : decode cL_owner 18 = .ok (.ireturn, 1) := by decide +kernel
theorem dL_needs_0 : decode cL_needs 0 = .ok (.aload_n 2, 1) := by decide +kernel
theorem dL_needs_1 : decode cL_needs 1 = .ok (.iconst 0, 1) := by decide +kernel
theorem dL_needs_2 : decode cL_needs 2 = .ok (.aload_n 0, 1) := by decide +kernel
theorem dL_needs_3 : decode cL_needs 3 = .ok (.iload_n 1, 1) := by decide +kernel
theorem dL_needs_4 : decode cL_needs 4 = .ok (.invokevirtual 39, 3) := by decide +kernel
theorem dL_needs_7 : decode cL_needs 7 = .ok (.lastore, 1) := by decide +kernel
theorem dL_needs_8 : decode cL_needs 8 = .ok (.goto 6, 3) := by decide +kernel
theorem dL_needs_11 : decode cL_needs 11 = .ok (.astore_n 3, 1) := by decide +kernel
theorem dL_needs_12 : decode cL_needs 12 = .ok (.iconst 1, 1) := by decide +kernel
theorem dL_needs_13 : decode cL_needs 13 = .ok (.ireturn, 1) := by decide +kernel
theorem dL_needs_14 : decode cL_needs 14 = .ok (.iconst 0, 1) := by decide +kernel
theorem dL_needs_15 : decode cL_needs 15 = .ok (.ireturn, 1) := by decide +kernel
theorem dL_lose_0 : decode cL_lose 0 = .ok (.aload_n 3, 1) := by decide +kernel
theorem dL_lose_1 : decode cL_lose 1 = .ok (.iconst 0, 1) := by decide +kernel
theorem dL_lose_2 : decode cL_lose 2 = .ok (.aload_n 0, 1) := by decide +kernel
theorem dL_lose_3 : decode cL_lose 3 = .ok (.iload_n 1, 1) := by decide +kernel
theorem dL_lose_4 : decode cL_lose 4 = .ok (.iload_n 2, 1) := by decide +kernel
theorem dL_lose_5 : decode cL_lose 5 = .ok (.invokevirtual 43, 3) := by decide +kernel
theorem dL_lose_8 : decode cL_lose 8 = .ok (.ifCond .eq 7, 3) := by decide +kernel
theorem dL_lose_11 : decode cL_lose 11 = .ok (.lconst 1, 1) := by decide +kernel
theorem dL_lose_12 : decode cL_lose 12 = .ok (.goto 4, 3) := by decide +kernel
theorem dL_lose_15 : decode cL_lose 15 = .ok (.lconst 0, 1) := by decide +kernel
theorem dL_lose_16 : decode cL_lose 16 = .ok (.lastore, 1) := by decide +kernel
theorem dL_lose_17 : decode cL_lose 17 = .ok (.goto 7, 3) := by decide +kernel
theorem dL_lose_20 : decode cL_lose 20 = .ok (.astore 4, 2) := by decide +kernel
theorem dL_lose_22 : decode cL_lose 22 = .ok (.iconst 1, 1) := by decide +kernel
theorem dL_lose_23 : decode cL_lose 23 = .ok (.ireturn, 1) := by decide +kernel
theorem dL_lose_24 : decode cL_lose 24 = .ok (.iconst 0, 1) := by decide +kernel
theorem dL_lose_25 : decode cL_lose 25 = .ok (.ireturn, 1) := by decide +kernel
theorem dL_good_0 : decode cL_good 0 = .ok (.aload_n 2, 1) := by decide +kernel
theorem dL_good_1 : decode cL_good 1 = .ok (.iconst 0, 1) := by decide +kernel
theorem dL_good_2 : decode cL_good 2 = .ok (.aload_n 0, 1) := by decide +kernel
theorem dL_good_3 : decode cL_good 3 = .ok (.iload_n 1, 1) := by decide +kernel
theorem dL_good_4 : decode cL_good 4 = .ok (.invokevirtual 47, 3) := by decide +kernel
theorem dL_good_7 : decode cL_good 7 = .ok (.ifCond .eq 7, 3) := by decide +kernel
theorem dL_good_10 : decode cL_good 10 = .ok (.lconst 1, 1) := by decide +kernel
theorem dL_good_11 : decode cL_good 11 = .ok (.goto 4, 3) := by decide +kernel
theorem dL_good_14 : decode cL_good 14 = .ok (.lconst 0, 1) := by decide +kernel
theorem dL_good_15 : decode cL_good 15 = .ok (.lastore, 1) := by decide +kernel
theorem dL_good_16 : decode cL_good 16 = .ok (.goto 6, 3) := by decide +kernel
theorem dL_good_19 : decode cL_good 19 = .ok (.astore_n 3, 1) := by decide +kernel
theorem dL_good_20 : decode cL_good 20 = .ok (.iconst 1, 1) := by decide +kernel
theorem dL_good_21 : decode cL_good 21 = .ok (.ireturn, 1) := by decide +kernel
theorem dL_good_22 : decode cL_good 22 = .ok (.iconst 0, 1) := by decide +kernel
theorem dL_good_23 : decode cL_good 23 = .ok (.ireturn, 1) := by decide +kernel
theorem dL_latest_0 : decode cL_latest 0 = .ok (.aload_n 2, 1) := by decide +kernel
theorem dL_latest_1 : decode cL_latest 1 = .ok (.iconst 0, 1) := by decide +kernel
theorem dL_latest_2 : decode cL_latest 2 = .ok (.aload_n 0, 1) := by decide +kernel
theorem dL_latest_3 : decode cL_latest 3 = .ok (.iload_n 1, 1) := by decide +kernel
theorem dL_latest_4 : decode cL_latest 4 = .ok (.invokevirtual 51, 3) := by decide +kernel
theorem dL_latest_7 : decode cL_latest 7 = .ok (.i2l, 1) := by decide +kernel
theorem dL_latest_8 : decode cL_latest 8 = .ok (.lastore, 1) := by decide +kernel
theorem dL_latest_9 : decode cL_latest 9 = .ok (.goto 6, 3) := by decide +kernel
theorem dL_latest_12 : decode cL_latest 12 = .ok (.astore_n 3, 1) := by decide +kernel
theorem dL_latest_13 : decode cL_latest 13 = .ok (.iconst 1, 1) := by decide +kernel
theorem dL_latest_14 : decode cL_latest 14 = .ok (.ireturn, 1) := by decide +kernel
theorem dL_latest_15 : decode cL_latest 15 = .ok (.iconst 0, 1) := by decide +kernel
theorem dL_latest_16 : decode cL_latest 16 = .ok (.ireturn, 1) := by decide +kernel
theorem dL_spare_0 : decode cL_spare 0 = .ok (.aload_n 2, 1) := by decide +kernel
theorem dL_spare_1 : decode cL_spare 1 = .ok (.iconst 0, 1) := by decide +kernel
theorem dL_spare_2 : decode cL_spare 2 = .ok (.aload_n 0, 1) := by decide +kernel
theorem dL_spare_3 : decode cL_spare 3 = .ok (.iload_n 1, 1) := by decide +kernel
theorem dL_spare_4 : decode cL_spare 4 = .ok (.invokevirtual 54, 3) := by decide +kernel
theorem dL_spare_7 : decode cL_spare 7 = .ok (.lastore, 1) := by decide +kernel
theorem dL_spare_8 : decode cL_spare 8 = .ok (.goto 6, 3) := by decide +kernel
theorem dL_spare_11 : decode cL_spare 11 = .ok (.astore_n 3, 1) := by decide +kernel
theorem dL_spare_12 : decode cL_spare 12 = .ok (.iconst 1, 1) := by decide +kernel
theorem dL_spare_13 : decode cL_spare 13 = .ok (.ireturn, 1) := by decide +kernel
theorem dL_spare_14 : decode cL_spare 14 = .ok (.iconst 0, 1) := by decide +kernel
theorem dL_spare_15 : decode cL_spare 15 = .ok (.ireturn, 1) := by decide +kernel
theorem dL_count_0 : decode cL_count 0 = .ok (.aload_n 2, 1) := by decide +kernel
theorem dL_count_1 : decode cL_count 1 = .ok (.iconst 0, 1) := by decide +kernel
theorem dL_count_2 : decode cL_count 2 = .ok (.aload_n 0, 1) := by decide +kernel
theorem dL_count_3 : decode cL_count 3 = .ok (.iload_n 1, 1) := by decide +kernel
theorem dL_count_4 : decode cL_count 4 = .ok (.invokevirtual 57, 3) := by decide +kernel
theorem dL_count_7 : decode cL_count 7 = .ok (.i2l, 1) := by decide +kernel
theorem dL_count_8 : decode cL_count 8 = .ok (.lastore, 1) := by decide +kernel
theorem dL_count_9 : decode cL_count 9 = .ok (.goto 6, 3) := by decide +kernel
theorem dL_count_12 : decode cL_count 12 = .ok (.astore_n 3, 1) := by decide +kernel
theorem dL_count_13 : decode cL_count 13 = .ok (.iconst 1, 1) := by decide +kernel
theorem dL_count_14 : decode cL_count 14 = .ok (.ireturn, 1) := by decide +kernel
theorem dL_count_15 : decode cL_count 15 = .ok (.iconst 0, 1) := by decide +kernel
theorem dL_count_16 : decode cL_count 16 = .ok (.ireturn, 1) := by decide +kernel
end
section
/-! the instructions, decoded -/
theorem dL_law_0 : decode cL_law 0 = .ok (.new 8, 3) := by decide +kernel
theorem dL_law_3 : decode cL_law 3 = .ok (.dup, 1) := by decide +kernel
theorem dL_law_4 : decode cL_law 4 = .ok (.invokespecial 60, 3) := by decide +kernel
theorem dL_law_7 : decode cL_law 7 = .ok (.astore_n 1, 1) := by decide +kernel
theorem dL_law_8 : decode cL_law 8 = .ok (.new 61, 3) := by decide +kernel
theorem dL_law_11 : decode cL_law 11 = .ok (.dup, 1) := by decide +kernel
theorem dL_law_12 : decode cL_law 12 = .ok (.invokespecial 63, 3) := by decide +kernel
theorem dL_law_15 : decode cL_law 15 = .ok (.astore_n 2, 1) := by decide +kernel
theorem dL_law_16 : decode cL_law 16 = .ok (.iconst 1, 1) := by decide +kernel
theorem dL_law_17 : decode cL_law 17 = .ok (.newarray .long, 2) := by decide +kernel
theorem dL_law_19 : decode cL_law 19 = .ok (.astore_n 3, 1) := by decide +kernel
theorem dL_law_20 : decode cL_law 20 = .ok (.iconst 0, 1) := by decide +kernel
theorem dL_law_21 : decode cL_law 21 = .ok (.istore 4, 2) := by decide +kernel
theorem dL_law_23 : decode cL_law 23 = .ok (.iload 4, 2) := by decide +kernel
theorem dL_law_25 : decode cL_law 25 = .ok (.aload_n 0, 1) := by decide +kernel
theorem dL_law_26 : decode cL_law 26 = .ok (.arraylength, 1) := by decide +kernel
theorem dL_law_27 : decode cL_law 27 = .ok (.iconst 3, 1) := by decide +kernel
theorem dL_law_28 : decode cL_law 28 = .ok (.isub, 1) := by decide +kernel
theorem dL_law_29 : decode cL_law 29 = .ok (.if_icmp .gt 857, 3) := by decide +kernel
theorem dL_law_32 : decode cL_law 32 = .ok (.aload_n 0, 1) := by decide +kernel
theorem dL_law_33 : decode cL_law 33 = .ok (.iload 4, 2) := by decide +kernel
theorem dL_law_35 : decode cL_law 35 = .ok (.iaload, 1) := by decide +kernel
theorem dL_law_36 : decode cL_law 36 = .ok (.bipush 15, 2) := by decide +kernel
theorem dL_law_38 : decode cL_law 38 = .ok (.iand, 1) := by decide +kernel
theorem dL_law_39 : decode cL_law 39 = .ok (.tableswitch 841 0 12 #[65, 101, 169, 205, 273, 329, 397, 465, 520, 611, 674, 730, 785], 65) := by decide +kernel
theorem dL_law_104 : decode cL_law 104 = .ok (.aload_n 1, 1) := by decide +kernel
theorem dL_law_105 : decode cL_law 105 = .ok (.aload_n 0, 1) := by decide +kernel
theorem dL_law_106 : decode cL_law 106 = .ok (.iload 4, 2) := by decide +kernel
theorem dL_law_108 : decode cL_law 108 = .ok (.iconst 1, 1) := by decide +kernel
theorem dL_law_109 : decode cL_law 109 = .ok (.iadd, 1) := by decide +kernel
theorem dL_law_110 : decode cL_law 110 = .ok (.iaload, 1) := by decide +kernel
theorem dL_law_111 : decode cL_law 111 = .ok (.invokestatic 64, 3) := by decide +kernel
theorem dL_law_114 : decode cL_law 114 = .ok (.istore 5, 2) := by decide +kernel
theorem dL_law_116 : decode cL_law 116 = .ok (.aload_n 2, 1) := by decide +kernel
theorem dL_law_117 : decode cL_law 117 = .ok (.aload_n 0, 1) := by decide +kernel
theorem dL_law_118 : decode cL_law 118 = .ok (.iload 4, 2) := by decide +kernel
theorem dL_law_120 : decode cL_law 120 = .ok (.iconst 1, 1) := by decide +kernel
theorem dL_law_121 : decode cL_law 121 = .ok (.iadd, 1) := by decide +kernel
theorem dL_law_122 : decode cL_law 122 = .ok (.iaload, 1) := by decide +kernel
theorem dL_law_123 : decode cL_law 123 = .ok (.invokevirtual 69, 3) := by decide +kernel
theorem dL_law_126 : decode cL_law 126 = .ok (.aload_n 2, 1) := by decide +kernel
theorem dL_law_127 : decode cL_law 127 = .ok (.invokevirtual 70, 3) := by decide +kernel
theorem dL_law_130 : decode cL_law 130 = .ok (.iload 5, 2) := by decide +kernel
theorem dL_law_132 : decode cL_law 132 = .ok (.if_icmp .eq 5, 3) := by decide +kernel
theorem dL_law_135 : decode cL_law 135 = .ok (.iconst 0, 1) := by decide +kernel
theorem dL_law_136 : decode cL_law 136 = .ok (.ireturn, 1) := by decide +kernel
theorem dL_law_137 : decode cL_law 137 = .ok (.goto 743, 3) := by decide +kernel
theorem dL_law_140 : decode cL_law 140 = .ok (.aload_n 1, 1) := by decide +kernel
theorem dL_law_141 : decode cL_law 141 = .ok (.aload_n 0, 1) := by decide +kernel
theorem dL_law_142 : decode cL_law 142 = .ok (.iload 4, 2) := by decide +kernel
theorem dL_law_144 : decode cL_law 144 = .ok (.iconst 1, 1) := by decide +kernel
theorem dL_law_145 : decode cL_law 145 = .ok (.iadd, 1) := by decide +kernel
theorem dL_law_146 : decode cL_law 146 = .ok (.iaload, 1) := by decide +kernel
theorem dL_law_147 : decode cL_law 147 = .ok (.aload_n 0, 1) := by decide +kernel
theorem dL_law_148 : decode cL_law 148 = .ok (.iload 4, 2) := by decide +kernel
theorem dL_law_150 : decode cL_law 150 = .ok (.iconst 2, 1) := by decide +kernel
theorem dL_law_151 : decode cL_law 151 = .ok (.iadd, 1) := by decide +kernel
theorem dL_law_152 : decode cL_law 152 = .ok (.iaload, 1) := by decide +kernel
theorem dL_law_153 : decode cL_law 153 = .ok (.aload_n 3, 1) := by decide +kernel
theorem dL_law_154 : decode cL_law 154 = .ok (.invokestatic 74, 3) := by decide +kernel
theorem dL_law_157 : decode cL_law 157 = .ok (.istore 5, 2) := by decide +kernel
theorem dL_law_159 : decode cL_law 159 = .ok (.aload_n 2, 1) := by decide +kernel
theorem dL_law_160 : decode cL_law 160 = .ok (.aload_n 0, 1) := by decide +kernel
theorem dL_law_161 : decode cL_law 161 = .ok (.iload 4, 2) := by decide +kernel
theorem dL_law_163 : decode cL_law 163 = .ok (.iconst 1, 1) := by decide +kernel
theorem dL_law_164 : decode cL_law 164 = .ok (.iadd, 1) := by decide +kernel
theorem dL_law_165 : decode cL_law 165 = .ok (.iaload, 1) := by decide +kernel
theorem dL_law_166 : decode cL_law 166 = .ok (.aload_n 0, 1) := by decide +kernel
theorem dL_law_167 : decode cL_law 167 = .ok (.iload 4, 2) := by decide +kernel
theorem dL_law_169 : decode cL_law 169 = .ok (.iconst 2, 1) := by decide +kernel
theorem dL_law_170 : decode cL_law 170 = .ok (.iadd, 1) := by decide +kernel
theorem dL_law_171 : decode cL_law 171 = .ok (.iaload, 1) := by decide +kernel
theorem dL_law_172 : decode cL_law 172 = .ok (.invokevirtual 77, 3) := by decide +kernel
theorem dL_law_175 : decode cL_law 175 = .ok (.istore 6, 2) := by decide +kernel
theorem dL_law_177 : decode cL_law 177 = .ok (.aload_n 2, 1) := by decide +kernel
theorem dL_law_178 : decode cL_law 178 = .ok (.invokevirtual 70, 3) := by decide +kernel
theorem dL_law_181 : decode cL_law 181 = .ok (.iload 5, 2) := by decide +kernel
theorem dL_law_183 : decode cL_law 183 = .ok (.if_icmp .eq 5, 3) := by decide +kernel
theorem dL_law_186 : decode cL_law 186 = .ok (.iconst 0, 1) := by decide +kernel
theorem dL_law_187 : decode cL_law 187 = .ok (.ireturn, 1) := by decide +kernel
theorem dL_law_188 : decode cL_law 188 = .ok (.iload 5, 2) := by decide +kernel
theorem dL_law_190 : decode cL_law 190 = .ok (.ifCond .ne 15, 3) := by decide +kernel
theorem dL_law_193 : decode cL_law 193 = .ok (.aload_n 3, 1) := by decide +kernel
theorem dL_law_194 : decode cL_law 194 = .ok (.iconst 0, 1) := by decide +kernel
theorem dL_law_195 : decode cL_law 195 = .ok (.laload, 1) := by decide +kernel
theorem dL_law_196 : decode cL_law 196 = .ok (.iload 6, 2) := by decide +kernel
theorem dL_law_198 : decode cL_law 198 = .ok (.i2l, 1) := by decide +kernel
theorem dL_law_199 : decode cL_law 199 = .ok (.lcmp, 1) := by decide +kernel
theorem dL_law_200 : decode cL_law 200 = .ok (.ifCond .eq 5, 3) := by decide +kernel
theorem dL_law_203 : decode cL_law 203 = .ok (.iconst 0, 1) := by decide +kernel
theorem dL_law_204 : decode cL_law 204 = .ok (.ireturn, 1) := by decide +kernel
theorem dL_law_205 : decode cL_law 205 = .ok (.goto 675, 3) := by decide +kernel
theorem dL_law_208 : decode cL_law 208 = .ok (.aload_n 1, 1) := by decide +kernel
theorem dL_law_209 : decode cL_law 209 = .ok (.aload_n 0, 1) := by decide +kernel
theorem dL_law_210 : decode cL_law 210 = .ok (.iload 4, 2) := by decide +kernel
theorem dL_law_212 : decode cL_law 212 = .ok (.iconst 1, 1) := by decide +kernel
theorem dL_law_213 : decode cL_law 213 = .ok (.iadd, 1) := by decide +kernel
theorem dL_law_214 : decode cL_law 214 = .ok (.iaload, 1) := by decide +kernel
theorem dL_law_215 : decode cL_law 215 = .ok (.invokestatic 78, 3) := by decide +kernel
theorem dL_law_218 : decode cL_law 218 = .ok (.istore 5, 2) := by decide +kernel
theorem dL_law_220 : decode cL_law 220 = .ok (.aload_n 2, 1) := by decide +kernel
theorem dL_law_221 : decode cL_law 221 = .ok (.aload_n 0, 1) := by decide +kernel
theorem dL_law_222 : decode cL_law 222 = .ok (.iload 4, 2) := by decide +kernel
theorem dL_law_224 : decode cL_law 224 = .ok (.iconst 1, 1) := by decide +kernel
theorem dL_law_225 : decode cL_law 225 = .ok (.iadd, 1) := by decide +kernel
theorem dL_law_226 : decode cL_law 226 = .ok (.iaload, 1) := by decide +kernel
theorem dL_law_227 : decode cL_law 227 = .ok (.invokevirtual 80, 3) := by decide +kernel
theorem dL_law_230 : decode cL_law 230 = .ok (.aload_n 2, 1) := by decide +kernel
theorem dL_law_231 : decode cL_law 231 = .ok (.invokevirtual 70, 3) := by decide +kernel
theorem dL_law_234 : decode cL_law 234 = .ok (.iload 5, 2) := by decide +kernel
theorem dL_law_236 : decode cL_law 236 = .ok (.if_icmp .eq 5, 3) := by decide +kernel
theorem dL_law_239 : decode cL_law 239 = .ok (.iconst 0, 1) := by decide +kernel
theorem dL_law_240 : decode cL_law 240 = .ok (.ireturn, 1) := by decide +kernel
theorem dL_law_241 : decode cL_law 241 = .ok (.goto 639, 3) := by decide +kernel
theorem dL_law_244 : decode cL_law 244 = .ok (.aload_n 1, 1) := by decide +kernel
theorem dL_law_245 : decode cL_law 245 = .ok (.aload_n 0, 1) := by decide +kernel
theorem dL_law_246 : decode cL_law 246 = .ok (.iload 4, 2) := by decide +kernel
theorem dL_law_248 : decode cL_law 248 = .ok (.iconst 1, 1) := by decide +kernel
theorem dL_law_249 : decode cL_law 249 = .ok (.iadd, 1) := by decide +kernel
theorem dL_law_250 : decode cL_law 250 = .ok (.iaload, 1) := by decide +kernel
theorem dL_law_251 : decode cL_law 251 = .ok (.aload_n 0, 1) := by decide +kernel
theorem dL_law_252 : decode cL_law 252 = .ok (.iload 4, 2) := by decide +kernel
theorem dL_law_254 : decode cL_law 254 = .ok (.iconst 2, 1) := by decide +kernel
theorem dL_law_255 : decode cL_law 255 = .ok (.iadd, 1) := by decide +kernel
theorem dL_law_256 : decode cL_law 256 = .ok (.iaload, 1) := by decide +kernel
theorem dL_law_257 : decode cL_law 257 = .ok (.aload_n 3, 1) := by decide +kernel
theorem dL_law_258 : decode cL_law 258 = .ok (.invokestatic 81, 3) := by decide +kernel
theorem dL_law_261 : decode cL_law 261 = .ok (.istore 5, 2) := by decide +kernel
theorem dL_law_263 : decode cL_law 263 = .ok (.aload_n 2, 1) := by decide +kernel
theorem dL_law_264 : decode cL_law 264 = .ok (.aload_n 0, 1) := by decide +kernel
theorem dL_law_265 : decode cL_law 265 = .ok (.iload 4, 2) := by decide +kernel
theorem dL_law_267 : decode cL_law 267 = .ok (.iconst 1, 1) := by decide +kernel
theorem dL_law_268 : decode cL_law 268 = .ok (.iadd, 1) := by decide +kernel
theorem dL_law_269 : decode cL_law 269 = .ok (.iaload, 1) := by decide +kernel
theorem dL_law_270 : decode cL_law 270 = .ok (.aload_n 0, 1) := by decide +kernel
theorem dL_law_271 : decode cL_law 271 = .ok (.iload 4, 2) := by decide +kernel
theorem dL_law_273 : decode cL_law 273 = .ok (.iconst 2, 1) := by decide +kernel
theorem dL_law_274 : decode cL_law 274 = .ok (.iadd, 1) := by decide +kernel
theorem dL_law_275 : decode cL_law 275 = .ok (.iaload, 1) := by decide +kernel
theorem dL_law_276 : decode cL_law 276 = .ok (.invokevirtual 83, 3) := by decide +kernel
theorem dL_law_279 : decode cL_law 279 = .ok (.istore 6, 2) := by decide +kernel
theorem dL_law_281 : decode cL_law 281 = .ok (.aload_n 2, 1) := by decide +kernel
theorem dL_law_282 : decode cL_law 282 = .ok (.invokevirtual 70, 3) := by decide +kernel
theorem dL_law_285 : decode cL_law 285 = .ok (.iload 5, 2) := by decide +kernel
theorem dL_law_287 : decode cL_law 287 = .ok (.if_icmp .eq 5, 3) := by decide +kernel
theorem dL_law_290 : decode cL_law 290 = .ok (.iconst 0, 1) := by decide +kernel
theorem dL_law_291 : decode cL_law 291 = .ok (.ireturn, 1) := by decide +kernel
theorem dL_law_292 : decode cL_law 292 = .ok (.iload 5, 2) := by decide +kernel
theorem dL_law_294 : decode cL_law 294 = .ok (.ifCond .ne 15, 3) := by decide +kernel
theorem dL_law_297 : decode cL_law 297 = .ok (.aload_n 3, 1) := by decide +kernel
theorem dL_law_298 : decode cL_law 298 = .ok (.iconst 0, 1) := by decide +kernel
theorem dL_law_299 : decode cL_law 299 = .ok (.laload, 1) := by decide +kernel
theorem dL_law_300 : decode cL_law 300 = .ok (.iload 6, 2) := by decide +kernel
theorem dL_law_302 : decode cL_law 302 = .ok (.i2l, 1) := by decide +kernel
theorem dL_law_303 : decode cL_law 303 = .ok (.lcmp, 1) := by decide +kernel
theorem dL_law_304 : decode cL_law 304 = .ok (.ifCond .eq 5, 3) := by decide +kernel
theorem dL_law_307 : decode cL_law 307 = .ok (.iconst 0, 1) := by decide +kernel
theorem dL_law_308 : decode cL_law 308 = .ok (.ireturn, 1) := by decide +kernel
theorem dL_law_309 : decode cL_law 309 = .ok (.goto 571, 3) := by decide +kernel
theorem dL_law_312 : decode cL_law 312 = .ok (.aload_n 1, 1) := by decide +kernel
theorem dL_law_313 : decode cL_law 313 = .ok (.aload_n 0, 1) := by decide +kernel
theorem dL_law_314 : decode cL_law 314 = .ok (.iload 4, 2) := by decide +kernel
theorem dL_law_316 : decode cL_law 316 = .ok (.iconst 1, 1) := by decide +kernel
theorem dL_law_317 : decode cL_law 317 = .ok (.iadd, 1) := by decide +kernel
theorem dL_law_318 : decode cL_law 318 = .ok (.iaload, 1) := by decide +kernel
theorem dL_law_319 : decode cL_law 319 = .ok (.aload_n 3, 1) := by decide +kernel
theorem dL_law_320 : decode cL_law 320 = .ok (.invokestatic 84, 3) := by decide +kernel
theorem dL_law_323 : decode cL_law 323 = .ok (.istore 5, 2) := by decide +kernel
theorem dL_law_325 : decode cL_law 325 = .ok (.aload_n 2, 1) := by decide +kernel
theorem dL_law_326 : decode cL_law 326 = .ok (.aload_n 0, 1) := by decide +kernel
theorem dL_law_327 : decode cL_law 327 = .ok (.iload 4, 2) := by decide +kernel
theorem dL_law_329 : decode cL_law 329 = .ok (.iconst 1, 1) := by decide +kernel
theorem dL_law_330 : decode cL_law 330 = .ok (.iadd, 1) := by decide +kernel
theorem dL_law_331 : decode cL_law 331 = .ok (.iaload, 1) := by decide +kernel
theorem dL_law_332 : decode cL_law 332 = .ok (.invokevirtual 87, 3) := by decide +kernel
theorem dL_law_335 : decode cL_law 335 = .ok (.istore 6, 2) := by decide +kernel
theorem dL_law_337 : decode cL_law 337 = .ok (.aload_n 2, 1) := by decide +kernel
theorem dL_law_338 : decode cL_law 338 = .ok (.invokevirtual 70, 3) := by decide +kernel
theorem dL_law_341 : decode cL_law 341 = .ok (.iload 5, 2) := by decide +kernel
theorem dL_law_343 : decode cL_law 343 = .ok (.if_icmp .eq 5, 3) := by decide +kernel
theorem dL_law_346 : decode cL_law 346 = .ok (.iconst 0, 1) := by decide +kernel
theorem dL_law_347 : decode cL_law 347 = .ok (.ireturn, 1) := by decide +kernel
theorem dL_law_348 : decode cL_law 348 = .ok (.iload 5, 2) := by decide +kernel
theorem dL_law_350 : decode cL_law 350 = .ok (.ifCond .ne 15, 3) := by decide +kernel
theorem dL_law_353 : decode cL_law 353 = .ok (.aload_n 3, 1) := by decide +kernel
theorem dL_law_354 : decode cL_law 354 = .ok (.iconst 0, 1) := by decide +kernel
theorem dL_law_355 : decode cL_law 355 = .ok (.laload, 1) := by decide +kernel
theorem dL_law_356 : decode cL_law 356 = .ok (.iload 6, 2) := by decide +kernel
theorem dL_law_358 : decode cL_law 358 = .ok (.i2l, 1) := by decide +kernel
theorem dL_law_359 : decode cL_law 359 = .ok (.lcmp, 1) := by decide +kernel
theorem dL_law_360 : decode cL_law 360 = .ok (.ifCond .eq 5, 3) := by decide +kernel
theorem dL_law_363 : decode cL_law 363 = .ok (.iconst 0, 1) := by decide +kernel
theorem dL_law_364 : decode cL_law 364 = .ok (.ireturn, 1) := by decide +kernel
theorem dL_law_365 : decode cL_law 365 = .ok (.goto 515, 3) := by decide +kernel
theorem dL_law_368 : decode cL_law 368 = .ok (.aload_n 1, 1) := by decide +kernel
theorem dL_law_369 : decode cL_law 369 = .ok (.aload_n 0, 1) := by decide +kernel
theorem dL_law_370 : decode cL_law 370 = .ok (.iload 4, 2) := by decide +kernel
theorem dL_law_372 : decode cL_law 372 = .ok (.iconst 1, 1) := by decide +kernel
theorem dL_law_373 : decode cL_law 373 = .ok (.iadd, 1) := by decide +kernel
theorem dL_law_374 : decode cL_law 374 = .ok (.iaload, 1) := by decide +kernel
theorem dL_law_375 : decode cL_law 375 = .ok (.aload_n 0, 1) := by decide +kernel
theorem dL_law_376 : decode cL_law 376 = .ok (.iload 4, 2) := by decide +kernel
theorem dL_law_378 : decode cL_law 378 = .ok (.iconst 2, 1) := by decide +kernel
theorem dL_law_379 : decode cL_law 379 = .ok (.iadd, 1) := by decide +kernel
theorem dL_law_380 : decode cL_law 380 = .ok (.iaload, 1) := by decide +kernel
theorem dL_law_381 : decode cL_law 381 = .ok (.aload_n 3, 1) := by decide +kernel
theorem dL_law_382 : decode cL_law 382 = .ok (.invokestatic 88, 3) := by decide +kernel
theorem dL_law_385 : decode cL_law 385 = .ok (.istore 5, 2) := by decide +kernel
theorem dL_law_387 : decode cL_law 387 = .ok (.aload_n 2, 1) := by decide +kernel
theorem dL_law_388 : decode cL_law 388 = .ok (.aload_n 0, 1) := by decide +kernel
theorem dL_law_389 : decode cL_law 389 = .ok (.iload 4, 2) := by decide +kernel
theorem dL_law_391 : decode cL_law 391 = .ok (.iconst 1, 1) := by decide +kernel
theorem dL_law_392 : decode cL_law 392 = .ok (.iadd, 1) := by decide +kernel
theorem dL_law_393 : decode cL_law 393 = .ok (.iaload, 1) := by decide +kernel
theorem dL_law_394 : decode cL_law 394 = .ok (.aload_n 0, 1) := by decide +kernel
theorem dL_law_395 : decode cL_law 395 = .ok (.iload 4, 2) := by decide +kernel
theorem dL_law_397 : decode cL_law 397 = .ok (.iconst 2, 1) := by decide +kernel
theorem dL_law_398 : decode cL_law 398 = .ok (.iadd, 1) := by decide +kernel
theorem dL_law_399 : decode cL_law 399 = .ok (.iaload, 1) := by decide +kernel
theorem dL_law_400 : decode cL_law 400 = .ok (.invokevirtual 90, 3) := by decide +kernel
theorem dL_law_403 : decode cL_law 403 = .ok (.istore 6, 2) := by decide +kernel
theorem dL_law_405 : decode cL_law 405 = .ok (.aload_n 2, 1) := by decide +kernel
theorem dL_law_406 : decode cL_law 406 = .ok (.invokevirtual 70, 3) := by decide +kernel
theorem dL_law_409 : decode cL_law 409 = .ok (.iload 5, 2) := by decide +kernel
theorem dL_law_411 : decode cL_law 411 = .ok (.if_icmp .eq 5, 3) := by decide +kernel
theorem dL_law_414 : decode cL_law 414 = .ok (.iconst 0, 1) := by decide +kernel
theorem dL_law_415 : decode cL_law 415 = .ok (.ireturn, 1) := by decide +kernel
theorem dL_law_416 : decode cL_law 416 = .ok (.iload 5, 2) := by decide +kernel
theorem dL_law_418 : decode cL_law 418 = .ok (.ifCond .ne 15, 3) := by decide +kernel
theorem dL_law_421 : decode cL_law 421 = .ok (.aload_n 3, 1) := by decide +kernel
theorem dL_law_422 : decode cL_law 422 = .ok (.iconst 0, 1) := by decide +kernel
theorem dL_law_423 : decode cL_law 423 = .ok (.laload, 1) := by decide +kernel
theorem dL_law_424 : decode cL_law 424 = .ok (.iload 6, 2) := by decide +kernel
theorem dL_law_426 : decode cL_law 426 = .ok (.i2l, 1) := by decide +kernel
theorem dL_law_427 : decode cL_law 427 = .ok (.lcmp, 1) := by decide +kernel
theorem dL_law_428 : decode cL_law 428 = .ok (.ifCond .eq 5, 3) := by decide +kernel
theorem dL_law_431 : decode cL_law 431 = .ok (.iconst 0, 1) := by decide +kernel
theorem dL_law_432 : decode cL_law 432 = .ok (.ireturn, 1) := by decide +kernel
theorem dL_law_433 : decode cL_law 433 = .ok (.goto 447, 3) := by decide +kernel
theorem dL_law_436 : decode cL_law 436 = .ok (.aload_n 1, 1) := by decide +kernel
theorem dL_law_437 : decode cL_law 437 = .ok (.aload_n 0, 1) := by decide +kernel
theorem dL_law_438 : decode cL_law 438 = .ok (.iload 4, 2) := by decide +kernel
theorem dL_law_440 : decode cL_law 440 = .ok (.iconst 1, 1) := by decide +kernel
theorem dL_law_441 : decode cL_law 441 = .ok (.iadd, 1) := by decide +kernel
theorem dL_law_442 : decode cL_law 442 = .ok (.iaload, 1) := by decide +kernel
theorem dL_law_443 : decode cL_law 443 = .ok (.aload_n 0, 1) := by decide +kernel
theorem dL_law_444 : decode cL_law 444 = .ok (.iload 4, 2) := by decide +kernel
theorem dL_law_446 : decode cL_law 446 = .ok (.iconst 2, 1) := by decide +kernel
theorem dL_law_447 : decode cL_law 447 = .ok (.iadd, 1) := by decide +kernel
theorem dL_law_448 : decode cL_law 448 = .ok (.iaload, 1) := by decide +kernel
theorem dL_law_449 : decode cL_law 449 = .ok (.aload_n 3, 1) := by decide +kernel
theorem dL_law_450 : decode cL_law 450 = .ok (.invokestatic 91, 3) := by decide +kernel
theorem dL_law_453 : decode cL_law 453 = .ok (.istore 5, 2) := by decide +kernel
theorem dL_law_455 : decode cL_law 455 = .ok (.aload_n 2, 1) := by decide +kernel
theorem dL_law_456 : decode cL_law 456 = .ok (.aload_n 0, 1) := by decide +kernel
theorem dL_law_457 : decode cL_law 457 = .ok (.iload 4, 2) := by decide +kernel
theorem dL_law_459 : decode cL_law 459 = .ok (.iconst 1, 1) := by decide +kernel
theorem dL_law_460 : decode cL_law 460 = .ok (.iadd, 1) := by decide +kernel
theorem dL_law_461 : decode cL_law 461 = .ok (.iaload, 1) := by decide +kernel
theorem dL_law_462 : decode cL_law 462 = .ok (.aload_n 0, 1) := by decide +kernel
theorem dL_law_463 : decode cL_law 463 = .ok (.iload 4, 2) := by decide +kernel
theorem dL_law_465 : decode cL_law 465 = .ok (.iconst 2, 1) := by decide +kernel
theorem dL_law_466 : decode cL_law 466 = .ok (.iadd, 1) := by decide +kernel
theorem dL_law_467 : decode cL_law 467 = .ok (.iaload, 1) := by decide +kernel
theorem dL_law_468 : decode cL_law 468 = .ok (.invokevirtual 93, 3) := by decide +kernel
theorem dL_law_471 : decode cL_law 471 = .ok (.istore 6, 2) := by decide +kernel
theorem dL_law_473 : decode cL_law 473 = .ok (.aload_n 2, 1) := by decide +kernel
theorem dL_law_474 : decode cL_law 474 = .ok (.invokevirtual 70, 3) := by decide +kernel
theorem dL_law_477 : decode cL_law 477 = .ok (.iload 5, 2) := by decide +kernel
theorem dL_law_479 : decode cL_law 479 = .ok (.if_icmp .eq 5, 3) := by decide +kernel
theorem dL_law_482 : decode cL_law 482 = .ok (.iconst 0, 1) := by decide +kernel
theorem dL_law_483 : decode cL_law 483 = .ok (.ireturn, 1) := by decide +kernel
theorem dL_law_484 : decode cL_law 484 = .ok (.iload 5, 2) := by decide +kernel
theorem dL_law_486 : decode cL_law 486 = .ok (.ifCond .ne 15, 3) := by decide +kernel
theorem dL_law_489 : decode cL_law 489 = .ok (.aload_n 3, 1) := by decide +kernel
theorem dL_law_490 : decode cL_law 490 = .ok (.iconst 0, 1) := by decide +kernel
theorem dL_law_491 : decode cL_law 491 = .ok (.laload, 1) := by decide +kernel
theorem dL_law_492 : decode cL_law 492 = .ok (.iload 6, 2) := by decide +kernel
theorem dL_law_494 : decode cL_law 494 = .ok (.i2l, 1) := by decide +kernel
theorem dL_law_495 : decode cL_law 495 = .ok (.lcmp, 1) := by decide +kernel
theorem dL_law_496 : decode cL_law 496 = .ok (.ifCond .eq 5, 3) := by decide +kernel
theorem dL_law_499 : decode cL_law 499 = .ok (.iconst 0, 1) := by decide +kernel
theorem dL_law_500 : decode cL_law 500 = .ok (.ireturn, 1) := by decide +kernel
theorem dL_law_501 : decode cL_law 501 = .ok (.goto 379, 3) := by decide +kernel
theorem dL_law_504 : decode cL_law 504 = .ok (.aload_n 1, 1) := by decide +kernel
theorem dL_law_505 : decode cL_law 505 = .ok (.aload_n 0, 1) := by decide +kernel
theorem dL_law_506 : decode cL_law 506 = .ok (.iload 4, 2) := by decide +kernel
theorem dL_law_508 : decode cL_law 508 = .ok (.iconst 1, 1) := by decide +kernel
theorem dL_law_509 : decode cL_law 509 = .ok (.iadd, 1) := by decide +kernel
theorem dL_law_510 : decode cL_law 510 = .ok (.iaload, 1) := by decide +kernel
theorem dL_law_511 : decode cL_law 511 = .ok (.aload_n 3, 1) := by decide +kernel
theorem dL_law_512 : decode cL_law 512 = .ok (.invokestatic 94, 3) := by decide +kernel
theorem dL_law_515 : decode cL_law 515 = .ok (.istore 5, 2) := by decide +kernel
theorem dL_law_517 : decode cL_law 517 = .ok (.aload_n 2, 1) := by decide +kernel
theorem dL_law_518 : decode cL_law 518 = .ok (.aload_n 0, 1) := by decide +kernel
theorem dL_law_519 : decode cL_law 519 = .ok (.iload 4, 2) := by decide +kernel
theorem dL_law_521 : decode cL_law 521 = .ok (.iconst 1, 1) := by decide +kernel
theorem dL_law_522 : decode cL_law 522 = .ok (.iadd, 1) := by decide +kernel
theorem dL_law_523 : decode cL_law 523 = .ok (.iaload, 1) := by decide +kernel
theorem dL_law_524 : decode cL_law 524 = .ok (.invokevirtual 96, 3) := by decide +kernel
theorem dL_law_527 : decode cL_law 527 = .ok (.lstore 6, 2) := by decide +kernel
theorem dL_law_529 : decode cL_law 529 = .ok (.aload_n 2, 1) := by decide +kernel
theorem dL_law_530 : decode cL_law 530 = .ok (.invokevirtual 70, 3) := by decide +kernel
theorem dL_law_533 : decode cL_law 533 = .ok (.iload 5, 2) := by decide +kernel
theorem dL_law_535 : decode cL_law 535 = .ok (.if_icmp .eq 5, 3) := by decide +kernel
theorem dL_law_538 : decode cL_law 538 = .ok (.iconst 0, 1) := by decide +kernel
theorem dL_law_539 : decode cL_law 539 = .ok (.ireturn, 1) := by decide +kernel
theorem dL_law_540 : decode cL_law 540 = .ok (.iload 5, 2) := by decide +kernel
theorem dL_law_542 : decode cL_law 542 = .ok (.ifCond .ne 14, 3) := by decide +kernel
theorem dL_law_545 : decode cL_law 545 = .ok (.aload_n 3, 1) := by decide +kernel
theorem dL_law_546 : decode cL_law 546 = .ok (.iconst 0, 1) := by decide +kernel
theorem dL_law_547 : decode cL_law 547 = .ok (.laload, 1) := by decide +kernel
theorem dL_law_548 : decode cL_law 548 = .ok (.lload 6, 2) := by decide +kernel
theorem dL_law_550 : decode cL_law 550 = .ok (.lcmp, 1) := by decide +kernel
theorem dL_law_551 : decode cL_law 551 = .ok (.ifCond .eq 5, 3) := by decide +kernel
theorem dL_law_554 : decode cL_law 554 = .ok (.iconst 0, 1) := by decide +kernel
theorem dL_law_555 : decode cL_law 555 = .ok (.ireturn, 1) := by decide +kernel
theorem dL_law_556 : decode cL_law 556 = .ok (.goto 324, 3) := by decide +kernel
theorem dL_law_559 : decode cL_law 559 = .ok (.aload_n 1, 1) := by decide +kernel
theorem dL_law_560 : decode cL_law 560 = .ok (.aload_n 0, 1) := by decide +kernel
theorem dL_law_561 : decode cL_law 561 = .ok (.iload 4, 2) := by decide +kernel
theorem dL_law_563 : decode cL_law 563 = .ok (.iconst 1, 1) := by decide +kernel
theorem dL_law_564 : decode cL_law 564 = .ok (.iadd, 1) := by decide +kernel
theorem dL_law_565 : decode cL_law 565 = .ok (.iaload, 1) := by decide +kernel
theorem dL_law_566 : decode cL_law 566 = .ok (.aload_n 0, 1) := by decide +kernel
theorem dL_law_567 : decode cL_law 567 = .ok (.iload 4, 2) := by decide +kernel
theorem dL_law_569 : decode cL_law 569 = .ok (.iconst 2, 1) := by decide +kernel
theorem dL_law_570 : decode cL_law 570 = .ok (.iadd, 1) := by decide +kernel
theorem dL_law_571 : decode cL_law 571 = .ok (.iaload, 1) := by decide +kernel
theorem dL_law_572 : decode cL_law 572 = .ok (.ifCond .eq 7, 3) := by decide +kernel
theorem dL_law_575 : decode cL_law 575 = .ok (.iconst 1, 1) := by decide +kernel
theorem dL_law_576 : decode cL_law 576 = .ok (.goto 4, 3) := by decide +kernel
theorem dL_law_579 : decode cL_law 579 = .ok (.iconst 0, 1) := by decide +kernel
theorem dL_law_580 : decode cL_law 580 = .ok (.aload_n 3, 1) := by decide +kernel
theorem dL_law_581 : decode cL_law 581 = .ok (.invokestatic 97, 3) := by decide +kernel
theorem dL_law_584 : decode cL_law 584 = .ok (.istore 5, 2) := by decide +kernel
theorem dL_law_586 : decode cL_law 586 = .ok (.aload_n 2, 1) := by decide +kernel
theorem dL_law_587 : decode cL_law 587 = .ok (.aload_n 0, 1) := by decide +kernel
theorem dL_law_588 : decode cL_law 588 = .ok (.iload 4, 2) := by decide +kernel
theorem dL_law_590 : decode cL_law 590 = .ok (.iconst 1, 1) := by decide +kernel
theorem dL_law_591 : decode cL_law 591 = .ok (.iadd, 1) := by decide +kernel
theorem dL_law_592 : decode cL_law 592 = .ok (.iaload, 1) := by decide +kernel
theorem dL_law_593 : decode cL_law 593 = .ok (.aload_n 0, 1) := by decide +kernel
theorem dL_law_594 : decode cL_law 594 = .ok (.iload 4, 2) := by decide +kernel
theorem dL_law_596 : decode cL_law 596 = .ok (.iconst 2, 1) := by decide +kernel
theorem dL_law_597 : decode cL_law 597 = .ok (.iadd, 1) := by decide +kernel
theorem dL_law_598 : decode cL_law 598 = .ok (.iaload, 1) := by decide +kernel
theorem dL_law_599 : decode cL_law 599 = .ok (.ifCond .eq 7, 3) := by decide +kernel
theorem dL_law_602 : decode cL_law 602 = .ok (.iconst 1, 1) := by decide +kernel
theorem dL_law_603 : decode cL_law 603 = .ok (.goto 4, 3) := by decide +kernel
theorem dL_law_606 : decode cL_law 606 = .ok (.iconst 0, 1) := by decide +kernel
theorem dL_law_607 : decode cL_law 607 = .ok (.invokevirtual 100, 3) := by decide +kernel
theorem dL_law_610 : decode cL_law 610 = .ok (.istore 6, 2) := by decide +kernel
theorem dL_law_612 : decode cL_law 612 = .ok (.aload_n 2, 1) := by decide +kernel
theorem dL_law_613 : decode cL_law 613 = .ok (.invokevirtual 70, 3) := by decide +kernel
theorem dL_law_616 : decode cL_law 616 = .ok (.iload 5, 2) := by decide +kernel
theorem dL_law_618 : decode cL_law 618 = .ok (.if_icmp .eq 5, 3) := by decide +kernel
theorem dL_law_621 : decode cL_law 621 = .ok (.iconst 0, 1) := by decide +kernel
theorem dL_law_622 : decode cL_law 622 = .ok (.ireturn, 1) := by decide +kernel
theorem dL_law_623 : decode cL_law 623 = .ok (.iload 5, 2) := by decide +kernel
theorem dL_law_625 : decode cL_law 625 = .ok (.ifCond .ne 22, 3) := by decide +kernel
theorem dL_law_628 : decode cL_law 628 = .ok (.aload_n 3, 1) := by decide +kernel
theorem dL_law_629 : decode cL_law 629 = .ok (.iconst 0, 1) := by decide +kernel
theorem dL_law_630 : decode cL_law 630 = .ok (.laload, 1) := by decide +kernel
theorem dL_law_631 : decode cL_law 631 = .ok (.iload 6, 2) := by decide +kernel
theorem dL_law_633 : decode cL_law 633 = .ok (.ifCond .eq 7, 3) := by decide +kernel
theorem dL_law_636 : decode cL_law 636 = .ok (.lconst 1, 1) := by decide +kernel
theorem dL_law_637 : decode cL_law 637 = .ok (.goto 4, 3) := by decide +kernel
theorem dL_law_640 : decode cL_law 640 = .ok (.lconst 0, 1) := by decide +kernel
theorem dL_law_641 : decode cL_law 641 = .ok (.lcmp, 1) := by decide +kernel
theorem dL_law_642 : decode cL_law 642 = .ok (.ifCond .eq 5, 3) := by decide +kernel
theorem dL_law_645 : decode cL_law 645 = .ok (.iconst 0, 1) := by decide +kernel
theorem dL_law_646 : decode cL_law 646 = .ok (.ireturn, 1) := by decide +kernel
theorem dL_law_647 : decode cL_law 647 = .ok (.goto 233, 3) := by decide +kernel
theorem dL_law_650 : decode cL_law 650 = .ok (.aload_n 1, 1) := by decide +kernel
theorem dL_law_651 : decode cL_law 651 = .ok (.aload_n 0, 1) := by decide +kernel
theorem dL_law_652 : decode cL_law 652 = .ok (.iload 4, 2) := by decide +kernel
theorem dL_law_654 : decode cL_law 654 = .ok (.iconst 1, 1) := by decide +kernel
theorem dL_law_655 : decode cL_law 655 = .ok (.iadd, 1) := by decide +kernel
theorem dL_law_656 : decode cL_law 656 = .ok (.iaload, 1) := by decide +kernel
theorem dL_law_657 : decode cL_law 657 = .ok (.aload_n 3, 1) := by decide +kernel
theorem dL_law_658 : decode cL_law 658 = .ok (.invokestatic 101, 3) := by decide +kernel
theorem dL_law_661 : decode cL_law 661 = .ok (.istore 5, 2) := by decide +kernel
theorem dL_law_663 : decode cL_law 663 = .ok (.aload_n 2, 1) := by decide +kernel
theorem dL_law_664 : decode cL_law 664 = .ok (.aload_n 0, 1) := by decide +kernel
theorem dL_law_665 : decode cL_law 665 = .ok (.iload 4, 2) := by decide +kernel
theorem dL_law_667 : decode cL_law 667 = .ok (.iconst 1, 1) := by decide +kernel
theorem dL_law_668 : decode cL_law 668 = .ok (.iadd, 1) := by decide +kernel
theorem dL_law_669 : decode cL_law 669 = .ok (.iaload, 1) := by decide +kernel
theorem dL_law_670 : decode cL_law 670 = .ok (.invokevirtual 103, 3) := by decide +kernel
theorem dL_law_673 : decode cL_law 673 = .ok (.istore 6, 2) := by decide +kernel
theorem dL_law_675 : decode cL_law 675 = .ok (.aload_n 2, 1) := by decide +kernel
theorem dL_law_676 : decode cL_law 676 = .ok (.invokevirtual 70, 3) := by decide +kernel
theorem dL_law_679 : decode cL_law 679 = .ok (.iload 5, 2) := by decide +kernel
theorem dL_law_681 : decode cL_law 681 = .ok (.if_icmp .eq 5, 3) := by decide +kernel
theorem dL_law_684 : decode cL_law 684 = .ok (.iconst 0, 1) := by decide +kernel
theorem dL_law_685 : decode cL_law 685 = .ok (.ireturn, 1) := by decide +kernel
theorem dL_law_686 : decode cL_law 686 = .ok (.iload 5, 2) := by decide +kernel
theorem dL_law_688 : decode cL_law 688 = .ok (.ifCond .ne 22, 3) := by decide +kernel
theorem dL_law_691 : decode cL_law 691 = .ok (.aload_n 3, 1) := by decide +kernel
theorem dL_law_692 : decode cL_law 692 = .ok (.iconst 0, 1) := by decide +kernel
theorem dL_law_693 : decode cL_law 693 = .ok (.laload, 1) := by decide +kernel
theorem dL_law_694 : decode cL_law 694 = .ok (.iload 6, 2) := by decide +kernel
theorem dL_law_696 : decode cL_law 696 = .ok (.ifCond .eq 7, 3) := by decide +kernel
theorem dL_law_699 : decode cL_law 699 = .ok (.lconst 1, 1) := by decide +kernel
theorem dL_law_700 : decode cL_law 700 = .ok (.goto 4, 3) := by decide +kernel
theorem dL_law_703 : decode cL_law 703 = .ok (.lconst 0, 1) := by decide +kernel
theorem dL_law_704 : decode cL_law 704 = .ok (.lcmp, 1) := by decide +kernel
theorem dL_law_705 : decode cL_law 705 = .ok (.ifCond .eq 5, 3) := by decide +kernel
theorem dL_law_708 : decode cL_law 708 = .ok (.iconst 0, 1) := by decide +kernel
theorem dL_law_709 : decode cL_law 709 = .ok (.ireturn, 1) := by decide +kernel
theorem dL_law_710 : decode cL_law 710 = .ok (.goto 170, 3) := by decide +kernel
theorem dL_law_713 : decode cL_law 713 = .ok (.aload_n 1, 1) := by decide +kernel
theorem dL_law_714 : decode cL_law 714 = .ok (.aload_n 0, 1) := by decide +kernel
theorem dL_law_715 : decode cL_law 715 = .ok (.iload 4, 2) := by decide +kernel
theorem dL_law_717 : decode cL_law 717 = .ok (.iconst 1, 1) := by decide +kernel
theorem dL_law_718 : decode cL_law 718 = .ok (.iadd, 1) := by decide +kernel
theorem dL_law_719 : decode cL_law 719 = .ok (.iaload, 1) := by decide +kernel
theorem dL_law_720 : decode cL_law 720 = .ok (.aload_n 3, 1) := by decide +kernel
theorem dL_law_721 : decode cL_law 721 = .ok (.invokestatic 104, 3) := by decide +kernel
theorem dL_law_724 : decode cL_law 724 = .ok (.istore 5, 2) := by decide +kernel
theorem dL_law_726 : decode cL_law 726 = .ok (.aload_n 2, 1) := by decide +kernel
theorem dL_law_727 : decode cL_law 727 = .ok (.aload_n 0, 1) := by decide +kernel
theorem dL_law_728 : decode cL_law 728 = .ok (.iload 4, 2) := by decide +kernel
theorem dL_law_730 : decode cL_law 730 = .ok (.iconst 1, 1) := by decide +kernel
theorem dL_law_731 : decode cL_law 731 = .ok (.iadd, 1) := by decide +kernel
theorem dL_law_732 : decode cL_law 732 = .ok (.iaload, 1) := by decide +kernel
theorem dL_law_733 : decode cL_law 733 = .ok (.invokevirtual 106, 3) := by decide +kernel
theorem dL_law_736 : decode cL_law 736 = .ok (.istore 6, 2) := by decide +kernel
theorem dL_law_738 : decode cL_law 738 = .ok (.aload_n 2, 1) := by decide +kernel
theorem dL_law_739 : decode cL_law 739 = .ok (.invokevirtual 70, 3) := by decide +kernel
theorem dL_law_742 : decode cL_law 742 = .ok (.iload 5, 2) := by decide +kernel
theorem dL_law_744 : decode cL_law 744 = .ok (.if_icmp .eq 5, 3) := by decide +kernel
theorem dL_law_747 : decode cL_law 747 = .ok (.iconst 0, 1) := by decide +kernel
theorem dL_law_748 : decode cL_law 748 = .ok (.ireturn, 1) := by decide +kernel
theorem dL_law_749 : decode cL_law 749 = .ok (.iload 5, 2) := by decide +kernel
theorem dL_law_751 : decode cL_law 751 = .ok (.ifCond .ne 15, 3) := by decide +kernel
theorem dL_law_754 : decode cL_law 754 = .ok (.aload_n 3, 1) := by decide +kernel
theorem dL_law_755 : decode cL_law 755 = .ok (.iconst 0, 1) := by decide +kernel
theorem dL_law_756 : decode cL_law 756 = .ok (.laload, 1) := by decide +kernel
theorem dL_law_757 : decode cL_law 757 = .ok (.iload 6, 2) := by decide +kernel
theorem dL_law_759 : decode cL_law 759 = .ok (.i2l, 1) := by decide +kernel
theorem dL_law_760 : decode cL_law 760 = .ok (.lcmp, 1) := by decide +kernel
theorem dL_law_761 : decode cL_law 761 = .ok (.ifCond .eq 5, 3) := by decide +kernel
theorem dL_law_764 : decode cL_law 764 = .ok (.iconst 0, 1) := by decide +kernel
theorem dL_law_765 : decode cL_law 765 = .ok (.ireturn, 1) := by decide +kernel
theorem dL_law_766 : decode cL_law 766 = .ok (.goto 114, 3) := by decide +kernel
theorem dL_law_769 : decode cL_law 769 = .ok (.aload_n 1, 1) := by decide +kernel
theorem dL_law_770 : decode cL_law 770 = .ok (.aload_n 0, 1) := by decide +kernel
theorem dL_law_771 : decode cL_law 771 = .ok (.iload 4, 2) := by decide +kernel
theorem dL_law_773 : decode cL_law 773 = .ok (.iconst 1, 1) := by decide +kernel
theorem dL_law_774 : decode cL_law 774 = .ok (.iadd, 1) := by decide +kernel
theorem dL_law_775 : decode cL_law 775 = .ok (.iaload, 1) := by decide +kernel
theorem dL_law_776 : decode cL_law 776 = .ok (.aload_n 3, 1) := by decide +kernel
theorem dL_law_777 : decode cL_law 777 = .ok (.invokestatic 107, 3) := by decide +kernel
theorem dL_law_780 : decode cL_law 780 = .ok (.istore 5, 2) := by decide +kernel
theorem dL_law_782 : decode cL_law 782 = .ok (.aload_n 2, 1) := by decide +kernel
theorem dL_law_783 : decode cL_law 783 = .ok (.aload_n 0, 1) := by decide +kernel
theorem dL_law_784 : decode cL_law 784 = .ok (.iload 4, 2) := by decide +kernel
theorem dL_law_786 : decode cL_law 786 = .ok (.iconst 1, 1) := by decide +kernel
theorem dL_law_787 : decode cL_law 787 = .ok (.iadd, 1) := by decide +kernel
theorem dL_law_788 : decode cL_law 788 = .ok (.iaload, 1) := by decide +kernel
theorem dL_law_789 : decode cL_law 789 = .ok (.invokevirtual 109, 3) := by decide +kernel
theorem dL_law_792 : decode cL_law 792 = .ok (.lstore 6, 2) := by decide +kernel
theorem dL_law_794 : decode cL_law 794 = .ok (.aload_n 2, 1) := by decide +kernel
theorem dL_law_795 : decode cL_law 795 = .ok (.invokevirtual 70, 3) := by decide +kernel
theorem dL_law_798 : decode cL_law 798 = .ok (.iload 5, 2) := by decide +kernel
theorem dL_law_800 : decode cL_law 800 = .ok (.if_icmp .eq 5, 3) := by decide +kernel
theorem dL_law_803 : decode cL_law 803 = .ok (.iconst 0, 1) := by decide +kernel
theorem dL_law_804 : decode cL_law 804 = .ok (.ireturn, 1) := by decide +kernel
theorem dL_law_805 : decode cL_law 805 = .ok (.iload 5, 2) := by decide +kernel
theorem dL_law_807 : decode cL_law 807 = .ok (.ifCond .ne 14, 3) := by decide +kernel
theorem dL_law_810 : decode cL_law 810 = .ok (.aload_n 3, 1) := by decide +kernel
theorem dL_law_811 : decode cL_law 811 = .ok (.iconst 0, 1) := by decide +kernel
theorem dL_law_812 : decode cL_law 812 = .ok (.laload, 1) := by decide +kernel
theorem dL_law_813 : decode cL_law 813 = .ok (.lload 6, 2) := by decide +kernel
theorem dL_law_815 : decode cL_law 815 = .ok (.lcmp, 1) := by decide +kernel
theorem dL_law_816 : decode cL_law 816 = .ok (.ifCond .eq 5, 3) := by decide +kernel
theorem dL_law_819 : decode cL_law 819 = .ok (.iconst 0, 1) := by decide +kernel
theorem dL_law_820 : decode cL_law 820 = .ok (.ireturn, 1) := by decide +kernel
theorem dL_law_821 : decode cL_law 821 = .ok (.goto 59, 3) := by decide +kernel
theorem dL_law_824 : decode cL_law 824 = .ok (.aload_n 1, 1) := by decide +kernel
theorem dL_law_825 : decode cL_law 825 = .ok (.aload_n 0, 1) := by decide +kernel
theorem dL_law_826 : decode cL_law 826 = .ok (.iload 4, 2) := by decide +kernel
theorem dL_law_828 : decode cL_law 828 = .ok (.iconst 1, 1) := by decide +kernel
theorem dL_law_829 : decode cL_law 829 = .ok (.iadd, 1) := by decide +kernel
theorem dL_law_830 : decode cL_law 830 = .ok (.iaload, 1) := by decide +kernel
theorem dL_law_831 : decode cL_law 831 = .ok (.aload_n 3, 1) := by decide +kernel
theorem dL_law_832 : decode cL_law 832 = .ok (.invokestatic 110, 3) := by decide +kernel
theorem dL_law_835 : decode cL_law 835 = .ok (.istore 5, 2) := by decide +kernel
theorem dL_law_837 : decode cL_law 837 = .ok (.aload_n 2, 1) := by decide +kernel
theorem dL_law_838 : decode cL_law 838 = .ok (.aload_n 0, 1) := by decide +kernel
theorem dL_law_839 : decode cL_law 839 = .ok (.iload 4, 2) := by decide +kernel
theorem dL_law_841 : decode cL_law 841 = .ok (.iconst 1, 1) := by decide +kernel
theorem dL_law_842 : decode cL_law 842 = .ok (.iadd, 1) := by decide +kernel
theorem dL_law_843 : decode cL_law 843 = .ok (.iaload, 1) := by decide +kernel
theorem dL_law_844 : decode cL_law 844 = .ok (.invokevirtual 112, 3) := by decide +kernel
theorem dL_law_847 : decode cL_law 847 = .ok (.istore 6, 2) := by decide +kernel
theorem dL_law_849 : decode cL_law 849 = .ok (.aload_n 2, 1) := by decide +kernel
theorem dL_law_850 : decode cL_law 850 = .ok (.invokevirtual 70, 3) := by decide +kernel
theorem dL_law_853 : decode cL_law 853 = .ok (.iload 5, 2) := by decide +kernel
theorem dL_law_855 : decode cL_law 855 = .ok (.if_icmp .eq 5, 3) := by decide +kernel
theorem dL_law_858 : decode cL_law 858 = .ok (.iconst 0, 1) := by decide +kernel
theorem dL_law_859 : decode cL_law 859 = .ok (.ireturn, 1) := by decide +kernel
theorem dL_law_860 : decode cL_law 860 = .ok (.iload 5, 2) := by decide +kernel
theorem dL_law_862 : decode cL_law 862 = .ok (.ifCond .ne 15, 3) := by decide +kernel
theorem dL_law_865 : decode cL_law 865 = .ok (.aload_n 3, 1) := by decide +kernel
theorem dL_law_866 : decode cL_law 866 = .ok (.iconst 0, 1) := by decide +kernel
theorem dL_law_867 : decode cL_law 867 = .ok (.laload, 1) := by decide +kernel
theorem dL_law_868 : decode cL_law 868 = .ok (.iload 6, 2) := by decide +kernel
theorem dL_law_870 : decode cL_law 870 = .ok (.i2l, 1) := by decide +kernel
theorem dL_law_871 : decode cL_law 871 = .ok (.lcmp, 1) := by decide +kernel
theorem dL_law_872 : decode cL_law 872 = .ok (.ifCond .eq 5, 3) := by decide +kernel
theorem dL_law_875 : decode cL_law 875 = .ok (.iconst 0, 1) := by decide +kernel
theorem dL_law_876 : decode cL_law 876 = .ok (.ireturn, 1) := by decide +kernel
theorem dL_law_877 : decode cL_law 877 = .ok (.goto 3, 3) := by decide +kernel
theorem dL_law_880 : decode cL_law 880 = .ok (.iinc 4 3, 3) := by decide +kernel
theorem dL_law_883 : decode cL_law 883 = .ok (.goto (-860), 3) := by decide +kernel
theorem dL_law_886 : decode cL_law 886 = .ok (.iconst 1, 1) := by decide +kernel
theorem dL_law_887 : decode cL_law 887 = .ok (.ireturn, 1) := by decide +kernel
end
section
/-! the class's cells -/
abbrev wX (ad : Nat → Nat) (ca : Nat → ClassId) (gL gB gD : Nat → Int) (gN : Nat → Int64) (gS : Nat → Int) (n r : Int) (x : Int64) : va_W := [(ad 0, .inr (0, [.ref (ad 1), .ref (ad 2), .ref (ad 3), .ref (ad 4), .ref (ad 5), .int (iI n), .int (iI r), .long x])), (ad 1, .inl (ca 1, 300, .inl (fun j => iI (gL j)))), (ad 2, .inl (ca 2, 300, .inl (fun j => iI (gB j)))), (ad 3, .inl (ca 3, 300, .inl (fun j => iI (gD j)))), (ad 4, .inl (ca 4, 300, .inr (.inl gN))), (ad 5, .inl (ca 5, 301, .inl (fun j => iI (gS j))))]
abbrev yX (ca : Nat → ClassId) : List (ClassId × FieldType) := [(ca 1, .int), (ca 2, .int), (ca 3, .int), (ca 4, .long), (ca 5, .int)]
end
section
/-! Math.max; calls without a world; good dumps by their bits -/
theorem wl_max : (.methodLink RX0 100 Lib.Math.max.name : Cond) ∈ wAll := wA_of 282 (by decide +kernel) (by decide +kernel)
theorem wt_max : (.static Lib.Math.max.name : Cond) ∈ wAll := wA_of 283 (by decide +kernel) (by decide +kernel)
theorem wc_max : (.code Lib.Math.max.name Lib.Math.max.code 2 (some .int) : Cond) ∈ wAll := wA_of 284 (by decide +kernel) (by decide +kernel)
theorem iI_max {a b : Int} (ha : iR a) (hb : iR b) : (if iI a < iI b then iI b else iI a) = iI (if a < b then b else a) := by
  by_cases h : a < b
  · rw [if_pos ((iI_lt ha hb).mpr h), if_pos h]
  · rw [if_neg (fun q => h ((iI_lt ha hb).mp q)), if_neg h]
section S0
variable {D : va_G} {cl : List vw_C} {tys : List (ClassId × FieldType)} {As : List Value} {s : State} {H : Heap}
theorem PX_S0 (hK : va_K D cl tys s) : PreS s H (PX D cl [] [] As) As := ⟨PX_blind, PX_pre (A := fun _ => True) (fun k q h => by simp at h) ⟨hK.1, fun k q h => by simp at h⟩ ⟨fun i j p q h => by simp at h, fun k q h => by simp at h⟩⟩
end S0
theorem gd_iff {L S : Nat → Nat} {r d : Nat} {lo : Nat → Bool} {y x : Int64} (hN : ∀ v, v < 64 → bL y v = nd L S r v (d + 1)) (hx : ∀ v, v < 64 → bL x v = lo v) : y &&& x = 0 ↔ gd L S r lo d = true := by
  unfold gd
  rw [noH_t, bL_z]
  constructor
  · intro h v hv
    have h1 := h v hv
    rw [bL_and, hN v hv, hx v hv] at h1
    exact h1
  · intro h v hv
    rw [bL_and, hN v hv, hx v hv]
    exact h v hv
theorem gd_t {L S : Nat → Nat} {r d : Nat} {lo : Nat → Bool} (h : gd L S r lo d = true) : b2 (gd L S r lo d) = 1 := by rw [h]; rfl
theorem gd_f {L S : Nat → Nat} {r d : Nat} {lo : Nat → Bool} (h : ¬ gd L S r lo d = true) : b2 (gd L S r lo d) = 0 := by
  have h2 : gd L S r lo d = false := by cases q : gd L S r lo d with | true => exact absurd q h | false => rfl
  rw [h2]
  rfl
theorem b2_r (b : Bool) : b2 b = 0 ∨ b2 b = 1 := by cases b <;> simp [b2]
theorem b2_01 (b : Bool) : 0 ≤ b2 b ∧ b2 b ≤ 1 := by cases b <;> simp [b2]
theorem cn_s (P : Nat → Bool) (k : Nat) : (cn P (k + 1) : Int) = (cn P k : Int) + b2 (P k) := by
  show ((cn P k + (if P k then 1 else 0) : Nat) : Int) = _
  unfold b2
  split <;> simp
theorem mx_s (f : Nat → Nat) (k : Nat) : (mx f (k + 1) : Int) = if (mx f k : Int) < (f k : Int) then (f k : Int) else (mx f k : Int) := by
  show ((if mx f k < f k then f k else mx f k : Nat) : Int) = _
  by_cases h : mx f k < f k
  · rw [if_pos h, if_pos (by omega)]
  · rw [if_neg h, if_neg (by omega)]
theorem mx_le (f : Nat → Nat) (B : Nat) : ∀ k, (∀ j, j < k → f j ≤ B) → mx f k ≤ B
  | 0, _ => Nat.zero_le _
  | k + 1, h => by
    show (if mx f k < f k then f k else mx f k) ≤ B
    split
    · exact h k (Nat.lt_succ_self k)
    · exact mx_le f B k (fun j hj => h j (Nat.lt_succ_of_lt hj))
end
section
/-! the class: leaves that change nothing -/
set_option maxHeartbeats 4000000 in
set_option maxRecDepth 100000 in
theorem m_volumeAt (l : Launch) (dC : Nat → ClassId) (dI : Nat → Nat → Nat) (ad : Nat → Nat) (ca : Nat → ClassId) (gL gB gD : Nat → Int) (gN : Nat → Int64) (gS : Nat → Int) (n r : Nat) (x : Int64) (q : Int) (h0 : 0 ≤ q) (h1 : q < 2147483648) (h2 : 1 ≤ r) (h3 : r ≤ 999) : Met l yX0_volumeAt wsX0_volumeAt { frames := 0, cells := 0, slots := 0, locals := 0 } (PX (dC, dI) vwCl (yX ca) (wX ad ca gL gB gD gN gS ((n : Int)) ((r : Int)) x) [.ref (ad 0), .int (iI q)]) (RQi (fun y => y = iI (q / (r : Int)))) 0 0 nF := by
  refine Met.ofW (cc := cX0_volumeAt) (maxL := 2) (ret := (some .int)) (by decide) rfl ?_
  intro p e s m args below meth c s₁ B hml hv
  obtain ⟨rfl, hP, hK, hD0⟩ := hv
  have hx := B.exec
  have hb := B.bytes
  have hr := B.returns
  have hts := atoms_spec (ws := wsX0_volumeAt) B.pre
  have hown : s.vm.findClass RX0 = some m.cls := findClass_of_methodNamed B.named
  have hlocks := B.notSynchronized
  have hw := fun w h => hts w (List.mem_cons_of_mem _ h)
  have hinTX0 : ∀ w ∈ u_ws RX0 TX0 8, w ∈ wsX0_volumeAt := wA_u wuX0
  have fl50 := hw _ wfX0_50
  have hD := hD0
  obtain ⟨H, hH⟩ : ∃ H, H = s.heap := ⟨_, rfl⟩
  obtain ⟨locs, hlc⟩ : ∃ L : List Loc, L = [] := ⟨_, rfl⟩
  have hS : va_S nF s.heap H locs := by rw [hH, hlc]; exact va_S.rf
  rw [← hH] at hP ⊢
  rw [← hlc]
  have hl := lv_entry ([.ref (ad 0), .int (iI q)]) (n := 2) (Nat.le_of_ble_eq_true rfl)
  rw [lg_entry_eq]
  generalize (lg_sl ([.ref (ad 0), .int (iI q)]) ++ List.replicate (2 - (lg_sl ([.ref (ad 0), .int (iI q)])).length) Slot.unset).toArray = ls at hl ⊢
  have hl : lv_has ls 2 [(0, .ref (ad 0)), (1, .int (iI q))] := hl
  refine lv_iload_n hx hb dX0_volumeAt_0 rfl (lv_at hl 1 rfl) ?_
  refine lv_aload_n hx hb dX0_volumeAt_1 rfl (lv_at hl 0 rfl) ?_
  refine va_get (D := (dC, dI)) (ci := 0) (v := .int (iI ((r : Int)))) (C := RX0) (T := TX0) (N := 8) hx hb hts hinTX0 hown hK hP 0 rfl rfl 6 (by decide) fl50 (fun _ h9 => h9) rfl dX0_volumeAt_2 ?_
  refine r_idiv hx hb dX0_volumeAt_5 (by omega) (by omega) (by omega) (by omega) ?_
  exact W.iret (v := iI (q / ((r : Int)))) hx hb hr (fun t ht hW => ⟨⟨_, (), rfl, rfl, trivial⟩, hS.F ht⟩) hS.2.2 dX0_volumeAt_6
set_option maxHeartbeats 4000000 in
set_option maxRecDepth 100000 in
theorem m_latestBelow (l : Launch) (dC : Nat → ClassId) (dI : Nat → Nat → Nat) (ad : Nat → Nat) (ca : Nat → ClassId) (gL gB gD : Nat → Int) (gN : Nat → Int64) (gS : Nat → Int) (n r : Nat) (x : Int64) (L : Nat → Nat) (v : Nat) (hn : n ≤ 300) (hL : ∀ d, d < n → gL d = (L d : Int) ∧ L d ≤ 9) (hv : v ≤ 9) : Met l yX0_latestBelow wsX0_latestBelow { frames := 0, cells := 0, slots := 0, locals := 0 } (PX (dC, dI) vwCl (yX ca) (wX ad ca gL gB gD gN gS ((n : Int)) ((r : Int)) x) [.ref (ad 0), .int (iI ((v : Int)))]) (RQi (fun y => y = iI ((ba L v n : Int) - 1))) 0 0 nF := by
  refine Met.ofW (cc := cX0_latestBelow) (maxL := 3) (ret := (some .int)) (by decide) rfl ?_
  intro p e s m args below meth c s₁ B hml hv
  obtain ⟨rfl, hP, hK, hD0⟩ := hv
  have hx := B.exec
  have hb := B.bytes
  have hr := B.returns
  have hts := atoms_spec (ws := wsX0_latestBelow) B.pre
  have hown : s.vm.findClass RX0 = some m.cls := findClass_of_methodNamed B.named
  have hlocks := B.notSynchronized
  have hw := fun w h => hts w (List.mem_cons_of_mem _ h)
  have hinTX0 : ∀ w ∈ u_ws RX0 TX0 8, w ∈ wsX0_latestBelow := wA_u wuX0
  have fl41 := hw _ wfX0_41
  have fl9 := hw _ wfX0_9
  have hD := hD0
  obtain ⟨H, hH⟩ : ∃ H, H = s.heap := ⟨_, rfl⟩
  obtain ⟨locs, hlc⟩ : ∃ L : List Loc, L = [] := ⟨_, rfl⟩
  have hS : va_S nF s.heap H locs := by rw [hH, hlc]; exact va_S.rf
  rw [← hH] at hP ⊢
  rw [← hlc]
  have hl := lv_entry ([.ref (ad 0), .int (iI ((v : Int)))]) (n := 3) (Nat.le_of_ble_eq_true rfl)
  rw [lg_entry_eq]
  generalize (lg_sl ([.ref (ad 0), .int (iI ((v : Int)))]) ++ List.replicate (3 - (lg_sl ([.ref (ad 0), .int (iI ((v : Int)))])).length) Slot.unset).toArray = ls at hl ⊢
  have hl : lv_has ls 3 [(0, .ref (ad 0)), (1, .int (iI ((v : Int))))] := hl
  refine lv_aload_n hx hb dX0_latestBelow_0 rfl (lv_at hl 0 rfl) ?_
  refine va_get (D := (dC, dI)) (ci := 0) (v := .int (iI ((n : Int)))) (C := RX0) (T := TX0) (N := 8) hx hb hts hinTX0 hown hK hP 0 rfl rfl 5 (by decide) fl41 (fun _ h9 => h9) rfl dX0_latestBelow_1 ?_
  refine r_iconst hx hb dX0_latestBelow_4 ?_
  refine r_isub hx hb dX0_latestBelow_5 ?_
  refine lv_istore_n hx hb dX0_latestBelow_6 rfl hl (by decide) rfl (fun ls hl => ?_)
  have hl : lv_has ls 3 [(2, .int (iI (((n : Int)) - 1))), (0, .ref (ad 0)), (1, .int (iI ((v : Int))))] := hl
  have loop : ∀ (N : Nat) (k : Nat) (ls : Array Slot), k < N → (k ≤ n) → (ba L v k = ba L v n) → lv_has ls 3 [(2, .int (iI ((k : Int) - 1))), (0, .ref (ad 0)), (1, .int (iI ((v : Int))))] → W p l e (headSpec wsX0_latestBelow { frames := 0, cells := 0, slots := 0, locals := 0 }).room s m ([.ref (ad 0), .int (iI ((v : Int)))]).toArray below meth c H locs 0 0 (MQ below (RQi (fun y => y = iI ((ba L v n : Int) - 1))) ([.ref (ad 0), .int (iI ((v : Int)))]).toArray s 0 0 nF) (F0 m 7 ls []) := by
    intro N
    induction N with
    | zero => intro k ls h; exact absurd h (Nat.not_lt_zero _)
    | succ N ih =>
      intro k ls hN hk hb9 hl
      refine lv_iload_n hx hb dX0_latestBelow_7 rfl (lv_at hl 0 rfl) ?_
      refine r_if_lt hx hb dX0_latestBelow_8 (tgt := 29) (by decide) (by omega) (fun hlt => ?_) (fun hge => ?_)
      · have hk0 : k = 0 := by omega
        subst hk0
        refine r_iconst hx hb dX0_latestBelow_29 ?_
        exact W.iret (v := iI ((-1))) hx hb hr (fun t ht hW => ⟨⟨_, (), rfl, by rw [← hb9]; rfl, trivial⟩, hS.F ht⟩) hS.2.2 dX0_latestBelow_30
      · obtain ⟨j, hj⟩ : ∃ j, k = j + 1 := ⟨k - 1, by omega⟩
        have ej : ((k : Int) - 1).toNat = j := by omega
        have hlk := hL j (by omega)
        have eb : ba L v k = if L j < v then j + 1 else ba L v j := by rw [hj]; rfl
        refine lv_aload_n hx hb dX0_latestBelow_11 rfl (lv_at hl 1 rfl) ?_
        refine va_get (D := (dC, dI)) (ci := 0) (v := .ref (ad 1)) (C := RX0) (T := TX0) (N := 8) hx hb hts hinTX0 hown hK hP 0 rfl rfl 0 (by decide) fl9 (fun _ h9 => h9) rfl dX0_latestBelow_12 ?_
        refine lv_iload_n hx hb dX0_latestBelow_15 rfl (lv_at hl 0 rfl) ?_
        refine r_iald hx hb hK hP 1 0 rfl rfl (by omega) (by omega) (by decide) dX0_latestBelow_16 ?_
        refine r_topi (b := (L j : Int)) (by rw [ej]; exact hlk.1) ?_
        refine lv_iload_n hx hb dX0_latestBelow_17 rfl (lv_at hl 2 rfl) ?_
        refine r_icmp_ge hx hb dX0_latestBelow_18 (tgt := 23) (by decide) (by omega) (by omega) (fun hge2 => ?_) (fun hlt2 => ?_)
        · refine r_iinc (k := 0) hx hb dX0_latestBelow_23 hl rfl (by decide) rfl (fun ls hl => ?_)
          have hl : lv_has ls 3 [(2, .int (iI ((k : Int) - 1 + (-1)))), (0, .ref (ad 0)), (1, .int (iI ((v : Int))))] := hl
          refine lv_goto hx hb dX0_latestBelow_26 (tgt := 7) (by decide) ?_
          have hl : lv_has ls 3 [(2, .int (iI ((j : Int) - 1))), (0, .ref (ad 0)), (1, .int (iI (v : Int)))] := by rw [show (j : Int) - 1 = (k : Int) - 1 + (-1) by omega]; exact hl
          exact ih j ls (by omega) (by omega) (by rw [← hb9, eb, if_neg (by omega)]) hl
        · refine lv_iload_n hx hb dX0_latestBelow_21 rfl (lv_at hl 0 rfl) ?_
          exact W.iret (v := iI ((k : Int) - 1)) hx hb hr (fun t ht hW => ⟨⟨_, (), rfl, by rw [← hb9, eb, if_pos (by omega)]; congr 1; omega, trivial⟩, hS.F ht⟩) hS.2.2 dX0_latestBelow_22
  exact loop (n + 1) n ls (Nat.lt_succ_self _) (Nat.le_refl n) rfl hl
set_option maxHeartbeats 4000000 in
set_option maxRecDepth 100000 in
theorem m_dumpAt (l : Launch) (dC : Nat → ClassId) (dI : Nat → Nat → Nat) (ad : Nat → Nat) (ca : Nat → ClassId) (gL gB gD : Nat → Int) (gN : Nat → Int64) (gS : Nat → Int) (n r : Nat) (x : Int64) (S : Nat → Nat) (q : Nat) (hn : n ≤ 300) (hq : q < 1000000) (hs : sm S n < 1000000) (hS9 : ∀ d, d ≤ n → gS d = (sm S d : Int)) : Met l yX0_dumpAt wsX0_dumpAt { frames := 0, cells := 0, slots := 0, locals := 0 } (PX (dC, dI) vwCl (yX ca) (wX ad ca gL gB gD gN gS ((n : Int)) ((r : Int)) x) [.ref (ad 0), .int (iI ((q : Int)))]) (RQi (fun y => y = iI ((ow S q n : Int) - 1))) 0 0 nF := by
  refine Met.ofW (cc := cX0_dumpAt) (maxL := 3) (ret := (some .int)) (by decide) rfl ?_
  intro p e s m args below meth c s₁ B hml hv
  obtain ⟨rfl, hP, hK, hD0⟩ := hv
  have hx := B.exec
  have hb := B.bytes
  have hr := B.returns
  have hts := atoms_spec (ws := wsX0_dumpAt) B.pre
  have hown : s.vm.findClass RX0 = some m.cls := findClass_of_methodNamed B.named
  have hlocks := B.notSynchronized
  have hw := fun w h => hts w (List.mem_cons_of_mem _ h)
  have hinTX0 : ∀ w ∈ u_ws RX0 TX0 8, w ∈ wsX0_dumpAt := wA_u wuX0
  have fl41 := hw _ wfX0_41
  have fl23 := hw _ wfX0_23
  have hD := hD0
  obtain ⟨H, hH⟩ : ∃ H, H = s.heap := ⟨_, rfl⟩
  obtain ⟨locs, hlc⟩ : ∃ L : List Loc, L = [] := ⟨_, rfl⟩
  have hS : va_S nF s.heap H locs := by rw [hH, hlc]; exact va_S.rf
  rw [← hH] at hP ⊢
  rw [← hlc]
  have hl := lv_entry ([.ref (ad 0), .int (iI ((q : Int)))]) (n := 3) (Nat.le_of_ble_eq_true rfl)
  rw [lg_entry_eq]
  generalize (lg_sl ([.ref (ad 0), .int (iI ((q : Int)))]) ++ List.replicate (3 - (lg_sl ([.ref (ad 0), .int (iI ((q : Int)))])).length) Slot.unset).toArray = ls at hl ⊢
  have hl : lv_has ls 3 [(0, .ref (ad 0)), (1, .int (iI ((q : Int))))] := hl
  refine r_iconst hx hb dX0_dumpAt_0 ?_
  refine lv_istore_n hx hb dX0_dumpAt_1 rfl hl (by decide) rfl (fun ls hl => ?_)
  have hl : lv_has ls 3 [(2, .int (iI 0)), (0, .ref (ad 0)), (1, .int (iI ((q : Int))))] := hl
  have loop : ∀ (N : Nat) (k : Nat) (ls : Array Slot), n - k < N → (k ≤ n) → (ow S q k = 0) → lv_has ls 3 [(2, .int (iI ((k : Int)))), (0, .ref (ad 0)), (1, .int (iI ((q : Int))))] → W p l e (headSpec wsX0_dumpAt { frames := 0, cells := 0, slots := 0, locals := 0 }).room s m ([.ref (ad 0), .int (iI ((q : Int)))]).toArray below meth c H locs 0 0 (MQ below (RQi (fun y => y = iI ((ow S q n : Int) - 1))) ([.ref (ad 0), .int (iI ((q : Int)))]).toArray s 0 0 nF) (F0 m 2 ls []) := by
    intro N
    induction N with
    | zero => intro k ls h; exact absurd h (Nat.not_lt_zero _)
    | succ N ih =>
      intro k ls hN hk h0 hl
      refine lv_iload_n hx hb dX0_dumpAt_2 rfl (lv_at hl 0 rfl) ?_
      refine lv_aload_n hx hb dX0_dumpAt_3 rfl (lv_at hl 1 rfl) ?_
      refine va_get (D := (dC, dI)) (ci := 0) (v := .int (iI ((n : Int)))) (C := RX0) (T := TX0) (N := 8) hx hb hts hinTX0 hown hK hP 0 rfl rfl 5 (by decide) fl41 (fun _ h9 => h9) rfl dX0_dumpAt_4 ?_
      refine r_icmp_ge hx hb dX0_dumpAt_7 (tgt := 30) (by decide) (by omega) (by omega) (fun hge => ?_) (fun hlt => ?_)
      · have hk0 : k = n := by omega
        subst hk0
        refine r_iconst hx hb dX0_dumpAt_30 ?_
        exact W.iret (v := iI ((-1))) hx hb hr (fun t ht hW => ⟨⟨_, (), rfl, by rw [h0]; rfl, trivial⟩, hS.F ht⟩) hS.2.2 dX0_dumpAt_31
      · have ej : ((k : Int) + 1).toNat = k + 1 := by omega
        have hs2 := hS9 (k + 1) (by omega)
        have hs3 : sm S (k + 1) ≤ sm S n := sm_mono (by omega)
        refine lv_iload_n hx hb dX0_dumpAt_10 rfl (lv_at hl 2 rfl) ?_
        refine lv_aload_n hx hb dX0_dumpAt_11 rfl (lv_at hl 1 rfl) ?_
        refine va_get (D := (dC, dI)) (ci := 0) (v := .ref (ad 5)) (C := RX0) (T := TX0) (N := 8) hx hb hts hinTX0 hown hK hP 0 rfl rfl 4 (by decide) fl23 (fun _ h9 => h9) rfl dX0_dumpAt_12 ?_
        refine lv_iload_n hx hb dX0_dumpAt_15 rfl (lv_at hl 0 rfl) ?_
        refine r_iconst hx hb dX0_dumpAt_16 ?_
        refine r_iadd hx hb dX0_dumpAt_17 ?_
        refine r_iald hx hb hK hP 5 4 rfl rfl (by omega) (by omega) (by decide) dX0_dumpAt_18 ?_
        refine r_topi (b := (sm S (k + 1) : Int)) (by rw [ej]; exact hs2) ?_
        refine r_icmp_ge hx hb dX0_dumpAt_19 (tgt := 24) (by decide) (by omega) (by omega) (fun hge2 => ?_) (fun hlt2 => ?_)
        · refine r_iinc (k := 0) hx hb dX0_dumpAt_24 hl rfl (by decide) rfl (fun ls hl => ?_)
          have hl : lv_has ls 3 [(2, .int (iI ((k : Int) + 1))), (0, .ref (ad 0)), (1, .int (iI ((q : Int))))] := hl
          refine lv_goto hx hb dX0_dumpAt_27 (tgt := 2) (by decide) ?_
          have hl : lv_has ls 3 [(2, .int (iI ((k + 1 : Nat) : Int))), (0, .ref (ad 0)), (1, .int (iI (q : Int)))] := by rw [show ((k + 1 : Nat) : Int) = (k : Int) + 1 by omega]; exact hl
          exact ih (k + 1) ls (by omega) (by omega) (ow_miss h0 (by omega)) hl
        · refine lv_iload_n hx hb dX0_dumpAt_22 rfl (lv_at hl 0 rfl) ?_
          exact W.iret (v := iI ((k : Int))) hx hb hr (fun t ht hW => ⟨⟨_, (), rfl, by rw [ow_keep (k := k + 1) (by rw [ow_hit h0 (by omega)]; omega) n (by omega), ow_hit h0 (by omega)]; congr 1; omega, trivial⟩, hS.F ht⟩) hS.2.2 dX0_dumpAt_23
  exact loop (n + 1) 0 ls (by omega) (Nat.zero_le n) rfl hl
end
section
/-! the class: more methods that change nothing; Long.bitCount -/
set_option maxHeartbeats 4000000 in
set_option maxRecDepth 100000 in
theorem m_bitsFromTo (l : Launch) (dC : Nat → ClassId) (dI : Nat → Nat → Nat) (a b : Nat) (ha : a < 64) (hb0 : b < 64) : Met l yX0_bitsFromTo wsX0_bitsFromTo { frames := 0, cells := 0, slots := 0, locals := 0 } (PX (dC, dI) vwCl [] [] [.int (iI ((a : Int))), .int (iI ((b : Int)))]) (RQl (fun y => ∀ v, v < 64 → bL y v = (decide (a ≤ v) && decide (v ≤ b)))) 0 0 nF := by
  refine Met.ofW (cc := cX0_bitsFromTo) (maxL := 2) (ret := (some .long)) (by decide) rfl ?_
  intro p e s m args below meth c s₁ B hml hv
  obtain ⟨rfl, hP, hK, hD0⟩ := hv
  have hx := B.exec
  have hb := B.bytes
  have hr := B.returns
  have hts := atoms_spec (ws := wsX0_bitsFromTo) B.pre
  have hown : s.vm.findClass RX0 = some m.cls := findClass_of_methodNamed B.named
  have hlocks := B.notSynchronized
  have hw := fun w h => hts w (List.mem_cons_of_mem _ h)
  have hD := hD0
  obtain ⟨H, hH⟩ : ∃ H, H = s.heap := ⟨_, rfl⟩
  obtain ⟨locs, hlc⟩ : ∃ L : List Loc, L = [] := ⟨_, rfl⟩
  have hS : va_S nF s.heap H locs := by rw [hH, hlc]; exact va_S.rf
  rw [← hH] at hP ⊢
  rw [← hlc]
  have hl := lv_entry ([.int (iI ((a : Int))), .int (iI ((b : Int)))]) (n := 2) (Nat.le_of_ble_eq_true rfl)
  rw [lg_entry_eq]
  generalize (lg_sl ([.int (iI ((a : Int))), .int (iI ((b : Int)))]) ++ List.replicate (2 - (lg_sl ([.int (iI ((a : Int))), .int (iI ((b : Int)))])).length) Slot.unset).toArray = ls at hl ⊢
  have hl : lv_has ls 2 [(0, .int (iI ((a : Int)))), (1, .int (iI ((b : Int))))] := hl
  refine lv_ldc2 hx hb hown (hw _ wjX0_84) dX0_bitsFromTo_0 ?_
  refine lv_iload_n hx hb dX0_bitsFromTo_3 rfl (lv_at hl 0 rfl) ?_
  refine lv_lshl hx hb dX0_bitsFromTo_4 rfl ?_
  refine lv_ldc2 hx hb hown (hw _ wjX0_84) dX0_bitsFromTo_5 ?_
  refine r_bipush hx hb dX0_bitsFromTo_8 (by decide +kernel) ?_
  refine lv_iload_n hx hb dX0_bitsFromTo_10 rfl (lv_at hl 1 rfl) ?_
  refine r_isub hx hb dX0_bitsFromTo_11 ?_
  refine r_topi (b := ((63 - b : Nat) : Int)) (by omega) ?_
  refine lv_lushr hx hb dX0_bitsFromTo_12 rfl ?_
  refine lv_land hx hb dX0_bitsFromTo_13 ?_
  exact W.lret hx hb hr (fun t ht hW => ⟨⟨_, (), rfl, fun v hv => bL_from ha hb0 hv, trivial⟩, hS.F ht⟩) hS.2.2 dX0_bitsFromTo_14
set_option maxHeartbeats 4000000 in
set_option maxRecDepth 100000 in
theorem m_isGood (l : Launch) (dC : Nat → ClassId) (dI : Nat → Nat → Nat) (ad : Nat → Nat) (ca : Nat → ClassId) (gL gB gD : Nat → Int) (gN : Nat → Int64) (gS : Nat → Int) (n r : Nat) (x : Int64) (L S : Nat → Nat) (lo : Nat → Bool) (hok : okS n L S r) (hT : tX n L S r lo gL gB gD gN gS x) (d : Nat) (hd : d < n) : Met l yX0_isGood wsX0_isGood { frames := 0, cells := 0, slots := 0, locals := 0 } (PX (dC, dI) vwCl (yX ca) (wX ad ca gL gB gD gN gS ((n : Int)) ((r : Int)) x) [.ref (ad 0), .int (iI ((d : Int)))]) (RQi (fun y => y = iI (b2 (gd L S r lo d)))) 0 0 nF := by
  refine Met.ofW (cc := cX0_isGood) (maxL := 2) (ret := (some .boolean)) (by decide) rfl ?_
  intro p e s m args below meth c s₁ B hml hv
  obtain ⟨rfl, hP, hK, hD0⟩ := hv
  have hx := B.exec
  have hb := B.bytes
  have hr := B.returns
  have hts := atoms_spec (ws := wsX0_isGood) B.pre
  have hown : s.vm.findClass RX0 = some m.cls := findClass_of_methodNamed B.named
  have hlocks := B.notSynchronized
  have hw := fun w h => hts w (List.mem_cons_of_mem _ h)
  have hinTX0 : ∀ w ∈ u_ws RX0 TX0 8, w ∈ wsX0_isGood := wA_u wuX0
  have fl19 := hw _ wfX0_19
  have fl80 := hw _ wfX0_80
  have hD := hD0
  obtain ⟨H, hH⟩ : ∃ H, H = s.heap := ⟨_, rfl⟩
  obtain ⟨locs, hlc⟩ : ∃ L : List Loc, L = [] := ⟨_, rfl⟩
  have hS : va_S nF s.heap H locs := by rw [hH, hlc]; exact va_S.rf
  rw [← hH] at hP ⊢
  rw [← hlc]
  have hl := lv_entry ([.ref (ad 0), .int (iI ((d : Int)))]) (n := 2) (Nat.le_of_ble_eq_true rfl)
  rw [lg_entry_eq]
  generalize (lg_sl ([.ref (ad 0), .int (iI ((d : Int)))]) ++ List.replicate (2 - (lg_sl ([.ref (ad 0), .int (iI ((d : Int)))])).length) Slot.unset).toArray = ls at hl ⊢
  have hl : lv_has ls 2 [(0, .ref (ad 0)), (1, .int (iI ((d : Int))))] := hl
  obtain ⟨ok1, ok2, ok3, ok4, ok5⟩ := id hok
  have ed : ((d : Int)).toNat = d := by omega
  obtain ⟨-, -, -, t4⟩ := hT.1 d hd
  have hg := gd_iff t4 hT.2.2
  refine lv_aload_n hx hb dX0_isGood_0 rfl (lv_at hl 0 rfl) ?_
  refine va_get (D := (dC, dI)) (ci := 0) (v := .ref (ad 4)) (C := RX0) (T := TX0) (N := 8) hx hb hts hinTX0 hown hK hP 0 rfl rfl 3 (by decide) fl19 (fun _ h9 => h9) rfl dX0_isGood_1 ?_
  refine lv_iload_n hx hb dX0_isGood_4 rfl (lv_at hl 1 rfl) ?_
  refine r_lald hx hb hK hP 4 3 rfl rfl (by omega) (by omega) (by decide) dX0_isGood_5 ?_
  refine lv_aload_n hx hb dX0_isGood_6 rfl (lv_at hl 0 rfl) ?_
  refine va_get (D := (dC, dI)) (ci := 0) (v := .long x) (C := RX0) (T := TX0) (N := 8) hx hb hts hinTX0 hown hK hP 0 rfl rfl 7 (by decide) fl80 (fun _ h9 => h9) rfl dX0_isGood_7 ?_
  refine lv_land hx hb dX0_isGood_10 ?_
  refine lv_lconst hx hb dX0_isGood_11 rfl ?_
  rw [ed]
  refine r_lcmp_ne hx hb dX0_isGood_12 dX0_isGood_13 (tgt := 20) (by decide) (fun hne => ?_) (fun heq => ?_)
  · refine r_iconst hx hb dX0_isGood_20 ?_
    exact W.zret (v := iI 0) hx hb hr rfl (fun t ht hW => ⟨⟨_, (), rfl, by rw [gd_f (fun q => hne (hg.mpr q))], trivial⟩, hS.F ht⟩) hS.2.2 dX0_isGood_21
  · refine r_iconst hx hb dX0_isGood_16 ?_
    refine lv_goto hx hb dX0_isGood_17 (tgt := 21) (by decide) ?_
    exact W.zret (v := iI 1) hx hb hr rfl (fun t ht hW => ⟨⟨_, (), rfl, by rw [gd_t (hg.mp heq)], trivial⟩, hS.F ht⟩) hS.2.2 dX0_isGood_21
set_option maxHeartbeats 4000000 in
set_option maxRecDepth 100000 in
theorem m_goodDumps (l : Launch) (dC : Nat → ClassId) (dI : Nat → Nat → Nat) (ad : Nat → Nat) (ca : Nat → ClassId) (gL gB gD : Nat → Int) (gN : Nat → Int64) (gS : Nat → Int) (n r : Nat) (x : Int64) (L S : Nat → Nat) (lo : Nat → Bool) (hok : okS n L S r) (hT : tX n L S r lo gL gB gD gN gS x) : Met l yX0_goodDumps wsX0_goodDumps { frames := 1, cells := 0, slots := 0, locals := 21 } (PX (dC, dI) vwCl (yX ca) (wX ad ca gL gB gD gN gS ((n : Int)) ((r : Int)) x) [.ref (ad 0)]) (RQi (fun y => y = iI (cn (gd L S r lo) n : Int))) 0 0 nF := by
  refine Met.ofW (cc := cX0_goodDumps) (maxL := 3) (ret := (some .int)) (by decide) rfl ?_
  intro p e s m args below meth c s₁ B hml hv
  obtain ⟨rfl, hP, hK, hD0⟩ := hv
  have hx := B.exec
  have hb := B.bytes
  have hr := B.returns
  have hts := atoms_spec (ws := wsX0_goodDumps) B.pre
  have hown : s.vm.findClass RX0 = some m.cls := findClass_of_methodNamed B.named
  have hlocks := B.notSynchronized
  have hw := fun w h => hts w (List.mem_cons_of_mem _ h)
  have hinTX0 : ∀ w ∈ u_ws RX0 TX0 8, w ∈ wsX0_goodDumps := wA_u wuX0
  have fl41 := hw _ wfX0_41
  have hD := hD0
  obtain ⟨H, hH⟩ : ∃ H, H = s.heap := ⟨_, rfl⟩
  obtain ⟨locs, hlc⟩ : ∃ L : List Loc, L = [] := ⟨_, rfl⟩
  have hS : va_S nF s.heap H locs := by rw [hH, hlc]; exact va_S.rf
  rw [← hH] at hP ⊢
  rw [← hlc]
  have hl := lv_entry ([.ref (ad 0)]) (n := 3) (Nat.le_of_ble_eq_true rfl)
  rw [lg_entry_eq]
  generalize (lg_sl ([.ref (ad 0)]) ++ List.replicate (3 - (lg_sl ([.ref (ad 0)])).length) Slot.unset).toArray = ls at hl ⊢
  have hl : lv_has ls 3 [(0, .ref (ad 0))] := hl
  obtain ⟨ok1, ok2, ok3, ok4, ok5⟩ := id hok
  refine r_iconst hx hb dX0_goodDumps_0 ?_
  refine lv_istore_n hx hb dX0_goodDumps_1 rfl hl (by decide) rfl (fun ls hl => ?_)
  have hl : lv_has ls 3 [(1, .int (iI 0)), (0, .ref (ad 0))] := hl
  refine r_iconst hx hb dX0_goodDumps_2 ?_
  refine lv_istore_n hx hb dX0_goodDumps_3 rfl hl (by decide) rfl (fun ls hl => ?_)
  have hl : lv_has ls 3 [(2, .int (iI 0)), (1, .int (iI 0)), (0, .ref (ad 0))] := hl
  have loop : ∀ (N : Nat) (k : Nat) (ls : Array Slot) (H : Heap) (locs : List Loc), n - k < N → (k ≤ n) → va_P (dC, dI) vwCl (wX ad ca gL gB gD gN gS ((n : Int)) ((r : Int)) x) H → va_S nF s.heap H locs → lv_has ls 3 [(2, .int (iI ((k : Int)))), (1, .int (iI ((cn (gd L S r lo) k : Int)))), (0, .ref (ad 0))] → W p l e (headSpec wsX0_goodDumps { frames := 1, cells := 0, slots := 0, locals := 21 }).room s m ([.ref (ad 0)]).toArray below meth c H locs 0 0 (MQ below (RQi (fun y => y = iI (cn (gd L S r lo) n : Int))) ([.ref (ad 0)]).toArray s 0 0 nF) (F0 m 4 ls []) := by
    intro N
    induction N with
    | zero => intro k ls H locs h; exact absurd h (Nat.not_lt_zero _)
    | succ N ih =>
      intro k ls H locs hN hk hP hS hl
      refine lv_iload_n hx hb dX0_goodDumps_4 rfl (lv_at hl 0 rfl) ?_
      refine lv_aload_n hx hb dX0_goodDumps_5 rfl (lv_at hl 2 rfl) ?_
      refine va_get (D := (dC, dI)) (ci := 0) (v := .int (iI ((n : Int)))) (C := RX0) (T := TX0) (N := 8) hx hb hts hinTX0 hown hK hP 0 rfl rfl 5 (by decide) fl41 (fun _ h9 => h9) rfl dX0_goodDumps_6 ?_
      refine r_icmp_ge hx hb dX0_goodDumps_9 (tgt := 29) (by decide) (by omega) (by omega) (fun hge => ?_) (fun hlt => ?_)
      · have hk0 : k = n := by omega
        subst hk0
        refine lv_iload_n hx hb dX0_goodDumps_29 rfl (lv_at hl 1 rfl) ?_
        exact W.iret (v := iI ((cn (gd L S r lo) k : Int))) hx hb hr (fun t ht hW => ⟨⟨_, (), rfl, rfl, trivial⟩, hS.F ht⟩) hS.2.2 dX0_goodDumps_30
      · have hc := cn_s (gd L S r lo) k
        have hc2 := cn_le (gd L S r lo) k
        have h01 := b2_01 (gd L S r lo k)
        refine lv_aload_n hx hb dX0_goodDumps_12 rfl (lv_at hl 2 rfl) ?_
        refine lv_iload_n hx hb dX0_goodDumps_13 rfl (lv_at hl 0 rfl) ?_
        refine ro_z (z := b2 (gd L S r lo k)) (va_runV (As := [.int (iI ((k : Int)))]) (rest := []) ⟨hx, hb, hml, hown, hts⟩ (m_isGood l dC dI ad ca gL gB gD gN gS n r x L S lo hok hT k (by omega)) (cwV 1 hts (gV wlX0_86 wo_X0_isGood wz_X0_isGood wi_1 wcX0_isGood) rfl rfl rfl (by decide +kernel) ⟨Nat.le_of_ble_eq_true rfl, Nat.le_of_ble_eq_true rfl⟩) (PX_V (q0 := 0) (ci := 0) hP hK hD rfl rfl) rfl rfl hl.1 rfl (lv_room (Nat.le_of_ble_eq_true rfl)) dX0_goodDumps_14 ⟨Nat.le_of_ble_eq_true rfl, Nat.le_of_ble_eq_true rfl⟩) hS hP (fun H locs hP hS => ?_)
        refine r_if_eq hx hb dX0_goodDumps_17 (tgt := 23) (by decide) (by omega) (fun hz => ?_) (fun hnz => ?_)
        · refine r_iinc (k := 0) hx hb dX0_goodDumps_23 hl rfl (by decide) rfl (fun ls hl => ?_)
          have hl : lv_has ls 3 [(2, .int (iI ((k : Int) + 1))), (1, .int (iI ((cn (gd L S r lo) k : Int)))), (0, .ref (ad 0))] := hl
          refine lv_goto hx hb dX0_goodDumps_26 (tgt := 4) (by decide) ?_
          have hl : lv_has ls 3 [(2, .int (iI ((k + 1 : Nat) : Int))), (1, .int (iI (cn (gd L S r lo) (k + 1) : Int))), (0, .ref (ad 0))] := by
            rw [show ((k + 1 : Nat) : Int) = (k : Int) + 1 by omega, show (cn (gd L S r lo) (k + 1) : Int) = (cn (gd L S r lo) k : Int) by omega]
            exact hl
          exact ih (k + 1) ls H locs (by omega) (by omega) hP hS hl
        · refine r_iinc (k := 1) hx hb dX0_goodDumps_20 hl rfl (by decide) rfl (fun ls hl => ?_)
          have hl : lv_has ls 3 [(1, .int (iI ((cn (gd L S r lo) k : Int) + 1))), (2, .int (iI ((k : Int)))), (0, .ref (ad 0))] := hl
          refine r_iinc (k := 1) hx hb dX0_goodDumps_23 hl rfl (by decide) rfl (fun ls hl => ?_)
          have hl : lv_has ls 3 [(2, .int (iI ((k : Int) + 1))), (1, .int (iI ((cn (gd L S r lo) k : Int) + 1))), (0, .ref (ad 0))] := hl
          refine lv_goto hx hb dX0_goodDumps_26 (tgt := 4) (by decide) ?_
          have hl : lv_has ls 3 [(2, .int (iI ((k + 1 : Nat) : Int))), (1, .int (iI (cn (gd L S r lo) (k + 1) : Int))), (0, .ref (ad 0))] := by
            rw [show ((k + 1 : Nat) : Int) = (k : Int) + 1 by omega, show (cn (gd L S r lo) (k + 1) : Int) = (cn (gd L S r lo) k : Int) + 1 by omega]
            exact hl
          exact ih (k + 1) ls H locs (by omega) (by omega) hP hS hl
  exact loop (n + 1) 0 ls H locs (by omega) (Nat.zero_le n) hP hS hl
set_option maxHeartbeats 4000000 in
set_option maxRecDepth 100000 in
theorem m_longestChain (l : Launch) (dC : Nat → ClassId) (dI : Nat → Nat → Nat) (ad : Nat → Nat) (ca : Nat → ClassId) (gL gB gD : Nat → Int) (gN : Nat → Int64) (gS : Nat → Int) (n r : Nat) (x : Int64) (L S : Nat → Nat) (lo : Nat → Bool) (hok : okS n L S r) (hT : tX n L S r lo gL gB gD gN gS x) : Met l yX0_longestChain wsX0_longestChain { frames := 1, cells := 0, slots := 0, locals := 13 } (PX (dC, dI) vwCl (yX ca) (wX ad ca gL gB gD gN gS ((n : Int)) ((r : Int)) x) [.ref (ad 0)]) (RQi (fun y => y = iI (mx (fun d => dp L (d + 1)) n : Int))) 0 0 nF := by
  refine Met.ofW (cc := cX0_longestChain) (maxL := 3) (ret := (some .int)) (by decide) rfl ?_
  intro p e s m args below meth c s₁ B hml hv
  obtain ⟨rfl, hP, hK, hD0⟩ := hv
  have hx := B.exec
  have hb := B.bytes
  have hr := B.returns
  have hts := atoms_spec (ws := wsX0_longestChain) B.pre
  have hown : s.vm.findClass RX0 = some m.cls := findClass_of_methodNamed B.named
  have hlocks := B.notSynchronized
  have hw := fun w h => hts w (List.mem_cons_of_mem _ h)
  have hinTX0 : ∀ w ∈ u_ws RX0 TX0 8, w ∈ wsX0_longestChain := wA_u wuX0
  have fl41 := hw _ wfX0_41
  have fl16 := hw _ wfX0_16
  have hD := hD0
  obtain ⟨H, hH⟩ : ∃ H, H = s.heap := ⟨_, rfl⟩
  obtain ⟨locs, hlc⟩ : ∃ L : List Loc, L = [] := ⟨_, rfl⟩
  have hS : va_S nF s.heap H locs := by rw [hH, hlc]; exact va_S.rf
  rw [← hH] at hP ⊢
  rw [← hlc]
  have hl := lv_entry ([.ref (ad 0)]) (n := 3) (Nat.le_of_ble_eq_true rfl)
  rw [lg_entry_eq]
  generalize (lg_sl ([.ref (ad 0)]) ++ List.replicate (3 - (lg_sl ([.ref (ad 0)])).length) Slot.unset).toArray = ls at hl ⊢
  have hl : lv_has ls 3 [(0, .ref (ad 0))] := hl
  obtain ⟨ok1, ok2, ok3, ok4, ok5⟩ := id hok
  refine r_iconst hx hb dX0_longestChain_0 ?_
  refine lv_istore_n hx hb dX0_longestChain_1 rfl hl (by decide) rfl (fun ls hl => ?_)
  have hl : lv_has ls 3 [(1, .int (iI 0)), (0, .ref (ad 0))] := hl
  refine r_iconst hx hb dX0_longestChain_2 ?_
  refine lv_istore_n hx hb dX0_longestChain_3 rfl hl (by decide) rfl (fun ls hl => ?_)
  have hl : lv_has ls 3 [(2, .int (iI 0)), (1, .int (iI 0)), (0, .ref (ad 0))] := hl
  have loop : ∀ (N : Nat) (k : Nat) (ls : Array Slot), n - k < N → (k ≤ n) → lv_has ls 3 [(2, .int (iI ((k : Int)))), (1, .int (iI ((mx (fun d => dp L (d + 1)) k : Int)))), (0, .ref (ad 0))] → W p l e (headSpec wsX0_longestChain { frames := 1, cells := 0, slots := 0, locals := 13 }).room s m ([.ref (ad 0)]).toArray below meth c H locs 0 0 (MQ below (RQi (fun y => y = iI (mx (fun d => dp L (d + 1)) n : Int))) ([.ref (ad 0)]).toArray s 0 0 nF) (F0 m 4 ls []) := by
    intro N
    induction N with
    | zero => intro k ls h; exact absurd h (Nat.not_lt_zero _)
    | succ N ih =>
      intro k ls hN hk hl
      refine lv_iload_n hx hb dX0_longestChain_4 rfl (lv_at hl 0 rfl) ?_
      refine lv_aload_n hx hb dX0_longestChain_5 rfl (lv_at hl 2 rfl) ?_
      refine va_get (D := (dC, dI)) (ci := 0) (v := .int (iI ((n : Int)))) (C := RX0) (T := TX0) (N := 8) hx hb hts hinTX0 hown hK hP 0 rfl rfl 5 (by decide) fl41 (fun _ h9 => h9) rfl dX0_longestChain_6 ?_
      refine r_icmp_ge hx hb dX0_longestChain_9 (tgt := 29) (by decide) (by omega) (by omega) (fun hge => ?_) (fun hlt => ?_)
      · have hk0 : k = n := by omega
        subst hk0
        refine lv_iload_n hx hb dX0_longestChain_29 rfl (lv_at hl 1 rfl) ?_
        exact W.iret (v := iI ((mx (fun d => dp L (d + 1)) k : Int))) hx hb hr (fun t ht hW => ⟨⟨_, (), rfl, rfl, trivial⟩, hS.F ht⟩) hS.2.2 dX0_longestChain_30
      · have hc := mx_s (fun d => dp L (d + 1)) k
        have hm := mx_le (fun d => dp L (d + 1)) 300 k (fun j hj => by have := dp_le L (j + 1) (j + 1) (Nat.le_refl _); show dp L (j + 1) ≤ 300; omega)
        have hm2 := dp_le L (k + 1) (k + 1) (Nat.le_refl _)
        have ed : ((k : Int)).toNat = k := by omega
        obtain ⟨-, -, t3, -⟩ := hT.1 k (by omega)
        refine lv_iload_n hx hb dX0_longestChain_12 rfl (lv_at hl 1 rfl) ?_
        refine lv_aload_n hx hb dX0_longestChain_13 rfl (lv_at hl 2 rfl) ?_
        refine va_get (D := (dC, dI)) (ci := 0) (v := .ref (ad 3)) (C := RX0) (T := TX0) (N := 8) hx hb hts hinTX0 hown hK hP 0 rfl rfl 2 (by decide) fl16 (fun _ h9 => h9) rfl dX0_longestChain_14 ?_
        refine lv_iload_n hx hb dX0_longestChain_17 rfl (lv_at hl 0 rfl) ?_
        refine r_iald hx hb hK hP 3 2 rfl rfl (by omega) (by omega) (by decide) dX0_longestChain_18 ?_
        refine r_topi (b := (dp L (k + 1) : Int)) (by rw [ed]; exact t3) ?_
        refine va_mmax hx hb (hml.trans hl.1.symm) hown (hw _ wl_max) (hw _ wt_max) (hw _ wi_9) (hw _ wc_max) (Nat.le_of_ble_eq_true rfl) (Nat.le_of_ble_eq_true rfl) (Nat.le_of_ble_eq_true rfl) (Nat.le_of_ble_eq_true rfl) dX0_longestChain_19 ?_
        rw [iI_max ⟨by omega, by omega⟩ ⟨by omega, by omega⟩]
        refine r_topi (b := (mx (fun d => dp L (d + 1)) (k + 1) : Int)) hc.symm ?_
        refine lv_istore_n hx hb dX0_longestChain_22 rfl hl (by decide) rfl (fun ls hl => ?_)
        have hl : lv_has ls 3 [(1, .int (iI ((mx (fun d => dp L (d + 1)) (k + 1) : Int)))), (2, .int (iI ((k : Int)))), (0, .ref (ad 0))] := hl
        refine r_iinc (k := 1) hx hb dX0_longestChain_23 hl rfl (by decide) rfl (fun ls hl => ?_)
        have hl : lv_has ls 3 [(2, .int (iI ((k : Int) + 1))), (1, .int (iI ((mx (fun d => dp L (d + 1)) (k + 1) : Int)))), (0, .ref (ad 0))] := hl
        refine lv_goto hx hb dX0_longestChain_26 (tgt := 4) (by decide) ?_
        have hl : lv_has ls 3 [(2, .int (iI ((k + 1 : Nat) : Int))), (1, .int (iI (mx (fun d => dp L (d + 1)) (k + 1) : Int))), (0, .ref (ad 0))] := by
          rw [show ((k + 1 : Nat) : Int) = (k : Int) + 1 by omega]
          exact hl
        exact ih (k + 1) ls (by omega) (by omega) hl
  exact loop (n + 1) 0 ls (by omega) (Nat.zero_le n) hl
set_option maxHeartbeats 4000000 in
set_option maxRecDepth 100000 in
theorem m_writtenVolumes (l : Launch) (dC : Nat → ClassId) (dI : Nat → Nat → Nat) (ad : Nat → Nat) (ca : Nat → ClassId) (gL gB gD : Nat → Int) (gN : Nat → Int64) (gS : Nat → Int) (n r : Nat) (x : Int64) (L S : Nat → Nat) (lo : Nat → Bool) (hok : okS n L S r) (hT : tX n L S r lo gL gB gD gN gS x) : Met l yX0_writtenVolumes wsX0_writtenVolumes { frames := 1, cells := 0, slots := 0, locals := 21 } (PX (dC, dI) vwCl (yX ca) (wX ad ca gL gB gD gN gS ((n : Int)) ((r : Int)) x) [.ref (ad 0)]) (RQi (fun y => y = iI (wr S r n : Int))) 0 0 nF := by
  refine Met.ofW (cc := cX0_writtenVolumes) (maxL := 2) (ret := (some .int)) (by decide) rfl ?_
  intro p e s m args below meth c s₁ B hml hv
  obtain ⟨rfl, hP, hK, hD0⟩ := hv
  have hx := B.exec
  have hb := B.bytes
  have hr := B.returns
  have hts := atoms_spec (ws := wsX0_writtenVolumes) B.pre
  have hown : s.vm.findClass RX0 = some m.cls := findClass_of_methodNamed B.named
  have hlocks := B.notSynchronized
  have hw := fun w h => hts w (List.mem_cons_of_mem _ h)
  have hinTX0 : ∀ w ∈ u_ws RX0 TX0 8, w ∈ wsX0_writtenVolumes := wA_u wuX0
  have fl23 := hw _ wfX0_23
  have fl41 := hw _ wfX0_41
  have hD := hD0
  obtain ⟨H, hH⟩ : ∃ H, H = s.heap := ⟨_, rfl⟩
  obtain ⟨locs, hlc⟩ : ∃ L : List Loc, L = [] := ⟨_, rfl⟩
  have hS : va_S nF s.heap H locs := by rw [hH, hlc]; exact va_S.rf
  rw [← hH] at hP ⊢
  rw [← hlc]
  have hl := lv_entry ([.ref (ad 0)]) (n := 2) (Nat.le_of_ble_eq_true rfl)
  rw [lg_entry_eq]
  generalize (lg_sl ([.ref (ad 0)]) ++ List.replicate (2 - (lg_sl ([.ref (ad 0)])).length) Slot.unset).toArray = ls at hl ⊢
  have hl : lv_has ls 2 [(0, .ref (ad 0))] := hl
  obtain ⟨ok1, ok2, ok3, ok4, ok5⟩ := id hok
  have ed : ((n : Int)).toNat = n := by omega
  have t5 := hT.2.1 n (Nat.le_refl n)
  refine lv_aload_n hx hb dX0_writtenVolumes_0 rfl (lv_at hl 0 rfl) ?_
  refine va_get (D := (dC, dI)) (ci := 0) (v := .ref (ad 5)) (C := RX0) (T := TX0) (N := 8) hx hb hts hinTX0 hown hK hP 0 rfl rfl 4 (by decide) fl23 (fun _ h9 => h9) rfl dX0_writtenVolumes_1 ?_
  refine lv_aload_n hx hb dX0_writtenVolumes_4 rfl (lv_at hl 0 rfl) ?_
  refine va_get (D := (dC, dI)) (ci := 0) (v := .int (iI ((n : Int)))) (C := RX0) (T := TX0) (N := 8) hx hb hts hinTX0 hown hK hP 0 rfl rfl 5 (by decide) fl41 (fun _ h9 => h9) rfl dX0_writtenVolumes_5 ?_
  refine r_iald hx hb hK hP 5 4 rfl rfl (by omega) (by omega) (by decide) dX0_writtenVolumes_8 ?_
  refine r_topi (b := (sm S n : Int)) (by rw [ed]; exact t5) ?_
  refine lv_istore_n hx hb dX0_writtenVolumes_9 rfl hl (by decide) rfl (fun ls hl => ?_)
  have hl : lv_has ls 2 [(1, .int (iI ((sm S n : Int)))), (0, .ref (ad 0))] := hl
  refine lv_iload_n hx hb dX0_writtenVolumes_10 rfl (lv_at hl 0 rfl) ?_
  refine r_if_ne hx hb dX0_writtenVolumes_11 (tgt := 18) (by decide) (by omega) (fun hne => ?_) (fun heq => ?_)
  · refine lv_aload_n hx hb dX0_writtenVolumes_18 rfl (lv_at hl 1 rfl) ?_
    refine lv_iload_n hx hb dX0_writtenVolumes_19 rfl (lv_at hl 0 rfl) ?_
    refine r_iconst hx hb dX0_writtenVolumes_20 ?_
    refine r_isub hx hb dX0_writtenVolumes_21 ?_
    refine ro_z (z := ((sm S n : Int) - 1) / (r : Int)) (va_runV (As := [.int (iI (((sm S n : Int)) - 1))]) (rest := []) ⟨hx, hb, hml, hown, hts⟩ (m_volumeAt l dC dI ad ca gL gB gD gN gS n r x ((sm S n : Int) - 1) (by omega) (by omega) ok2 ok3) (cwV 1 hts (gV wlX0_68 wo_X0_volumeAt wz_X0_volumeAt wi_1 wcX0_volumeAt) rfl rfl rfl (by decide +kernel) ⟨Nat.le_of_ble_eq_true rfl, Nat.le_of_ble_eq_true rfl⟩) (PX_V (q0 := 0) (ci := 0) hP hK hD rfl rfl) rfl rfl hl.1 rfl (lv_room (Nat.le_of_ble_eq_true rfl)) dX0_writtenVolumes_22 ⟨Nat.le_of_ble_eq_true rfl, Nat.le_of_ble_eq_true rfl⟩) hS hP (fun H locs hP hS => ?_)
    refine r_iconst hx hb dX0_writtenVolumes_25 ?_
    refine r_iadd hx hb dX0_writtenVolumes_26 ?_
    have e9 : ((sm S n : Int) - 1) / (r : Int) + 1 = (wr S r n : Int) := by
      rw [wr_pos ok2 (by omega), show (sm S n : Int) - 1 = ((sm S n - 1 : Nat) : Int) by omega, ← Int.natCast_ediv]
      omega
    exact W.iret (v := iI ((((sm S n : Int) - 1) / (r : Int)) + 1)) hx hb hr (fun t ht hW => ⟨⟨_, (), rfl, by rw [e9], trivial⟩, hS.F ht⟩) hS.2.2 dX0_writtenVolumes_27
  · refine r_iconst hx hb dX0_writtenVolumes_14 ?_
    refine lv_goto hx hb dX0_writtenVolumes_15 (tgt := 27) (by decide) ?_
    exact W.iret (v := iI 0) hx hb hr (fun t ht hW => ⟨⟨_, (), rfl, by rw [wr_zero ok2 (by omega)]; rfl, trivial⟩, hS.F ht⟩) hS.2.2 dX0_writtenVolumes_27
set_option maxHeartbeats 4000000 in
set_option maxRecDepth 100000 in
theorem m_bitCount (l : Launch) (dC : Nat → ClassId) (dI : Nat → Nat → Nat) (x : Int64) : Met l yJ13_bitCount wsJ13_bitCount { frames := 0, cells := 0, slots := 0, locals := 0 } (PX (dC, dI) vwCl [] [] [.long x]) (RQi (fun y => y = iI (cn (bL x) 64 : Int))) 0 0 nF := by
  refine Met.ofW (cc := cJ13_bitCount) (maxL := 2) (ret := (some .int)) (by decide) rfl ?_
  intro p e s m args below meth c s₁ B hml hv
  obtain ⟨rfl, hP, hK, hD0⟩ := hv
  have hx := B.exec
  have hb := B.bytes
  have hr := B.returns
  have hts := atoms_spec (ws := wsJ13_bitCount) B.pre
  have hown : s.vm.findClass RJ13 = some m.cls := findClass_of_methodNamed B.named
  have hlocks := B.notSynchronized
  have hw := fun w h => hts w (List.mem_cons_of_mem _ h)
  have hD := hD0
  obtain ⟨H, hH⟩ : ∃ H, H = s.heap := ⟨_, rfl⟩
  obtain ⟨locs, hlc⟩ : ∃ L : List Loc, L = [] := ⟨_, rfl⟩
  have hS : va_S nF s.heap H locs := by rw [hH, hlc]; exact va_S.rf
  rw [← hH] at hP ⊢
  rw [← hlc]
  have hl := lv_entry ([.long x]) (n := 2) (Nat.le_of_ble_eq_true rfl)
  rw [lg_entry_eq]
  generalize (lg_sl ([.long x]) ++ List.replicate (2 - (lg_sl ([.long x])).length) Slot.unset).toArray = ls at hl ⊢
  have hl : lv_has ls 2 [(0, .long x)] := hl
  refine lv_lload_n hx hb dJ13_bitCount_0 rfl (lv_at hl 0 rfl) ?_
  refine lv_lload_n hx hb dJ13_bitCount_1 rfl (lv_at hl 0 rfl) ?_
  refine r_iconst hx hb dJ13_bitCount_2 ?_
  refine lv_lushr hx hb dJ13_bitCount_3 rfl ?_
  refine lv_ldc2 hx hb hown (hw _ wjJ13_314) dJ13_bitCount_4 ?_
  refine lv_land hx hb dJ13_bitCount_7 ?_
  refine lv_lsub hx hb dJ13_bitCount_8 ?_
  refine r_top (w := .long (pp1 x)) (rfl) ?_
  refine lv_lstore_n hx hb dJ13_bitCount_9 rfl hl (by decide) rfl (fun ls hl => ?_)
  have hl : lv_has ls 2 [(0, .long (pp1 x))] := hl
  refine lv_lload_n hx hb dJ13_bitCount_10 rfl (lv_at hl 0 rfl) ?_
  refine lv_ldc2 hx hb hown (hw _ wjJ13_316) dJ13_bitCount_11 ?_
  refine lv_land hx hb dJ13_bitCount_14 ?_
  refine lv_lload_n hx hb dJ13_bitCount_15 rfl (lv_at hl 0 rfl) ?_
  refine r_iconst hx hb dJ13_bitCount_16 ?_
  refine lv_lushr hx hb dJ13_bitCount_17 rfl ?_
  refine lv_ldc2 hx hb hown (hw _ wjJ13_316) dJ13_bitCount_18 ?_
  refine lv_land hx hb dJ13_bitCount_21 ?_
  refine lv_ladd hx hb dJ13_bitCount_22 ?_
  refine r_top (w := .long (pp2 (pp1 x))) (rfl) ?_
  refine lv_lstore_n hx hb dJ13_bitCount_23 rfl hl (by decide) rfl (fun ls hl => ?_)
  have hl : lv_has ls 2 [(0, .long (pp2 (pp1 x)))] := hl
  refine lv_lload_n hx hb dJ13_bitCount_24 rfl (lv_at hl 0 rfl) ?_
  refine lv_lload_n hx hb dJ13_bitCount_25 rfl (lv_at hl 0 rfl) ?_
  refine r_iconst hx hb dJ13_bitCount_26 ?_
  refine lv_lushr hx hb dJ13_bitCount_27 rfl ?_
  refine lv_ladd hx hb dJ13_bitCount_28 ?_
  refine lv_ldc2 hx hb hown (hw _ wjJ13_318) dJ13_bitCount_29 ?_
  refine lv_land hx hb dJ13_bitCount_32 ?_
  refine r_top (w := .long (pp3 (pp2 (pp1 x)))) (rfl) ?_
  refine lv_lstore_n hx hb dJ13_bitCount_33 rfl hl (by decide) rfl (fun ls hl => ?_)
  have hl : lv_has ls 2 [(0, .long (pp3 (pp2 (pp1 x))))] := hl
  refine lv_lload_n hx hb dJ13_bitCount_34 rfl (lv_at hl 0 rfl) ?_
  refine lv_lload_n hx hb dJ13_bitCount_35 rfl (lv_at hl 0 rfl) ?_
  refine r_bipush hx hb dJ13_bitCount_36 (by decide +kernel) ?_
  refine lv_lushr hx hb dJ13_bitCount_38 rfl ?_
  refine lv_ladd hx hb dJ13_bitCount_39 ?_
  refine r_top (w := .long (pp4 (pp3 (pp2 (pp1 x))))) (rfl) ?_
  refine lv_lstore_n hx hb dJ13_bitCount_40 rfl hl (by decide) rfl (fun ls hl => ?_)
  have hl : lv_has ls 2 [(0, .long (pp4 (pp3 (pp2 (pp1 x)))))] := hl
  refine lv_lload_n hx hb dJ13_bitCount_41 rfl (lv_at hl 0 rfl) ?_
  refine lv_lload_n hx hb dJ13_bitCount_42 rfl (lv_at hl 0 rfl) ?_
  refine r_bipush hx hb dJ13_bitCount_43 (by decide +kernel) ?_
  refine lv_lushr hx hb dJ13_bitCount_45 rfl ?_
  refine lv_ladd hx hb dJ13_bitCount_46 ?_
  refine r_top (w := .long (pp5 (pp4 (pp3 (pp2 (pp1 x)))))) (rfl) ?_
  refine lv_lstore_n hx hb dJ13_bitCount_47 rfl hl (by decide) rfl (fun ls hl => ?_)
  have hl : lv_has ls 2 [(0, .long (pp5 (pp4 (pp3 (pp2 (pp1 x))))))] := hl
  refine lv_lload_n hx hb dJ13_bitCount_48 rfl (lv_at hl 0 rfl) ?_
  refine lv_lload_n hx hb dJ13_bitCount_49 rfl (lv_at hl 0 rfl) ?_
  refine r_bipush hx hb dJ13_bitCount_50 (by decide +kernel) ?_
  refine lv_lushr hx hb dJ13_bitCount_52 rfl ?_
  refine lv_ladd hx hb dJ13_bitCount_53 ?_
  refine r_top (w := .long (pp6 (pp5 (pp4 (pp3 (pp2 (pp1 x))))))) (rfl) ?_
  refine lv_lstore_n hx hb dJ13_bitCount_54 rfl hl (by decide) rfl (fun ls hl => ?_)
  have hl : lv_has ls 2 [(0, .long (pp6 (pp5 (pp4 (pp3 (pp2 (pp1 x)))))))] := hl
  refine lv_lload_n hx hb dJ13_bitCount_55 rfl (lv_at hl 0 rfl) ?_
  refine lv_l2i hx hb dJ13_bitCount_56 rfl ?_
  refine r_bipush hx hb dJ13_bitCount_57 (by decide +kernel) ?_
  refine lv_iand hx hb dJ13_bitCount_59 ?_
  refine r_top (w := .int (iI (cn (bL x) 64 : Int))) (congrArg Value.int (pp_all x)) ?_
  exact W.iret (v := iI ((cn (bL x) 64 : Int))) hx hb hr (fun t ht hW => ⟨⟨_, (), rfl, rfl, trivial⟩, hS.F ht⟩) hS.2.2 dJ13_bitCount_60
end
section
/-! exceptions: what a method that throws takes as given, and how it hands it on -/
abbrev eIA : String := "java/lang/IllegalArgumentException"
abbrev eIS : String := "java/lang/IllegalStateException"
abbrev eIX : String := "java/lang/IndexOutOfBoundsException"
abbrev eN : List String := ["java/lang/RuntimeException", "java/lang/Exception"]
abbrev iSt : String := "(Ljava/lang/String;)V"
def xTx : List (Nat × String) := [(32, "a volume has 2 to 1000 blocks"), (37, "a level is 0 to 9"), (39, "a dump has 1 to 500 blocks"), (47, "there are 300 dumps"), (53, "64 volumes are too few"), (59, "there are not so many dumps"), (121, "there is no such dump"), (64, "a chain is counted from 0"), (66, "the dump has no such block"), (124, "there is no such volume"), (75, "a volume has no such block"), (90, "n is below 0"), (117, "what is 0 to 5")]
def exE (A : Nat → Prop) (U : State) (H : Heap) : Prop :=
  (vx_Zq Bundle.tN "UNASSIGNED_STACK" Bundle.steD A U H ∧ vx_Zq Bundle.tN "SUPPRESSED_SENTINEL" Bundle.listD A U H) ∧ (∀ E ∈ [eIA, eIS, eIX], va_Nw (.castable E E) U) ∧ (∀ Y ∈ ["java/lang/RuntimeException", "java/lang/Exception", "java/lang/Throwable"], va_Nw (.declares ⟨Y, "<init>", iSt⟩) U) ∧ (∀ q ∈ xTx, ∃ sa : Nat, vk_R RX0 q.1 q.2 sa U) ∧ va_Nc eIS eIA U ∧ va_Nc eIA eIX U
theorem exE_warm {A B : Nat → Prop} {s U : State} {H0 H : Heap} (hE : exE A s H0) (hW : s.WarmedH U.vm) (hq : ∀ a : Nat, a < H0.size → ¬ A a → H[a]? = H0[a]?) (hAB : ∀ q, B q → A q) : exE B U H :=
  ⟨⟨vx_Zq.moved hW.alike ((hE.1.1.kept hq).narrow hAB), vx_Zq.moved hW.alike ((hE.1.2.kept hq).narrow hAB)⟩, fun E h => va_Nw.warmC hW (hE.2.1 E h), fun Y h => va_Nw.warmD hW (hE.2.2.1 Y h), fun q h => by
    obtain ⟨sa, h1⟩ := hE.2.2.2.1 q h
    exact ⟨sa, vk_R.warm hW h1⟩, va_Nc.moved hW.alike hE.2.2.2.2.1, va_Nc.moved hW.alike hE.2.2.2.2.2⟩
theorem exE_none {A : Nat → Prop} {s : State} {H : Heap} (hE : exE A s H) : exE nF s H := exE_warm hE (State.WarmedH.refl s) (fun _ _ _ => rfl) (fun _ h => h.elim)
/-- a throwing method's start -/
def PXe (D : va_G) (cl : List vw_C) (tys : List (ClassId × FieldType)) (w : va_W) (av : List Value) : Array Value → State → Prop := va_Pc av (fun U => va_P D cl w U.heap ∧ va_K D cl tys U ∧ va_D (fun _ => True) w ∧ exE (inW w) U U.heap)
section PXes
variable {D : va_G} {cl : List vw_C} {tys : List (ClassId × FieldType)} {w : va_W} {av As : List Value} {s : State} {H : Heap} {A B : Nat → Prop}
theorem PXe_blind : FrameBlind (PXe D cl tys w av) := fun a U g mk q => ⟨q.1, q.2.1, va_K.moved (u := U) (U := U.calling g mk a) (Vm.Alike.refl U.vm) q.2.2.1, q.2.2.2.1, exE_warm (s := U) (U := U.calling g mk a) q.2.2.2.2 (State.WarmedH.refl U) (fun _ _ _ => rfl) (fun _ h => h)⟩
theorem PXe_pre (hP : va_P D cl w H) (hK : va_K D cl tys s) (hD : va_D A w) (hE : exE B s s.heap) (hq : ∀ a : Nat, a < s.heap.size → ¬ B a → H[a]? = s.heap[a]?) (hAB : ∀ q, inW w q → B q) : ∀ U : State, U.heap = H → s.WarmedH U.vm → PXe D cl tys w av av.toArray U := fun U hU hW => ⟨rfl, by rw [hU]; exact hP, va_K.moved hW.alike hK, hD.weaken (fun _ _ _ _ => trivial), by rw [hU]; exact exE_warm hE hW hq hAB⟩
theorem PXe_V {b q0 ci : Nat} {q : vw_C} {fs : List Value} (hP : va_P D cl w H) (hK : va_K D cl tys s) (hD : va_D A w) (hE : exE B s s.heap) (hq : ∀ a : Nat, a < s.heap.size → ¬ B a → H[a]? = s.heap[a]?) (hAB : ∀ q, inW w q → B q) (hc : cl[ci]? = some q) (he : w[q0]? = some (b, .inr (ci, fs))) : PreV s H q.1 b (PXe D cl tys w (.ref b :: As)) As := ⟨PXe_blind, va_recv hK hP hc he, PXe_pre hP hK hD hE hq hAB⟩
theorem PXe_S (hP : va_P D cl w H) (hK : va_K D cl tys s) (hD : va_D A w) (hE : exE B s s.heap) (hq : ∀ a : Nat, a < s.heap.size → ¬ B a → H[a]? = s.heap[a]?) (hAB : ∀ q, inW w q → B q) : PreS s H (PXe D cl tys w As) As := ⟨PXe_blind, PXe_pre hP hK hD hE hq hAB⟩
end PXes
theorem hat_34 {A : Nat → Prop} {s : State} {H : Heap} {args : Array Value} (hE : exE A s H) (hw : ∀ w ∈ wAll, w.before args s = true) : ∀ w ∈ vx_atS RX0 34 eIA eN, w.before args s = true :=
  vx_hat (L := vx_atS RX0 34 eIA eN) (B := [.castable eIA eIA, .declares ⟨"java/lang/RuntimeException", "<init>", iSt⟩, .declares ⟨"java/lang/Exception", "<init>", iSt⟩, .declares ⟨"java/lang/Throwable", "<init>", iSt⟩]) (fun w h => hw w (wx_34 w h)) (by decide +kernel)
    (vx_c (va_Nw.use rfl (hE.2.1 eIA (by simp))) (vx_c (va_Nw.use rfl (hE.2.2.1 _ (by simp))) (vx_c (va_Nw.use rfl (hE.2.2.1 _ (by simp))) (vx_c (va_Nw.use rfl (hE.2.2.1 _ (by simp))) vx_n))))
theorem hat_49 {A : Nat → Prop} {s : State} {H : Heap} {args : Array Value} (hE : exE A s H) (hw : ∀ w ∈ wAll, w.before args s = true) : ∀ w ∈ vx_atS RX0 49 eIS eN, w.before args s = true :=
  vx_hat (L := vx_atS RX0 49 eIS eN) (B := [.castable eIS eIS, .declares ⟨"java/lang/RuntimeException", "<init>", iSt⟩, .declares ⟨"java/lang/Exception", "<init>", iSt⟩, .declares ⟨"java/lang/Throwable", "<init>", iSt⟩]) (fun w h => hw w (wx_49 w h)) (by decide +kernel)
    (vx_c (va_Nw.use rfl (hE.2.1 eIS (by simp))) (vx_c (va_Nw.use rfl (hE.2.2.1 _ (by simp))) (vx_c (va_Nw.use rfl (hE.2.2.1 _ (by simp))) (vx_c (va_Nw.use rfl (hE.2.2.1 _ (by simp))) vx_n))))
theorem hat_123 {A : Nat → Prop} {s : State} {H : Heap} {args : Array Value} (hE : exE A s H) (hw : ∀ w ∈ wAll, w.before args s = true) : ∀ w ∈ vx_atS RX0 123 eIX eN, w.before args s = true :=
  vx_hat (L := vx_atS RX0 123 eIX eN) (B := [.castable eIX eIX, .declares ⟨"java/lang/RuntimeException", "<init>", iSt⟩, .declares ⟨"java/lang/Exception", "<init>", iSt⟩, .declares ⟨"java/lang/Throwable", "<init>", iSt⟩]) (fun w h => hw w (wx_123 w h)) (by decide +kernel)
    (vx_c (va_Nw.use rfl (hE.2.1 eIX (by simp))) (vx_c (va_Nw.use rfl (hE.2.2.1 _ (by simp))) (vx_c (va_Nw.use rfl (hE.2.2.1 _ (by simp))) (vx_c (va_Nw.use rfl (hE.2.2.1 _ (by simp))) vx_n))))
section VCs
variable {p : Program} {l : Launch} {e : Env} {R : Room} {s : State} {m : MethodId} {args : Array Value} {below : List Frame} {meth : Method} {c : Code} {H : Heap} {locs : List Loc} {cells slots : Nat} {Q : State → Prop}
variable {pc : Nat} {ls : Array Slot} {rest st0 : List Value} {a : Array Value} {A0 : Nat → Prop} {H0 : Heap} {mc ms : Nat} {D : va_G} {cl : List vw_C} {w : va_W} {S : Type} {w' : S → va_W} {PE : String → Prop}
/-- a check that throws or says Pv -/
theorem vc_v {Pv : Prop} (hr : vx_Run p l e R s m args below meth c H locs cells slots mc ms (F0 m pc ls st0) rest (va_Qv (fun (_ : Unit) => Pv) (fun _ _ => True) nF a) (xcE PE) nF) (hS : va_S A0 H0 H locs) (hP : va_P D cl w H)
    (kx : ∀ (E : String) (ce : Cell) (q9 : Addr) (H1 : Heap) (locs1 : List Loc), PE E → va_S A0 H0 H1 locs1 → H1[q9]? = some ce → ce.vm = .none → s.vm.findClass E = some ce.cls → vx_W p l e R s m args below meth c H1 locs1 (cells + mc) (slots + ms) Q (F0 m pc ls rest) q9)
    (kk : ∀ (H1 : Heap) (locs1 : List Loc), Pv → va_P D cl w H1 → va_S A0 H0 H1 locs1 → W p l e R s m args below meth c H1 locs1 (cells + mc) (slots + ms) Q (F0 m (pc + 3) ls rest)) : W p l e R s m args below meth c H locs cells slots Q (F0 m pc ls st0) :=
  vx_callv hr hS (fun q _ h => h.elim) (fun q h => h.elim) (fun q _ h => h.elim)
    (fun E ce q9 u t H1 locs1 ht hvm hpx hB hz hk hS1 h1 h2 h3 => kx E ce q9 H1 locs1 hB hS1 h1 h2 h3)
    (fun u t H1 locs1 ht hvm hp hB hz hk hS1 => kk H1 locs1 hp (hP.kept (fun k q hq => hk q.1 (hP k q hq).lt (fun h => h))) hS1)
/-- calls of methods that change their world, or throw and change nothing -/
theorem vw_i {post : Int32 → S → Prop} (hr : vx_Run p l e R s m args below meth c H locs cells slots mc ms (F0 m pc ls st0) rest (va_Qi post (fun u t => va_P D cl (w' u) t.heap) (inW w) a) (xcE PE) (inW w)) (hS : va_S A0 H0 H locs) (hA : ∀ q, inW w q → A0 q)
    (kx : ∀ (E : String) (ce : Cell) (q9 : Addr) (H1 : Heap) (locs1 : List Loc), PE E → va_S A0 H0 H1 locs1 → (∀ q : Nat, q < H.size → H1[q]? = H[q]?) → H1[q9]? = some ce → ce.vm = .none → s.vm.findClass E = some ce.cls → vx_W p l e R s m args below meth c H1 locs1 (cells + mc) (slots + ms) Q (F0 m pc ls rest) q9)
    (kk : ∀ (r : Int32) (u : S) (H1 : Heap) (locs1 : List Loc), post r u → va_P D cl (w' u) H1 → va_S A0 H0 H1 locs1 → (∀ q : Nat, q < H.size → ¬ inW w q → H1[q]? = H[q]?) → W p l e R s m args below meth c H1 locs1 (cells + mc) (slots + ms) Q (F0 m (pc + 3) ls (.int r :: rest))) : W p l e R s m args below meth c H locs cells slots Q (F0 m pc ls st0) :=
  vx_calli hr hS (fun q _ h => hA q h) hA (fun q _ h => h.elim)
    (fun E ce q9 u t H1 locs1 ht hvm hpx hB hz hk hS1 h1 h2 h3 => kx E ce q9 H1 locs1 hB hS1 (fun q hq => hk q hq (fun h => h)) h1 h2 h3)
    (fun r u t H1 locs1 ht hvm hp hB hz hk hS1 => kk r u H1 locs1 hp (by rw [← ht]; exact hB) hS1 hk)
theorem vw_l {post : Int64 → S → Prop} (hr : vx_Run p l e R s m args below meth c H locs cells slots mc ms (F0 m pc ls st0) rest (va_Ql post (fun u t => va_P D cl (w' u) t.heap) (inW w) a) (xcE PE) (inW w)) (hS : va_S A0 H0 H locs) (hA : ∀ q, inW w q → A0 q)
    (kx : ∀ (E : String) (ce : Cell) (q9 : Addr) (H1 : Heap) (locs1 : List Loc), PE E → va_S A0 H0 H1 locs1 → (∀ q : Nat, q < H.size → H1[q]? = H[q]?) → H1[q9]? = some ce → ce.vm = .none → s.vm.findClass E = some ce.cls → vx_W p l e R s m args below meth c H1 locs1 (cells + mc) (slots + ms) Q (F0 m pc ls rest) q9)
    (kk : ∀ (r : Int64) (u : S) (H1 : Heap) (locs1 : List Loc), post r u → va_P D cl (w' u) H1 → va_S A0 H0 H1 locs1 → (∀ q : Nat, q < H.size → ¬ inW w q → H1[q]? = H[q]?) → W p l e R s m args below meth c H1 locs1 (cells + mc) (slots + ms) Q (F0 m (pc + 3) ls (.long r :: rest))) : W p l e R s m args below meth c H locs cells slots Q (F0 m pc ls st0) :=
  vx_calll hr hS (fun q _ h => hA q h) hA (fun q _ h => h.elim)
    (fun E ce q9 u t H1 locs1 ht hvm hpx hB hz hk hS1 h1 h2 h3 => kx E ce q9 H1 locs1 hB hS1 (fun q hq => hk q hq (fun h => h)) h1 h2 h3)
    (fun r u t H1 locs1 ht hvm hp hB hz hk hS1 => kk r u H1 locs1 hp (by rw [← ht]; exact hB) hS1 hk)
theorem vw_v {post : S → Prop} (hr : vx_Run p l e R s m args below meth c H locs cells slots mc ms (F0 m pc ls st0) rest (va_Qv post (fun u t => va_P D cl (w' u) t.heap) (inW w) a) (xcE PE) (inW w)) (hS : va_S A0 H0 H locs) (hA : ∀ q, inW w q → A0 q)
    (kx : ∀ (E : String) (ce : Cell) (q9 : Addr) (H1 : Heap) (locs1 : List Loc), PE E → va_S A0 H0 H1 locs1 → (∀ q : Nat, q < H.size → H1[q]? = H[q]?) → H1[q9]? = some ce → ce.vm = .none → s.vm.findClass E = some ce.cls → vx_W p l e R s m args below meth c H1 locs1 (cells + mc) (slots + ms) Q (F0 m pc ls rest) q9)
    (kk : ∀ (u : S) (H1 : Heap) (locs1 : List Loc), post u → va_P D cl (w' u) H1 → va_S A0 H0 H1 locs1 → (∀ q : Nat, q < H.size → ¬ inW w q → H1[q]? = H[q]?) → W p l e R s m args below meth c H1 locs1 (cells + mc) (slots + ms) Q (F0 m (pc + 3) ls rest)) : W p l e R s m args below meth c H locs cells slots Q (F0 m pc ls st0) :=
  vx_callv hr hS (fun q _ h => hA q h) hA (fun q _ h => h.elim)
    (fun E ce q9 u t H1 locs1 ht hvm hpx hB hz hk hS1 h1 h2 h3 => kx E ce q9 H1 locs1 hB hS1 (fun q hq => hk q hq (fun h => h)) h1 h2 h3)
    (fun u t H1 locs1 ht hvm hp hB hz hk hS1 => kk u H1 locs1 hp (by rw [← ht]; exact hB) hS1 hk)
end VCs
theorem vS_up {A : Nat → Prop} {H0 H : Heap} {locs : List Loc} (h : va_S nF H0 H locs) : va_S A H0 H locs := ⟨h.1, fun q h1 _ => h.2.1 q h1 (fun z => z), fun l hl => (h.2.2 l hl).elim⟩
end
section
/-! the class's arrays in one; a dump's own volumes -/
abbrev XU : Type := (Nat → Int) × (Nat → Int) × (Nat → Int) × (Nat → Int64) × (Nat → Int)
abbrev wXu (ad : Nat → Nat) (ca : Nat → ClassId) (u : XU) (n r : Int) (x : Int64) : va_W := wX ad ca u.1 u.2.1 u.2.2.1 u.2.2.2.1 u.2.2.2.2 n r x
abbrev tXu (n : Nat) (L S : Nat → Nat) (r : Nat) (lo : Nat → Bool) (u : XU) (x : Int64) : Prop := tX n L S r lo u.1 u.2.1 u.2.2.1 u.2.2.2.1 u.2.2.2.2 x
theorem onV_push {n b r v : Nat} {S : Nat → Nat} : onV (uN S n b) r n v = (decide (sm S n / r ≤ v) && decide (v ≤ (sm S n + b - 1) / r)) := by
  unfold onV
  rw [sm_old (Nat.le_refl n), uN_s]
end
section
/-! the class: checks, clear, append -/
set_option maxHeartbeats 4000000 in
set_option maxRecDepth 100000 in
theorem m_checkDump (l : Launch) (hl9 : l.stackTraces = false) (dC : Nat → ClassId) (dI : Nat → Nat → Nat) (ad : Nat → Nat) (ca : Nat → ClassId) (gL gB gD : Nat → Int) (gN : Nat → Int64) (gS : Nat → Int) (n r : Nat) (x : Int64) (q : Int) (hq : iR q) (hn : n ≤ 300) : vx_Met l yX0_checkDump wsX0_checkDump { frames := 6, cells := 1, slots := 6, locals := 82 } (PXe (dC, dI) vwCl (yX ca) (wX ad ca gL gB gD gN gS ((n : Int)) ((r : Int)) x) [.ref (ad 0), .int (iI q)]) (va_Qv (fun (_ : Unit) => 0 ≤ q ∧ q < (n : Int)) (fun _ _ => True) nF) (xcE (fun E => E = eIX ∧ (q < 0 ∨ (n : Int) ≤ q))) 1 6 nF := by
  refine vx_ofW (cc := cX0_checkDump) (maxL := 2) (ret := none) (by decide) rfl ?_
  intro p e s m args below meth c s₁ B hml hEx hv
  obtain ⟨rfl, hP, hK, hD0, hE⟩ := hv
  have hx := B.exec
  have hb := B.bytes
  have hr := B.returns
  have hts := atoms_spec (ws := wsX0_checkDump) B.pre
  have hown : s.vm.findClass RX0 = some m.cls := findClass_of_methodNamed B.named
  have hlocks := B.notSynchronized
  have hw := fun w h => hts w (List.mem_cons_of_mem _ h)
  have hinTX0 : ∀ w ∈ u_ws RX0 TX0 8, w ∈ wsX0_checkDump := wA_u wuX0
  have fl41 := hw _ wfX0_41
  have hD := hD0
  obtain ⟨H, hH⟩ : ∃ H, H = s.heap := ⟨_, rfl⟩
  obtain ⟨locs, hlc⟩ : ∃ L : List Loc, L = [] := ⟨_, rfl⟩
  have hS : va_S nF s.heap H locs := by rw [hH, hlc]; exact va_S.rf
  rw [← hH] at hP ⊢
  rw [← hlc]
  have hl := lv_entry ([.ref (ad 0), .int (iI q)]) (n := 2) (Nat.le_of_ble_eq_true rfl)
  rw [lg_entry_eq]
  generalize (lg_sl ([.ref (ad 0), .int (iI q)]) ++ List.replicate (2 - (lg_sl ([.ref (ad 0), .int (iI q)])).length) Slot.unset).toArray = ls at hl ⊢
  have hl : lv_has ls 2 [(0, .ref (ad 0)), (1, .int (iI q))] := hl
  refine lv_iload_n hx hb dX0_checkDump_0 rfl (lv_at hl 1 rfl) ?_
  refine r_if_lt hx hb dX0_checkDump_1 (tgt := 12) (by decide) (by omega) (fun hlt => ?_) (fun hge => ?_)
  · obtain ⟨sa, hsa⟩ := hE.2.2.2.1 (121, "there is no such dump") (List.mem_of_getElem? (i := 6) rfl)
    exact vx_throwS (own := RX0) (cls := eIX) (names := eN) hx hb hl9 hown (by decide +kernel) (by decide +kernel) (hw _ wkX0_119) (hw _ wi_8) hsa (hat_123 hE hw) (by decide +kernel) (exE_none hE).1.1 (exE_none hE).1.2 hS (hl.1.trans hml.symm) dX0_checkDump_12 dX0_checkDump_15 dX0_checkDump_16 dX0_checkDump_18 dX0_checkDump_21 (fun x hx => (hEx x hx).elim) (Nat.le_of_ble_eq_true rfl) (Nat.le_of_ble_eq_true rfl) (Nat.le_of_ble_eq_true rfl) (Nat.le_of_ble_eq_true rfl) hlocks (fun t ha hsz hk => ⟨(), trivial, ⟨rfl, Or.inl hlt⟩, Nat.le_trans hS.1 hsz, fun q h1 h2 => (hk q (Nat.lt_of_lt_of_le h1 hS.1)).trans (hS.2.1 q h1 h2)⟩) (fun z hz => (hS.2.2 z hz).elim) (by decide) (by decide)
  · refine lv_iload_n hx hb dX0_checkDump_4 rfl (lv_at hl 1 rfl) ?_
    refine lv_aload_n hx hb dX0_checkDump_5 rfl (lv_at hl 0 rfl) ?_
    refine va_get (D := (dC, dI)) (ci := 0) (v := .int (iI ((n : Int)))) (C := RX0) (T := TX0) (N := 8) hx hb hts hinTX0 hown hK hP 0 rfl rfl 5 (by decide) fl41 (fun _ h9 => h9) rfl dX0_checkDump_6 ?_
    refine r_icmp_lt hx hb dX0_checkDump_9 (tgt := 22) (by decide) (by omega) (by omega) (fun hin => ?_) (fun hout => ?_)
    · refine vx_ret ?_
      refine W.widen (k := 1) (n := 6) (by decide) (by decide) ?_
      exact W.vret hx hb hr (fun t ht hW => ⟨⟨(), rfl, ⟨hge, hin⟩, trivial⟩, hS.F ht⟩) hS.2.2 dX0_checkDump_22
    · obtain ⟨sa, hsa⟩ := hE.2.2.2.1 (121, "there is no such dump") (List.mem_of_getElem? (i := 6) rfl)
      exact vx_throwS (own := RX0) (cls := eIX) (names := eN) hx hb hl9 hown (by decide +kernel) (by decide +kernel) (hw _ wkX0_119) (hw _ wi_8) hsa (hat_123 hE hw) (by decide +kernel) (exE_none hE).1.1 (exE_none hE).1.2 hS (hl.1.trans hml.symm) dX0_checkDump_12 dX0_checkDump_15 dX0_checkDump_16 dX0_checkDump_18 dX0_checkDump_21 (fun x hx => (hEx x hx).elim) (Nat.le_of_ble_eq_true rfl) (Nat.le_of_ble_eq_true rfl) (Nat.le_of_ble_eq_true rfl) (Nat.le_of_ble_eq_true rfl) hlocks (fun t ha hsz hk => ⟨(), trivial, ⟨rfl, Or.inr hout⟩, Nat.le_trans hS.1 hsz, fun q h1 h2 => (hk q (Nat.lt_of_lt_of_le h1 hS.1)).trans (hS.2.1 q h1 h2)⟩) (fun z hz => (hS.2.2 z hz).elim) (by decide) (by decide)
set_option maxHeartbeats 4000000 in
set_option maxRecDepth 100000 in
theorem m_checkVolume (l : Launch) (hl9 : l.stackTraces = false) (dC : Nat → ClassId) (dI : Nat → Nat → Nat) (ad : Nat → Nat) (ca : Nat → ClassId) (gL gB gD : Nat → Int) (gN : Nat → Int64) (gS : Nat → Int) (n r : Nat) (x : Int64) (q : Int) (hq : iR q) : vx_Met l yX0_checkVolume wsX0_checkVolume { frames := 6, cells := 1, slots := 6, locals := 82 } (PXe (dC, dI) vwCl (yX ca) (wX ad ca gL gB gD gN gS ((n : Int)) ((r : Int)) x) [.ref (ad 0), .int (iI q)]) (va_Qv (fun (_ : Unit) => 0 ≤ q ∧ q < 64) (fun _ _ => True) nF) (xcE (fun E => E = eIA ∧ (q < 0 ∨ 64 ≤ q))) 1 6 nF := by
  refine vx_ofW (cc := cX0_checkVolume) (maxL := 2) (ret := none) (by decide) rfl ?_
  intro p e s m args below meth c s₁ B hml hEx hv
  obtain ⟨rfl, hP, hK, hD0, hE⟩ := hv
  have hx := B.exec
  have hb := B.bytes
  have hr := B.returns
  have hts := atoms_spec (ws := wsX0_checkVolume) B.pre
  have hown : s.vm.findClass RX0 = some m.cls := findClass_of_methodNamed B.named
  have hlocks := B.notSynchronized
  have hw := fun w h => hts w (List.mem_cons_of_mem _ h)
  have hinTX0 : ∀ w ∈ u_ws RX0 TX0 8, w ∈ wsX0_checkVolume := wA_u wuX0
  have hD := hD0
  obtain ⟨H, hH⟩ : ∃ H, H = s.heap := ⟨_, rfl⟩
  obtain ⟨locs, hlc⟩ : ∃ L : List Loc, L = [] := ⟨_, rfl⟩
  have hS : va_S nF s.heap H locs := by rw [hH, hlc]; exact va_S.rf
  rw [← hH] at hP ⊢
  rw [← hlc]
  have hl := lv_entry ([.ref (ad 0), .int (iI q)]) (n := 2) (Nat.le_of_ble_eq_true rfl)
  rw [lg_entry_eq]
  generalize (lg_sl ([.ref (ad 0), .int (iI q)]) ++ List.replicate (2 - (lg_sl ([.ref (ad 0), .int (iI q)])).length) Slot.unset).toArray = ls at hl ⊢
  have hl : lv_has ls 2 [(0, .ref (ad 0)), (1, .int (iI q))] := hl
  refine lv_iload_n hx hb dX0_checkVolume_0 rfl (lv_at hl 1 rfl) ?_
  refine r_if_lt hx hb dX0_checkVolume_1 (tgt := 10) (by decide) (by omega) (fun hlt => ?_) (fun hge => ?_)
  · obtain ⟨sa, hsa⟩ := hE.2.2.2.1 (124, "there is no such volume") (List.mem_of_getElem? (i := 9) rfl)
    exact vx_throwS (own := RX0) (cls := eIA) (names := eN) hx hb hl9 hown (by decide +kernel) (by decide +kernel) (hw _ wkX0_30) (hw _ wi_6) hsa (hat_34 hE hw) (by decide +kernel) (exE_none hE).1.1 (exE_none hE).1.2 hS (hl.1.trans hml.symm) dX0_checkVolume_10 dX0_checkVolume_13 dX0_checkVolume_14 dX0_checkVolume_16 dX0_checkVolume_19 (fun x hx => (hEx x hx).elim) (Nat.le_of_ble_eq_true rfl) (Nat.le_of_ble_eq_true rfl) (Nat.le_of_ble_eq_true rfl) (Nat.le_of_ble_eq_true rfl) hlocks (fun t ha hsz hk => ⟨(), trivial, ⟨rfl, Or.inl hlt⟩, Nat.le_trans hS.1 hsz, fun q h1 h2 => (hk q (Nat.lt_of_lt_of_le h1 hS.1)).trans (hS.2.1 q h1 h2)⟩) (fun z hz => (hS.2.2 z hz).elim) (by decide) (by decide)
  · refine lv_iload_n hx hb dX0_checkVolume_4 rfl (lv_at hl 1 rfl) ?_
    refine r_bipush hx hb dX0_checkVolume_5 (by decide +kernel) ?_
    refine r_icmp_lt hx hb dX0_checkVolume_7 (tgt := 20) (by decide) (by omega) (by omega) (fun hin => ?_) (fun hout => ?_)
    · refine vx_ret ?_
      refine W.widen (k := 1) (n := 6) (by decide) (by decide) ?_
      exact W.vret hx hb hr (fun t ht hW => ⟨⟨(), rfl, ⟨hge, hin⟩, trivial⟩, hS.F ht⟩) hS.2.2 dX0_checkVolume_20
    · obtain ⟨sa, hsa⟩ := hE.2.2.2.1 (124, "there is no such volume") (List.mem_of_getElem? (i := 9) rfl)
      exact vx_throwS (own := RX0) (cls := eIA) (names := eN) hx hb hl9 hown (by decide +kernel) (by decide +kernel) (hw _ wkX0_30) (hw _ wi_6) hsa (hat_34 hE hw) (by decide +kernel) (exE_none hE).1.1 (exE_none hE).1.2 hS (hl.1.trans hml.symm) dX0_checkVolume_10 dX0_checkVolume_13 dX0_checkVolume_14 dX0_checkVolume_16 dX0_checkVolume_19 (fun x hx => (hEx x hx).elim) (Nat.le_of_ble_eq_true rfl) (Nat.le_of_ble_eq_true rfl) (Nat.le_of_ble_eq_true rfl) (Nat.le_of_ble_eq_true rfl) hlocks (fun t ha hsz hk => ⟨(), trivial, ⟨rfl, Or.inr hout⟩, Nat.le_trans hS.1 hsz, fun q h1 h2 => (hk q (Nat.lt_of_lt_of_le h1 hS.1)).trans (hS.2.1 q h1 h2)⟩) (fun z hz => (hS.2.2 z hz).elim) (by decide) (by decide)
set_option maxHeartbeats 4000000 in
set_option maxRecDepth 100000 in
theorem m_clear (l : Launch) (dC : Nat → ClassId) (dI : Nat → Nat → Nat) (ad : Nat → Nat) (ca : Nat → ClassId) (gL gB gD : Nat → Int) (gN : Nat → Int64) (gS : Nat → Int) (n r : Int) (x : Int64) (b : Int) : Met l yX0_clear wsX0_clear { frames := 0, cells := 0, slots := 0, locals := 0 } (PX (dC, dI) vwCl (yX ca) (wX ad ca gL gB gD gN gS n r x) [.ref (ad 0), .int (iI b)]) (va_Qv (fun (_ : Unit) => True) (fun _ t => va_P (dC, dI) vwCl (wX ad ca gL gB gD gN gS 0 (b - 1) 0) t.heap) (inW (wX ad ca gL gB gD gN gS n r x))) 0 0 (inW (wX ad ca gL gB gD gN gS n r x)) := by
  refine Met.ofW (cc := cX0_clear) (maxL := 2) (ret := none) (by decide) rfl ?_
  intro p e s m args below meth c s₁ B hml hv
  obtain ⟨rfl, hP, hK, hD0⟩ := hv
  have hx := B.exec
  have hb := B.bytes
  have hr := B.returns
  have hts := atoms_spec (ws := wsX0_clear) B.pre
  have hown : s.vm.findClass RX0 = some m.cls := findClass_of_methodNamed B.named
  have hlocks := B.notSynchronized
  have hw := fun w h => hts w (List.mem_cons_of_mem _ h)
  have hinTX0 : ∀ w ∈ u_ws RX0 TX0 8, w ∈ wsX0_clear := wA_u wuX0
  have fl41 := hw _ wfX0_41
  have fl50 := hw _ wfX0_50
  have fl80 := hw _ wfX0_80
  have hD := wD_own hD0
  obtain ⟨A, hAe⟩ : ∃ A, A = inW (wX ad ca gL gB gD gN gS n r x) := ⟨_, rfl⟩
  rw [← hAe] at hD
  obtain ⟨H, hH⟩ : ∃ H, H = s.heap := ⟨_, rfl⟩
  obtain ⟨locs, hlc⟩ : ∃ L : List Loc, L = [] := ⟨_, rfl⟩
  have hS : va_S A s.heap H locs := by rw [hH, hlc]; exact va_S.rf
  rw [← hH] at hP ⊢
  rw [← hlc]
  have hl := lv_entry ([.ref (ad 0), .int (iI b)]) (n := 2) (Nat.le_of_ble_eq_true rfl)
  rw [lg_entry_eq]
  generalize (lg_sl ([.ref (ad 0), .int (iI b)]) ++ List.replicate (2 - (lg_sl ([.ref (ad 0), .int (iI b)])).length) Slot.unset).toArray = ls at hl ⊢
  have hl : lv_has ls 2 [(0, .ref (ad 0)), (1, .int (iI b))] := hl
  refine lv_aload_n hx hb dX0_clear_0 rfl (lv_at hl 0 rfl) ?_
  refine r_iconst hx hb dX0_clear_1 ?_
  refine va_put (D := (dC, dI)) (ci := 0) (v := .int (iI 0)) (ty := .int) (C := RX0) (T := TX0) (N := 8) hx hb hts hinTX0 tyX0 tyX0_ok nmX0 hown hK hP hD hS 0 rfl rfl 5 (by decide) fl41 (fun _ h9 => h9) rfl (by decide +kernel) rfl rfl (Nat.le_of_ble_eq_true rfl) dX0_clear_2 (fun H locs hP hD hS => ?_)
  have hP : va_P (dC, dI) vwCl (wX ad ca gL gB gD gN gS 0 r x) H := hP
  have hD : va_D A (wX ad ca gL gB gD gN gS 0 r x) := hD
  refine lv_aload_n hx hb dX0_clear_5 rfl (lv_at hl 0 rfl) ?_
  refine lv_iload_n hx hb dX0_clear_6 rfl (lv_at hl 1 rfl) ?_
  refine r_iconst hx hb dX0_clear_7 ?_
  refine r_isub hx hb dX0_clear_8 ?_
  refine va_put (D := (dC, dI)) (ci := 0) (v := .int (iI (b - 1))) (ty := .int) (C := RX0) (T := TX0) (N := 8) hx hb hts hinTX0 tyX0 tyX0_ok nmX0 hown hK hP hD hS 0 rfl rfl 6 (by decide) fl50 (fun _ h9 => h9) rfl (by decide +kernel) rfl rfl (Nat.le_of_ble_eq_true rfl) dX0_clear_9 (fun H locs hP hD hS => ?_)
  have hP : va_P (dC, dI) vwCl (wX ad ca gL gB gD gN gS 0 (b - 1) x) H := hP
  have hD : va_D A (wX ad ca gL gB gD gN gS 0 (b - 1) x) := hD
  refine lv_aload_n hx hb dX0_clear_12 rfl (lv_at hl 0 rfl) ?_
  refine lv_lconst hx hb dX0_clear_13 rfl ?_
  refine va_put (D := (dC, dI)) (ci := 0) (v := .long (Int64.ofNat 0)) (ty := .long) (C := RX0) (T := TX0) (N := 8) hx hb hts hinTX0 tyX0 tyX0_ok nmX0 hown hK hP hD hS 0 rfl rfl 7 (by decide) fl80 (fun _ h9 => h9) rfl (by decide +kernel) rfl rfl (Nat.le_of_ble_eq_true rfl) dX0_clear_14 (fun H locs hP hD hS => ?_)
  have hP : va_P (dC, dI) vwCl (wX ad ca gL gB gD gN gS 0 (b - 1) (Int64.ofNat 0)) H := hP
  have hD : va_D A (wX ad ca gL gB gD gN gS 0 (b - 1) (Int64.ofNat 0)) := hD
  subst hAe
  exact W.vret hx hb hr (fun t ht hW => ⟨⟨(), rfl, trivial, by subst ht; exact hP⟩, hS.F ht⟩) hS.2.2 dX0_clear_17
set_option maxHeartbeats 4000000 in
set_option maxRecDepth 100000 in
theorem m_append (l : Launch) (dC : Nat → ClassId) (dI : Nat → Nat → Nat) (ad : Nat → Nat) (ca : Nat → ClassId) (gL gB gD : Nat → Int) (gN : Nat → Int64) (gS : Nat → Int) (n r : Nat) (x : Int64) (L S : Nat → Nat) (lo : Nat → Bool) (hok : okS n L S r) (hT : tX n L S r lo gL gB gD gN gS x) (v b : Nat) (hv : v ≤ 9) (hn : n < 300) (h1 : 1 ≤ b) (h2 : b ≤ 500) (hs : sm S n + b ≤ 64 * r) : Met l yX0_append wsX0_append { frames := 1, cells := 0, slots := 0, locals := 22 } (PX (dC, dI) vwCl (yX ca) (wX ad ca gL gB gD gN gS ((n : Int)) ((r : Int)) x) [.ref (ad 0), .int (iI ((v : Int))), .int (iI ((b : Int)))]) (va_Qi (fun (y : Int32) (u : XU) => y = iI (n : Int) ∧ tXu (n + 1) (uN L n v) (uN S n b) r lo u x) (fun u t => va_P (dC, dI) vwCl (wXu ad ca u ((n : Int) + 1) (r : Int) x) t.heap) (inW (wX ad ca gL gB gD gN gS ((n : Int)) ((r : Int)) x))) 0 0 (inW (wX ad ca gL gB gD gN gS ((n : Int)) ((r : Int)) x)) := by
  refine Met.ofW (cc := cX0_append) (maxL := 8) (ret := (some .int)) (by decide) rfl ?_
  intro p e s m args below meth c s₁ B hml hv
  obtain ⟨rfl, hP, hK, hD0⟩ := hv
  have hx := B.exec
  have hb := B.bytes
  have hr := B.returns
  have hts := atoms_spec (ws := wsX0_append) B.pre
  have hown : s.vm.findClass RX0 = some m.cls := findClass_of_methodNamed B.named
  have hlocks := B.notSynchronized
  have hw := fun w h => hts w (List.mem_cons_of_mem _ h)
  have hinTX0 : ∀ w ∈ u_ws RX0 TX0 8, w ∈ wsX0_append := wA_u wuX0
  have fl41 := hw _ wfX0_41
  have fl23 := hw _ wfX0_23
  have fl9 := hw _ wfX0_9
  have fl13 := hw _ wfX0_13
  have fl16 := hw _ wfX0_16
  have fl19 := hw _ wfX0_19
  have hD := wD_own hD0
  obtain ⟨A, hAe⟩ : ∃ A, A = inW (wX ad ca gL gB gD gN gS ((n : Int)) ((r : Int)) x) := ⟨_, rfl⟩
  rw [← hAe] at hD
  obtain ⟨H, hH⟩ : ∃ H, H = s.heap := ⟨_, rfl⟩
  obtain ⟨locs, hlc⟩ : ∃ L : List Loc, L = [] := ⟨_, rfl⟩
  have hS : va_S A s.heap H locs := by rw [hH, hlc]; exact va_S.rf
  rw [← hH] at hP ⊢
  rw [← hlc]
  have hl := lv_entry ([.ref (ad 0), .int (iI ((v : Int))), .int (iI ((b : Int)))]) (n := 8) (Nat.le_of_ble_eq_true rfl)
  rw [lg_entry_eq]
  generalize (lg_sl ([.ref (ad 0), .int (iI ((v : Int))), .int (iI ((b : Int)))]) ++ List.replicate (8 - (lg_sl ([.ref (ad 0), .int (iI ((v : Int))), .int (iI ((b : Int)))])).length) Slot.unset).toArray = ls at hl ⊢
  have hl : lv_has ls 8 [(0, .ref (ad 0)), (1, .int (iI ((v : Int)))), (2, .int (iI ((b : Int))))] := hl
  obtain ⟨ok1, ok2, ok3, ok4, ok5⟩ := id hok
  have en : ((n : Int)).toNat = n := by omega
  have en1 : ((n : Int) + 1).toNat = n + 1 := by omega
  have t5 := hT.2.1 n (Nat.le_refl n)
  have hba := ba_le L v n
  have e1 : (sm S n : Int) / (r : Int) = ((sm S n / r : Nat) : Int) := (Int.natCast_ediv _ _).symm
  have e2 : ((sm S n : Int) + (b : Int) - 1) / (r : Int) = (((sm S n + b - 1) / r : Nat) : Int) := by
    rw [Int.natCast_ediv]
    congr 1
    omega
  have v1 : sm S n / r < 64 := vo_lt (by omega)
  have v2 : (sm S n + b - 1) / r < 64 := vo_lt (by omega)
  refine lv_aload_n hx hb dX0_append_0 rfl (lv_at hl 0 rfl) ?_
  refine va_get (D := (dC, dI)) (ci := 0) (v := .int (iI ((n : Int)))) (C := RX0) (T := TX0) (N := 8) hx hb hts hinTX0 hown hK hP 0 rfl rfl 5 (by decide) fl41 (fun _ h9 => h9) rfl dX0_append_1 ?_
  refine lv_istore_n hx hb dX0_append_4 rfl hl (by decide) rfl (fun ls hl => ?_)
  have hl : lv_has ls 8 [(3, .int (iI ((n : Int)))), (0, .ref (ad 0)), (1, .int (iI ((v : Int)))), (2, .int (iI ((b : Int))))] := hl
  refine lv_aload_n hx hb dX0_append_5 rfl (lv_at hl 1 rfl) ?_
  refine lv_iload_n hx hb dX0_append_6 rfl (lv_at hl 2 rfl) ?_
  refine ro_z (z := (ba L v n : Int) - 1) (va_runV (As := [.int (iI ((v : Int)))]) (rest := []) ⟨hx, hb, hml, hown, hts⟩ (m_latestBelow l dC dI ad ca gL gB gD gN gS n r x L v (by omega) (fun d hd => ⟨(hT.1 d hd).1, (ok4 d hd).1⟩) hv) (cwV 1 hts (gV wlX0_126 wo_X0_latestBelow wz_X0_latestBelow wi_1 wcX0_latestBelow) rfl rfl rfl (by decide +kernel) ⟨Nat.le_of_ble_eq_true rfl, Nat.le_of_ble_eq_true rfl⟩) (PX_V (q0 := 0) (ci := 0) hP hK hD rfl rfl) rfl rfl hl.1 rfl (lv_room (Nat.le_of_ble_eq_true rfl)) dX0_append_7 ⟨Nat.le_of_ble_eq_true rfl, Nat.le_of_ble_eq_true rfl⟩) hS hP (fun H locs hP hS => ?_)
  refine lv_istore hx hb dX0_append_10 hl (by decide) rfl (fun ls hl => ?_)
  have hl : lv_has ls 8 [(4, .int (iI ((ba L v n : Int) - 1))), (3, .int (iI ((n : Int)))), (0, .ref (ad 0)), (1, .int (iI ((v : Int)))), (2, .int (iI ((b : Int))))] := hl
  refine lv_aload_n hx hb dX0_append_12 rfl (lv_at hl 2 rfl) ?_
  refine va_get (D := (dC, dI)) (ci := 0) (v := .ref (ad 5)) (C := RX0) (T := TX0) (N := 8) hx hb hts hinTX0 hown hK hP 0 rfl rfl 4 (by decide) fl23 (fun _ h9 => h9) rfl dX0_append_13 ?_
  refine lv_iload_n hx hb dX0_append_16 rfl (lv_at hl 1 rfl) ?_
  refine r_iald hx hb hK hP 5 4 rfl rfl (by omega) (by omega) (by decide) dX0_append_17 ?_
  refine r_topi (b := (sm S n : Int)) (by rw [en]; exact t5) ?_
  refine lv_iload_n hx hb dX0_append_18 rfl (lv_at hl 4 rfl) ?_
  refine r_iadd hx hb dX0_append_19 ?_
  refine lv_istore hx hb dX0_append_20 hl (by decide) rfl (fun ls hl => ?_)
  have hl : lv_has ls 8 [(5, .int (iI (((sm S n : Int)) + ((b : Int))))), (4, .int (iI ((ba L v n : Int) - 1))), (3, .int (iI ((n : Int)))), (0, .ref (ad 0)), (1, .int (iI ((v : Int)))), (2, .int (iI ((b : Int))))] := hl
  refine lv_aload_n hx hb dX0_append_22 rfl (lv_at hl 3 rfl) ?_
  refine lv_aload_n hx hb dX0_append_23 rfl (lv_at hl 3 rfl) ?_
  refine va_get (D := (dC, dI)) (ci := 0) (v := .ref (ad 5)) (C := RX0) (T := TX0) (N := 8) hx hb hts hinTX0 hown hK hP 0 rfl rfl 4 (by decide) fl23 (fun _ h9 => h9) rfl dX0_append_24 ?_
  refine lv_iload_n hx hb dX0_append_27 rfl (lv_at hl 2 rfl) ?_
  refine r_iald hx hb hK hP 5 4 rfl rfl (by omega) (by omega) (by decide) dX0_append_28 ?_
  refine r_topi (b := (sm S n : Int)) (by rw [en]; exact t5) ?_
  refine ro_z (z := (sm S n : Int) / (r : Int)) (va_runV (As := [.int (iI ((sm S n : Int)))]) (rest := []) ⟨hx, hb, hml, hown, hts⟩ (m_volumeAt l dC dI ad ca gL gB gD gN gS n r x (sm S n : Int) (by omega) (by omega) ok2 ok3) (cwV 1 hts (gV wlX0_68 wo_X0_volumeAt wz_X0_volumeAt wi_1 wcX0_volumeAt) rfl rfl rfl (by decide +kernel) ⟨Nat.le_of_ble_eq_true rfl, Nat.le_of_ble_eq_true rfl⟩) (PX_V (q0 := 0) (ci := 0) hP hK hD rfl rfl) rfl rfl hl.1 rfl (lv_room (Nat.le_of_ble_eq_true rfl)) dX0_append_29 ⟨Nat.le_of_ble_eq_true rfl, Nat.le_of_ble_eq_true rfl⟩) hS hP (fun H locs hP hS => ?_)
  refine r_topi (b := ((sm S n / r : Nat) : Int)) (e1) ?_
  refine lv_aload_n hx hb dX0_append_32 rfl (lv_at hl 3 rfl) ?_
  refine lv_iload hx hb dX0_append_33 (lv_at hl 0 rfl) ?_
  refine r_iconst hx hb dX0_append_35 ?_
  refine r_isub hx hb dX0_append_36 ?_
  refine ro_z (z := ((sm S n : Int) + (b : Int) - 1) / (r : Int)) (va_runV (As := [.int (iI ((((sm S n : Int)) + ((b : Int))) - 1))]) (rest := [.int (iI (((sm S n / r : Nat) : Int)))]) ⟨hx, hb, hml, hown, hts⟩ (m_volumeAt l dC dI ad ca gL gB gD gN gS n r x ((sm S n : Int) + (b : Int) - 1) (by omega) (by omega) ok2 ok3) (cwV 1 hts (gV wlX0_68 wo_X0_volumeAt wz_X0_volumeAt wi_1 wcX0_volumeAt) rfl rfl rfl (by decide +kernel) ⟨Nat.le_of_ble_eq_true rfl, Nat.le_of_ble_eq_true rfl⟩) (PX_V (q0 := 0) (ci := 0) hP hK hD rfl rfl) rfl rfl hl.1 rfl (lv_room (Nat.le_of_ble_eq_true rfl)) dX0_append_37 ⟨Nat.le_of_ble_eq_true rfl, Nat.le_of_ble_eq_true rfl⟩) hS hP (fun H locs hP hS => ?_)
  refine r_topi (b := (((sm S n + b - 1) / r : Nat) : Int)) (e2) ?_
  refine ro_l (va_runS (As := [.int (iI (((sm S n / r : Nat) : Int))), .int (iI ((((sm S n + b - 1) / r : Nat) : Int)))]) (rest := []) ⟨hx, hb, hml, hown, hts⟩ (m_bitsFromTo l dC dI (sm S n / r) ((sm S n + b - 1) / r) v1 v2) (va_cwS 2 hts (gSt wlX0_96 wt_X0_bitsFromTo wi_1 wcX0_bitsFromTo) rfl rfl rfl (by decide +kernel) ⟨Nat.le_of_ble_eq_true rfl, Nat.le_of_ble_eq_true rfl⟩) (PX_S0 hK) rfl rfl hl.1 rfl (lv_room (Nat.le_of_ble_eq_true rfl)) dX0_append_40 ⟨Nat.le_of_ble_eq_true rfl, Nat.le_of_ble_eq_true rfl⟩) hS hP (fun own H locs hown9 hP hS => ?_)
  refine lv_lstore hx hb dX0_append_43 hl (by decide) rfl (fun ls hl => ?_)
  have hl : lv_has ls 8 [(6, .long own), (5, .int (iI (((sm S n : Int)) + ((b : Int))))), (4, .int (iI ((ba L v n : Int) - 1))), (3, .int (iI ((n : Int)))), (0, .ref (ad 0)), (1, .int (iI ((v : Int)))), (2, .int (iI ((b : Int))))] := hl
  refine lv_aload_n hx hb dX0_append_45 rfl (lv_at hl 4 rfl) ?_
  refine va_get (D := (dC, dI)) (ci := 0) (v := .ref (ad 1)) (C := RX0) (T := TX0) (N := 8) hx hb hts hinTX0 hown hK hP 0 rfl rfl 0 (by decide) fl9 (fun _ h9 => h9) rfl dX0_append_46 ?_
  refine lv_iload_n hx hb dX0_append_49 rfl (lv_at hl 3 rfl) ?_
  refine lv_iload_n hx hb dX0_append_50 rfl (lv_at hl 5 rfl) ?_
  refine r_iast hx hb hK hP hD hS 1 0 rfl rfl (by omega) (by omega) (by decide) dX0_append_51 (fun H locs hP hD hS => ?_)
  have hP : va_P (dC, dI) vwCl (wX ad ca (uZ gL ((n : Int)).toNat ((v : Int))) gB gD gN gS ((n : Int)) ((r : Int)) x) H := hP
  have hD : va_D A (wX ad ca (uZ gL ((n : Int)).toNat ((v : Int))) gB gD gN gS ((n : Int)) ((r : Int)) x) := hD
  refine lv_aload_n hx hb dX0_append_52 rfl (lv_at hl 4 rfl) ?_
  refine va_get (D := (dC, dI)) (ci := 0) (v := .ref (ad 2)) (C := RX0) (T := TX0) (N := 8) hx hb hts hinTX0 hown hK hP 0 rfl rfl 1 (by decide) fl13 (fun _ h9 => h9) rfl dX0_append_53 ?_
  refine lv_iload_n hx hb dX0_append_56 rfl (lv_at hl 3 rfl) ?_
  refine lv_iload hx hb dX0_append_57 (lv_at hl 2 rfl) ?_
  refine r_iast hx hb hK hP hD hS 2 1 rfl rfl (by omega) (by omega) (by decide) dX0_append_59 (fun H locs hP hD hS => ?_)
  have hP : va_P (dC, dI) vwCl (wX ad ca (uZ gL ((n : Int)).toNat ((v : Int))) (uZ gB ((n : Int)).toNat ((ba L v n : Int) - 1)) gD gN gS ((n : Int)) ((r : Int)) x) H := hP
  have hD : va_D A (wX ad ca (uZ gL ((n : Int)).toNat ((v : Int))) (uZ gB ((n : Int)).toNat ((ba L v n : Int) - 1)) gD gN gS ((n : Int)) ((r : Int)) x) := hD
  refine lv_aload_n hx hb dX0_append_60 rfl (lv_at hl 4 rfl) ?_
  refine va_get (D := (dC, dI)) (ci := 0) (v := .ref (ad 3)) (C := RX0) (T := TX0) (N := 8) hx hb hts hinTX0 hown hK hP 0 rfl rfl 2 (by decide) fl16 (fun _ h9 => h9) rfl dX0_append_61 ?_
  refine lv_iload_n hx hb dX0_append_64 rfl (lv_at hl 3 rfl) ?_
  refine lv_iload hx hb dX0_append_65 (lv_at hl 2 rfl) ?_
  refine r_iconst hx hb dX0_append_67 ?_
  refine r_icmp_ne hx hb dX0_append_68 (tgt := 75) (by decide) (by omega) (by omega) (fun hne => ?_) (fun heq => ?_)
  · obtain ⟨j, hj⟩ : ∃ j, ba L v n = j + 1 := ⟨ba L v n - 1, by omega⟩
    have ej : ((ba L v n : Int) - 1).toNat = j := by omega
    obtain ⟨-, -, t3, t4⟩ := hT.1 j (by omega)
    have hdp := dp_le L (j + 1) (j + 1) (Nat.le_refl _)
    refine lv_aload_n hx hb dX0_append_75 rfl (lv_at hl 4 rfl) ?_
    refine va_get (D := (dC, dI)) (ci := 0) (v := .ref (ad 3)) (C := RX0) (T := TX0) (N := 8) hx hb hts hinTX0 hown hK hP 0 rfl rfl 2 (by decide) fl16 (fun _ h9 => h9) rfl dX0_append_76 ?_
    refine lv_iload hx hb dX0_append_79 (lv_at hl 2 rfl) ?_
    refine r_iald hx hb hK hP 3 2 rfl rfl (by omega) (by omega) (by decide) dX0_append_81 ?_
    refine r_topi (b := (dp L (j + 1) : Int)) (by rw [ej]; exact t3) ?_
    refine r_iconst hx hb dX0_append_82 ?_
    refine r_iadd hx hb dX0_append_83 ?_
    refine r_iast hx hb hK hP hD hS 3 2 rfl rfl (by omega) (by omega) (by decide) dX0_append_84 (fun H locs hP hD hS => ?_)
    have hP : va_P (dC, dI) vwCl (wX ad ca (uZ gL ((n : Int)).toNat ((v : Int))) (uZ gB ((n : Int)).toNat ((ba L v n : Int) - 1)) (uZ gD ((n : Int)).toNat (((dp L (j + 1) : Int)) + 1)) gN gS ((n : Int)) ((r : Int)) x) H := hP
    have hD : va_D A (wX ad ca (uZ gL ((n : Int)).toNat ((v : Int))) (uZ gB ((n : Int)).toNat ((ba L v n : Int) - 1)) (uZ gD ((n : Int)).toNat (((dp L (j + 1) : Int)) + 1)) gN gS ((n : Int)) ((r : Int)) x) := hD
    refine lv_aload_n hx hb dX0_append_85 rfl (lv_at hl 4 rfl) ?_
    refine va_get (D := (dC, dI)) (ci := 0) (v := .ref (ad 4)) (C := RX0) (T := TX0) (N := 8) hx hb hts hinTX0 hown hK hP 0 rfl rfl 3 (by decide) fl19 (fun _ h9 => h9) rfl dX0_append_86 ?_
    refine lv_iload_n hx hb dX0_append_89 rfl (lv_at hl 3 rfl) ?_
    refine lv_iload hx hb dX0_append_90 (lv_at hl 2 rfl) ?_
    refine r_iconst hx hb dX0_append_92 ?_
    refine r_icmp_ne hx hb dX0_append_93 (tgt := 101) (by decide) (by omega) (by omega) (fun hne2 => ?_) (fun heq2 => ?_)
    · refine lv_lload hx hb dX0_append_101 (lv_at hl 0 rfl) ?_
      refine lv_aload_n hx hb dX0_append_103 rfl (lv_at hl 4 rfl) ?_
      refine va_get (D := (dC, dI)) (ci := 0) (v := .ref (ad 4)) (C := RX0) (T := TX0) (N := 8) hx hb hts hinTX0 hown hK hP 0 rfl rfl 3 (by decide) fl19 (fun _ h9 => h9) rfl dX0_append_104 ?_
      refine lv_iload hx hb dX0_append_107 (lv_at hl 2 rfl) ?_
      refine r_lald hx hb hK hP 4 3 rfl rfl (by omega) (by omega) (by decide) dX0_append_109 ?_
      refine lv_lor hx hb dX0_append_110 ?_
      refine r_last hx hb hK hP hD hS 4 3 rfl rfl (by omega) (by omega) (by decide) dX0_append_111 (fun H locs hP hD hS => ?_)
      have hP : va_P (dC, dI) vwCl (wX ad ca (uZ gL ((n : Int)).toNat ((v : Int))) (uZ gB ((n : Int)).toNat ((ba L v n : Int) - 1)) (uZ gD ((n : Int)).toNat (((dp L (j + 1) : Int)) + 1)) (vp_updL gN ((n : Int)).toNat (own ||| (gN ((ba L v n : Int) - 1).toNat))) gS ((n : Int)) ((r : Int)) x) H := hP
      have hD : va_D A (wX ad ca (uZ gL ((n : Int)).toNat ((v : Int))) (uZ gB ((n : Int)).toNat ((ba L v n : Int) - 1)) (uZ gD ((n : Int)).toNat (((dp L (j + 1) : Int)) + 1)) (vp_updL gN ((n : Int)).toNat (own ||| (gN ((ba L v n : Int) - 1).toNat))) gS ((n : Int)) ((r : Int)) x) := hD
      refine lv_aload_n hx hb dX0_append_112 rfl (lv_at hl 4 rfl) ?_
      refine va_get (D := (dC, dI)) (ci := 0) (v := .ref (ad 5)) (C := RX0) (T := TX0) (N := 8) hx hb hts hinTX0 hown hK hP 0 rfl rfl 4 (by decide) fl23 (fun _ h9 => h9) rfl dX0_append_113 ?_
      refine lv_iload_n hx hb dX0_append_116 rfl (lv_at hl 3 rfl) ?_
      refine r_iconst hx hb dX0_append_117 ?_
      refine r_iadd hx hb dX0_append_118 ?_
      refine lv_iload hx hb dX0_append_119 (lv_at hl 1 rfl) ?_
      refine r_iast hx hb hK hP hD hS 5 4 rfl rfl (by omega) (by omega) (by decide) dX0_append_121 (fun H locs hP hD hS => ?_)
      have hP : va_P (dC, dI) vwCl (wX ad ca (uZ gL ((n : Int)).toNat ((v : Int))) (uZ gB ((n : Int)).toNat ((ba L v n : Int) - 1)) (uZ gD ((n : Int)).toNat (((dp L (j + 1) : Int)) + 1)) (vp_updL gN ((n : Int)).toNat (own ||| (gN ((ba L v n : Int) - 1).toNat))) (uZ gS (((n : Int)) + 1).toNat (((sm S n : Int)) + ((b : Int)))) ((n : Int)) ((r : Int)) x) H := hP
      have hD : va_D A (wX ad ca (uZ gL ((n : Int)).toNat ((v : Int))) (uZ gB ((n : Int)).toNat ((ba L v n : Int) - 1)) (uZ gD ((n : Int)).toNat (((dp L (j + 1) : Int)) + 1)) (vp_updL gN ((n : Int)).toNat (own ||| (gN ((ba L v n : Int) - 1).toNat))) (uZ gS (((n : Int)) + 1).toNat (((sm S n : Int)) + ((b : Int)))) ((n : Int)) ((r : Int)) x) := hD
      refine lv_aload_n hx hb dX0_append_122 rfl (lv_at hl 4 rfl) ?_
      refine lv_dup hx hb dX0_append_123 rfl ?_
      refine va_get (D := (dC, dI)) (ci := 0) (v := .int (iI ((n : Int)))) (C := RX0) (T := TX0) (N := 8) hx hb hts hinTX0 hown hK hP 0 rfl rfl 5 (by decide) fl41 (fun _ h9 => h9) rfl dX0_append_124 ?_
      refine r_iconst hx hb dX0_append_127 ?_
      refine r_iadd hx hb dX0_append_128 ?_
      refine va_put (D := (dC, dI)) (ci := 0) (v := .int (iI (((n : Int)) + 1))) (ty := .int) (C := RX0) (T := TX0) (N := 8) hx hb hts hinTX0 tyX0 tyX0_ok nmX0 hown hK hP hD hS 0 rfl rfl 5 (by decide) fl41 (fun _ h9 => h9) rfl (by decide +kernel) rfl rfl (Nat.le_of_ble_eq_true rfl) dX0_append_129 (fun H locs hP hD hS => ?_)
      have hP : va_P (dC, dI) vwCl (wX ad ca (uZ gL ((n : Int)).toNat ((v : Int))) (uZ gB ((n : Int)).toNat ((ba L v n : Int) - 1)) (uZ gD ((n : Int)).toNat (((dp L (j + 1) : Int)) + 1)) (vp_updL gN ((n : Int)).toNat (own ||| (gN ((ba L v n : Int) - 1).toNat))) (uZ gS (((n : Int)) + 1).toNat (((sm S n : Int)) + ((b : Int)))) (((n : Int)) + 1) ((r : Int)) x) H := hP
      have hD : va_D A (wX ad ca (uZ gL ((n : Int)).toNat ((v : Int))) (uZ gB ((n : Int)).toNat ((ba L v n : Int) - 1)) (uZ gD ((n : Int)).toNat (((dp L (j + 1) : Int)) + 1)) (vp_updL gN ((n : Int)).toNat (own ||| (gN ((ba L v n : Int) - 1).toNat))) (uZ gS (((n : Int)) + 1).toNat (((sm S n : Int)) + ((b : Int)))) (((n : Int)) + 1) ((r : Int)) x) := hD
      refine lv_iload_n hx hb dX0_append_132 rfl (lv_at hl 3 rfl) ?_
      have hTn : tXu (n + 1) (uN L n v) (uN S n b) r lo (uZ gL ((n : Int)).toNat ((v : Int)), uZ gB ((n : Int)).toNat ((ba L v n : Int) - 1), uZ gD ((n : Int)).toNat (((dp L (j + 1) : Int)) + 1), vp_updL gN ((n : Int)).toNat (own ||| (gN ((ba L v n : Int) - 1).toNat)), uZ gS (((n : Int)) + 1).toNat (((sm S n : Int)) + ((b : Int)))) x := by
        rw [en, en1]
        refine tX_push hT rfl ?_ (fun v9 hv9 => ?_) (by omega)
        · rw [hj]
        · rw [ej, bL_or, hown9 v9 hv9, onV_push, t4 v9 hv9, hj]
      subst hAe
      exact W.iret (v := iI ((n : Int))) hx hb hr (fun t ht hW => ⟨⟨_, (uZ gL ((n : Int)).toNat ((v : Int)), uZ gB ((n : Int)).toNat ((ba L v n : Int) - 1), uZ gD ((n : Int)).toNat (((dp L (j + 1) : Int)) + 1), vp_updL gN ((n : Int)).toNat (own ||| (gN ((ba L v n : Int) - 1).toNat)), uZ gS (((n : Int)) + 1).toNat (((sm S n : Int)) + ((b : Int)))), rfl, ⟨rfl, hTn⟩, by subst ht; exact hP⟩, hS.F ht⟩) hS.2.2 dX0_append_133
    · exact (hne (by omega)).elim
  · refine r_iconst hx hb dX0_append_71 ?_
    refine lv_goto hx hb dX0_append_72 (tgt := 84) (by decide) ?_
    refine r_iast hx hb hK hP hD hS 3 2 rfl rfl (by omega) (by omega) (by decide) dX0_append_84 (fun H locs hP hD hS => ?_)
    have hP : va_P (dC, dI) vwCl (wX ad ca (uZ gL ((n : Int)).toNat ((v : Int))) (uZ gB ((n : Int)).toNat ((ba L v n : Int) - 1)) (uZ gD ((n : Int)).toNat 1) gN gS ((n : Int)) ((r : Int)) x) H := hP
    have hD : va_D A (wX ad ca (uZ gL ((n : Int)).toNat ((v : Int))) (uZ gB ((n : Int)).toNat ((ba L v n : Int) - 1)) (uZ gD ((n : Int)).toNat 1) gN gS ((n : Int)) ((r : Int)) x) := hD
    refine lv_aload_n hx hb dX0_append_85 rfl (lv_at hl 4 rfl) ?_
    refine va_get (D := (dC, dI)) (ci := 0) (v := .ref (ad 4)) (C := RX0) (T := TX0) (N := 8) hx hb hts hinTX0 hown hK hP 0 rfl rfl 3 (by decide) fl19 (fun _ h9 => h9) rfl dX0_append_86 ?_
    refine lv_iload_n hx hb dX0_append_89 rfl (lv_at hl 3 rfl) ?_
    refine lv_iload hx hb dX0_append_90 (lv_at hl 2 rfl) ?_
    refine r_iconst hx hb dX0_append_92 ?_
    refine r_icmp_ne hx hb dX0_append_93 (tgt := 101) (by decide) (by omega) (by omega) (fun hne2 => ?_) (fun heq2 => ?_)
    · exact (hne2 (by omega)).elim
    · refine lv_lload hx hb dX0_append_96 (lv_at hl 0 rfl) ?_
      refine lv_goto hx hb dX0_append_98 (tgt := 111) (by decide) ?_
      refine r_last hx hb hK hP hD hS 4 3 rfl rfl (by omega) (by omega) (by decide) dX0_append_111 (fun H locs hP hD hS => ?_)
      have hP : va_P (dC, dI) vwCl (wX ad ca (uZ gL ((n : Int)).toNat ((v : Int))) (uZ gB ((n : Int)).toNat ((ba L v n : Int) - 1)) (uZ gD ((n : Int)).toNat 1) (vp_updL gN ((n : Int)).toNat own) gS ((n : Int)) ((r : Int)) x) H := hP
      have hD : va_D A (wX ad ca (uZ gL ((n : Int)).toNat ((v : Int))) (uZ gB ((n : Int)).toNat ((ba L v n : Int) - 1)) (uZ gD ((n : Int)).toNat 1) (vp_updL gN ((n : Int)).toNat own) gS ((n : Int)) ((r : Int)) x) := hD
      refine lv_aload_n hx hb dX0_append_112 rfl (lv_at hl 4 rfl) ?_
      refine va_get (D := (dC, dI)) (ci := 0) (v := .ref (ad 5)) (C := RX0) (T := TX0) (N := 8) hx hb hts hinTX0 hown hK hP 0 rfl rfl 4 (by decide) fl23 (fun _ h9 => h9) rfl dX0_append_113 ?_
      refine lv_iload_n hx hb dX0_append_116 rfl (lv_at hl 3 rfl) ?_
      refine r_iconst hx hb dX0_append_117 ?_
      refine r_iadd hx hb dX0_append_118 ?_
      refine lv_iload hx hb dX0_append_119 (lv_at hl 1 rfl) ?_
      refine r_iast hx hb hK hP hD hS 5 4 rfl rfl (by omega) (by omega) (by decide) dX0_append_121 (fun H locs hP hD hS => ?_)
      have hP : va_P (dC, dI) vwCl (wX ad ca (uZ gL ((n : Int)).toNat ((v : Int))) (uZ gB ((n : Int)).toNat ((ba L v n : Int) - 1)) (uZ gD ((n : Int)).toNat 1) (vp_updL gN ((n : Int)).toNat own) (uZ gS (((n : Int)) + 1).toNat (((sm S n : Int)) + ((b : Int)))) ((n : Int)) ((r : Int)) x) H := hP
      have hD : va_D A (wX ad ca (uZ gL ((n : Int)).toNat ((v : Int))) (uZ gB ((n : Int)).toNat ((ba L v n : Int) - 1)) (uZ gD ((n : Int)).toNat 1) (vp_updL gN ((n : Int)).toNat own) (uZ gS (((n : Int)) + 1).toNat (((sm S n : Int)) + ((b : Int)))) ((n : Int)) ((r : Int)) x) := hD
      refine lv_aload_n hx hb dX0_append_122 rfl (lv_at hl 4 rfl) ?_
      refine lv_dup hx hb dX0_append_123 rfl ?_
      refine va_get (D := (dC, dI)) (ci := 0) (v := .int (iI ((n : Int)))) (C := RX0) (T := TX0) (N := 8) hx hb hts hinTX0 hown hK hP 0 rfl rfl 5 (by decide) fl41 (fun _ h9 => h9) rfl dX0_append_124 ?_
      refine r_iconst hx hb dX0_append_127 ?_
      refine r_iadd hx hb dX0_append_128 ?_
      refine va_put (D := (dC, dI)) (ci := 0) (v := .int (iI (((n : Int)) + 1))) (ty := .int) (C := RX0) (T := TX0) (N := 8) hx hb hts hinTX0 tyX0 tyX0_ok nmX0 hown hK hP hD hS 0 rfl rfl 5 (by decide) fl41 (fun _ h9 => h9) rfl (by decide +kernel) rfl rfl (Nat.le_of_ble_eq_true rfl) dX0_append_129 (fun H locs hP hD hS => ?_)
      have hP : va_P (dC, dI) vwCl (wX ad ca (uZ gL ((n : Int)).toNat ((v : Int))) (uZ gB ((n : Int)).toNat ((ba L v n : Int) - 1)) (uZ gD ((n : Int)).toNat 1) (vp_updL gN ((n : Int)).toNat own) (uZ gS (((n : Int)) + 1).toNat (((sm S n : Int)) + ((b : Int)))) (((n : Int)) + 1) ((r : Int)) x) H := hP
      have hD : va_D A (wX ad ca (uZ gL ((n : Int)).toNat ((v : Int))) (uZ gB ((n : Int)).toNat ((ba L v n : Int) - 1)) (uZ gD ((n : Int)).toNat 1) (vp_updL gN ((n : Int)).toNat own) (uZ gS (((n : Int)) + 1).toNat (((sm S n : Int)) + ((b : Int)))) (((n : Int)) + 1) ((r : Int)) x) := hD
      refine lv_iload_n hx hb dX0_append_132 rfl (lv_at hl 3 rfl) ?_
      have hTn : tXu (n + 1) (uN L n v) (uN S n b) r lo (uZ gL ((n : Int)).toNat ((v : Int)), uZ gB ((n : Int)).toNat ((ba L v n : Int) - 1), uZ gD ((n : Int)).toNat 1, vp_updL gN ((n : Int)).toNat own, uZ gS (((n : Int)) + 1).toNat (((sm S n : Int)) + ((b : Int)))) x := by
        have h0 : ba L v n = 0 := by omega
        rw [en, en1]
        refine tX_push hT rfl ?_ (fun v9 hv9 => ?_) (by omega)
        · rw [h0, dp_0]; rfl
        · rw [hown9 v9 hv9, onV_push, h0, nd_0, Bool.or_false]
      subst hAe
      exact W.iret (v := iI ((n : Int))) hx hb hr (fun t ht hW => ⟨⟨_, (uZ gL ((n : Int)).toNat ((v : Int)), uZ gB ((n : Int)).toNat ((ba L v n : Int) - 1), uZ gD ((n : Int)).toNat 1, vp_updL gN ((n : Int)).toNat own, uZ gS (((n : Int)) + 1).toNat (((sm S n : Int)) + ((b : Int)))), rfl, ⟨rfl, hTn⟩, by subst ht; exact hP⟩, hS.F ht⟩) hS.2.2 dX0_append_133
end
section
/-! what the calls answer; calls that change nothing and may throw -/
def spP (L S : Nat → Nat) (r n k v d : Nat) : Bool := decide (n ≤ d + k) && nd L S r v (d + 1)
def sp (L S : Nat → Nat) (r n k v : Nat) : Bool := decide (v < wr S r n) && noH (spP L S r n k v) n
def ct (L S : Nat → Nat) (r n : Nat) (lo : Nat → Bool) (w : Nat) : Nat := if w = 0 then n else if w = 1 then wr S r n else if w = 2 then sm S n + wr S r n else if w = 3 then cn (gd L S r lo) n else if w = 4 then mx (fun d => dp L (d + 1)) n else cn lo 64
theorem spP_0 {L S : Nat → Nat} {r n k v d : Nat} (h : d + k ≤ n) : noH (spP L S r n k v) d = true := noH_t.mpr fun j hj => by
  unfold spP
  rw [decide_eq_false (by omega), Bool.false_and]
theorem spP_s {L S : Nat → Nat} {r n k v d : Nat} (h : n ≤ d + k) : noH (spP L S r n k v) (d + 1) = (noH (spP L S r n k v) d && !nd L S r v (d + 1)) := by
  show (noH (spP L S r n k v) d && !spP L S r n k v d) = _
  unfold spP
  rw [decide_eq_true h, Bool.true_and]
def lsU (lo : Nat → Bool) (v : Nat) (f : Bool) : Nat → Bool := fun w => if w = v then f else lo w
section VRs
variable {p : Program} {l : Launch} {e : Env} {R : Room} {s : State} {m : MethodId} {args : Array Value} {below : List Frame} {meth : Method} {c : Code} {H : Heap} {locs : List Loc} {cells slots : Nat} {Q : State → Prop}
variable {pc : Nat} {ls : Array Slot} {rest st0 : List Value} {a : Array Value} {A0 : Nat → Prop} {H0 : Heap} {mc ms : Nat} {D : va_G} {cl : List vw_C} {w : va_W} {PE : String → Prop}
theorem vr_i {Pz : Int32 → Prop} (hr : vx_Run p l e R s m args below meth c H locs cells slots mc ms (F0 m pc ls st0) rest (RQi Pz a) (xcE PE) nF) (hS : va_S A0 H0 H locs) (hP : va_P D cl w H)
    (kx : ∀ (E : String) (ce : Cell) (q9 : Addr) (H1 : Heap) (locs1 : List Loc), PE E → va_P D cl w H1 → va_S A0 H0 H1 locs1 → H1[q9]? = some ce → ce.vm = .none → s.vm.findClass E = some ce.cls → vx_W p l e R s m args below meth c H1 locs1 (cells + mc) (slots + ms) Q (F0 m pc ls rest) q9)
    (kk : ∀ (r : Int32) (H1 : Heap) (locs1 : List Loc), Pz r → va_P D cl w H1 → va_S A0 H0 H1 locs1 → W p l e R s m args below meth c H1 locs1 (cells + mc) (slots + ms) Q (F0 m (pc + 3) ls (.int r :: rest))) : W p l e R s m args below meth c H locs cells slots Q (F0 m pc ls st0) :=
  vx_calli hr hS (fun q _ h => h.elim) (fun q h => h.elim) (fun q _ h => h.elim)
    (fun E ce q9 u t H1 locs1 ht hvm hpx hB hz hk hS1 h1 h2 h3 => kx E ce q9 H1 locs1 hB (hP.kept (fun k q hq => hk q.1 (hP k q hq).lt (fun h => h))) hS1 h1 h2 h3)
    (fun r u t H1 locs1 ht hvm hp hB hz hk hS1 => kk r H1 locs1 hp (hP.kept (fun k q hq => hk q.1 (hP k q hq).lt (fun h => h))) hS1)
theorem vr_l {Pz : Int64 → Prop} (hr : vx_Run p l e R s m args below meth c H locs cells slots mc ms (F0 m pc ls st0) rest (RQl Pz a) (xcE PE) nF) (hS : va_S A0 H0 H locs) (hP : va_P D cl w H)
    (kx : ∀ (E : String) (ce : Cell) (q9 : Addr) (H1 : Heap) (locs1 : List Loc), PE E → va_P D cl w H1 → va_S A0 H0 H1 locs1 → H1[q9]? = some ce → ce.vm = .none → s.vm.findClass E = some ce.cls → vx_W p l e R s m args below meth c H1 locs1 (cells + mc) (slots + ms) Q (F0 m pc ls rest) q9)
    (kk : ∀ (r : Int64) (H1 : Heap) (locs1 : List Loc), Pz r → va_P D cl w H1 → va_S A0 H0 H1 locs1 → W p l e R s m args below meth c H1 locs1 (cells + mc) (slots + ms) Q (F0 m (pc + 3) ls (.long r :: rest))) : W p l e R s m args below meth c H locs cells slots Q (F0 m pc ls st0) :=
  vx_calll hr hS (fun q _ h => h.elim) (fun q h => h.elim) (fun q _ h => h.elim)
    (fun E ce q9 u t H1 locs1 ht hvm hpx hB hz hk hS1 h1 h2 h3 => kx E ce q9 H1 locs1 hB (hP.kept (fun k q hq => hk q.1 (hP k q hq).lt (fun h => h))) hS1 h1 h2 h3)
    (fun r u t H1 locs1 ht hvm hp hB hz hk hS1 => kk r H1 locs1 hp (hP.kept (fun k q hq => hk q.1 (hP k q hq).lt (fun h => h))) hS1)
end VRs
end
section
/-! the class: begin, dump, drop, chain, depth, place, owner -/
set_option maxHeartbeats 4000000 in
set_option maxRecDepth 100000 in
theorem m_begin (l : Launch) (hl9 : l.stackTraces = false) (dC : Nat → ClassId) (dI : Nat → Nat → Nat) (ad : Nat → Nat) (ca : Nat → ClassId) (gL gB gD : Nat → Int) (gN : Nat → Int64) (gS : Nat → Int) (n r : Nat) (x : Int64) (q : Int) (hq : iR q) : vx_Met l yX0_begin wsX0_begin { frames := 6, cells := 1, slots := 6, locals := 82 } (PXe (dC, dI) vwCl (yX ca) (wX ad ca gL gB gD gN gS ((n : Int)) ((r : Int)) x) [.ref (ad 0), .int (iI q)]) (va_Qv (fun (_ : Unit) => 2 ≤ q ∧ q ≤ 1000) (fun _ t => va_P (dC, dI) vwCl (wX ad ca gL gB gD gN gS 0 (q - 1) 0) t.heap) (inW (wX ad ca gL gB gD gN gS ((n : Int)) ((r : Int)) x))) (xcE (fun E => E = eIA ∧ (q < 2 ∨ 1000 < q))) 1 6 (inW (wX ad ca gL gB gD gN gS ((n : Int)) ((r : Int)) x)) := by
  refine vx_ofW (cc := cX0_begin) (maxL := 2) (ret := none) (by decide) rfl ?_
  intro p e s m args below meth c s₁ B hml hEx hv
  obtain ⟨rfl, hP, hK, hD0, hE⟩ := hv
  have hx := B.exec
  have hb := B.bytes
  have hr := B.returns
  have hts := atoms_spec (ws := wsX0_begin) B.pre
  have hown : s.vm.findClass RX0 = some m.cls := findClass_of_methodNamed B.named
  have hlocks := B.notSynchronized
  have hw := fun w h => hts w (List.mem_cons_of_mem _ h)
  have hinTX0 : ∀ w ∈ u_ws RX0 TX0 8, w ∈ wsX0_begin := wA_u wuX0
  have hD := hD0
  obtain ⟨H, hH⟩ : ∃ H, H = s.heap := ⟨_, rfl⟩
  obtain ⟨locs, hlc⟩ : ∃ L : List Loc, L = [] := ⟨_, rfl⟩
  have hS : va_S nF s.heap H locs := by rw [hH, hlc]; exact va_S.rf
  rw [← hH] at hP ⊢
  rw [← hlc]
  have hl := lv_entry ([.ref (ad 0), .int (iI q)]) (n := 2) (Nat.le_of_ble_eq_true rfl)
  rw [lg_entry_eq]
  generalize (lg_sl ([.ref (ad 0), .int (iI q)]) ++ List.replicate (2 - (lg_sl ([.ref (ad 0), .int (iI q)])).length) Slot.unset).toArray = ls at hl ⊢
  have hl : lv_has ls 2 [(0, .ref (ad 0)), (1, .int (iI q))] := hl
  refine lv_iload_n hx hb dX0_begin_0 rfl (lv_at hl 1 rfl) ?_
  refine r_iconst hx hb dX0_begin_1 ?_
  refine r_icmp_lt hx hb dX0_begin_2 (tgt := 12) (by decide) (by omega) (by omega) (fun hlt => ?_) (fun hge => ?_)
  · obtain ⟨sa, hsa⟩ := hE.2.2.2.1 (32, "a volume has 2 to 1000 blocks") (List.mem_of_getElem? (i := 0) rfl)
    exact vx_throwS (own := RX0) (cls := eIA) (names := eN) hx hb hl9 hown (by decide +kernel) (by decide +kernel) (hw _ wkX0_30) (hw _ wi_6) hsa (hat_34 hE hw) (by decide +kernel) (exE_none hE).1.1 (exE_none hE).1.2 hS (hl.1.trans hml.symm) dX0_begin_12 dX0_begin_15 dX0_begin_16 dX0_begin_18 dX0_begin_21 (fun x hx => (hEx x hx).elim) (Nat.le_of_ble_eq_true rfl) (Nat.le_of_ble_eq_true rfl) (Nat.le_of_ble_eq_true rfl) (Nat.le_of_ble_eq_true rfl) hlocks (fun t ha hsz hk => ⟨(), trivial, ⟨rfl, Or.inl hlt⟩, Nat.le_trans hS.1 hsz, fun q h1 h2 => (hk q (Nat.lt_of_lt_of_le h1 hS.1)).trans (hS.2.1 q h1 h2)⟩) (fun z hz => (hS.2.2 z hz).elim) (by decide) (by decide)
  · refine lv_iload_n hx hb dX0_begin_5 rfl (lv_at hl 1 rfl) ?_
    refine r_sipush hx hb dX0_begin_6 (by decide +kernel) ?_
    refine r_icmp_le hx hb dX0_begin_9 (tgt := 22) (by decide) (by omega) (by omega) (fun hin => ?_) (fun hout => ?_)
    · have hD := wD_own hD0
      obtain ⟨A, hAe⟩ : ∃ A, A = inW (wX ad ca gL gB gD gN gS ((n : Int)) ((r : Int)) x) := ⟨_, rfl⟩
      rw [← hAe] at hD
      have hS : va_S A s.heap H locs := vS_up hS
      refine lv_aload_n hx hb dX0_begin_22 rfl (lv_at hl 0 rfl) ?_
      refine lv_iload_n hx hb dX0_begin_23 rfl (lv_at hl 1 rfl) ?_
      refine wc_v (va_runV (As := [.int (iI q)]) (rest := []) ⟨hx, hb, hml, hown, hts⟩ (m_clear l dC dI ad ca gL gB gD gN gS n r x q) (cwV 1 hts (gV wlX0_26 wo_X0_clear wz_X0_clear wi_1 wcX0_clear) rfl rfl rfl (by decide +kernel) ⟨Nat.le_of_ble_eq_true rfl, Nat.le_of_ble_eq_true rfl⟩) (PX_V (q0 := 0) (ci := 0) hP hK hD rfl rfl) rfl rfl hl.1 rfl (lv_room (Nat.le_of_ble_eq_true rfl)) dX0_begin_24 ⟨Nat.le_of_ble_eq_true rfl, Nat.le_of_ble_eq_true rfl⟩) hS (by rw [hAe]; exact fun q h => inW_same (by rfl) h) (fun u9 H locs hv9 hP hS hk9 => ?_)
      have hP : va_P (dC, dI) vwCl (wX ad ca gL gB gD gN gS 0 (q - 1) 0) H := hP
      have hD : va_D A (wX ad ca gL gB gD gN gS 0 (q - 1) 0) := wD_same hD rfl
      subst hAe
      refine vx_ret ?_
      refine W.widen (k := 1) (n := 6) (by decide) (by decide) ?_
      exact W.vret hx hb hr (fun t ht hW => ⟨⟨(), rfl, ⟨hge, hin⟩, by subst ht; exact hP⟩, hS.F ht⟩) hS.2.2 dX0_begin_27
    · obtain ⟨sa, hsa⟩ := hE.2.2.2.1 (32, "a volume has 2 to 1000 blocks") (List.mem_of_getElem? (i := 0) rfl)
      exact vx_throwS (own := RX0) (cls := eIA) (names := eN) hx hb hl9 hown (by decide +kernel) (by decide +kernel) (hw _ wkX0_30) (hw _ wi_6) hsa (hat_34 hE hw) (by decide +kernel) (exE_none hE).1.1 (exE_none hE).1.2 hS (hl.1.trans hml.symm) dX0_begin_12 dX0_begin_15 dX0_begin_16 dX0_begin_18 dX0_begin_21 (fun x hx => (hEx x hx).elim) (Nat.le_of_ble_eq_true rfl) (Nat.le_of_ble_eq_true rfl) (Nat.le_of_ble_eq_true rfl) (Nat.le_of_ble_eq_true rfl) hlocks (fun t ha hsz hk => ⟨(), trivial, ⟨rfl, Or.inr hout⟩, Nat.le_trans hS.1 hsz, fun q h1 h2 => (hk q (Nat.lt_of_lt_of_le h1 hS.1)).trans (hS.2.1 q h1 h2)⟩) (fun z hz => (hS.2.2 z hz).elim) (by decide) (by decide)
set_option maxHeartbeats 4000000 in
set_option maxRecDepth 100000 in
theorem m_dump (l : Launch) (hl9 : l.stackTraces = false) (dC : Nat → ClassId) (dI : Nat → Nat → Nat) (ad : Nat → Nat) (ca : Nat → ClassId) (gL gB gD : Nat → Int) (gN : Nat → Int64) (gS : Nat → Int) (n r : Nat) (x : Int64) (L S : Nat → Nat) (lo : Nat → Bool) (hok : okS n L S r) (hT : tX n L S r lo gL gB gD gN gS x) (v b : Int) (hv : iR v) (hb0 : iR b) : vx_Met l yX0_dump wsX0_dump { frames := 6, cells := 1, slots := 6, locals := 82 } (PXe (dC, dI) vwCl (yX ca) (wX ad ca gL gB gD gN gS ((n : Int)) ((r : Int)) x) [.ref (ad 0), .int (iI v), .int (iI b)]) (va_Qi (fun (y : Int32) (u : XU) => ((0 ≤ v ∧ v ≤ 9 ∧ 1 ≤ b ∧ b ≤ 500) ∧ n < 300 ∧ (sm S n : Int) + b ≤ 64 * (r : Int)) ∧ y = iI (n : Int) ∧ tXu (n + 1) (uN L n v.toNat) (uN S n b.toNat) r lo u x) (fun u t => va_P (dC, dI) vwCl (wXu ad ca u ((n : Int) + 1) (r : Int) x) t.heap) (inW (wX ad ca gL gB gD gN gS ((n : Int)) ((r : Int)) x))) (xcE (fun E => (E = eIA ∧ ¬ (0 ≤ v ∧ v ≤ 9 ∧ 1 ≤ b ∧ b ≤ 500)) ∨ (E = eIS ∧ (0 ≤ v ∧ v ≤ 9 ∧ 1 ≤ b ∧ b ≤ 500) ∧ ¬ (n < 300 ∧ (sm S n : Int) + b ≤ 64 * (r : Int))))) 1 6 (inW (wX ad ca gL gB gD gN gS ((n : Int)) ((r : Int)) x)) := by
  refine vx_ofW (cc := cX0_dump) (maxL := 3) (ret := (some .int)) (by decide) rfl ?_
  intro p e s m args below meth c s₁ B hml hEx hv
  obtain ⟨rfl, hP, hK, hD0, hE⟩ := hv
  have hx := B.exec
  have hb := B.bytes
  have hr := B.returns
  have hts := atoms_spec (ws := wsX0_dump) B.pre
  have hown : s.vm.findClass RX0 = some m.cls := findClass_of_methodNamed B.named
  have hlocks := B.notSynchronized
  have hw := fun w h => hts w (List.mem_cons_of_mem _ h)
  have hinTX0 : ∀ w ∈ u_ws RX0 TX0 8, w ∈ wsX0_dump := wA_u wuX0
  have fl41 := hw _ wfX0_41
  have fl23 := hw _ wfX0_23
  have fl50 := hw _ wfX0_50
  have hD := hD0
  obtain ⟨H, hH⟩ : ∃ H, H = s.heap := ⟨_, rfl⟩
  obtain ⟨locs, hlc⟩ : ∃ L : List Loc, L = [] := ⟨_, rfl⟩
  have hS : va_S nF s.heap H locs := by rw [hH, hlc]; exact va_S.rf
  rw [← hH] at hP ⊢
  rw [← hlc]
  have hl := lv_entry ([.ref (ad 0), .int (iI v), .int (iI b)]) (n := 3) (Nat.le_of_ble_eq_true rfl)
  rw [lg_entry_eq]
  generalize (lg_sl ([.ref (ad 0), .int (iI v), .int (iI b)]) ++ List.replicate (3 - (lg_sl ([.ref (ad 0), .int (iI v), .int (iI b)])).length) Slot.unset).toArray = ls at hl ⊢
  have hl : lv_has ls 3 [(0, .ref (ad 0)), (1, .int (iI v)), (2, .int (iI b))] := hl
  obtain ⟨ok1, ok2, ok3, ok4, ok5⟩ := id hok
  have en : ((n : Int)).toNat = n := by omega
  have t5 := hT.2.1 n (Nat.le_refl n)
  refine lv_iload_n hx hb dX0_dump_0 rfl (lv_at hl 1 rfl) ?_
  refine r_if_lt hx hb dX0_dump_1 (tgt := 10) (by decide) (by omega) (fun hlt => ?_) (fun hge => ?_)
  · obtain ⟨sa, hsa⟩ := hE.2.2.2.1 (37, "a level is 0 to 9") (List.mem_of_getElem? (i := 1) rfl)
    exact vx_throwS (own := RX0) (cls := eIA) (names := eN) hx hb hl9 hown (by decide +kernel) (by decide +kernel) (hw _ wkX0_30) (hw _ wi_6) hsa (hat_34 hE hw) (by decide +kernel) (exE_none hE).1.1 (exE_none hE).1.2 hS (hl.1.trans hml.symm) dX0_dump_10 dX0_dump_13 dX0_dump_14 dX0_dump_16 dX0_dump_19 (fun x hx => (hEx x hx).elim) (Nat.le_of_ble_eq_true rfl) (Nat.le_of_ble_eq_true rfl) (Nat.le_of_ble_eq_true rfl) (Nat.le_of_ble_eq_true rfl) hlocks (fun t ha hsz hk => ⟨(), trivial, Or.inl ⟨rfl, by omega⟩, Nat.le_trans hS.1 hsz, fun q h1 h2 => (hk q (Nat.lt_of_lt_of_le h1 hS.1)).trans (hS.2.1 q h1 h2)⟩) (fun z hz => (hS.2.2 z hz).elim) (by decide) (by decide)
  · refine lv_iload_n hx hb dX0_dump_4 rfl (lv_at hl 1 rfl) ?_
    refine r_bipush hx hb dX0_dump_5 (by decide +kernel) ?_
    refine r_icmp_le hx hb dX0_dump_7 (tgt := 20) (by decide) (by omega) (by omega) (fun hin7 => ?_) (fun hout7 => ?_)
    · refine lv_iload_n hx hb dX0_dump_20 rfl (lv_at hl 2 rfl) ?_
      refine r_iconst hx hb dX0_dump_21 ?_
      refine r_icmp_lt hx hb dX0_dump_22 (tgt := 32) (by decide) (by omega) (by omega) (fun hlt2 => ?_) (fun hge2 => ?_)
      · obtain ⟨sa, hsa⟩ := hE.2.2.2.1 (39, "a dump has 1 to 500 blocks") (List.mem_of_getElem? (i := 2) rfl)
        exact vx_throwS (own := RX0) (cls := eIA) (names := eN) hx hb hl9 hown (by decide +kernel) (by decide +kernel) (hw _ wkX0_30) (hw _ wi_6) hsa (hat_34 hE hw) (by decide +kernel) (exE_none hE).1.1 (exE_none hE).1.2 hS (hl.1.trans hml.symm) dX0_dump_32 dX0_dump_35 dX0_dump_36 dX0_dump_38 dX0_dump_41 (fun x hx => (hEx x hx).elim) (Nat.le_of_ble_eq_true rfl) (Nat.le_of_ble_eq_true rfl) (Nat.le_of_ble_eq_true rfl) (Nat.le_of_ble_eq_true rfl) hlocks (fun t ha hsz hk => ⟨(), trivial, Or.inl ⟨rfl, by omega⟩, Nat.le_trans hS.1 hsz, fun q h1 h2 => (hk q (Nat.lt_of_lt_of_le h1 hS.1)).trans (hS.2.1 q h1 h2)⟩) (fun z hz => (hS.2.2 z hz).elim) (by decide) (by decide)
      · refine lv_iload_n hx hb dX0_dump_25 rfl (lv_at hl 2 rfl) ?_
        refine r_sipush hx hb dX0_dump_26 (by decide +kernel) ?_
        refine r_icmp_le hx hb dX0_dump_29 (tgt := 42) (by decide) (by omega) (by omega) (fun hin29 => ?_) (fun hout29 => ?_)
        · refine lv_aload_n hx hb dX0_dump_42 rfl (lv_at hl 0 rfl) ?_
          refine va_get (D := (dC, dI)) (ci := 0) (v := .int (iI ((n : Int)))) (C := RX0) (T := TX0) (N := 8) hx hb hts hinTX0 hown hK hP 0 rfl rfl 5 (by decide) fl41 (fun _ h9 => h9) rfl dX0_dump_43 ?_
          refine r_sipush hx hb dX0_dump_46 (by decide +kernel) ?_
          refine r_icmp_lt hx hb dX0_dump_49 (tgt := 62) (by decide) (by omega) (by omega) (fun hin49 => ?_) (fun hout49 => ?_)
          · refine lv_aload_n hx hb dX0_dump_62 rfl (lv_at hl 0 rfl) ?_
            refine va_get (D := (dC, dI)) (ci := 0) (v := .ref (ad 5)) (C := RX0) (T := TX0) (N := 8) hx hb hts hinTX0 hown hK hP 0 rfl rfl 4 (by decide) fl23 (fun _ h9 => h9) rfl dX0_dump_63 ?_
            refine lv_aload_n hx hb dX0_dump_66 rfl (lv_at hl 0 rfl) ?_
            refine va_get (D := (dC, dI)) (ci := 0) (v := .int (iI ((n : Int)))) (C := RX0) (T := TX0) (N := 8) hx hb hts hinTX0 hown hK hP 0 rfl rfl 5 (by decide) fl41 (fun _ h9 => h9) rfl dX0_dump_67 ?_
            refine r_iald hx hb hK hP 5 4 rfl rfl (by omega) (by omega) (by decide) dX0_dump_70 ?_
            refine r_topi (b := (sm S n : Int)) (by rw [en]; exact t5) ?_
            refine lv_iload_n hx hb dX0_dump_71 rfl (lv_at hl 2 rfl) ?_
            refine r_iadd hx hb dX0_dump_72 ?_
            refine r_bipush hx hb dX0_dump_73 (by decide +kernel) ?_
            refine lv_aload_n hx hb dX0_dump_75 rfl (lv_at hl 0 rfl) ?_
            refine va_get (D := (dC, dI)) (ci := 0) (v := .int (iI ((r : Int)))) (C := RX0) (T := TX0) (N := 8) hx hb hts hinTX0 hown hK hP 0 rfl rfl 6 (by decide) fl50 (fun _ h9 => h9) rfl dX0_dump_76 ?_
            refine r_imul hx hb dX0_dump_79 ?_
            refine r_icmp_le hx hb dX0_dump_80 (tgt := 93) (by decide) (by omega) (by omega) (fun hin80 => ?_) (fun hout80 => ?_)
            · have hl : lv_has ls 3 [(0, .ref (ad 0)), (1, .int (iI (v.toNat : Int))), (2, .int (iI (b.toNat : Int)))] := by
                rw [Int.toNat_of_nonneg (by omega : 0 ≤ v), Int.toNat_of_nonneg (by omega : 0 ≤ b)]
                exact hl
              have hD := wD_own hD0
              obtain ⟨A, hAe⟩ : ∃ A, A = inW (wX ad ca gL gB gD gN gS ((n : Int)) ((r : Int)) x) := ⟨_, rfl⟩
              rw [← hAe] at hD
              have hS : va_S A s.heap H locs := vS_up hS
              refine lv_aload_n hx hb dX0_dump_93 rfl (lv_at hl 0 rfl) ?_
              refine lv_iload_n hx hb dX0_dump_94 rfl (lv_at hl 1 rfl) ?_
              refine lv_iload_n hx hb dX0_dump_95 rfl (lv_at hl 2 rfl) ?_
              refine wc_i (va_runV (As := [.int (iI ((v.toNat : Int))), .int (iI ((b.toNat : Int)))]) (rest := []) ⟨hx, hb, hml, hown, hts⟩ (m_append l dC dI ad ca gL gB gD gN gS n r x L S lo hok hT v.toNat b.toNat (by omega) (by omega) (by omega) (by omega) (by omega)) (cwV 2 hts (gV wlX0_55 wo_X0_append wz_X0_append wi_1 wcX0_append) rfl rfl rfl (by decide +kernel) ⟨Nat.le_of_ble_eq_true rfl, Nat.le_of_ble_eq_true rfl⟩) (PX_V (q0 := 0) (ci := 0) hP hK hD rfl rfl) rfl rfl hl.1 rfl (lv_room (Nat.le_of_ble_eq_true rfl)) dX0_dump_96 ⟨Nat.le_of_ble_eq_true rfl, Nat.le_of_ble_eq_true rfl⟩) hS (by rw [hAe]; exact fun q h => inW_same (by rfl) h) (fun r9 u9 H locs hv9 hP hS hk9 => ?_)
              have hP : va_P (dC, dI) vwCl (wX ad ca u9.1 u9.2.1 u9.2.2.1 u9.2.2.2.1 u9.2.2.2.2 ((n : Int) + 1) ((r : Int)) x) H := hP
              have hD : va_D A (wX ad ca u9.1 u9.2.1 u9.2.2.1 u9.2.2.2.1 u9.2.2.2.2 ((n : Int) + 1) ((r : Int)) x) := wD_same hD rfl
              obtain ⟨rfl, hTn⟩ := hv9
              subst hAe
              refine vx_ret ?_
              refine W.widen (k := 1) (n := 6) (by decide) (by decide) ?_
              exact W.iret (v := iI ((n : Int))) hx hb hr (fun t ht hW => ⟨⟨_, u9, rfl, ⟨by omega, rfl, hTn⟩, by subst ht; exact hP⟩, hS.F ht⟩) hS.2.2 dX0_dump_99
            · obtain ⟨sa, hsa⟩ := hE.2.2.2.1 (53, "64 volumes are too few") (List.mem_of_getElem? (i := 4) rfl)
              exact vx_throwS (own := RX0) (cls := eIS) (names := eN) hx hb hl9 hown (by decide +kernel) (by decide +kernel) (hw _ wkX0_45) (hw _ wi_7) hsa (hat_49 hE hw) (by decide +kernel) (exE_none hE).1.1 (exE_none hE).1.2 hS (hl.1.trans hml.symm) dX0_dump_83 dX0_dump_86 dX0_dump_87 dX0_dump_89 dX0_dump_92 (fun x hx => (hEx x hx).elim) (Nat.le_of_ble_eq_true rfl) (Nat.le_of_ble_eq_true rfl) (Nat.le_of_ble_eq_true rfl) (Nat.le_of_ble_eq_true rfl) hlocks (fun t ha hsz hk => ⟨(), trivial, Or.inr ⟨rfl, by omega, by omega⟩, Nat.le_trans hS.1 hsz, fun q h1 h2 => (hk q (Nat.lt_of_lt_of_le h1 hS.1)).trans (hS.2.1 q h1 h2)⟩) (fun z hz => (hS.2.2 z hz).elim) (by decide) (by decide)
          · obtain ⟨sa, hsa⟩ := hE.2.2.2.1 (47, "there are 300 dumps") (List.mem_of_getElem? (i := 3) rfl)
            exact vx_throwS (own := RX0) (cls := eIS) (names := eN) hx hb hl9 hown (by decide +kernel) (by decide +kernel) (hw _ wkX0_45) (hw _ wi_7) hsa (hat_49 hE hw) (by decide +kernel) (exE_none hE).1.1 (exE_none hE).1.2 hS (hl.1.trans hml.symm) dX0_dump_52 dX0_dump_55 dX0_dump_56 dX0_dump_58 dX0_dump_61 (fun x hx => (hEx x hx).elim) (Nat.le_of_ble_eq_true rfl) (Nat.le_of_ble_eq_true rfl) (Nat.le_of_ble_eq_true rfl) (Nat.le_of_ble_eq_true rfl) hlocks (fun t ha hsz hk => ⟨(), trivial, Or.inr ⟨rfl, by omega, by omega⟩, Nat.le_trans hS.1 hsz, fun q h1 h2 => (hk q (Nat.lt_of_lt_of_le h1 hS.1)).trans (hS.2.1 q h1 h2)⟩) (fun z hz => (hS.2.2 z hz).elim) (by decide) (by decide)
        · obtain ⟨sa, hsa⟩ := hE.2.2.2.1 (39, "a dump has 1 to 500 blocks") (List.mem_of_getElem? (i := 2) rfl)
          exact vx_throwS (own := RX0) (cls := eIA) (names := eN) hx hb hl9 hown (by decide +kernel) (by decide +kernel) (hw _ wkX0_30) (hw _ wi_6) hsa (hat_34 hE hw) (by decide +kernel) (exE_none hE).1.1 (exE_none hE).1.2 hS (hl.1.trans hml.symm) dX0_dump_32 dX0_dump_35 dX0_dump_36 dX0_dump_38 dX0_dump_41 (fun x hx => (hEx x hx).elim) (Nat.le_of_ble_eq_true rfl) (Nat.le_of_ble_eq_true rfl) (Nat.le_of_ble_eq_true rfl) (Nat.le_of_ble_eq_true rfl) hlocks (fun t ha hsz hk => ⟨(), trivial, Or.inl ⟨rfl, by omega⟩, Nat.le_trans hS.1 hsz, fun q h1 h2 => (hk q (Nat.lt_of_lt_of_le h1 hS.1)).trans (hS.2.1 q h1 h2)⟩) (fun z hz => (hS.2.2 z hz).elim) (by decide) (by decide)
    · obtain ⟨sa, hsa⟩ := hE.2.2.2.1 (37, "a level is 0 to 9") (List.mem_of_getElem? (i := 1) rfl)
      exact vx_throwS (own := RX0) (cls := eIA) (names := eN) hx hb hl9 hown (by decide +kernel) (by decide +kernel) (hw _ wkX0_30) (hw _ wi_6) hsa (hat_34 hE hw) (by decide +kernel) (exE_none hE).1.1 (exE_none hE).1.2 hS (hl.1.trans hml.symm) dX0_dump_10 dX0_dump_13 dX0_dump_14 dX0_dump_16 dX0_dump_19 (fun x hx => (hEx x hx).elim) (Nat.le_of_ble_eq_true rfl) (Nat.le_of_ble_eq_true rfl) (Nat.le_of_ble_eq_true rfl) (Nat.le_of_ble_eq_true rfl) hlocks (fun t ha hsz hk => ⟨(), trivial, Or.inl ⟨rfl, by omega⟩, Nat.le_trans hS.1 hsz, fun q h1 h2 => (hk q (Nat.lt_of_lt_of_le h1 hS.1)).trans (hS.2.1 q h1 h2)⟩) (fun z hz => (hS.2.2 z hz).elim) (by decide) (by decide)
set_option maxHeartbeats 4000000 in
set_option maxRecDepth 100000 in
theorem m_drop (l : Launch) (hl9 : l.stackTraces = false) (dC : Nat → ClassId) (dI : Nat → Nat → Nat) (ad : Nat → Nat) (ca : Nat → ClassId) (gL gB gD : Nat → Int) (gN : Nat → Int64) (gS : Nat → Int) (n r : Nat) (x : Int64) (hn : n ≤ 300) (q : Int) (hq : iR q) : vx_Met l yX0_drop wsX0_drop { frames := 6, cells := 1, slots := 6, locals := 82 } (PXe (dC, dI) vwCl (yX ca) (wX ad ca gL gB gD gN gS ((n : Int)) ((r : Int)) x) [.ref (ad 0), .int (iI q)]) (va_Qv (fun (_ : Unit) => 0 ≤ q ∧ q ≤ (n : Int)) (fun _ t => va_P (dC, dI) vwCl (wX ad ca gL gB gD gN gS ((n : Int) - q) ((r : Int)) x) t.heap) (inW (wX ad ca gL gB gD gN gS ((n : Int)) ((r : Int)) x))) (xcE (fun E => E = eIA ∧ (q < 0 ∨ (n : Int) < q))) 1 6 (inW (wX ad ca gL gB gD gN gS ((n : Int)) ((r : Int)) x)) := by
  refine vx_ofW (cc := cX0_drop) (maxL := 2) (ret := none) (by decide) rfl ?_
  intro p e s m args below meth c s₁ B hml hEx hv
  obtain ⟨rfl, hP, hK, hD0, hE⟩ := hv
  have hx := B.exec
  have hb := B.bytes
  have hr := B.returns
  have hts := atoms_spec (ws := wsX0_drop) B.pre
  have hown : s.vm.findClass RX0 = some m.cls := findClass_of_methodNamed B.named
  have hlocks := B.notSynchronized
  have hw := fun w h => hts w (List.mem_cons_of_mem _ h)
  have hinTX0 : ∀ w ∈ u_ws RX0 TX0 8, w ∈ wsX0_drop := wA_u wuX0
  have fl41 := hw _ wfX0_41
  have hD := hD0
  obtain ⟨H, hH⟩ : ∃ H, H = s.heap := ⟨_, rfl⟩
  obtain ⟨locs, hlc⟩ : ∃ L : List Loc, L = [] := ⟨_, rfl⟩
  have hS : va_S nF s.heap H locs := by rw [hH, hlc]; exact va_S.rf
  rw [← hH] at hP ⊢
  rw [← hlc]
  have hl := lv_entry ([.ref (ad 0), .int (iI q)]) (n := 2) (Nat.le_of_ble_eq_true rfl)
  rw [lg_entry_eq]
  generalize (lg_sl ([.ref (ad 0), .int (iI q)]) ++ List.replicate (2 - (lg_sl ([.ref (ad 0), .int (iI q)])).length) Slot.unset).toArray = ls at hl ⊢
  have hl : lv_has ls 2 [(0, .ref (ad 0)), (1, .int (iI q))] := hl
  refine lv_iload_n hx hb dX0_drop_0 rfl (lv_at hl 1 rfl) ?_
  refine r_if_lt hx hb dX0_drop_1 (tgt := 12) (by decide) (by omega) (fun hlt => ?_) (fun hge => ?_)
  · obtain ⟨sa, hsa⟩ := hE.2.2.2.1 (59, "there are not so many dumps") (List.mem_of_getElem? (i := 5) rfl)
    exact vx_throwS (own := RX0) (cls := eIA) (names := eN) hx hb hl9 hown (by decide +kernel) (by decide +kernel) (hw _ wkX0_30) (hw _ wi_6) hsa (hat_34 hE hw) (by decide +kernel) (exE_none hE).1.1 (exE_none hE).1.2 hS (hl.1.trans hml.symm) dX0_drop_12 dX0_drop_15 dX0_drop_16 dX0_drop_18 dX0_drop_21 (fun x hx => (hEx x hx).elim) (Nat.le_of_ble_eq_true rfl) (Nat.le_of_ble_eq_true rfl) (Nat.le_of_ble_eq_true rfl) (Nat.le_of_ble_eq_true rfl) hlocks (fun t ha hsz hk => ⟨(), trivial, ⟨rfl, Or.inl hlt⟩, Nat.le_trans hS.1 hsz, fun q h1 h2 => (hk q (Nat.lt_of_lt_of_le h1 hS.1)).trans (hS.2.1 q h1 h2)⟩) (fun z hz => (hS.2.2 z hz).elim) (by decide) (by decide)
  · refine lv_iload_n hx hb dX0_drop_4 rfl (lv_at hl 1 rfl) ?_
    refine lv_aload_n hx hb dX0_drop_5 rfl (lv_at hl 0 rfl) ?_
    refine va_get (D := (dC, dI)) (ci := 0) (v := .int (iI ((n : Int)))) (C := RX0) (T := TX0) (N := 8) hx hb hts hinTX0 hown hK hP 0 rfl rfl 5 (by decide) fl41 (fun _ h9 => h9) rfl dX0_drop_6 ?_
    refine r_icmp_le hx hb dX0_drop_9 (tgt := 22) (by decide) (by omega) (by omega) (fun hin9 => ?_) (fun hout => ?_)
    · have hD := wD_own hD0
      obtain ⟨A, hAe⟩ : ∃ A, A = inW (wX ad ca gL gB gD gN gS ((n : Int)) ((r : Int)) x) := ⟨_, rfl⟩
      rw [← hAe] at hD
      have hS : va_S A s.heap H locs := vS_up hS
      refine lv_aload_n hx hb dX0_drop_22 rfl (lv_at hl 0 rfl) ?_
      refine lv_dup hx hb dX0_drop_23 rfl ?_
      refine va_get (D := (dC, dI)) (ci := 0) (v := .int (iI ((n : Int)))) (C := RX0) (T := TX0) (N := 8) hx hb hts hinTX0 hown hK hP 0 rfl rfl 5 (by decide) fl41 (fun _ h9 => h9) rfl dX0_drop_24 ?_
      refine lv_iload_n hx hb dX0_drop_27 rfl (lv_at hl 1 rfl) ?_
      refine r_isub hx hb dX0_drop_28 ?_
      refine va_put (D := (dC, dI)) (ci := 0) (v := .int (iI (((n : Int)) - q))) (ty := .int) (C := RX0) (T := TX0) (N := 8) hx hb hts hinTX0 tyX0 tyX0_ok nmX0 hown hK hP hD hS 0 rfl rfl 5 (by decide) fl41 (fun _ h9 => h9) rfl (by decide +kernel) rfl rfl (Nat.le_of_ble_eq_true rfl) dX0_drop_29 (fun H locs hP hD hS => ?_)
      have hP : va_P (dC, dI) vwCl (wX ad ca gL gB gD gN gS (((n : Int)) - q) ((r : Int)) x) H := hP
      have hD : va_D A (wX ad ca gL gB gD gN gS (((n : Int)) - q) ((r : Int)) x) := hD
      subst hAe
      refine vx_ret ?_
      refine W.widen (k := 1) (n := 6) (by decide) (by decide) ?_
      exact W.vret hx hb hr (fun t ht hW => ⟨⟨(), rfl, ⟨hge, hin9⟩, by subst ht; exact hP⟩, hS.F ht⟩) hS.2.2 dX0_drop_32
    · obtain ⟨sa, hsa⟩ := hE.2.2.2.1 (59, "there are not so many dumps") (List.mem_of_getElem? (i := 5) rfl)
      exact vx_throwS (own := RX0) (cls := eIA) (names := eN) hx hb hl9 hown (by decide +kernel) (by decide +kernel) (hw _ wkX0_30) (hw _ wi_6) hsa (hat_34 hE hw) (by decide +kernel) (exE_none hE).1.1 (exE_none hE).1.2 hS (hl.1.trans hml.symm) dX0_drop_12 dX0_drop_15 dX0_drop_16 dX0_drop_18 dX0_drop_21 (fun x hx => (hEx x hx).elim) (Nat.le_of_ble_eq_true rfl) (Nat.le_of_ble_eq_true rfl) (Nat.le_of_ble_eq_true rfl) (Nat.le_of_ble_eq_true rfl) hlocks (fun t ha hsz hk => ⟨(), trivial, ⟨rfl, Or.inr hout⟩, Nat.le_trans hS.1 hsz, fun q h1 h2 => (hk q (Nat.lt_of_lt_of_le h1 hS.1)).trans (hS.2.1 q h1 h2)⟩) (fun z hz => (hS.2.2 z hz).elim) (by decide) (by decide)
set_option maxHeartbeats 4000000 in
set_option maxRecDepth 100000 in
theorem m_chain (l : Launch) (hl9 : l.stackTraces = false) (dC : Nat → ClassId) (dI : Nat → Nat → Nat) (ad : Nat → Nat) (ca : Nat → ClassId) (gL gB gD : Nat → Int) (gN : Nat → Int64) (gS : Nat → Int) (n r : Nat) (x : Int64) (L S : Nat → Nat) (lo : Nat → Bool) (hok : okS n L S r) (hT : tX n L S r lo gL gB gD gN gS x) (q k : Int) (hq : iR q) (hk0 : iR k) : vx_Met l yX0_chain wsX0_chain { frames := 7, cells := 2, slots := 12, locals := 103 } (PXe (dC, dI) vwCl (yX ca) (wX ad ca gL gB gD gN gS ((n : Int)) ((r : Int)) x) [.ref (ad 0), .int (iI q), .int (iI k)]) (RQi (fun y => (0 ≤ q ∧ q < (n : Int)) ∧ 0 ≤ k ∧ y = iI ((ch L (q.toNat + 1) k.toNat : Int) - 1))) (xcE (fun E => (E = eIX ∧ (q < 0 ∨ (n : Int) ≤ q)) ∨ (E = eIA ∧ (0 ≤ q ∧ q < (n : Int)) ∧ k < 0))) 2 12 nF := by
  refine vx_ofW (cc := cX0_chain) (maxL := 5) (ret := (some .int)) (by decide) rfl ?_
  intro p e s m args below meth c s₁ B hml hEx hv
  obtain ⟨rfl, hP, hK, hD0, hE⟩ := hv
  have hx := B.exec
  have hb := B.bytes
  have hr := B.returns
  have hts := atoms_spec (ws := wsX0_chain) B.pre
  have hown : s.vm.findClass RX0 = some m.cls := findClass_of_methodNamed B.named
  have hlocks := B.notSynchronized
  have hw := fun w h => hts w (List.mem_cons_of_mem _ h)
  have hinTX0 : ∀ w ∈ u_ws RX0 TX0 8, w ∈ wsX0_chain := wA_u wuX0
  have fl13 := hw _ wfX0_13
  have hD := hD0
  obtain ⟨H, hH⟩ : ∃ H, H = s.heap := ⟨_, rfl⟩
  obtain ⟨locs, hlc⟩ : ∃ L : List Loc, L = [] := ⟨_, rfl⟩
  have hS : va_S nF s.heap H locs := by rw [hH, hlc]; exact va_S.rf
  rw [← hH] at hP ⊢
  rw [← hlc]
  have hl := lv_entry ([.ref (ad 0), .int (iI q), .int (iI k)]) (n := 5) (Nat.le_of_ble_eq_true rfl)
  rw [lg_entry_eq]
  generalize (lg_sl ([.ref (ad 0), .int (iI q), .int (iI k)]) ++ List.replicate (5 - (lg_sl ([.ref (ad 0), .int (iI q), .int (iI k)])).length) Slot.unset).toArray = ls at hl ⊢
  have hl : lv_has ls 5 [(0, .ref (ad 0)), (1, .int (iI q)), (2, .int (iI k))] := hl
  obtain ⟨ok1, ok2, ok3, ok4, ok5⟩ := id hok
  refine lv_aload_n hx hb dX0_chain_0 rfl (lv_at hl 0 rfl) ?_
  refine lv_iload_n hx hb dX0_chain_1 rfl (lv_at hl 1 rfl) ?_
  refine vc_v (vx_runV (As := [.int (iI q)]) (rest := []) ⟨hx, hb, hml, hown, hts⟩ (m_checkDump l hl9 dC dI ad ca gL gB gD gN gS n r x q hq ok1) (cwV 1 hts (gV wlX0_61 wo_X0_checkDump wz_X0_checkDump wi_1 wcX0_checkDump) rfl rfl rfl (by decide +kernel) ⟨Nat.le_of_ble_eq_true rfl, Nat.le_of_ble_eq_true rfl⟩) (PXe_V (q0 := 0) (ci := 0) hP hK hD hE (fun a h _ => hS.2.1 a h (fun z => z)) (fun _ h => h) rfl rfl) rfl rfl hl.1 rfl (lv_room (Nat.le_of_ble_eq_true rfl)) dX0_chain_2 ⟨Nat.le_of_ble_eq_true rfl, Nat.le_of_ble_eq_true rfl⟩) hS hP (fun E ce q9 H locs hPE hS hce hcv hcl => ?_) (fun H locs hc hP hS => ?_)
  · exact vx_out (E := E) (fun x hx => (hEx x hx).elim) hlocks hce hcv hcl (fun t ht ha => ⟨(), trivial, Or.inl hPE, hS.F ht⟩) (fun z hz => (hS.2.2 z hz).elim) (by decide) (by decide)
  refine lv_iload_n hx hb dX0_chain_5 rfl (lv_at hl 2 rfl) ?_
  refine r_if_ge hx hb dX0_chain_6 (tgt := 19) (by decide) (by omega) (fun hge => ?_) (fun hlt => ?_)
  · have hl : lv_has ls 5 [(0, .ref (ad 0)), (1, .int (iI ((q.toNat : Int)))), (2, .int (iI k))] := by
      rw [Int.toNat_of_nonneg hc.1]
      exact hl
    refine lv_iload_n hx hb dX0_chain_19 rfl (lv_at hl 1 rfl) ?_
    refine lv_istore_n hx hb dX0_chain_20 rfl hl (by decide) rfl (fun ls hl => ?_)
    have hl : lv_has ls 5 [(3, .int (iI ((q.toNat : Int)))), (0, .ref (ad 0)), (1, .int (iI ((q.toNat : Int)))), (2, .int (iI k))] := hl
    refine r_iconst hx hb dX0_chain_21 ?_
    refine lv_istore hx hb dX0_chain_22 hl (by decide) rfl (fun ls hl => ?_)
    have hl : lv_has ls 5 [(4, .int (iI 0)), (3, .int (iI ((q.toNat : Int)))), (0, .ref (ad 0)), (1, .int (iI ((q.toNat : Int)))), (2, .int (iI k))] := hl
    have loop : ∀ (N : Nat) (i : Nat) (p9 : Nat) (ls : Array Slot), p9 < N → (i ≤ k.toNat) → (p9 = ch L (q.toNat + 1) i) → lv_has ls 5 [(4, .int (iI ((i : Int)))), (3, .int (iI ((p9 : Int) - 1))), (0, .ref (ad 0)), (1, .int (iI ((q.toNat : Int)))), (2, .int (iI k))] → W p l e (headSpec wsX0_chain { frames := 7, cells := 2, slots := 12, locals := 103 }).room s m ([.ref (ad 0), .int (iI q), .int (iI k)]).toArray below meth c H locs (0 + 1) (0 + 6) (vx_MQ below (RQi (fun y => (0 ≤ q ∧ q < (n : Int)) ∧ 0 ≤ k ∧ y = iI ((ch L (q.toNat + 1) k.toNat : Int) - 1))) (xcE (fun E => (E = eIX ∧ (q < 0 ∨ (n : Int) ≤ q)) ∨ (E = eIA ∧ (0 ≤ q ∧ q < (n : Int)) ∧ k < 0))) ([.ref (ad 0), .int (iI q), .int (iI k)]).toArray s 2 12 nF) (F0 m 24 ls []) := by
      intro N
      induction N with
      | zero => intro i p9 ls h; exact absurd h (Nat.not_lt_zero _)
      | succ N ih =>
        intro i p9 ls hN hi hp hl
        refine lv_iload hx hb dX0_chain_24 (lv_at hl 0 rfl) ?_
        refine lv_iload_n hx hb dX0_chain_26 rfl (lv_at hl 4 rfl) ?_
        refine r_icmp_ge hx hb dX0_chain_27 (tgt := 48) (by decide) (by omega) (by omega) (fun hge2 => ?_) (fun hlt2 => ?_)
        · have hik : i = k.toNat := by omega
          subst hik
          refine lv_iload_n hx hb dX0_chain_48 rfl (lv_at hl 1 rfl) ?_
          refine vx_ret ?_
          refine W.widen (k := 2) (n := 12) (by decide) (by decide) ?_
          exact W.iret (v := iI ((p9 : Int) - 1)) hx hb hr (fun t ht hW => ⟨⟨_, (), rfl, ⟨hc, hge, by rw [hp]⟩, trivial⟩, hS.F ht⟩) hS.2.2 dX0_chain_49
        · have hpl := ch_le L (q.toNat + 1) i
          refine lv_iload_n hx hb dX0_chain_30 rfl (lv_at hl 1 rfl) ?_
          refine r_iconst hx hb dX0_chain_31 ?_
          refine r_icmp_eq hx hb dX0_chain_32 (tgt := 48) (by decide) (by omega) (by omega) (fun heq => ?_) (fun hne => ?_)
          · have hp0 : p9 = 0 := by omega
            have hz := ch_0 (hp.symm.trans hp0) k.toNat (by omega)
            refine lv_iload_n hx hb dX0_chain_48 rfl (lv_at hl 1 rfl) ?_
            refine vx_ret ?_
            refine W.widen (k := 2) (n := 12) (by decide) (by decide) ?_
            exact W.iret (v := iI ((p9 : Int) - 1)) hx hb hr (fun t ht hW => ⟨⟨_, (), rfl, ⟨hc, hge, by rw [hz, hp0]⟩, trivial⟩, hS.F ht⟩) hS.2.2 dX0_chain_49
          · obtain ⟨j, hj⟩ : ∃ j, p9 = j + 1 := ⟨p9 - 1, by omega⟩
            have ej : ((p9 : Int) - 1).toNat = j := by omega
            obtain ⟨-, t2, -, -⟩ := hT.1 j (by omega)
            have hbl := bs_le L j
            refine lv_aload_n hx hb dX0_chain_35 rfl (lv_at hl 2 rfl) ?_
            refine va_get (D := (dC, dI)) (ci := 0) (v := .ref (ad 2)) (C := RX0) (T := TX0) (N := 8) hx hb hts hinTX0 hown hK hP 0 rfl rfl 1 (by decide) fl13 (fun _ h9 => h9) rfl dX0_chain_36 ?_
            refine lv_iload_n hx hb dX0_chain_39 rfl (lv_at hl 1 rfl) ?_
            refine r_iald hx hb hK hP 2 1 rfl rfl (by omega) (by omega) (by decide) dX0_chain_40 ?_
            refine r_topi (b := (bs L j : Int) - 1) (by rw [ej]; exact t2) ?_
            refine lv_istore_n hx hb dX0_chain_41 rfl hl (by decide) rfl (fun ls hl => ?_)
            have hl : lv_has ls 5 [(3, .int (iI ((bs L j : Int) - 1))), (4, .int (iI ((i : Int)))), (0, .ref (ad 0)), (1, .int (iI ((q.toNat : Int)))), (2, .int (iI k))] := hl
            refine r_iinc (k := 1) hx hb dX0_chain_42 hl rfl (by decide) rfl (fun ls hl => ?_)
            have hl : lv_has ls 5 [(4, .int (iI ((i : Int) + 1))), (3, .int (iI ((bs L j : Int) - 1))), (0, .ref (ad 0)), (1, .int (iI ((q.toNat : Int)))), (2, .int (iI k))] := hl
            refine lv_goto hx hb dX0_chain_45 (tgt := 24) (by decide) ?_
            have hl : lv_has ls 5 [(4, .int (iI ((i + 1 : Nat) : Int))), (3, .int (iI ((bs L j : Int) - 1))), (0, .ref (ad 0)), (1, .int (iI (q.toNat : Int))), (2, .int (iI k))] := by
              rw [show ((i + 1 : Nat) : Int) = (i : Int) + 1 by omega]
              exact hl
            exact ih (i + 1) (bs L j) ls (by omega) (by omega) (by show bs L j = nx L (ch L (q.toNat + 1) i); rw [← hp, hj]; rfl) hl
    have hl : lv_has ls 5 [(4, .int (iI ((0 : Nat) : Int))), (3, .int (iI (((q.toNat + 1 : Nat) : Int) - 1))), (0, .ref (ad 0)), (1, .int (iI (q.toNat : Int))), (2, .int (iI k))] := by
      rw [show ((q.toNat + 1 : Nat) : Int) - 1 = (q.toNat : Int) by omega]
      exact hl
    exact loop (q.toNat + 2) 0 (q.toNat + 1) ls (by omega) (Nat.zero_le _) rfl hl
  · obtain ⟨sa, hsa⟩ := hE.2.2.2.1 (64, "a chain is counted from 0") (List.mem_of_getElem? (i := 7) rfl)
    exact vx_throwS (own := RX0) (cls := eIA) (names := eN) hx hb hl9 hown (by decide +kernel) (by decide +kernel) (hw _ wkX0_30) (hw _ wi_6) hsa (hat_34 hE hw) (by decide +kernel) (exE_none hE).1.1 (exE_none hE).1.2 hS (hl.1.trans hml.symm) dX0_chain_9 dX0_chain_12 dX0_chain_13 dX0_chain_15 dX0_chain_18 (fun x hx => (hEx x hx).elim) (Nat.le_of_ble_eq_true rfl) (Nat.le_of_ble_eq_true rfl) (Nat.le_of_ble_eq_true rfl) (Nat.le_of_ble_eq_true rfl) hlocks (fun t ha hsz hk => ⟨(), trivial, Or.inr ⟨rfl, hc, hlt⟩, Nat.le_trans hS.1 hsz, fun q h1 h2 => (hk q (Nat.lt_of_lt_of_le h1 hS.1)).trans (hS.2.1 q h1 h2)⟩) (fun z hz => (hS.2.2 z hz).elim) (by decide) (by decide)
set_option maxHeartbeats 4000000 in
set_option maxRecDepth 100000 in
theorem m_depth (l : Launch) (hl9 : l.stackTraces = false) (dC : Nat → ClassId) (dI : Nat → Nat → Nat) (ad : Nat → Nat) (ca : Nat → ClassId) (gL gB gD : Nat → Int) (gN : Nat → Int64) (gS : Nat → Int) (n r : Nat) (x : Int64) (L S : Nat → Nat) (lo : Nat → Bool) (hok : okS n L S r) (hT : tX n L S r lo gL gB gD gN gS x) (q : Int) (hq : iR q) : vx_Met l yX0_depth wsX0_depth { frames := 7, cells := 1, slots := 6, locals := 103 } (PXe (dC, dI) vwCl (yX ca) (wX ad ca gL gB gD gN gS ((n : Int)) ((r : Int)) x) [.ref (ad 0), .int (iI q)]) (RQi (fun y => (0 ≤ q ∧ q < (n : Int)) ∧ y = iI (dp L (q.toNat + 1) : Int))) (xcE (fun E => E = eIX ∧ (q < 0 ∨ (n : Int) ≤ q))) 1 6 nF := by
  refine vx_ofW (cc := cX0_depth) (maxL := 2) (ret := (some .int)) (by decide) rfl ?_
  intro p e s m args below meth c s₁ B hml hEx hv
  obtain ⟨rfl, hP, hK, hD0, hE⟩ := hv
  have hx := B.exec
  have hb := B.bytes
  have hr := B.returns
  have hts := atoms_spec (ws := wsX0_depth) B.pre
  have hown : s.vm.findClass RX0 = some m.cls := findClass_of_methodNamed B.named
  have hlocks := B.notSynchronized
  have hw := fun w h => hts w (List.mem_cons_of_mem _ h)
  have hinTX0 : ∀ w ∈ u_ws RX0 TX0 8, w ∈ wsX0_depth := wA_u wuX0
  have fl16 := hw _ wfX0_16
  have hD := hD0
  obtain ⟨H, hH⟩ : ∃ H, H = s.heap := ⟨_, rfl⟩
  obtain ⟨locs, hlc⟩ : ∃ L : List Loc, L = [] := ⟨_, rfl⟩
  have hS : va_S nF s.heap H locs := by rw [hH, hlc]; exact va_S.rf
  rw [← hH] at hP ⊢
  rw [← hlc]
  have hl := lv_entry ([.ref (ad 0), .int (iI q)]) (n := 2) (Nat.le_of_ble_eq_true rfl)
  rw [lg_entry_eq]
  generalize (lg_sl ([.ref (ad 0), .int (iI q)]) ++ List.replicate (2 - (lg_sl ([.ref (ad 0), .int (iI q)])).length) Slot.unset).toArray = ls at hl ⊢
  have hl : lv_has ls 2 [(0, .ref (ad 0)), (1, .int (iI q))] := hl
  obtain ⟨ok1, ok2, ok3, ok4, ok5⟩ := id hok
  refine lv_aload_n hx hb dX0_depth_0 rfl (lv_at hl 0 rfl) ?_
  refine lv_iload_n hx hb dX0_depth_1 rfl (lv_at hl 1 rfl) ?_
  refine vc_v (vx_runV (As := [.int (iI q)]) (rest := []) ⟨hx, hb, hml, hown, hts⟩ (m_checkDump l hl9 dC dI ad ca gL gB gD gN gS n r x q hq ok1) (cwV 1 hts (gV wlX0_61 wo_X0_checkDump wz_X0_checkDump wi_1 wcX0_checkDump) rfl rfl rfl (by decide +kernel) ⟨Nat.le_of_ble_eq_true rfl, Nat.le_of_ble_eq_true rfl⟩) (PXe_V (q0 := 0) (ci := 0) hP hK hD hE (fun a h _ => hS.2.1 a h (fun z => z)) (fun _ h => h) rfl rfl) rfl rfl hl.1 rfl (lv_room (Nat.le_of_ble_eq_true rfl)) dX0_depth_2 ⟨Nat.le_of_ble_eq_true rfl, Nat.le_of_ble_eq_true rfl⟩) hS hP (fun E ce q9 H locs hPE hS hce hcv hcl => ?_) (fun H locs hc hP hS => ?_)
  · exact vx_out (E := E) (fun x hx => (hEx x hx).elim) hlocks hce hcv hcl (fun t ht ha => ⟨(), trivial, hPE, hS.F ht⟩) (fun z hz => (hS.2.2 z hz).elim) (by decide) (by decide)
  obtain ⟨-, -, t3, -⟩ := hT.1 q.toNat (by omega)
  refine lv_aload_n hx hb dX0_depth_5 rfl (lv_at hl 0 rfl) ?_
  refine va_get (D := (dC, dI)) (ci := 0) (v := .ref (ad 3)) (C := RX0) (T := TX0) (N := 8) hx hb hts hinTX0 hown hK hP 0 rfl rfl 2 (by decide) fl16 (fun _ h9 => h9) rfl dX0_depth_6 ?_
  refine lv_iload_n hx hb dX0_depth_9 rfl (lv_at hl 1 rfl) ?_
  refine r_iald hx hb hK hP 3 2 rfl rfl (by omega) (by omega) (by decide) dX0_depth_10 ?_
  refine vx_ret ?_
  refine W.widen (k := 1) (n := 6) (by decide) (by decide) ?_
  exact W.iret (v := iI (gD (q).toNat)) hx hb hr (fun t ht hW => ⟨⟨_, (), rfl, ⟨hc, by rw [t3]⟩, trivial⟩, hS.F ht⟩) hS.2.2 dX0_depth_11
set_option maxHeartbeats 4000000 in
set_option maxRecDepth 100000 in
theorem m_place (l : Launch) (hl9 : l.stackTraces = false) (dC : Nat → ClassId) (dI : Nat → Nat → Nat) (ad : Nat → Nat) (ca : Nat → ClassId) (gL gB gD : Nat → Int) (gN : Nat → Int64) (gS : Nat → Int) (n r : Nat) (x : Int64) (L S : Nat → Nat) (lo : Nat → Bool) (hok : okS n L S r) (hT : tX n L S r lo gL gB gD gN gS x) (q k : Int) (hq : iR q) (hk0 : iR k) : vx_Met l yX0_place wsX0_place { frames := 7, cells := 2, slots := 12, locals := 103 } (PXe (dC, dI) vwCl (yX ca) (wX ad ca gL gB gD gN gS ((n : Int)) ((r : Int)) x) [.ref (ad 0), .int (iI q), .int (iI k)]) (RQi (fun y => (0 ≤ q ∧ q < (n : Int)) ∧ (0 ≤ k ∧ k < (S q.toNat : Int)) ∧ y = iI (1000 * (((sm S q.toNat : Int) + k) / (r : Int)) + 1 + ((sm S q.toNat : Int) + k) % (r : Int)))) (xcE (fun E => (E = eIX ∧ (q < 0 ∨ (n : Int) ≤ q)) ∨ (E = eIA ∧ (0 ≤ q ∧ q < (n : Int)) ∧ ¬ (0 ≤ k ∧ k < (S q.toNat : Int))))) 2 12 nF := by
  refine vx_ofW (cc := cX0_place) (maxL := 4) (ret := (some .int)) (by decide) rfl ?_
  intro p e s m args below meth c s₁ B hml hEx hv
  obtain ⟨rfl, hP, hK, hD0, hE⟩ := hv
  have hx := B.exec
  have hb := B.bytes
  have hr := B.returns
  have hts := atoms_spec (ws := wsX0_place) B.pre
  have hown : s.vm.findClass RX0 = some m.cls := findClass_of_methodNamed B.named
  have hlocks := B.notSynchronized
  have hw := fun w h => hts w (List.mem_cons_of_mem _ h)
  have hinTX0 : ∀ w ∈ u_ws RX0 TX0 8, w ∈ wsX0_place := wA_u wuX0
  have fl23 := hw _ wfX0_23
  have fl50 := hw _ wfX0_50
  have hD := hD0
  obtain ⟨H, hH⟩ : ∃ H, H = s.heap := ⟨_, rfl⟩
  obtain ⟨locs, hlc⟩ : ∃ L : List Loc, L = [] := ⟨_, rfl⟩
  have hS : va_S nF s.heap H locs := by rw [hH, hlc]; exact va_S.rf
  rw [← hH] at hP ⊢
  rw [← hlc]
  have hl := lv_entry ([.ref (ad 0), .int (iI q), .int (iI k)]) (n := 4) (Nat.le_of_ble_eq_true rfl)
  rw [lg_entry_eq]
  generalize (lg_sl ([.ref (ad 0), .int (iI q), .int (iI k)]) ++ List.replicate (4 - (lg_sl ([.ref (ad 0), .int (iI q), .int (iI k)])).length) Slot.unset).toArray = ls at hl ⊢
  have hl : lv_has ls 4 [(0, .ref (ad 0)), (1, .int (iI q)), (2, .int (iI k))] := hl
  obtain ⟨ok1, ok2, ok3, ok4, ok5⟩ := id hok
  refine lv_aload_n hx hb dX0_place_0 rfl (lv_at hl 0 rfl) ?_
  refine lv_iload_n hx hb dX0_place_1 rfl (lv_at hl 1 rfl) ?_
  refine vc_v (vx_runV (As := [.int (iI q)]) (rest := []) ⟨hx, hb, hml, hown, hts⟩ (m_checkDump l hl9 dC dI ad ca gL gB gD gN gS n r x q hq ok1) (cwV 1 hts (gV wlX0_61 wo_X0_checkDump wz_X0_checkDump wi_1 wcX0_checkDump) rfl rfl rfl (by decide +kernel) ⟨Nat.le_of_ble_eq_true rfl, Nat.le_of_ble_eq_true rfl⟩) (PXe_V (q0 := 0) (ci := 0) hP hK hD hE (fun a h _ => hS.2.1 a h (fun z => z)) (fun _ h => h) rfl rfl) rfl rfl hl.1 rfl (lv_room (Nat.le_of_ble_eq_true rfl)) dX0_place_2 ⟨Nat.le_of_ble_eq_true rfl, Nat.le_of_ble_eq_true rfl⟩) hS hP (fun E ce q9 H locs hPE hS hce hcv hcl => ?_) (fun H locs hc hP hS => ?_)
  · exact vx_out (E := E) (fun x hx => (hEx x hx).elim) hlocks hce hcv hcl (fun t ht ha => ⟨(), trivial, Or.inl hPE, hS.F ht⟩) (fun z hz => (hS.2.2 z hz).elim) (by decide) (by decide)
  have eq1 : (q + 1).toNat = q.toNat + 1 := by omega
  have t5 := hT.2.1 q.toNat (by omega)
  have t6 := hT.2.1 (q.toNat + 1) (by omega)
  have hsm : sm S (q.toNat + 1) = sm S q.toNat + S q.toNat := rfl
  have hsl : sm S (q.toNat + 1) ≤ sm S n := sm_mono (by omega)
  obtain ⟨-, hs1, hs2⟩ := ok4 q.toNat (by omega)
  refine lv_iload_n hx hb dX0_place_5 rfl (lv_at hl 2 rfl) ?_
  refine r_if_lt hx hb dX0_place_6 (tgt := 28) (by decide) (by omega) (fun hlt => ?_) (fun hge => ?_)
  · obtain ⟨sa, hsa⟩ := hE.2.2.2.1 (66, "the dump has no such block") (List.mem_of_getElem? (i := 8) rfl)
    exact vx_throwS (own := RX0) (cls := eIA) (names := eN) hx hb hl9 hown (by decide +kernel) (by decide +kernel) (hw _ wkX0_30) (hw _ wi_6) hsa (hat_34 hE hw) (by decide +kernel) (exE_none hE).1.1 (exE_none hE).1.2 hS (hl.1.trans hml.symm) dX0_place_28 dX0_place_31 dX0_place_32 dX0_place_34 dX0_place_37 (fun x hx => (hEx x hx).elim) (Nat.le_of_ble_eq_true rfl) (Nat.le_of_ble_eq_true rfl) (Nat.le_of_ble_eq_true rfl) (Nat.le_of_ble_eq_true rfl) hlocks (fun t ha hsz hk => ⟨(), trivial, Or.inr ⟨rfl, hc, by omega⟩, Nat.le_trans hS.1 hsz, fun q h1 h2 => (hk q (Nat.lt_of_lt_of_le h1 hS.1)).trans (hS.2.1 q h1 h2)⟩) (fun z hz => (hS.2.2 z hz).elim) (by decide) (by decide)
  · refine lv_iload_n hx hb dX0_place_9 rfl (lv_at hl 2 rfl) ?_
    refine lv_aload_n hx hb dX0_place_10 rfl (lv_at hl 0 rfl) ?_
    refine va_get (D := (dC, dI)) (ci := 0) (v := .ref (ad 5)) (C := RX0) (T := TX0) (N := 8) hx hb hts hinTX0 hown hK hP 0 rfl rfl 4 (by decide) fl23 (fun _ h9 => h9) rfl dX0_place_11 ?_
    refine lv_iload_n hx hb dX0_place_14 rfl (lv_at hl 1 rfl) ?_
    refine r_iconst hx hb dX0_place_15 ?_
    refine r_iadd hx hb dX0_place_16 ?_
    refine r_iald hx hb hK hP 5 4 rfl rfl (by omega) (by omega) (by decide) dX0_place_17 ?_
    refine r_topi (b := (sm S (q.toNat + 1) : Int)) (by rw [eq1]; exact t6) ?_
    refine lv_aload_n hx hb dX0_place_18 rfl (lv_at hl 0 rfl) ?_
    refine va_get (D := (dC, dI)) (ci := 0) (v := .ref (ad 5)) (C := RX0) (T := TX0) (N := 8) hx hb hts hinTX0 hown hK hP 0 rfl rfl 4 (by decide) fl23 (fun _ h9 => h9) rfl dX0_place_19 ?_
    refine lv_iload_n hx hb dX0_place_22 rfl (lv_at hl 1 rfl) ?_
    refine r_iald hx hb hK hP 5 4 rfl rfl (by omega) (by omega) (by decide) dX0_place_23 ?_
    refine r_topi (b := (sm S q.toNat : Int)) (t5) ?_
    refine r_isub hx hb dX0_place_24 ?_
    refine r_icmp_lt hx hb dX0_place_25 (tgt := 38) (by decide) (by omega) (by omega) (fun hin9 => ?_) (fun hout => ?_)
    · refine lv_aload_n hx hb dX0_place_38 rfl (lv_at hl 0 rfl) ?_
      refine va_get (D := (dC, dI)) (ci := 0) (v := .ref (ad 5)) (C := RX0) (T := TX0) (N := 8) hx hb hts hinTX0 hown hK hP 0 rfl rfl 4 (by decide) fl23 (fun _ h9 => h9) rfl dX0_place_39 ?_
      refine lv_iload_n hx hb dX0_place_42 rfl (lv_at hl 1 rfl) ?_
      refine r_iald hx hb hK hP 5 4 rfl rfl (by omega) (by omega) (by decide) dX0_place_43 ?_
      refine r_topi (b := (sm S q.toNat : Int)) (t5) ?_
      refine lv_iload_n hx hb dX0_place_44 rfl (lv_at hl 2 rfl) ?_
      refine r_iadd hx hb dX0_place_45 ?_
      refine lv_istore_n hx hb dX0_place_46 rfl hl (by decide) rfl (fun ls hl => ?_)
      have hl : lv_has ls 4 [(3, .int (iI (((sm S q.toNat : Int)) + k))), (0, .ref (ad 0)), (1, .int (iI q)), (2, .int (iI k))] := hl
      refine r_sipush hx hb dX0_place_47 (by decide +kernel) ?_
      refine lv_aload_n hx hb dX0_place_50 rfl (lv_at hl 1 rfl) ?_
      refine lv_iload_n hx hb dX0_place_51 rfl (lv_at hl 0 rfl) ?_
      refine ro_z (z := ((sm S q.toNat : Int) + k) / (r : Int)) (va_runV (As := [.int (iI (((sm S q.toNat : Int)) + k))]) (rest := [.int (iI 1000)]) ⟨hx, hb, hml, hown, hts⟩ (m_volumeAt l dC dI ad ca gL gB gD gN gS n r x ((sm S q.toNat : Int) + k) (by omega) (by omega) ok2 ok3) (cwV 1 hts (gV wlX0_68 wo_X0_volumeAt wz_X0_volumeAt wi_1 wcX0_volumeAt) rfl rfl rfl (by decide +kernel) ⟨Nat.le_of_ble_eq_true rfl, Nat.le_of_ble_eq_true rfl⟩) (PX_V (q0 := 0) (ci := 0) hP hK hD rfl rfl) rfl rfl hl.1 rfl (lv_room (Nat.le_of_ble_eq_true rfl)) dX0_place_52 ⟨Nat.le_of_ble_eq_true rfl, Nat.le_of_ble_eq_true rfl⟩) hS hP (fun H locs hP hS => ?_)
      refine r_imul hx hb dX0_place_55 ?_
      refine r_iconst hx hb dX0_place_56 ?_
      refine r_iadd hx hb dX0_place_57 ?_
      refine lv_iload_n hx hb dX0_place_58 rfl (lv_at hl 0 rfl) ?_
      refine lv_aload_n hx hb dX0_place_59 rfl (lv_at hl 1 rfl) ?_
      refine va_get (D := (dC, dI)) (ci := 0) (v := .int (iI ((r : Int)))) (C := RX0) (T := TX0) (N := 8) hx hb hts hinTX0 hown hK hP 0 rfl rfl 6 (by decide) fl50 (fun _ h9 => h9) rfl dX0_place_60 ?_
      refine r_irem hx hb dX0_place_63 (by omega) (by omega) (by omega) (by omega) ?_
      refine r_iadd hx hb dX0_place_64 ?_
      refine vx_ret ?_
      refine W.widen (k := 2) (n := 12) (by decide) (by decide) ?_
      exact W.iret (v := iI (((1000 * (((sm S q.toNat : Int) + k) / (r : Int))) + 1) + ((((sm S q.toNat : Int)) + k) % ((r : Int))))) hx hb hr (fun t ht hW => ⟨⟨_, (), rfl, ⟨hc, by omega, rfl⟩, trivial⟩, hS.F ht⟩) hS.2.2 dX0_place_65
    · obtain ⟨sa, hsa⟩ := hE.2.2.2.1 (66, "the dump has no such block") (List.mem_of_getElem? (i := 8) rfl)
      exact vx_throwS (own := RX0) (cls := eIA) (names := eN) hx hb hl9 hown (by decide +kernel) (by decide +kernel) (hw _ wkX0_30) (hw _ wi_6) hsa (hat_34 hE hw) (by decide +kernel) (exE_none hE).1.1 (exE_none hE).1.2 hS (hl.1.trans hml.symm) dX0_place_28 dX0_place_31 dX0_place_32 dX0_place_34 dX0_place_37 (fun x hx => (hEx x hx).elim) (Nat.le_of_ble_eq_true rfl) (Nat.le_of_ble_eq_true rfl) (Nat.le_of_ble_eq_true rfl) (Nat.le_of_ble_eq_true rfl) hlocks (fun t ha hsz hk => ⟨(), trivial, Or.inr ⟨rfl, hc, by omega⟩, Nat.le_trans hS.1 hsz, fun q h1 h2 => (hk q (Nat.lt_of_lt_of_le h1 hS.1)).trans (hS.2.1 q h1 h2)⟩) (fun z hz => (hS.2.2 z hz).elim) (by decide) (by decide)
set_option maxHeartbeats 4000000 in
set_option maxRecDepth 100000 in
theorem m_owner (l : Launch) (hl9 : l.stackTraces = false) (dC : Nat → ClassId) (dI : Nat → Nat → Nat) (ad : Nat → Nat) (ca : Nat → ClassId) (gL gB gD : Nat → Int) (gN : Nat → Int64) (gS : Nat → Int) (n r : Nat) (x : Int64) (L S : Nat → Nat) (lo : Nat → Bool) (hok : okS n L S r) (hT : tX n L S r lo gL gB gD gN gS x) (v b : Int) (hv : iR v) (hb0 : iR b) : vx_Met l yX0_owner wsX0_owner { frames := 7, cells := 2, slots := 12, locals := 103 } (PXe (dC, dI) vwCl (yX ca) (wX ad ca gL gB gD gN gS ((n : Int)) ((r : Int)) x) [.ref (ad 0), .int (iI v), .int (iI b)]) (RQi (fun y => ((0 ≤ v ∧ v < 64) ∧ 0 ≤ b ∧ b ≤ (r : Int)) ∧ y = iI (if b = 0 then -1 else (ow S (v * (r : Int) + b - 1).toNat n : Int) - 1))) (xcE (fun E => E = eIA ∧ ¬ ((0 ≤ v ∧ v < 64) ∧ 0 ≤ b ∧ b ≤ (r : Int)))) 2 12 nF := by
  refine vx_ofW (cc := cX0_owner) (maxL := 3) (ret := (some .int)) (by decide) rfl ?_
  intro p e s m args below meth c s₁ B hml hEx hv
  obtain ⟨rfl, hP, hK, hD0, hE⟩ := hv
  have hx := B.exec
  have hb := B.bytes
  have hr := B.returns
  have hts := atoms_spec (ws := wsX0_owner) B.pre
  have hown : s.vm.findClass RX0 = some m.cls := findClass_of_methodNamed B.named
  have hlocks := B.notSynchronized
  have hw := fun w h => hts w (List.mem_cons_of_mem _ h)
  have hinTX0 : ∀ w ∈ u_ws RX0 TX0 8, w ∈ wsX0_owner := wA_u wuX0
  have fl50 := hw _ wfX0_50
  have hD := hD0
  obtain ⟨H, hH⟩ : ∃ H, H = s.heap := ⟨_, rfl⟩
  obtain ⟨locs, hlc⟩ : ∃ L : List Loc, L = [] := ⟨_, rfl⟩
  have hS : va_S nF s.heap H locs := by rw [hH, hlc]; exact va_S.rf
  rw [← hH] at hP ⊢
  rw [← hlc]
  have hl := lv_entry ([.ref (ad 0), .int (iI v), .int (iI b)]) (n := 3) (Nat.le_of_ble_eq_true rfl)
  rw [lg_entry_eq]
  generalize (lg_sl ([.ref (ad 0), .int (iI v), .int (iI b)]) ++ List.replicate (3 - (lg_sl ([.ref (ad 0), .int (iI v), .int (iI b)])).length) Slot.unset).toArray = ls at hl ⊢
  have hl : lv_has ls 3 [(0, .ref (ad 0)), (1, .int (iI v)), (2, .int (iI b))] := hl
  obtain ⟨ok1, ok2, ok3, ok4, ok5⟩ := id hok
  refine lv_aload_n hx hb dX0_owner_0 rfl (lv_at hl 0 rfl) ?_
  refine lv_iload_n hx hb dX0_owner_1 rfl (lv_at hl 1 rfl) ?_
  refine vc_v (vx_runV (As := [.int (iI v)]) (rest := []) ⟨hx, hb, hml, hown, hts⟩ (m_checkVolume l hl9 dC dI ad ca gL gB gD gN gS n r x v hv) (cwV 1 hts (gV wlX0_72 wo_X0_checkVolume wz_X0_checkVolume wi_1 wcX0_checkVolume) rfl rfl rfl (by decide +kernel) ⟨Nat.le_of_ble_eq_true rfl, Nat.le_of_ble_eq_true rfl⟩) (PXe_V (q0 := 0) (ci := 0) hP hK hD hE (fun a h _ => hS.2.1 a h (fun z => z)) (fun _ h => h) rfl rfl) rfl rfl hl.1 rfl (lv_room (Nat.le_of_ble_eq_true rfl)) dX0_owner_2 ⟨Nat.le_of_ble_eq_true rfl, Nat.le_of_ble_eq_true rfl⟩) hS hP (fun E ce q9 H locs hPE hS hce hcv hcl => ?_) (fun H locs hc hP hS => ?_)
  · exact vx_out (E := E) (fun x hx => (hEx x hx).elim) hlocks hce hcv hcl (fun t ht ha => ⟨(), trivial, ⟨hPE.1, by have := hPE.2; omega⟩, hS.F ht⟩) (fun z hz => (hS.2.2 z hz).elim) (by decide) (by decide)
  refine lv_iload_n hx hb dX0_owner_5 rfl (lv_at hl 2 rfl) ?_
  refine r_if_lt hx hb dX0_owner_6 (tgt := 17) (by decide) (by omega) (fun hlt => ?_) (fun hge => ?_)
  · obtain ⟨sa, hsa⟩ := hE.2.2.2.1 (75, "a volume has no such block") (List.mem_of_getElem? (i := 10) rfl)
    exact vx_throwS (own := RX0) (cls := eIA) (names := eN) hx hb hl9 hown (by decide +kernel) (by decide +kernel) (hw _ wkX0_30) (hw _ wi_6) hsa (hat_34 hE hw) (by decide +kernel) (exE_none hE).1.1 (exE_none hE).1.2 hS (hl.1.trans hml.symm) dX0_owner_17 dX0_owner_20 dX0_owner_21 dX0_owner_23 dX0_owner_26 (fun x hx => (hEx x hx).elim) (Nat.le_of_ble_eq_true rfl) (Nat.le_of_ble_eq_true rfl) (Nat.le_of_ble_eq_true rfl) (Nat.le_of_ble_eq_true rfl) hlocks (fun t ha hsz hk => ⟨(), trivial, ⟨rfl, by omega⟩, Nat.le_trans hS.1 hsz, fun q h1 h2 => (hk q (Nat.lt_of_lt_of_le h1 hS.1)).trans (hS.2.1 q h1 h2)⟩) (fun z hz => (hS.2.2 z hz).elim) (by decide) (by decide)
  · refine lv_iload_n hx hb dX0_owner_9 rfl (lv_at hl 2 rfl) ?_
    refine lv_aload_n hx hb dX0_owner_10 rfl (lv_at hl 0 rfl) ?_
    refine va_get (D := (dC, dI)) (ci := 0) (v := .int (iI ((r : Int)))) (C := RX0) (T := TX0) (N := 8) hx hb hts hinTX0 hown hK hP 0 rfl rfl 6 (by decide) fl50 (fun _ h9 => h9) rfl dX0_owner_11 ?_
    refine r_icmp_le hx hb dX0_owner_14 (tgt := 27) (by decide) (by omega) (by omega) (fun hin9 => ?_) (fun hout => ?_)
    · refine lv_iload_n hx hb dX0_owner_27 rfl (lv_at hl 2 rfl) ?_
      refine r_if_ne hx hb dX0_owner_28 (tgt := 35) (by decide) (by omega) (fun hne => ?_) (fun heq => ?_)
      · have hm1 : 0 ≤ v * (r : Int) := Int.mul_nonneg hc.1 (by omega)
        have hm2 : v * (r : Int) ≤ 63 * (r : Int) := Int.mul_le_mul_of_nonneg_right (by omega) (by omega)
        refine lv_aload_n hx hb dX0_owner_35 rfl (lv_at hl 0 rfl) ?_
        refine lv_iload_n hx hb dX0_owner_36 rfl (lv_at hl 1 rfl) ?_
        refine lv_aload_n hx hb dX0_owner_37 rfl (lv_at hl 0 rfl) ?_
        refine va_get (D := (dC, dI)) (ci := 0) (v := .int (iI ((r : Int)))) (C := RX0) (T := TX0) (N := 8) hx hb hts hinTX0 hown hK hP 0 rfl rfl 6 (by decide) fl50 (fun _ h9 => h9) rfl dX0_owner_38 ?_
        refine r_imul hx hb dX0_owner_41 ?_
        refine lv_iload_n hx hb dX0_owner_42 rfl (lv_at hl 2 rfl) ?_
        refine r_iadd hx hb dX0_owner_43 ?_
        refine r_iconst hx hb dX0_owner_44 ?_
        refine r_isub hx hb dX0_owner_45 ?_
        refine r_topi (b := ((v * (r : Int) + b - 1).toNat : Int)) ((Int.toNat_of_nonneg (by omega)).symm) ?_
        refine ro_z (z := (ow S (v * (r : Int) + b - 1).toNat n : Int) - 1) (va_runV (As := [.int (iI (((v * (r : Int) + b - 1).toNat : Int)))]) (rest := []) ⟨hx, hb, hml, hown, hts⟩ (m_dumpAt l dC dI ad ca gL gB gD gN gS n r x S (v * (r : Int) + b - 1).toNat (by omega) (by omega) (by omega) hT.2.1) (cwV 1 hts (gV wlX0_77 wo_X0_dumpAt wz_X0_dumpAt wi_1 wcX0_dumpAt) rfl rfl rfl (by decide +kernel) ⟨Nat.le_of_ble_eq_true rfl, Nat.le_of_ble_eq_true rfl⟩) (PX_V (q0 := 0) (ci := 0) hP hK hD rfl rfl) rfl rfl hl.1 rfl (lv_room (Nat.le_of_ble_eq_true rfl)) dX0_owner_46 ⟨Nat.le_of_ble_eq_true rfl, Nat.le_of_ble_eq_true rfl⟩) hS hP (fun H locs hP hS => ?_)
        refine vx_ret ?_
        refine W.widen (k := 2) (n := 12) (by decide) (by decide) ?_
        exact W.iret (v := iI ((ow S (v * (r : Int) + b - 1).toNat n : Int) - 1)) hx hb hr (fun t ht hW => ⟨⟨_, (), rfl, ⟨⟨hc, by omega, by omega⟩, by rw [if_neg hne]⟩, trivial⟩, hS.F ht⟩) hS.2.2 dX0_owner_49
      · refine r_iconst hx hb dX0_owner_31 ?_
        refine lv_goto hx hb dX0_owner_32 (tgt := 49) (by decide) ?_
        refine vx_ret ?_
        refine W.widen (k := 2) (n := 12) (by decide) (by decide) ?_
        exact W.iret (v := iI ((-1))) hx hb hr (fun t ht hW => ⟨⟨_, (), rfl, ⟨⟨hc, by omega, by omega⟩, by rw [if_pos heq]⟩, trivial⟩, hS.F ht⟩) hS.2.2 dX0_owner_49
    · obtain ⟨sa, hsa⟩ := hE.2.2.2.1 (75, "a volume has no such block") (List.mem_of_getElem? (i := 10) rfl)
      exact vx_throwS (own := RX0) (cls := eIA) (names := eN) hx hb hl9 hown (by decide +kernel) (by decide +kernel) (hw _ wkX0_30) (hw _ wi_6) hsa (hat_34 hE hw) (by decide +kernel) (exE_none hE).1.1 (exE_none hE).1.2 hS (hl.1.trans hml.symm) dX0_owner_17 dX0_owner_20 dX0_owner_21 dX0_owner_23 dX0_owner_26 (fun x hx => (hEx x hx).elim) (Nat.le_of_ble_eq_true rfl) (Nat.le_of_ble_eq_true rfl) (Nat.le_of_ble_eq_true rfl) (Nat.le_of_ble_eq_true rfl) hlocks (fun t ha hsz hk => ⟨(), trivial, ⟨rfl, by omega⟩, Nat.le_trans hS.1 hsz, fun q h1 h2 => (hk q (Nat.lt_of_lt_of_le h1 hS.1)).trans (hS.2.1 q h1 h2)⟩) (fun z hz => (hS.2.2 z hz).elim) (by decide) (by decide)
end
section
/-! lost volumes by their bits; bounds of the answers -/
theorem ls_get {x : Int64} {lo : Nat → Bool} {v : Nat} (hv : v < 64) (hx : ∀ w, w < 64 → bL x w = lo w) : x &&& ((1 : Int64) <<< ((iI (v : Int)).toInt64 &&& 63)) = 0 ↔ lo v = false := by
  rw [bL_z]
  constructor
  · intro h
    have h1 := h v hv
    rw [bL_and, bL_bit hv hv, hx v hv] at h1
    simpa using h1
  · intro h w hw
    rw [bL_and, bL_bit hv hw, hx w hw]
    by_cases e : w = v
    · subst e
      rw [h]
      rfl
    · simp [e]
theorem ls_on {x : Int64} {lo : Nat → Bool} {v : Nat} (hv : v < 64) (hx : ∀ w, w < 64 → bL x w = lo w) : ∀ w, w < 64 → bL (x ||| ((1 : Int64) <<< ((iI (v : Int)).toInt64 &&& 63))) w = lsU lo v true w := by
  intro w hw
  rw [bL_or, bL_bit hv hw, hx w hw]
  unfold lsU
  by_cases e : w = v
  · simp [e]
  · simp [e]
theorem ls_off {x : Int64} {lo : Nat → Bool} {v : Nat} (hv : v < 64) (hx : ∀ w, w < 64 → bL x w = lo w) : ∀ w, w < 64 → bL (x &&& (((1 : Int64) <<< ((iI (v : Int)).toInt64 &&& 63)) ^^^ (-1))) w = lsU lo v false w := by
  intro w hw
  rw [bL_and, bL_not _ hw, bL_bit hv hw, hx w hw]
  unfold lsU
  by_cases e : w = v
  · simp [e]
  · simp [e]
theorem spP_1 {L S : Nat → Nat} {r n k v : Nat} : noH (spP L S r n k v) (n - k) = true := noH_t.mpr fun j hj => by
  unfold spP
  rw [decide_eq_false (by omega), Bool.false_and]
theorem b2_t : b2 true = 1 := rfl
theorem b2_f : b2 false = 0 := rfl
end
section
/-! the class: needs, good, latest, lose, spare, count -/
set_option maxHeartbeats 4000000 in
set_option maxRecDepth 100000 in
theorem m_needs (l : Launch) (hl9 : l.stackTraces = false) (dC : Nat → ClassId) (dI : Nat → Nat → Nat) (ad : Nat → Nat) (ca : Nat → ClassId) (gL gB gD : Nat → Int) (gN : Nat → Int64) (gS : Nat → Int) (n r : Nat) (x : Int64) (L S : Nat → Nat) (lo : Nat → Bool) (hok : okS n L S r) (hT : tX n L S r lo gL gB gD gN gS x) (q : Int) (hq : iR q) : vx_Met l yX0_needs wsX0_needs { frames := 7, cells := 1, slots := 6, locals := 103 } (PXe (dC, dI) vwCl (yX ca) (wX ad ca gL gB gD gN gS ((n : Int)) ((r : Int)) x) [.ref (ad 0), .int (iI q)]) (RQl (fun y => (0 ≤ q ∧ q < (n : Int)) ∧ ∀ v, v < 64 → bL y v = nd L S r v (q.toNat + 1))) (xcE (fun E => E = eIX ∧ (q < 0 ∨ (n : Int) ≤ q))) 1 6 nF := by
  refine vx_ofW (cc := cX0_needs) (maxL := 2) (ret := (some .long)) (by decide) rfl ?_
  intro p e s m args below meth c s₁ B hml hEx hv
  obtain ⟨rfl, hP, hK, hD0, hE⟩ := hv
  have hx := B.exec
  have hb := B.bytes
  have hr := B.returns
  have hts := atoms_spec (ws := wsX0_needs) B.pre
  have hown : s.vm.findClass RX0 = some m.cls := findClass_of_methodNamed B.named
  have hlocks := B.notSynchronized
  have hw := fun w h => hts w (List.mem_cons_of_mem _ h)
  have hinTX0 : ∀ w ∈ u_ws RX0 TX0 8, w ∈ wsX0_needs := wA_u wuX0
  have fl19 := hw _ wfX0_19
  have hD := hD0
  obtain ⟨H, hH⟩ : ∃ H, H = s.heap := ⟨_, rfl⟩
  obtain ⟨locs, hlc⟩ : ∃ L : List Loc, L = [] := ⟨_, rfl⟩
  have hS : va_S nF s.heap H locs := by rw [hH, hlc]; exact va_S.rf
  rw [← hH] at hP ⊢
  rw [← hlc]
  have hl := lv_entry ([.ref (ad 0), .int (iI q)]) (n := 2) (Nat.le_of_ble_eq_true rfl)
  rw [lg_entry_eq]
  generalize (lg_sl ([.ref (ad 0), .int (iI q)]) ++ List.replicate (2 - (lg_sl ([.ref (ad 0), .int (iI q)])).length) Slot.unset).toArray = ls at hl ⊢
  have hl : lv_has ls 2 [(0, .ref (ad 0)), (1, .int (iI q))] := hl
  obtain ⟨ok1, ok2, ok3, ok4, ok5⟩ := id hok
  refine lv_aload_n hx hb dX0_needs_0 rfl (lv_at hl 0 rfl) ?_
  refine lv_iload_n hx hb dX0_needs_1 rfl (lv_at hl 1 rfl) ?_
  refine vc_v (vx_runV (As := [.int (iI q)]) (rest := []) ⟨hx, hb, hml, hown, hts⟩ (m_checkDump l hl9 dC dI ad ca gL gB gD gN gS n r x q hq ok1) (cwV 1 hts (gV wlX0_61 wo_X0_checkDump wz_X0_checkDump wi_1 wcX0_checkDump) rfl rfl rfl (by decide +kernel) ⟨Nat.le_of_ble_eq_true rfl, Nat.le_of_ble_eq_true rfl⟩) (PXe_V (q0 := 0) (ci := 0) hP hK hD hE (fun a h _ => hS.2.1 a h (fun z => z)) (fun _ h => h) rfl rfl) rfl rfl hl.1 rfl (lv_room (Nat.le_of_ble_eq_true rfl)) dX0_needs_2 ⟨Nat.le_of_ble_eq_true rfl, Nat.le_of_ble_eq_true rfl⟩) hS hP (fun E ce q9 H locs hPE hS hce hcv hcl => ?_) (fun H locs hc hP hS => ?_)
  · exact vx_out (E := E) (fun x hx => (hEx x hx).elim) hlocks hce hcv hcl (fun t ht ha => ⟨(), trivial, hPE, hS.F ht⟩) (fun z hz => (hS.2.2 z hz).elim) (by decide) (by decide)
  obtain ⟨-, -, -, t4⟩ := hT.1 q.toNat (by omega)
  refine lv_aload_n hx hb dX0_needs_5 rfl (lv_at hl 0 rfl) ?_
  refine va_get (D := (dC, dI)) (ci := 0) (v := .ref (ad 4)) (C := RX0) (T := TX0) (N := 8) hx hb hts hinTX0 hown hK hP 0 rfl rfl 3 (by decide) fl19 (fun _ h9 => h9) rfl dX0_needs_6 ?_
  refine lv_iload_n hx hb dX0_needs_9 rfl (lv_at hl 1 rfl) ?_
  refine r_lald hx hb hK hP 4 3 rfl rfl (by omega) (by omega) (by decide) dX0_needs_10 ?_
  refine vx_ret ?_
  refine W.widen (k := 1) (n := 6) (by decide) (by decide) ?_
  exact W.lret hx hb hr (fun t ht hW => ⟨⟨_, (), rfl, ⟨hc, t4⟩, trivial⟩, hS.F ht⟩) hS.2.2 dX0_needs_11
set_option maxHeartbeats 4000000 in
set_option maxRecDepth 100000 in
theorem m_good (l : Launch) (hl9 : l.stackTraces = false) (dC : Nat → ClassId) (dI : Nat → Nat → Nat) (ad : Nat → Nat) (ca : Nat → ClassId) (gL gB gD : Nat → Int) (gN : Nat → Int64) (gS : Nat → Int) (n r : Nat) (x : Int64) (L S : Nat → Nat) (lo : Nat → Bool) (hok : okS n L S r) (hT : tX n L S r lo gL gB gD gN gS x) (q : Int) (hq : iR q) : vx_Met l yX0_good wsX0_good { frames := 7, cells := 1, slots := 6, locals := 103 } (PXe (dC, dI) vwCl (yX ca) (wX ad ca gL gB gD gN gS ((n : Int)) ((r : Int)) x) [.ref (ad 0), .int (iI q)]) (RQi (fun y => (0 ≤ q ∧ q < (n : Int)) ∧ y = iI (b2 (gd L S r lo q.toNat)))) (xcE (fun E => E = eIX ∧ (q < 0 ∨ (n : Int) ≤ q))) 1 6 nF := by
  refine vx_ofW (cc := cX0_good) (maxL := 2) (ret := (some .boolean)) (by decide) rfl ?_
  intro p e s m args below meth c s₁ B hml hEx hv
  obtain ⟨rfl, hP, hK, hD0, hE⟩ := hv
  have hx := B.exec
  have hb := B.bytes
  have hr := B.returns
  have hts := atoms_spec (ws := wsX0_good) B.pre
  have hown : s.vm.findClass RX0 = some m.cls := findClass_of_methodNamed B.named
  have hlocks := B.notSynchronized
  have hw := fun w h => hts w (List.mem_cons_of_mem _ h)
  have hinTX0 : ∀ w ∈ u_ws RX0 TX0 8, w ∈ wsX0_good := wA_u wuX0
  have hD := hD0
  obtain ⟨H, hH⟩ : ∃ H, H = s.heap := ⟨_, rfl⟩
  obtain ⟨locs, hlc⟩ : ∃ L : List Loc, L = [] := ⟨_, rfl⟩
  have hS : va_S nF s.heap H locs := by rw [hH, hlc]; exact va_S.rf
  rw [← hH] at hP ⊢
  rw [← hlc]
  have hl := lv_entry ([.ref (ad 0), .int (iI q)]) (n := 2) (Nat.le_of_ble_eq_true rfl)
  rw [lg_entry_eq]
  generalize (lg_sl ([.ref (ad 0), .int (iI q)]) ++ List.replicate (2 - (lg_sl ([.ref (ad 0), .int (iI q)])).length) Slot.unset).toArray = ls at hl ⊢
  have hl : lv_has ls 2 [(0, .ref (ad 0)), (1, .int (iI q))] := hl
  obtain ⟨ok1, ok2, ok3, ok4, ok5⟩ := id hok
  refine lv_aload_n hx hb dX0_good_0 rfl (lv_at hl 0 rfl) ?_
  refine lv_iload_n hx hb dX0_good_1 rfl (lv_at hl 1 rfl) ?_
  refine vc_v (vx_runV (As := [.int (iI q)]) (rest := []) ⟨hx, hb, hml, hown, hts⟩ (m_checkDump l hl9 dC dI ad ca gL gB gD gN gS n r x q hq ok1) (cwV 1 hts (gV wlX0_61 wo_X0_checkDump wz_X0_checkDump wi_1 wcX0_checkDump) rfl rfl rfl (by decide +kernel) ⟨Nat.le_of_ble_eq_true rfl, Nat.le_of_ble_eq_true rfl⟩) (PXe_V (q0 := 0) (ci := 0) hP hK hD hE (fun a h _ => hS.2.1 a h (fun z => z)) (fun _ h => h) rfl rfl) rfl rfl hl.1 rfl (lv_room (Nat.le_of_ble_eq_true rfl)) dX0_good_2 ⟨Nat.le_of_ble_eq_true rfl, Nat.le_of_ble_eq_true rfl⟩) hS hP (fun E ce q9 H locs hPE hS hce hcv hcl => ?_) (fun H locs hc hP hS => ?_)
  · exact vx_out (E := E) (fun x hx => (hEx x hx).elim) hlocks hce hcv hcl (fun t ht ha => ⟨(), trivial, hPE, hS.F ht⟩) (fun z hz => (hS.2.2 z hz).elim) (by decide) (by decide)
  have hl : lv_has ls 2 [(0, .ref (ad 0)), (1, .int (iI ((q.toNat : Int))))] := by
    rw [Int.toNat_of_nonneg hc.1]
    exact hl
  refine lv_aload_n hx hb dX0_good_5 rfl (lv_at hl 0 rfl) ?_
  refine lv_iload_n hx hb dX0_good_6 rfl (lv_at hl 1 rfl) ?_
  refine ro_z (z := b2 (gd L S r lo q.toNat)) (va_runV (As := [.int (iI ((q.toNat : Int)))]) (rest := []) ⟨hx, hb, hml, hown, hts⟩ (m_isGood l dC dI ad ca gL gB gD gN gS n r x L S lo hok hT q.toNat (by omega)) (cwV 1 hts (gV wlX0_86 wo_X0_isGood wz_X0_isGood wi_1 wcX0_isGood) rfl rfl rfl (by decide +kernel) ⟨Nat.le_of_ble_eq_true rfl, Nat.le_of_ble_eq_true rfl⟩) (PX_V (q0 := 0) (ci := 0) hP hK hD rfl rfl) rfl rfl hl.1 rfl (lv_room (Nat.le_of_ble_eq_true rfl)) dX0_good_7 ⟨Nat.le_of_ble_eq_true rfl, Nat.le_of_ble_eq_true rfl⟩) hS hP (fun H locs hP hS => ?_)
  refine vx_ret ?_
  refine W.widen (k := 1) (n := 6) (by decide) (by decide) ?_
  exact W.zret (v := iI (b2 (gd L S r lo q.toNat))) hx hb hr (by rcases b2_r (gd L S r lo q.toNat) with h | h <;> rw [h] <;> rfl) (fun t ht hW => ⟨⟨_, (), rfl, ⟨hc, rfl⟩, trivial⟩, hS.F ht⟩) hS.2.2 dX0_good_10
set_option maxHeartbeats 4000000 in
set_option maxRecDepth 100000 in
theorem m_latest (l : Launch) (hl9 : l.stackTraces = false) (dC : Nat → ClassId) (dI : Nat → Nat → Nat) (ad : Nat → Nat) (ca : Nat → ClassId) (gL gB gD : Nat → Int) (gN : Nat → Int64) (gS : Nat → Int) (n r : Nat) (x : Int64) (L S : Nat → Nat) (lo : Nat → Bool) (hok : okS n L S r) (hT : tX n L S r lo gL gB gD gN gS x) (q : Int) (hq : iR q) : vx_Met l yX0_latest wsX0_latest { frames := 7, cells := 1, slots := 6, locals := 103 } (PXe (dC, dI) vwCl (yX ca) (wX ad ca gL gB gD gN gS ((n : Int)) ((r : Int)) x) [.ref (ad 0), .int (iI q)]) (RQi (fun y => (0 ≤ q ∧ q < (n : Int)) ∧ y = iI ((la (gd L S r lo) (q.toNat + 1) : Int) - 1))) (xcE (fun E => E = eIX ∧ (q < 0 ∨ (n : Int) ≤ q))) 1 6 nF := by
  refine vx_ofW (cc := cX0_latest) (maxL := 3) (ret := (some .int)) (by decide) rfl ?_
  intro p e s m args below meth c s₁ B hml hEx hv
  obtain ⟨rfl, hP, hK, hD0, hE⟩ := hv
  have hx := B.exec
  have hb := B.bytes
  have hr := B.returns
  have hts := atoms_spec (ws := wsX0_latest) B.pre
  have hown : s.vm.findClass RX0 = some m.cls := findClass_of_methodNamed B.named
  have hlocks := B.notSynchronized
  have hw := fun w h => hts w (List.mem_cons_of_mem _ h)
  have hinTX0 : ∀ w ∈ u_ws RX0 TX0 8, w ∈ wsX0_latest := wA_u wuX0
  have hD := hD0
  obtain ⟨H, hH⟩ : ∃ H, H = s.heap := ⟨_, rfl⟩
  obtain ⟨locs, hlc⟩ : ∃ L : List Loc, L = [] := ⟨_, rfl⟩
  have hS : va_S nF s.heap H locs := by rw [hH, hlc]; exact va_S.rf
  rw [← hH] at hP ⊢
  rw [← hlc]
  have hl := lv_entry ([.ref (ad 0), .int (iI q)]) (n := 3) (Nat.le_of_ble_eq_true rfl)
  rw [lg_entry_eq]
  generalize (lg_sl ([.ref (ad 0), .int (iI q)]) ++ List.replicate (3 - (lg_sl ([.ref (ad 0), .int (iI q)])).length) Slot.unset).toArray = ls at hl ⊢
  have hl : lv_has ls 3 [(0, .ref (ad 0)), (1, .int (iI q))] := hl
  obtain ⟨ok1, ok2, ok3, ok4, ok5⟩ := id hok
  refine lv_aload_n hx hb dX0_latest_0 rfl (lv_at hl 0 rfl) ?_
  refine lv_iload_n hx hb dX0_latest_1 rfl (lv_at hl 1 rfl) ?_
  refine vc_v (vx_runV (As := [.int (iI q)]) (rest := []) ⟨hx, hb, hml, hown, hts⟩ (m_checkDump l hl9 dC dI ad ca gL gB gD gN gS n r x q hq ok1) (cwV 1 hts (gV wlX0_61 wo_X0_checkDump wz_X0_checkDump wi_1 wcX0_checkDump) rfl rfl rfl (by decide +kernel) ⟨Nat.le_of_ble_eq_true rfl, Nat.le_of_ble_eq_true rfl⟩) (PXe_V (q0 := 0) (ci := 0) hP hK hD hE (fun a h _ => hS.2.1 a h (fun z => z)) (fun _ h => h) rfl rfl) rfl rfl hl.1 rfl (lv_room (Nat.le_of_ble_eq_true rfl)) dX0_latest_2 ⟨Nat.le_of_ble_eq_true rfl, Nat.le_of_ble_eq_true rfl⟩) hS hP (fun E ce q9 H locs hPE hS hce hcv hcl => ?_) (fun H locs hc hP hS => ?_)
  · exact vx_out (E := E) (fun x hx => (hEx x hx).elim) hlocks hce hcv hcl (fun t ht ha => ⟨(), trivial, hPE, hS.F ht⟩) (fun z hz => (hS.2.2 z hz).elim) (by decide) (by decide)
  refine lv_iload_n hx hb dX0_latest_5 rfl (lv_at hl 1 rfl) ?_
  refine lv_istore_n hx hb dX0_latest_6 rfl hl (by decide) rfl (fun ls hl => ?_)
  have hl : lv_has ls 3 [(2, .int (iI q)), (0, .ref (ad 0)), (1, .int (iI q))] := hl
  have loop : ∀ (N : Nat) (k : Nat) (ls : Array Slot) (H : Heap) (locs : List Loc), k < N → (k ≤ n) → (la (gd L S r lo) k = la (gd L S r lo) (q.toNat + 1)) → va_P (dC, dI) vwCl (wX ad ca gL gB gD gN gS ((n : Int)) ((r : Int)) x) H → va_S nF s.heap H locs → lv_has ls 3 [(2, .int (iI ((k : Int) - 1))), (0, .ref (ad 0)), (1, .int (iI q))] → W p l e (headSpec wsX0_latest { frames := 7, cells := 1, slots := 6, locals := 103 }).room s m ([.ref (ad 0), .int (iI q)]).toArray below meth c H locs (0 + 1) (0 + 6) (vx_MQ below (RQi (fun y => (0 ≤ q ∧ q < (n : Int)) ∧ y = iI ((la (gd L S r lo) (q.toNat + 1) : Int) - 1))) (xcE (fun E => E = eIX ∧ (q < 0 ∨ (n : Int) ≤ q))) ([.ref (ad 0), .int (iI q)]).toArray s 1 6 nF) (F0 m 7 ls []) := by
    intro N
    induction N with
    | zero => intro k ls H locs h; exact absurd h (Nat.not_lt_zero _)
    | succ N ih =>
      intro k ls H locs hN hk hb9 hP hS hl
      refine lv_iload_n hx hb dX0_latest_7 rfl (lv_at hl 0 rfl) ?_
      refine r_if_lt hx hb dX0_latest_8 (tgt := 27) (by decide) (by omega) (fun hlt => ?_) (fun hge => ?_)
      · have hk0 : k = 0 := by omega
        subst hk0
        refine r_iconst hx hb dX0_latest_27 ?_
        refine vx_ret ?_
        refine W.widen (k := 1) (n := 6) (by decide) (by decide) ?_
        exact W.iret (v := iI ((-1))) hx hb hr (fun t ht hW => ⟨⟨_, (), rfl, ⟨hc, by rw [← hb9]; rfl⟩, trivial⟩, hS.F ht⟩) hS.2.2 dX0_latest_28
      · obtain ⟨j, hj⟩ : ∃ j, k = j + 1 := ⟨k - 1, by omega⟩
        have eb : la (gd L S r lo) k = if gd L S r lo j then j + 1 else la (gd L S r lo) j := by rw [hj]; rfl
        have h01 := b2_r (gd L S r lo j)
        refine lv_aload_n hx hb dX0_latest_11 rfl (lv_at hl 1 rfl) ?_
        refine lv_iload_n hx hb dX0_latest_12 rfl (lv_at hl 0 rfl) ?_
        refine r_topi (b := (j : Int)) (by omega) ?_
        refine ro_z (z := b2 (gd L S r lo j)) (va_runV (As := [.int (iI ((j : Int)))]) (rest := []) ⟨hx, hb, hml, hown, hts⟩ (m_isGood l dC dI ad ca gL gB gD gN gS n r x L S lo hok hT j (by omega)) (cwV 1 hts (gV wlX0_86 wo_X0_isGood wz_X0_isGood wi_1 wcX0_isGood) rfl rfl rfl (by decide +kernel) ⟨Nat.le_of_ble_eq_true rfl, Nat.le_of_ble_eq_true rfl⟩) (PX_V (q0 := 0) (ci := 0) hP hK hD rfl rfl) rfl rfl hl.1 rfl (lv_room (Nat.le_of_ble_eq_true rfl)) dX0_latest_13 ⟨Nat.le_of_ble_eq_true rfl, Nat.le_of_ble_eq_true rfl⟩) hS hP (fun H locs hP hS => ?_)
        refine r_if_eq hx hb dX0_latest_16 (tgt := 21) (by decide) (by omega) (fun hz => ?_) (fun hnz => ?_)
        · have hgf : ¬ gd L S r lo j = true := fun q9 => by rw [q9] at hz; exact absurd hz (by decide)
          refine r_iinc (k := 0) hx hb dX0_latest_21 hl rfl (by decide) rfl (fun ls hl => ?_)
          have hl : lv_has ls 3 [(2, .int (iI ((k : Int) - 1 + (-1)))), (0, .ref (ad 0)), (1, .int (iI q))] := hl
          refine lv_goto hx hb dX0_latest_24 (tgt := 7) (by decide) ?_
          have hl : lv_has ls 3 [(2, .int (iI ((j : Int) - 1))), (0, .ref (ad 0)), (1, .int (iI q))] := by rw [show (j : Int) - 1 = (k : Int) - 1 + (-1) by omega]; exact hl
          exact ih j ls H locs (by omega) (by omega) (by rw [← hb9, eb, if_neg hgf]) hP hS hl
        · have hgt : gd L S r lo j = true := by
            cases q9 : gd L S r lo j with
            | true => rfl
            | false => rw [q9] at hnz; exact absurd rfl hnz
          refine lv_iload_n hx hb dX0_latest_19 rfl (lv_at hl 0 rfl) ?_
          refine vx_ret ?_
          refine W.widen (k := 1) (n := 6) (by decide) (by decide) ?_
          exact W.iret (v := iI ((k : Int) - 1)) hx hb hr (fun t ht hW => ⟨⟨_, (), rfl, ⟨hc, by rw [← hb9, eb, if_pos hgt]; congr 1; omega⟩, trivial⟩, hS.F ht⟩) hS.2.2 dX0_latest_20
  have hl : lv_has ls 3 [(2, .int (iI (((q.toNat + 1 : Nat) : Int) - 1))), (0, .ref (ad 0)), (1, .int (iI q))] := by
    rw [show ((q.toNat + 1 : Nat) : Int) - 1 = q by omega]
    exact hl
  exact loop (q.toNat + 2) (q.toNat + 1) ls H locs (Nat.lt_succ_self _) (by omega) rfl hP hS hl
set_option maxHeartbeats 4000000 in
set_option maxRecDepth 100000 in
theorem m_lose (l : Launch) (hl9 : l.stackTraces = false) (dC : Nat → ClassId) (dI : Nat → Nat → Nat) (ad : Nat → Nat) (ca : Nat → ClassId) (gL gB gD : Nat → Int) (gN : Nat → Int64) (gS : Nat → Int) (n r : Nat) (x : Int64) (L S : Nat → Nat) (lo : Nat → Bool) (hok : okS n L S r) (hT : tX n L S r lo gL gB gD gN gS x) (v f : Int) (hv : iR v) (hf : f = 0 ∨ f = 1) : vx_Met l yX0_lose wsX0_lose { frames := 7, cells := 1, slots := 6, locals := 103 } (PXe (dC, dI) vwCl (yX ca) (wX ad ca gL gB gD gN gS ((n : Int)) ((r : Int)) x) [.ref (ad 0), .int (iI v), .int (iI f)]) (va_Qi (fun (y : Int32) (x9 : Int64) => (0 ≤ v ∧ v < 64) ∧ y = iI (b2 (lo v.toNat)) ∧ ∀ w, w < 64 → bL x9 w = lsU lo v.toNat (decide (f = 1)) w) (fun x9 t => va_P (dC, dI) vwCl (wX ad ca gL gB gD gN gS ((n : Int)) ((r : Int)) x9) t.heap) (inW (wX ad ca gL gB gD gN gS ((n : Int)) ((r : Int)) x))) (xcE (fun E => E = eIA ∧ (v < 0 ∨ 64 ≤ v))) 1 6 (inW (wX ad ca gL gB gD gN gS ((n : Int)) ((r : Int)) x)) := by
  refine vx_ofW (cc := cX0_lose) (maxL := 6) (ret := (some .boolean)) (by decide) rfl ?_
  intro p e s m args below meth c s₁ B hml hEx hv
  obtain ⟨rfl, hP, hK, hD0, hE⟩ := hv
  have hx := B.exec
  have hb := B.bytes
  have hr := B.returns
  have hts := atoms_spec (ws := wsX0_lose) B.pre
  have hown : s.vm.findClass RX0 = some m.cls := findClass_of_methodNamed B.named
  have hlocks := B.notSynchronized
  have hw := fun w h => hts w (List.mem_cons_of_mem _ h)
  have hinTX0 : ∀ w ∈ u_ws RX0 TX0 8, w ∈ wsX0_lose := wA_u wuX0
  have fl80 := hw _ wfX0_80
  have hD := hD0
  obtain ⟨H, hH⟩ : ∃ H, H = s.heap := ⟨_, rfl⟩
  obtain ⟨locs, hlc⟩ : ∃ L : List Loc, L = [] := ⟨_, rfl⟩
  have hS : va_S nF s.heap H locs := by rw [hH, hlc]; exact va_S.rf
  rw [← hH] at hP ⊢
  rw [← hlc]
  have hl := lv_entry ([.ref (ad 0), .int (iI v), .int (iI f)]) (n := 6) (Nat.le_of_ble_eq_true rfl)
  rw [lg_entry_eq]
  generalize (lg_sl ([.ref (ad 0), .int (iI v), .int (iI f)]) ++ List.replicate (6 - (lg_sl ([.ref (ad 0), .int (iI v), .int (iI f)])).length) Slot.unset).toArray = ls at hl ⊢
  have hl : lv_has ls 6 [(0, .ref (ad 0)), (1, .int (iI v)), (2, .int (iI f))] := hl
  obtain ⟨ok1, ok2, ok3, ok4, ok5⟩ := id hok
  refine lv_aload_n hx hb dX0_lose_0 rfl (lv_at hl 0 rfl) ?_
  refine lv_iload_n hx hb dX0_lose_1 rfl (lv_at hl 1 rfl) ?_
  refine vc_v (vx_runV (As := [.int (iI v)]) (rest := []) ⟨hx, hb, hml, hown, hts⟩ (m_checkVolume l hl9 dC dI ad ca gL gB gD gN gS n r x v hv) (cwV 1 hts (gV wlX0_72 wo_X0_checkVolume wz_X0_checkVolume wi_1 wcX0_checkVolume) rfl rfl rfl (by decide +kernel) ⟨Nat.le_of_ble_eq_true rfl, Nat.le_of_ble_eq_true rfl⟩) (PXe_V (q0 := 0) (ci := 0) hP hK hD hE (fun a h _ => hS.2.1 a h (fun z => z)) (fun _ h => h) rfl rfl) rfl rfl hl.1 rfl (lv_room (Nat.le_of_ble_eq_true rfl)) dX0_lose_2 ⟨Nat.le_of_ble_eq_true rfl, Nat.le_of_ble_eq_true rfl⟩) hS hP (fun E ce q9 H locs hPE hS hce hcv hcl => ?_) (fun H locs hc hP hS => ?_)
  · exact vx_out (E := E) (fun x hx => (hEx x hx).elim) hlocks hce hcv hcl (fun t ht ha => ⟨(), trivial, hPE, hS.F ht⟩) (fun z hz => (hS.2.2 z hz).elim) (by decide) (by decide)
  have hl : lv_has ls 6 [(0, .ref (ad 0)), (1, .int (iI ((v.toNat : Int)))), (2, .int (iI f))] := by
    rw [Int.toNat_of_nonneg hc.1]
    exact hl
  have hD := wD_own hD0
  obtain ⟨A, hAe⟩ : ∃ A, A = inW (wX ad ca gL gB gD gN gS ((n : Int)) ((r : Int)) x) := ⟨_, rfl⟩
  rw [← hAe] at hD
  have hS : va_S A s.heap H locs := vS_up hS
  have hg := ls_get (v := v.toNat) (by omega) hT.2.2
  refine lv_lconst hx hb dX0_lose_5 rfl ?_
  refine lv_iload_n hx hb dX0_lose_6 rfl (lv_at hl 1 rfl) ?_
  refine lv_lshl hx hb dX0_lose_7 rfl ?_
  refine lv_lstore_n hx hb dX0_lose_8 rfl hl (by decide) rfl (fun ls hl => ?_)
  have hl : lv_has ls 6 [(3, .long ((Int64.ofNat 1) <<< ((iI ((v.toNat : Int))).toInt64 &&& 63))), (0, .ref (ad 0)), (1, .int (iI ((v.toNat : Int)))), (2, .int (iI f))] := hl
  refine lv_aload_n hx hb dX0_lose_9 rfl (lv_at hl 1 rfl) ?_
  refine va_get (D := (dC, dI)) (ci := 0) (v := .long x) (C := RX0) (T := TX0) (N := 8) hx hb hts hinTX0 hown hK hP 0 rfl rfl 7 (by decide) fl80 (fun _ h9 => h9) rfl dX0_lose_10 ?_
  refine lv_lload_n hx hb dX0_lose_13 rfl (lv_at hl 0 rfl) ?_
  refine lv_land hx hb dX0_lose_14 ?_
  refine lv_lconst hx hb dX0_lose_15 rfl ?_
  refine r_lcmp_eq hx hb dX0_lose_16 dX0_lose_17 (tgt := 24) (by decide) (fun heq => ?_) (fun hne => ?_)
  · have hb2 : b2 (lo v.toNat) = 0 := by rw [hg.mp heq]; rfl
    refine r_iconst hx hb dX0_lose_24 ?_
    refine lv_istore hx hb dX0_lose_25 hl (by decide) rfl (fun ls hl => ?_)
    have hl : lv_has ls 6 [(5, .int (iI 0)), (3, .long ((Int64.ofNat 1) <<< ((iI ((v.toNat : Int))).toInt64 &&& 63))), (0, .ref (ad 0)), (1, .int (iI ((v.toNat : Int)))), (2, .int (iI f))] := hl
    refine lv_aload_n hx hb dX0_lose_27 rfl (lv_at hl 2 rfl) ?_
    refine lv_iload_n hx hb dX0_lose_28 rfl (lv_at hl 4 rfl) ?_
    refine r_if_eq hx hb dX0_lose_29 (tgt := 41) (by decide) (by omega) (fun hf0 => ?_) (fun hf1 => ?_)
    · refine lv_aload_n hx hb dX0_lose_41 rfl (lv_at hl 2 rfl) ?_
      refine va_get (D := (dC, dI)) (ci := 0) (v := .long x) (C := RX0) (T := TX0) (N := 8) hx hb hts hinTX0 hown hK hP 0 rfl rfl 7 (by decide) fl80 (fun _ h9 => h9) rfl dX0_lose_42 ?_
      refine lv_lload_n hx hb dX0_lose_45 rfl (lv_at hl 1 rfl) ?_
      refine lv_ldc2 hx hb hown (hw _ wjX0_84) dX0_lose_46 ?_
      refine lv_lxor hx hb dX0_lose_49 ?_
      refine lv_land hx hb dX0_lose_50 ?_
      refine va_put (D := (dC, dI)) (ci := 0) (v := .long (x &&& (((Int64.ofNat 1) <<< ((iI ((v.toNat : Int))).toInt64 &&& 63)) ^^^ ((-1))))) (ty := .long) (C := RX0) (T := TX0) (N := 8) hx hb hts hinTX0 tyX0 tyX0_ok nmX0 hown hK hP hD hS 0 rfl rfl 7 (by decide) fl80 (fun _ h9 => h9) rfl (by decide +kernel) rfl rfl (Nat.le_of_ble_eq_true rfl) dX0_lose_51 (fun H locs hP hD hS => ?_)
      have hP : va_P (dC, dI) vwCl (wX ad ca gL gB gD gN gS ((n : Int)) ((r : Int)) (x &&& (((Int64.ofNat 1) <<< ((iI ((v.toNat : Int))).toInt64 &&& 63)) ^^^ ((-1))))) H := hP
      have hD : va_D A (wX ad ca gL gB gD gN gS ((n : Int)) ((r : Int)) (x &&& (((Int64.ofNat 1) <<< ((iI ((v.toNat : Int))).toInt64 &&& 63)) ^^^ ((-1))))) := hD
      refine lv_iload hx hb dX0_lose_54 (lv_at hl 0 rfl) ?_
      subst hAe
      refine vx_ret ?_
      refine W.widen (k := 1) (n := 6) (by decide) (by decide) ?_
      exact W.zret (v := iI 0) hx hb hr rfl (fun t ht hW => ⟨⟨_, (x &&& (((Int64.ofNat 1) <<< ((iI ((v.toNat : Int))).toInt64 &&& 63)) ^^^ ((-1)))), rfl, ⟨hc, by rw [hb2], by rw [decide_eq_false (by omega)]; exact ls_off (by omega) hT.2.2⟩, by subst ht; exact hP⟩, hS.F ht⟩) hS.2.2 dX0_lose_56
    · refine lv_aload_n hx hb dX0_lose_32 rfl (lv_at hl 2 rfl) ?_
      refine va_get (D := (dC, dI)) (ci := 0) (v := .long x) (C := RX0) (T := TX0) (N := 8) hx hb hts hinTX0 hown hK hP 0 rfl rfl 7 (by decide) fl80 (fun _ h9 => h9) rfl dX0_lose_33 ?_
      refine lv_lload_n hx hb dX0_lose_36 rfl (lv_at hl 1 rfl) ?_
      refine lv_lor hx hb dX0_lose_37 ?_
      refine lv_goto hx hb dX0_lose_38 (tgt := 51) (by decide) ?_
      refine va_put (D := (dC, dI)) (ci := 0) (v := .long (x ||| ((Int64.ofNat 1) <<< ((iI ((v.toNat : Int))).toInt64 &&& 63)))) (ty := .long) (C := RX0) (T := TX0) (N := 8) hx hb hts hinTX0 tyX0 tyX0_ok nmX0 hown hK hP hD hS 0 rfl rfl 7 (by decide) fl80 (fun _ h9 => h9) rfl (by decide +kernel) rfl rfl (Nat.le_of_ble_eq_true rfl) dX0_lose_51 (fun H locs hP hD hS => ?_)
      have hP : va_P (dC, dI) vwCl (wX ad ca gL gB gD gN gS ((n : Int)) ((r : Int)) (x ||| ((Int64.ofNat 1) <<< ((iI ((v.toNat : Int))).toInt64 &&& 63)))) H := hP
      have hD : va_D A (wX ad ca gL gB gD gN gS ((n : Int)) ((r : Int)) (x ||| ((Int64.ofNat 1) <<< ((iI ((v.toNat : Int))).toInt64 &&& 63)))) := hD
      refine lv_iload hx hb dX0_lose_54 (lv_at hl 0 rfl) ?_
      subst hAe
      refine vx_ret ?_
      refine W.widen (k := 1) (n := 6) (by decide) (by decide) ?_
      exact W.zret (v := iI 0) hx hb hr rfl (fun t ht hW => ⟨⟨_, (x ||| ((Int64.ofNat 1) <<< ((iI ((v.toNat : Int))).toInt64 &&& 63))), rfl, ⟨hc, by rw [hb2], by rw [decide_eq_true (by omega)]; exact ls_on (by omega) hT.2.2⟩, by subst ht; exact hP⟩, hS.F ht⟩) hS.2.2 dX0_lose_56
  · have hb2 : b2 (lo v.toNat) = 1 := by
      cases q9 : lo v.toNat with
      | true => rfl
      | false => exact absurd (hg.mpr q9) hne
    refine r_iconst hx hb dX0_lose_20 ?_
    refine lv_goto hx hb dX0_lose_21 (tgt := 25) (by decide) ?_
    refine lv_istore hx hb dX0_lose_25 hl (by decide) rfl (fun ls hl => ?_)
    have hl : lv_has ls 6 [(5, .int (iI 1)), (3, .long ((Int64.ofNat 1) <<< ((iI ((v.toNat : Int))).toInt64 &&& 63))), (0, .ref (ad 0)), (1, .int (iI ((v.toNat : Int)))), (2, .int (iI f))] := hl
    refine lv_aload_n hx hb dX0_lose_27 rfl (lv_at hl 2 rfl) ?_
    refine lv_iload_n hx hb dX0_lose_28 rfl (lv_at hl 4 rfl) ?_
    refine r_if_eq hx hb dX0_lose_29 (tgt := 41) (by decide) (by omega) (fun hf0 => ?_) (fun hf1 => ?_)
    · refine lv_aload_n hx hb dX0_lose_41 rfl (lv_at hl 2 rfl) ?_
      refine va_get (D := (dC, dI)) (ci := 0) (v := .long x) (C := RX0) (T := TX0) (N := 8) hx hb hts hinTX0 hown hK hP 0 rfl rfl 7 (by decide) fl80 (fun _ h9 => h9) rfl dX0_lose_42 ?_
      refine lv_lload_n hx hb dX0_lose_45 rfl (lv_at hl 1 rfl) ?_
      refine lv_ldc2 hx hb hown (hw _ wjX0_84) dX0_lose_46 ?_
      refine lv_lxor hx hb dX0_lose_49 ?_
      refine lv_land hx hb dX0_lose_50 ?_
      refine va_put (D := (dC, dI)) (ci := 0) (v := .long (x &&& (((Int64.ofNat 1) <<< ((iI ((v.toNat : Int))).toInt64 &&& 63)) ^^^ ((-1))))) (ty := .long) (C := RX0) (T := TX0) (N := 8) hx hb hts hinTX0 tyX0 tyX0_ok nmX0 hown hK hP hD hS 0 rfl rfl 7 (by decide) fl80 (fun _ h9 => h9) rfl (by decide +kernel) rfl rfl (Nat.le_of_ble_eq_true rfl) dX0_lose_51 (fun H locs hP hD hS => ?_)
      have hP : va_P (dC, dI) vwCl (wX ad ca gL gB gD gN gS ((n : Int)) ((r : Int)) (x &&& (((Int64.ofNat 1) <<< ((iI ((v.toNat : Int))).toInt64 &&& 63)) ^^^ ((-1))))) H := hP
      have hD : va_D A (wX ad ca gL gB gD gN gS ((n : Int)) ((r : Int)) (x &&& (((Int64.ofNat 1) <<< ((iI ((v.toNat : Int))).toInt64 &&& 63)) ^^^ ((-1))))) := hD
      refine lv_iload hx hb dX0_lose_54 (lv_at hl 0 rfl) ?_
      subst hAe
      refine vx_ret ?_
      refine W.widen (k := 1) (n := 6) (by decide) (by decide) ?_
      exact W.zret (v := iI 1) hx hb hr rfl (fun t ht hW => ⟨⟨_, (x &&& (((Int64.ofNat 1) <<< ((iI ((v.toNat : Int))).toInt64 &&& 63)) ^^^ ((-1)))), rfl, ⟨hc, by rw [hb2], by rw [decide_eq_false (by omega)]; exact ls_off (by omega) hT.2.2⟩, by subst ht; exact hP⟩, hS.F ht⟩) hS.2.2 dX0_lose_56
    · refine lv_aload_n hx hb dX0_lose_32 rfl (lv_at hl 2 rfl) ?_
      refine va_get (D := (dC, dI)) (ci := 0) (v := .long x) (C := RX0) (T := TX0) (N := 8) hx hb hts hinTX0 hown hK hP 0 rfl rfl 7 (by decide) fl80 (fun _ h9 => h9) rfl dX0_lose_33 ?_
      refine lv_lload_n hx hb dX0_lose_36 rfl (lv_at hl 1 rfl) ?_
      refine lv_lor hx hb dX0_lose_37 ?_
      refine lv_goto hx hb dX0_lose_38 (tgt := 51) (by decide) ?_
      refine va_put (D := (dC, dI)) (ci := 0) (v := .long (x ||| ((Int64.ofNat 1) <<< ((iI ((v.toNat : Int))).toInt64 &&& 63)))) (ty := .long) (C := RX0) (T := TX0) (N := 8) hx hb hts hinTX0 tyX0 tyX0_ok nmX0 hown hK hP hD hS 0 rfl rfl 7 (by decide) fl80 (fun _ h9 => h9) rfl (by decide +kernel) rfl rfl (Nat.le_of_ble_eq_true rfl) dX0_lose_51 (fun H locs hP hD hS => ?_)
      have hP : va_P (dC, dI) vwCl (wX ad ca gL gB gD gN gS ((n : Int)) ((r : Int)) (x ||| ((Int64.ofNat 1) <<< ((iI ((v.toNat : Int))).toInt64 &&& 63)))) H := hP
      have hD : va_D A (wX ad ca gL gB gD gN gS ((n : Int)) ((r : Int)) (x ||| ((Int64.ofNat 1) <<< ((iI ((v.toNat : Int))).toInt64 &&& 63)))) := hD
      refine lv_iload hx hb dX0_lose_54 (lv_at hl 0 rfl) ?_
      subst hAe
      refine vx_ret ?_
      refine W.widen (k := 1) (n := 6) (by decide) (by decide) ?_
      exact W.zret (v := iI 1) hx hb hr rfl (fun t ht hW => ⟨⟨_, (x ||| ((Int64.ofNat 1) <<< ((iI ((v.toNat : Int))).toInt64 &&& 63))), rfl, ⟨hc, by rw [hb2], by rw [decide_eq_true (by omega)]; exact ls_on (by omega) hT.2.2⟩, by subst ht; exact hP⟩, hS.F ht⟩) hS.2.2 dX0_lose_56
set_option maxHeartbeats 4000000 in
set_option maxRecDepth 100000 in
theorem m_spare (l : Launch) (hl9 : l.stackTraces = false) (dC : Nat → ClassId) (dI : Nat → Nat → Nat) (ad : Nat → Nat) (ca : Nat → ClassId) (gL gB gD : Nat → Int) (gN : Nat → Int64) (gS : Nat → Int) (n r : Nat) (x : Int64) (L S : Nat → Nat) (lo : Nat → Bool) (hok : okS n L S r) (hT : tX n L S r lo gL gB gD gN gS x) (q : Int) (hq : iR q) : vx_Met l yX0_spare wsX0_spare { frames := 6, cells := 1, slots := 6, locals := 82 } (PXe (dC, dI) vwCl (yX ca) (wX ad ca gL gB gD gN gS ((n : Int)) ((r : Int)) x) [.ref (ad 0), .int (iI q)]) (RQl (fun y => 0 ≤ q ∧ ∀ v, v < 64 → bL y v = sp L S r n q.toNat v)) (xcE (fun E => E = eIA ∧ q < 0)) 1 6 nF := by
  refine vx_ofW (cc := cX0_spare) (maxL := 6) (ret := (some .long)) (by decide) rfl ?_
  intro p e s m args below meth c s₁ B hml hEx hv
  obtain ⟨rfl, hP, hK, hD0, hE⟩ := hv
  have hx := B.exec
  have hb := B.bytes
  have hr := B.returns
  have hts := atoms_spec (ws := wsX0_spare) B.pre
  have hown : s.vm.findClass RX0 = some m.cls := findClass_of_methodNamed B.named
  have hlocks := B.notSynchronized
  have hw := fun w h => hts w (List.mem_cons_of_mem _ h)
  have hinTX0 : ∀ w ∈ u_ws RX0 TX0 8, w ∈ wsX0_spare := wA_u wuX0
  have fl41 := hw _ wfX0_41
  have fl19 := hw _ wfX0_19
  have hD := hD0
  obtain ⟨H, hH⟩ : ∃ H, H = s.heap := ⟨_, rfl⟩
  obtain ⟨locs, hlc⟩ : ∃ L : List Loc, L = [] := ⟨_, rfl⟩
  have hS : va_S nF s.heap H locs := by rw [hH, hlc]; exact va_S.rf
  rw [← hH] at hP ⊢
  rw [← hlc]
  have hl := lv_entry ([.ref (ad 0), .int (iI q)]) (n := 6) (Nat.le_of_ble_eq_true rfl)
  rw [lg_entry_eq]
  generalize (lg_sl ([.ref (ad 0), .int (iI q)]) ++ List.replicate (6 - (lg_sl ([.ref (ad 0), .int (iI q)])).length) Slot.unset).toArray = ls at hl ⊢
  have hl : lv_has ls 6 [(0, .ref (ad 0)), (1, .int (iI q))] := hl
  obtain ⟨ok1, ok2, ok3, ok4, ok5⟩ := id hok
  have hwr := wr_le (S := S) (n := n) ok2 ok5
  refine lv_iload_n hx hb dX0_spare_0 rfl (lv_at hl 1 rfl) ?_
  refine r_if_ge hx hb dX0_spare_1 (tgt := 14) (by decide) (by omega) (fun hge => ?_) (fun hlt => ?_)
  · refine lv_aload_n hx hb dX0_spare_14 rfl (lv_at hl 0 rfl) ?_
    refine ro_z (z := (wr S r n : Int)) (va_runV (As := []) (rest := []) ⟨hx, hb, hml, hown, hts⟩ (m_writtenVolumes l dC dI ad ca gL gB gD gN gS n r x L S lo hok hT) (cwV 0 hts (gV wlX0_92 wo_X0_writtenVolumes wz_X0_writtenVolumes wi_1 wcX0_writtenVolumes) rfl rfl rfl (by decide +kernel) ⟨Nat.le_of_ble_eq_true rfl, Nat.le_of_ble_eq_true rfl⟩) (PX_V (q0 := 0) (ci := 0) hP hK hD rfl rfl) rfl rfl hl.1 rfl (lv_room (Nat.le_of_ble_eq_true rfl)) dX0_spare_15 ⟨Nat.le_of_ble_eq_true rfl, Nat.le_of_ble_eq_true rfl⟩) hS hP (fun H locs hP hS => ?_)
    refine lv_istore_n hx hb dX0_spare_18 rfl hl (by decide) rfl (fun ls hl => ?_)
    have hl : lv_has ls 6 [(2, .int (iI ((wr S r n : Int)))), (0, .ref (ad 0)), (1, .int (iI q))] := hl
    refine lv_iload_n hx hb dX0_spare_19 rfl (lv_at hl 0 rfl) ?_
    refine r_if_ne hx hb dX0_spare_20 (tgt := 27) (by decide) (by omega) (fun hne => ?_) (fun heq => ?_)
    · refine r_iconst hx hb dX0_spare_27 ?_
      refine lv_iload_n hx hb dX0_spare_28 rfl (lv_at hl 0 rfl) ?_
      refine r_iconst hx hb dX0_spare_29 ?_
      refine r_isub hx hb dX0_spare_30 ?_
      refine r_topi (b := ((wr S r n - 1 : Nat) : Int)) (by omega) ?_
      refine ro_l (va_runS (As := [.int (iI 0), .int (iI (((wr S r n - 1 : Nat) : Int)))]) (rest := []) ⟨hx, hb, hml, hown, hts⟩ (m_bitsFromTo l dC dI 0 (wr S r n - 1) (by omega) (by omega)) (va_cwS 2 hts (gSt wlX0_96 wt_X0_bitsFromTo wi_1 wcX0_bitsFromTo) rfl rfl rfl (by decide +kernel) ⟨Nat.le_of_ble_eq_true rfl, Nat.le_of_ble_eq_true rfl⟩) (PX_S0 hK) rfl rfl hl.1 rfl (lv_room (Nat.le_of_ble_eq_true rfl)) dX0_spare_31 ⟨Nat.le_of_ble_eq_true rfl, Nat.le_of_ble_eq_true rfl⟩) hS hP (fun own H locs hown9 hP hS => ?_)
      have hy0 : ∀ v, v < 64 → bL own v = decide (v < wr S r n) := fun v hv => by
        rw [hown9 v hv, decide_eq_true (Nat.zero_le v), Bool.true_and]
        exact decide_eq_decide.mpr (by omega)
      refine lv_lstore_n hx hb dX0_spare_34 rfl hl (by decide) rfl (fun ls hl => ?_)
      have hl : lv_has ls 6 [(3, .long own), (2, .int (iI ((wr S r n : Int)))), (0, .ref (ad 0)), (1, .int (iI q))] := hl
      refine r_iconst hx hb dX0_spare_35 ?_
      refine lv_aload_n hx hb dX0_spare_36 rfl (lv_at hl 2 rfl) ?_
      refine va_get (D := (dC, dI)) (ci := 0) (v := .int (iI ((n : Int)))) (C := RX0) (T := TX0) (N := 8) hx hb hts hinTX0 hown hK hP 0 rfl rfl 5 (by decide) fl41 (fun _ h9 => h9) rfl dX0_spare_37 ?_
      refine lv_iload_n hx hb dX0_spare_40 rfl (lv_at hl 3 rfl) ?_
      refine r_isub hx hb dX0_spare_41 ?_
      refine va_mmax hx hb (hml.trans hl.1.symm) hown (hw _ wl_max) (hw _ wt_max) (hw _ wi_9) (hw _ wc_max) (Nat.le_of_ble_eq_true rfl) (Nat.le_of_ble_eq_true rfl) (Nat.le_of_ble_eq_true rfl) (Nat.le_of_ble_eq_true rfl) dX0_spare_42 ?_
      rw [iI_max ⟨by omega, by omega⟩ ⟨by omega, by omega⟩]
      refine r_topi (b := ((n - q.toNat : Nat) : Int)) (by split <;> omega) ?_
      refine lv_istore hx hb dX0_spare_45 hl (by decide) rfl (fun ls hl => ?_)
      have hl : lv_has ls 6 [(5, .int (iI (((n - q.toNat : Nat) : Int)))), (3, .long own), (2, .int (iI ((wr S r n : Int)))), (0, .ref (ad 0)), (1, .int (iI q))] := hl
      have loop : ∀ (N : Nat) (d : Nat) (y : Int64) (ls : Array Slot), n - d < N → (n ≤ d + q.toNat) → (d ≤ n) → (∀ v, v < 64 → bL y v = (decide (v < wr S r n) && noH (spP L S r n q.toNat v) d)) → lv_has ls 6 [(5, .int (iI ((d : Int)))), (3, .long y), (2, .int (iI ((wr S r n : Int)))), (0, .ref (ad 0)), (1, .int (iI q))] → W p l e (headSpec wsX0_spare { frames := 6, cells := 1, slots := 6, locals := 82 }).room s m ([.ref (ad 0), .int (iI q)]).toArray below meth c H locs 0 0 (vx_MQ below (RQl (fun y => 0 ≤ q ∧ ∀ v, v < 64 → bL y v = sp L S r n q.toNat v)) (xcE (fun E => E = eIA ∧ q < 0)) ([.ref (ad 0), .int (iI q)]).toArray s 1 6 nF) (F0 m 47 ls []) := by
        intro N
        induction N with
        | zero => intro d y ls h; exact absurd h (Nat.not_lt_zero _)
        | succ N ih =>
          intro d y ls hN hd hdn hy hl
          refine lv_iload hx hb dX0_spare_47 (lv_at hl 0 rfl) ?_
          refine lv_aload_n hx hb dX0_spare_49 rfl (lv_at hl 3 rfl) ?_
          refine va_get (D := (dC, dI)) (ci := 0) (v := .int (iI ((n : Int)))) (C := RX0) (T := TX0) (N := 8) hx hb hts hinTX0 hown hK hP 0 rfl rfl 5 (by decide) fl41 (fun _ h9 => h9) rfl dX0_spare_50 ?_
          refine r_icmp_ge hx hb dX0_spare_53 (tgt := 76) (by decide) (by omega) (by omega) (fun hge2 => ?_) (fun hlt2 => ?_)
          · have hd0 : d = n := by omega
            subst hd0
            refine lv_lload_n hx hb dX0_spare_76 rfl (lv_at hl 1 rfl) ?_
            refine vx_ret ?_
            refine W.widen (k := 1) (n := 6) (by decide) (by decide) ?_
            exact W.lret hx hb hr (fun t ht hW => ⟨⟨_, (), rfl, ⟨hge, hy⟩, trivial⟩, hS.F ht⟩) hS.2.2 dX0_spare_77
          · obtain ⟨-, -, -, t4⟩ := hT.1 d (by omega)
            have ed : ((d : Int)).toNat = d := by omega
            refine lv_lload_n hx hb dX0_spare_56 rfl (lv_at hl 1 rfl) ?_
            refine lv_aload_n hx hb dX0_spare_57 rfl (lv_at hl 3 rfl) ?_
            refine va_get (D := (dC, dI)) (ci := 0) (v := .ref (ad 4)) (C := RX0) (T := TX0) (N := 8) hx hb hts hinTX0 hown hK hP 0 rfl rfl 3 (by decide) fl19 (fun _ h9 => h9) rfl dX0_spare_58 ?_
            refine lv_iload hx hb dX0_spare_61 (lv_at hl 0 rfl) ?_
            refine r_lald hx hb hK hP 4 3 rfl rfl (by omega) (by omega) (by decide) dX0_spare_63 ?_
            refine r_top (w := .long (gN d)) (by rw [ed]) ?_
            refine lv_ldc2 hx hb hown (hw _ wjX0_84) dX0_spare_64 ?_
            refine lv_lxor hx hb dX0_spare_67 ?_
            refine lv_land hx hb dX0_spare_68 ?_
            refine lv_lstore_n hx hb dX0_spare_69 rfl hl (by decide) rfl (fun ls hl => ?_)
            have hl : lv_has ls 6 [(3, .long (y &&& ((gN d) ^^^ ((-1))))), (5, .int (iI ((d : Int)))), (2, .int (iI ((wr S r n : Int)))), (0, .ref (ad 0)), (1, .int (iI q))] := hl
            refine r_iinc (k := 1) hx hb dX0_spare_70 hl rfl (by decide) rfl (fun ls hl => ?_)
            have hl : lv_has ls 6 [(5, .int (iI ((d : Int) + 1))), (3, .long (y &&& ((gN d) ^^^ ((-1))))), (2, .int (iI ((wr S r n : Int)))), (0, .ref (ad 0)), (1, .int (iI q))] := hl
            refine lv_goto hx hb dX0_spare_73 (tgt := 47) (by decide) ?_
            have hl : lv_has ls 6 [(5, .int (iI ((d + 1 : Nat) : Int))), (3, .long (y &&& ((gN d) ^^^ ((-1))))), (2, .int (iI (wr S r n : Int))), (0, .ref (ad 0)), (1, .int (iI q))] := by
              rw [show ((d + 1 : Nat) : Int) = (d : Int) + 1 by omega]
              exact hl
            exact ih (d + 1) (y &&& ((gN d) ^^^ ((-1)))) ls (by omega) (by omega) (by omega) (fun v hv => by rw [bL_and, bL_not _ hv, hy v hv, t4 v hv, spP_s (by omega), Bool.and_assoc]) hl
      exact loop (n + 1) (n - q.toNat) own ls (by omega) (by omega) (by omega) (fun v hv => by rw [spP_1, Bool.and_true]; exact hy0 v hv) hl
    · refine lv_lconst hx hb dX0_spare_23 rfl ?_
      refine lv_goto hx hb dX0_spare_24 (tgt := 34) (by decide) ?_
      have hy0 : ∀ v, v < 64 → bL (Int64.ofNat 0) v = decide (v < wr S r n) := fun v hv => by
        rw [decide_eq_false (by omega)]
        exact bL_0 v
      refine lv_lstore_n hx hb dX0_spare_34 rfl hl (by decide) rfl (fun ls hl => ?_)
      have hl : lv_has ls 6 [(3, .long (Int64.ofNat 0)), (2, .int (iI ((wr S r n : Int)))), (0, .ref (ad 0)), (1, .int (iI q))] := hl
      refine r_iconst hx hb dX0_spare_35 ?_
      refine lv_aload_n hx hb dX0_spare_36 rfl (lv_at hl 2 rfl) ?_
      refine va_get (D := (dC, dI)) (ci := 0) (v := .int (iI ((n : Int)))) (C := RX0) (T := TX0) (N := 8) hx hb hts hinTX0 hown hK hP 0 rfl rfl 5 (by decide) fl41 (fun _ h9 => h9) rfl dX0_spare_37 ?_
      refine lv_iload_n hx hb dX0_spare_40 rfl (lv_at hl 3 rfl) ?_
      refine r_isub hx hb dX0_spare_41 ?_
      refine va_mmax hx hb (hml.trans hl.1.symm) hown (hw _ wl_max) (hw _ wt_max) (hw _ wi_9) (hw _ wc_max) (Nat.le_of_ble_eq_true rfl) (Nat.le_of_ble_eq_true rfl) (Nat.le_of_ble_eq_true rfl) (Nat.le_of_ble_eq_true rfl) dX0_spare_42 ?_
      rw [iI_max ⟨by omega, by omega⟩ ⟨by omega, by omega⟩]
      refine r_topi (b := ((n - q.toNat : Nat) : Int)) (by split <;> omega) ?_
      refine lv_istore hx hb dX0_spare_45 hl (by decide) rfl (fun ls hl => ?_)
      have hl : lv_has ls 6 [(5, .int (iI (((n - q.toNat : Nat) : Int)))), (3, .long (Int64.ofNat 0)), (2, .int (iI ((wr S r n : Int)))), (0, .ref (ad 0)), (1, .int (iI q))] := hl
      have loop : ∀ (N : Nat) (d : Nat) (y : Int64) (ls : Array Slot), n - d < N → (n ≤ d + q.toNat) → (d ≤ n) → (∀ v, v < 64 → bL y v = (decide (v < wr S r n) && noH (spP L S r n q.toNat v) d)) → lv_has ls 6 [(5, .int (iI ((d : Int)))), (3, .long y), (2, .int (iI ((wr S r n : Int)))), (0, .ref (ad 0)), (1, .int (iI q))] → W p l e (headSpec wsX0_spare { frames := 6, cells := 1, slots := 6, locals := 82 }).room s m ([.ref (ad 0), .int (iI q)]).toArray below meth c H locs 0 0 (vx_MQ below (RQl (fun y => 0 ≤ q ∧ ∀ v, v < 64 → bL y v = sp L S r n q.toNat v)) (xcE (fun E => E = eIA ∧ q < 0)) ([.ref (ad 0), .int (iI q)]).toArray s 1 6 nF) (F0 m 47 ls []) := by
        intro N
        induction N with
        | zero => intro d y ls h; exact absurd h (Nat.not_lt_zero _)
        | succ N ih =>
          intro d y ls hN hd hdn hy hl
          refine lv_iload hx hb dX0_spare_47 (lv_at hl 0 rfl) ?_
          refine lv_aload_n hx hb dX0_spare_49 rfl (lv_at hl 3 rfl) ?_
          refine va_get (D := (dC, dI)) (ci := 0) (v := .int (iI ((n : Int)))) (C := RX0) (T := TX0) (N := 8) hx hb hts hinTX0 hown hK hP 0 rfl rfl 5 (by decide) fl41 (fun _ h9 => h9) rfl dX0_spare_50 ?_
          refine r_icmp_ge hx hb dX0_spare_53 (tgt := 76) (by decide) (by omega) (by omega) (fun hge2 => ?_) (fun hlt2 => ?_)
          · have hd0 : d = n := by omega
            subst hd0
            refine lv_lload_n hx hb dX0_spare_76 rfl (lv_at hl 1 rfl) ?_
            refine vx_ret ?_
            refine W.widen (k := 1) (n := 6) (by decide) (by decide) ?_
            exact W.lret hx hb hr (fun t ht hW => ⟨⟨_, (), rfl, ⟨hge, hy⟩, trivial⟩, hS.F ht⟩) hS.2.2 dX0_spare_77
          · obtain ⟨-, -, -, t4⟩ := hT.1 d (by omega)
            have ed : ((d : Int)).toNat = d := by omega
            refine lv_lload_n hx hb dX0_spare_56 rfl (lv_at hl 1 rfl) ?_
            refine lv_aload_n hx hb dX0_spare_57 rfl (lv_at hl 3 rfl) ?_
            refine va_get (D := (dC, dI)) (ci := 0) (v := .ref (ad 4)) (C := RX0) (T := TX0) (N := 8) hx hb hts hinTX0 hown hK hP 0 rfl rfl 3 (by decide) fl19 (fun _ h9 => h9) rfl dX0_spare_58 ?_
            refine lv_iload hx hb dX0_spare_61 (lv_at hl 0 rfl) ?_
            refine r_lald hx hb hK hP 4 3 rfl rfl (by omega) (by omega) (by decide) dX0_spare_63 ?_
            refine r_top (w := .long (gN d)) (by rw [ed]) ?_
            refine lv_ldc2 hx hb hown (hw _ wjX0_84) dX0_spare_64 ?_
            refine lv_lxor hx hb dX0_spare_67 ?_
            refine lv_land hx hb dX0_spare_68 ?_
            refine lv_lstore_n hx hb dX0_spare_69 rfl hl (by decide) rfl (fun ls hl => ?_)
            have hl : lv_has ls 6 [(3, .long (y &&& ((gN d) ^^^ ((-1))))), (5, .int (iI ((d : Int)))), (2, .int (iI ((wr S r n : Int)))), (0, .ref (ad 0)), (1, .int (iI q))] := hl
            refine r_iinc (k := 1) hx hb dX0_spare_70 hl rfl (by decide) rfl (fun ls hl => ?_)
            have hl : lv_has ls 6 [(5, .int (iI ((d : Int) + 1))), (3, .long (y &&& ((gN d) ^^^ ((-1))))), (2, .int (iI ((wr S r n : Int)))), (0, .ref (ad 0)), (1, .int (iI q))] := hl
            refine lv_goto hx hb dX0_spare_73 (tgt := 47) (by decide) ?_
            have hl : lv_has ls 6 [(5, .int (iI ((d + 1 : Nat) : Int))), (3, .long (y &&& ((gN d) ^^^ ((-1))))), (2, .int (iI (wr S r n : Int))), (0, .ref (ad 0)), (1, .int (iI q))] := by
              rw [show ((d + 1 : Nat) : Int) = (d : Int) + 1 by omega]
              exact hl
            exact ih (d + 1) (y &&& ((gN d) ^^^ ((-1)))) ls (by omega) (by omega) (by omega) (fun v hv => by rw [bL_and, bL_not _ hv, hy v hv, t4 v hv, spP_s (by omega), Bool.and_assoc]) hl
      exact loop (n + 1) (n - q.toNat) (Int64.ofNat 0) ls (by omega) (by omega) (by omega) (fun v hv => by rw [spP_1, Bool.and_true]; exact hy0 v hv) hl
  · obtain ⟨sa, hsa⟩ := hE.2.2.2.1 (90, "n is below 0") (List.mem_of_getElem? (i := 11) rfl)
    exact vx_throwS (own := RX0) (cls := eIA) (names := eN) hx hb hl9 hown (by decide +kernel) (by decide +kernel) (hw _ wkX0_30) (hw _ wi_6) hsa (hat_34 hE hw) (by decide +kernel) (exE_none hE).1.1 (exE_none hE).1.2 hS (hl.1.trans hml.symm) dX0_spare_4 dX0_spare_7 dX0_spare_8 dX0_spare_10 dX0_spare_13 (fun x hx => (hEx x hx).elim) (Nat.le_of_ble_eq_true rfl) (Nat.le_of_ble_eq_true rfl) (Nat.le_of_ble_eq_true rfl) (Nat.le_of_ble_eq_true rfl) hlocks (fun t ha hsz hk => ⟨(), trivial, ⟨rfl, hlt⟩, Nat.le_trans hS.1 hsz, fun q h1 h2 => (hk q (Nat.lt_of_lt_of_le h1 hS.1)).trans (hS.2.1 q h1 h2)⟩) (fun z hz => (hS.2.2 z hz).elim) (by decide) (by decide)
set_option maxHeartbeats 4000000 in
set_option maxRecDepth 100000 in
theorem m_count (l : Launch) (hl9 : l.stackTraces = false) (dC : Nat → ClassId) (dI : Nat → Nat → Nat) (ad : Nat → Nat) (ca : Nat → ClassId) (gL gB gD : Nat → Int) (gN : Nat → Int64) (gS : Nat → Int) (n r : Nat) (x : Int64) (L S : Nat → Nat) (lo : Nat → Bool) (hok : okS n L S r) (hT : tX n L S r lo gL gB gD gN gS x) (q : Int) (hq : iR q) : vx_Met l yX0_count wsX0_count { frames := 6, cells := 1, slots := 6, locals := 82 } (PXe (dC, dI) vwCl (yX ca) (wX ad ca gL gB gD gN gS ((n : Int)) ((r : Int)) x) [.ref (ad 0), .int (iI q)]) (RQi (fun y => (0 ≤ q ∧ q ≤ 5) ∧ y = iI (ct L S r n lo q.toNat : Int))) (xcE (fun E => E = eIA ∧ ¬ (0 ≤ q ∧ q ≤ 5))) 1 6 nF := by
  refine vx_ofW (cc := cX0_count) (maxL := 2) (ret := (some .int)) (by decide) rfl ?_
  intro p e s m args below meth c s₁ B hml hEx hv
  obtain ⟨rfl, hP, hK, hD0, hE⟩ := hv
  have hx := B.exec
  have hb := B.bytes
  have hr := B.returns
  have hts := atoms_spec (ws := wsX0_count) B.pre
  have hown : s.vm.findClass RX0 = some m.cls := findClass_of_methodNamed B.named
  have hlocks := B.notSynchronized
  have hw := fun w h => hts w (List.mem_cons_of_mem _ h)
  have hinTX0 : ∀ w ∈ u_ws RX0 TX0 8, w ∈ wsX0_count := wA_u wuX0
  have fl41 := hw _ wfX0_41
  have fl23 := hw _ wfX0_23
  have fl80 := hw _ wfX0_80
  have hD := hD0
  obtain ⟨H, hH⟩ : ∃ H, H = s.heap := ⟨_, rfl⟩
  obtain ⟨locs, hlc⟩ : ∃ L : List Loc, L = [] := ⟨_, rfl⟩
  have hS : va_S nF s.heap H locs := by rw [hH, hlc]; exact va_S.rf
  rw [← hH] at hP ⊢
  rw [← hlc]
  have hl := lv_entry ([.ref (ad 0), .int (iI q)]) (n := 2) (Nat.le_of_ble_eq_true rfl)
  rw [lg_entry_eq]
  generalize (lg_sl ([.ref (ad 0), .int (iI q)]) ++ List.replicate (2 - (lg_sl ([.ref (ad 0), .int (iI q)])).length) Slot.unset).toArray = ls at hl ⊢
  have hl : lv_has ls 2 [(0, .ref (ad 0)), (1, .int (iI q))] := hl
  obtain ⟨ok1, ok2, ok3, ok4, ok5⟩ := id hok
  have hwr := wr_le (S := S) (n := n) ok2 ok5
  have t5 := hT.2.1 n (Nat.le_refl n)
  have en : ((n : Int)).toNat = n := by omega
  refine lv_iload_n hx hb dX0_count_0 rfl (lv_at hl 1 rfl) ?_
  have hcases : (q < 0 ∨ 5 < q) ∨ q = 0 ∨ q = 1 ∨ q = 2 ∨ q = 3 ∨ q = 4 ∨ q = 5 := by omega
  rcases hcases with ho | rfl | rfl | rfl | rfl | rfl | rfl
  · refine lv_tableOut hx hb dX0_count_1 (tgt := 83) (by rw [iI_toInt hq]; exact ho) (by decide) ?_
    obtain ⟨sa, hsa⟩ := hE.2.2.2.1 (117, "what is 0 to 5") (List.mem_of_getElem? (i := 12) rfl)
    exact vx_throwS (own := RX0) (cls := eIA) (names := eN) hx hb hl9 hown (by decide +kernel) (by decide +kernel) (hw _ wkX0_30) (hw _ wi_6) hsa (hat_34 hE hw) (by decide +kernel) (exE_none hE).1.1 (exE_none hE).1.2 hS (hl.1.trans hml.symm) dX0_count_83 dX0_count_86 dX0_count_87 dX0_count_89 dX0_count_92 (fun x hx => (hEx x hx).elim) (Nat.le_of_ble_eq_true rfl) (Nat.le_of_ble_eq_true rfl) (Nat.le_of_ble_eq_true rfl) (Nat.le_of_ble_eq_true rfl) hlocks (fun t ha hsz hk => ⟨(), trivial, ⟨rfl, by omega⟩, Nat.le_trans hS.1 hsz, fun q h1 h2 => (hk q (Nat.lt_of_lt_of_le h1 hS.1)).trans (hS.2.1 q h1 h2)⟩) (fun z hz => (hS.2.2 z hz).elim) (by decide) (by decide)
  · refine lv_tableIn hx hb dX0_count_1 (off := 39) (tgt := 40) (by decide) (by decide) (by decide) (by decide) ?_
    refine lv_aload_n hx hb dX0_count_40 rfl (lv_at hl 0 rfl) ?_
    refine va_get (D := (dC, dI)) (ci := 0) (v := .int (iI ((n : Int)))) (C := RX0) (T := TX0) (N := 8) hx hb hts hinTX0 hown hK hP 0 rfl rfl 5 (by decide) fl41 (fun _ h9 => h9) rfl dX0_count_41 ?_
    refine vx_ret ?_
    refine W.widen (k := 1) (n := 6) (by decide) (by decide) ?_
    exact W.iret (v := iI ((n : Int))) hx hb hr (fun t ht hW => ⟨⟨_, (), rfl, ⟨by omega, rfl⟩, trivial⟩, hS.F ht⟩) hS.2.2 dX0_count_44
  · refine lv_tableIn hx hb dX0_count_1 (off := 44) (tgt := 45) (by decide) (by decide) (by decide) (by decide) ?_
    refine lv_aload_n hx hb dX0_count_45 rfl (lv_at hl 0 rfl) ?_
    refine ro_z (z := (wr S r n : Int)) (va_runV (As := []) (rest := []) ⟨hx, hb, hml, hown, hts⟩ (m_writtenVolumes l dC dI ad ca gL gB gD gN gS n r x L S lo hok hT) (cwV 0 hts (gV wlX0_92 wo_X0_writtenVolumes wz_X0_writtenVolumes wi_1 wcX0_writtenVolumes) rfl rfl rfl (by decide +kernel) ⟨Nat.le_of_ble_eq_true rfl, Nat.le_of_ble_eq_true rfl⟩) (PX_V (q0 := 0) (ci := 0) hP hK hD rfl rfl) rfl rfl hl.1 rfl (lv_room (Nat.le_of_ble_eq_true rfl)) dX0_count_46 ⟨Nat.le_of_ble_eq_true rfl, Nat.le_of_ble_eq_true rfl⟩) hS hP (fun H locs hP hS => ?_)
    refine vx_ret ?_
    refine W.widen (k := 1) (n := 6) (by decide) (by decide) ?_
    exact W.iret (v := iI ((wr S r n : Int))) hx hb hr (fun t ht hW => ⟨⟨_, (), rfl, ⟨by omega, rfl⟩, trivial⟩, hS.F ht⟩) hS.2.2 dX0_count_49
  · refine lv_tableIn hx hb dX0_count_1 (off := 49) (tgt := 50) (by decide) (by decide) (by decide) (by decide) ?_
    refine lv_aload_n hx hb dX0_count_50 rfl (lv_at hl 0 rfl) ?_
    refine va_get (D := (dC, dI)) (ci := 0) (v := .ref (ad 5)) (C := RX0) (T := TX0) (N := 8) hx hb hts hinTX0 hown hK hP 0 rfl rfl 4 (by decide) fl23 (fun _ h9 => h9) rfl dX0_count_51 ?_
    refine lv_aload_n hx hb dX0_count_54 rfl (lv_at hl 0 rfl) ?_
    refine va_get (D := (dC, dI)) (ci := 0) (v := .int (iI ((n : Int)))) (C := RX0) (T := TX0) (N := 8) hx hb hts hinTX0 hown hK hP 0 rfl rfl 5 (by decide) fl41 (fun _ h9 => h9) rfl dX0_count_55 ?_
    refine r_iald hx hb hK hP 5 4 rfl rfl (by omega) (by omega) (by decide) dX0_count_58 ?_
    refine r_topi (b := (sm S n : Int)) (by rw [en]; exact t5) ?_
    refine lv_aload_n hx hb dX0_count_59 rfl (lv_at hl 0 rfl) ?_
    refine ro_z (z := (wr S r n : Int)) (va_runV (As := []) (rest := [.int (iI ((sm S n : Int)))]) ⟨hx, hb, hml, hown, hts⟩ (m_writtenVolumes l dC dI ad ca gL gB gD gN gS n r x L S lo hok hT) (cwV 0 hts (gV wlX0_92 wo_X0_writtenVolumes wz_X0_writtenVolumes wi_1 wcX0_writtenVolumes) rfl rfl rfl (by decide +kernel) ⟨Nat.le_of_ble_eq_true rfl, Nat.le_of_ble_eq_true rfl⟩) (PX_V (q0 := 0) (ci := 0) hP hK hD rfl rfl) rfl rfl hl.1 rfl (lv_room (Nat.le_of_ble_eq_true rfl)) dX0_count_60 ⟨Nat.le_of_ble_eq_true rfl, Nat.le_of_ble_eq_true rfl⟩) hS hP (fun H locs hP hS => ?_)
    refine r_iadd hx hb dX0_count_63 ?_
    refine vx_ret ?_
    refine W.widen (k := 1) (n := 6) (by decide) (by decide) ?_
    exact W.iret (v := iI (((sm S n : Int)) + ((wr S r n : Int)))) hx hb hr (fun t ht hW => ⟨⟨_, (), rfl, ⟨by omega, by rw [show (ct L S r n lo (2 : Int).toNat : Int) = (sm S n : Int) + (wr S r n : Int) from Int.natCast_add _ _]⟩, trivial⟩, hS.F ht⟩) hS.2.2 dX0_count_64
  · refine lv_tableIn hx hb dX0_count_1 (off := 64) (tgt := 65) (by decide) (by decide) (by decide) (by decide) ?_
    refine lv_aload_n hx hb dX0_count_65 rfl (lv_at hl 0 rfl) ?_
    refine ro_z (z := (cn (gd L S r lo) n : Int)) (va_runV (As := []) (rest := []) ⟨hx, hb, hml, hown, hts⟩ (m_goodDumps l dC dI ad ca gL gB gD gN gS n r x L S lo hok hT) (cwV 0 hts (gV wlX0_105 wo_X0_goodDumps wz_X0_goodDumps wi_1 wcX0_goodDumps) rfl rfl rfl (by decide +kernel) ⟨Nat.le_of_ble_eq_true rfl, Nat.le_of_ble_eq_true rfl⟩) (PX_V (q0 := 0) (ci := 0) hP hK hD rfl rfl) rfl rfl hl.1 rfl (lv_room (Nat.le_of_ble_eq_true rfl)) dX0_count_66 ⟨Nat.le_of_ble_eq_true rfl, Nat.le_of_ble_eq_true rfl⟩) hS hP (fun H locs hP hS => ?_)
    refine vx_ret ?_
    refine W.widen (k := 1) (n := 6) (by decide) (by decide) ?_
    exact W.iret (v := iI ((cn (gd L S r lo) n : Int))) hx hb hr (fun t ht hW => ⟨⟨_, (), rfl, ⟨by omega, rfl⟩, trivial⟩, hS.F ht⟩) hS.2.2 dX0_count_69
  · refine lv_tableIn hx hb dX0_count_1 (off := 69) (tgt := 70) (by decide) (by decide) (by decide) (by decide) ?_
    refine lv_aload_n hx hb dX0_count_70 rfl (lv_at hl 0 rfl) ?_
    refine ro_z (z := (mx (fun d => dp L (d + 1)) n : Int)) (va_runV (As := []) (rest := []) ⟨hx, hb, hml, hown, hts⟩ (m_longestChain l dC dI ad ca gL gB gD gN gS n r x L S lo hok hT) (cwV 0 hts (gV wlX0_108 wo_X0_longestChain wz_X0_longestChain wi_1 wcX0_longestChain) rfl rfl rfl (by decide +kernel) ⟨Nat.le_of_ble_eq_true rfl, Nat.le_of_ble_eq_true rfl⟩) (PX_V (q0 := 0) (ci := 0) hP hK hD rfl rfl) rfl rfl hl.1 rfl (lv_room (Nat.le_of_ble_eq_true rfl)) dX0_count_71 ⟨Nat.le_of_ble_eq_true rfl, Nat.le_of_ble_eq_true rfl⟩) hS hP (fun H locs hP hS => ?_)
    refine vx_ret ?_
    refine W.widen (k := 1) (n := 6) (by decide) (by decide) ?_
    exact W.iret (v := iI ((mx (fun d => dp L (d + 1)) n : Int))) hx hb hr (fun t ht hW => ⟨⟨_, (), rfl, ⟨by omega, rfl⟩, trivial⟩, hS.F ht⟩) hS.2.2 dX0_count_74
  · refine lv_tableIn hx hb dX0_count_1 (off := 74) (tgt := 75) (by decide) (by decide) (by decide) (by decide) ?_
    refine lv_aload_n hx hb dX0_count_75 rfl (lv_at hl 0 rfl) ?_
    refine va_get (D := (dC, dI)) (ci := 0) (v := .long x) (C := RX0) (T := TX0) (N := 8) hx hb hts hinTX0 hown hK hP 0 rfl rfl 7 (by decide) fl80 (fun _ h9 => h9) rfl dX0_count_76 ?_
    refine ro_z (z := (cn (bL x) 64 : Int)) (va_runS (As := [.long x]) (rest := []) ⟨hx, hb, hml, hown, hts⟩ (m_bitCount l dC dI x) (va_cwS 1 hts (gSt wlX0_111 wt_J13_bitCount wi_10 wcJ13_bitCount) rfl rfl rfl (by decide +kernel) ⟨Nat.le_of_ble_eq_true rfl, Nat.le_of_ble_eq_true rfl⟩) (PX_S0 hK) rfl rfl hl.1 rfl (lv_room (Nat.le_of_ble_eq_true rfl)) dX0_count_79 ⟨Nat.le_of_ble_eq_true rfl, Nat.le_of_ble_eq_true rfl⟩) hS hP (fun H locs hP hS => ?_)
    refine vx_ret ?_
    refine W.widen (k := 1) (n := 6) (by decide) (by decide) ?_
    exact W.iret (v := iI ((cn (bL x) 64 : Int))) hx hb hr (fun t ht hW => ⟨⟨_, (), rfl, ⟨by omega, by rw [cn_congr (P' := lo) (fun v hv => hT.2.2 v hv)]; rfl⟩, trivial⟩, hS.F ht⟩) hS.2.2 dX0_count_82
end
section
/-! the reference's cells -/
abbrev wM (ad : Nat → Nat) (ca : Nat → ClassId) (er : Int) (gl gz go gw : Nat → Int) (n vol : Int) : va_W := [(ad 0, .inr (1, [.int (iI er), .ref (ad 1), .ref (ad 2), .ref (ad 3), .ref (ad 4), .int (iI n), .int (iI vol)])), (ad 1, .inl (ca 1, 300, .inl (fun j => iI (gl j)))), (ad 2, .inl (ca 2, 300, .inl (fun j => iI (gz j)))), (ad 3, .inl (ca 3, 64, .inl (fun j => iI (go j)))), (ad 4, .inl (ca 4, 64, .inl (fun j => iI (gw j))))]
abbrev yM (ca : Nat → ClassId) : List (ClassId × FieldType) := [(ca 1, .int), (ca 2, .int), (ca 3, .boolean), (ca 4, .boolean)]
abbrev MU : Type := Int × (Nat → Int) × (Nat → Int) × (Nat → Int) × (Nat → Int) × Int × Int
abbrev wMu (ad : Nat → Nat) (ca : Nat → ClassId) (u : MU) : va_W := wM ad ca u.1 u.2.1 u.2.2.1 u.2.2.2.1 u.2.2.2.2.1 u.2.2.2.2.2.1 u.2.2.2.2.2.2
/-- the reference's state means n dumps of levels L and sizes S, r blocks behind a label, lost volumes lo -/
def MS (n : Nat) (L S : Nat → Nat) (r : Nat) (lo : Nat → Bool) (u : MU) : Prop := tM n L S lo u.2.1 u.2.2.1 u.2.2.2.1 ∧ u.2.2.2.2.2.1 = (n : Int) ∧ u.2.2.2.2.2.2 = (r : Int) + 1
theorem uZ_all {g : Nat → Int} {k : Nat} {c : Int} (h : ∀ j, j < k → g j = c) : ∀ j, j < k + 1 → uZ g ((k : Int)).toNat c j = c := by
  intro j hj
  have e : ((k : Int)).toNat = k := by omega
  rw [e]
  by_cases q : j = k
  · rw [q, uZ_s]
  · rw [uZ_n q, h j (by omega)]
theorem wn_s {g : Nat → Int} {w1 : Nat → Bool} {v0 v : Nat} (h : ∀ j, j < 64 → g j = b2 (w1 j || (decide (v0 ≤ j) && decide (j < v)))) (hv : v0 ≤ v) : ∀ j, j < 64 → uZ g ((v : Int)).toNat 1 j = b2 (w1 j || (decide (v0 ≤ j) && decide (j < v + 1))) := by
  intro j hj
  have e : ((v : Int)).toNat = v := by omega
  rw [e]
  by_cases q : j = v
  · rw [q, uZ_s, decide_eq_true hv, decide_eq_true (Nat.lt_succ_self v), Bool.and_self, Bool.or_true]
    rfl
  · rw [uZ_n q, h j hj]
    congr 3
    exact decide_eq_decide.mpr (by omega)
end
section
/-! the reference: its own helpers -/
set_option maxHeartbeats 4000000 in
set_option maxRecDepth 100000 in
theorem n_thrown (l : Launch) (dC : Nat → ClassId) (dI : Nat → Nat → Nat) (ad : Nat → Nat) (ca : Nat → ClassId) (er : Int) (gl gz go gw : Nat → Int) (n vol : Int) : Met l yX1_thrown wsX1_thrown { frames := 0, cells := 0, slots := 0, locals := 0 } (PX (dC, dI) vwCl (yM ca) (wM ad ca er gl gz go gw n vol) [.ref (ad 0)]) (RQi (fun y => y = iI er)) 0 0 nF := by
  refine Met.ofW (cc := cX1_thrown) (maxL := 1) (ret := (some .int)) (by decide) rfl ?_
  intro p e s m args below meth c s₁ B hml hv
  obtain ⟨rfl, hP, hK, hD0⟩ := hv
  have hx := B.exec
  have hb := B.bytes
  have hr := B.returns
  have hts := atoms_spec (ws := wsX1_thrown) B.pre
  have hown : s.vm.findClass RX1 = some m.cls := findClass_of_methodNamed B.named
  have hlocks := B.notSynchronized
  have hw := fun w h => hts w (List.mem_cons_of_mem _ h)
  have hinTX1 : ∀ w ∈ u_ws RX1 TX1 7, w ∈ wsX1_thrown := wA_u wuX1
  have fl27 := hw _ wfX1_27
  have hD := hD0
  obtain ⟨H, hH⟩ : ∃ H, H = s.heap := ⟨_, rfl⟩
  obtain ⟨locs, hlc⟩ : ∃ L : List Loc, L = [] := ⟨_, rfl⟩
  have hS : va_S nF s.heap H locs := by rw [hH, hlc]; exact va_S.rf
  rw [← hH] at hP ⊢
  rw [← hlc]
  have hl := lv_entry ([.ref (ad 0)]) (n := 1) (Nat.le_of_ble_eq_true rfl)
  rw [lg_entry_eq]
  generalize (lg_sl ([.ref (ad 0)]) ++ List.replicate (1 - (lg_sl ([.ref (ad 0)])).length) Slot.unset).toArray = ls at hl ⊢
  have hl : lv_has ls 1 [(0, .ref (ad 0))] := hl
  refine lv_aload_n hx hb dX1_thrown_0 rfl (lv_at hl 0 rfl) ?_
  refine va_get (D := (dC, dI)) (ci := 1) (v := .int (iI er)) (C := RX1) (T := TX1) (N := 7) hx hb hts hinTX1 hown hK hP 0 rfl rfl 0 (by decide) fl27 (fun _ h9 => h9) rfl dX1_thrown_1 ?_
  exact W.iret (v := iI er) hx hb hr (fun t ht hW => ⟨⟨_, (), rfl, rfl, trivial⟩, hS.F ht⟩) hS.2.2 dX1_thrown_4
set_option maxHeartbeats 4000000 in
set_option maxRecDepth 100000 in
theorem n_fails0 (l : Launch) (dC : Nat → ClassId) (dI : Nat → Nat → Nat) (ad : Nat → Nat) (ca : Nat → ClassId) (er : Int) (gl gz go gw : Nat → Int) (n vol why : Int) : Met l yX1_fails wsX1_fails { frames := 0, cells := 0, slots := 0, locals := 0 } (PX (dC, dI) vwCl (yM ca) (wM ad ca er gl gz go gw n vol) [.ref (ad 0), .int (iI 0), .int (iI why)]) (va_Qi (fun (y : Int32) (_ : Unit) => y = iI 0) (fun _ t => va_P (dC, dI) vwCl (wM ad ca 0 gl gz go gw n vol) t.heap) (inW (wM ad ca er gl gz go gw n vol))) 0 0 (inW (wM ad ca er gl gz go gw n vol)) := by
  refine Met.ofW (cc := cX1_fails) (maxL := 3) (ret := (some .boolean)) (by decide) rfl ?_
  intro p e s m args below meth c s₁ B hml hv
  obtain ⟨rfl, hP, hK, hD0⟩ := hv
  have hx := B.exec
  have hb := B.bytes
  have hr := B.returns
  have hts := atoms_spec (ws := wsX1_fails) B.pre
  have hown : s.vm.findClass RX1 = some m.cls := findClass_of_methodNamed B.named
  have hlocks := B.notSynchronized
  have hw := fun w h => hts w (List.mem_cons_of_mem _ h)
  have hinTX1 : ∀ w ∈ u_ws RX1 TX1 7, w ∈ wsX1_fails := wA_u wuX1
  have fl27 := hw _ wfX1_27
  have hD := wD_own hD0
  obtain ⟨A, hAe⟩ : ∃ A, A = inW (wM ad ca er gl gz go gw n vol) := ⟨_, rfl⟩
  rw [← hAe] at hD
  obtain ⟨H, hH⟩ : ∃ H, H = s.heap := ⟨_, rfl⟩
  obtain ⟨locs, hlc⟩ : ∃ L : List Loc, L = [] := ⟨_, rfl⟩
  have hS : va_S A s.heap H locs := by rw [hH, hlc]; exact va_S.rf
  rw [← hH] at hP ⊢
  rw [← hlc]
  have hl := lv_entry ([.ref (ad 0), .int (iI 0), .int (iI why)]) (n := 3) (Nat.le_of_ble_eq_true rfl)
  rw [lg_entry_eq]
  generalize (lg_sl ([.ref (ad 0), .int (iI 0), .int (iI why)]) ++ List.replicate (3 - (lg_sl ([.ref (ad 0), .int (iI 0), .int (iI why)])).length) Slot.unset).toArray = ls at hl ⊢
  have hl : lv_has ls 3 [(0, .ref (ad 0)), (1, .int (iI 0)), (2, .int (iI why))] := hl
  refine lv_aload_n hx hb dX1_fails_0 rfl (lv_at hl 0 rfl) ?_
  refine lv_iload_n hx hb dX1_fails_1 rfl (lv_at hl 1 rfl) ?_
  refine r_if_eq hx hb dX1_fails_2 (tgt := 9) (by decide) (by omega) (fun hk9 => ?_) (fun hk9 => ?_)
  · refine r_iconst hx hb dX1_fails_9 ?_
    refine va_put (D := (dC, dI)) (ci := 1) (v := .int (iI 0)) (ty := .int) (C := RX1) (T := TX1) (N := 7) hx hb hts hinTX1 tyX1 tyX1_ok nmX1 hown hK hP hD hS 0 rfl rfl 0 (by decide) fl27 (fun _ h9 => h9) rfl (by decide +kernel) rfl rfl (Nat.le_of_ble_eq_true rfl) dX1_fails_10 (fun H locs hP hD hS => ?_)
    have hP : va_P (dC, dI) vwCl (wM ad ca 0 gl gz go gw n vol) H := hP
    have hD : va_D A (wM ad ca 0 gl gz go gw n vol) := hD
    refine lv_iload_n hx hb dX1_fails_13 rfl (lv_at hl 1 rfl) ?_
    subst hAe
    exact W.zret (v := iI 0) hx hb hr rfl (fun t ht hW => ⟨⟨_, (), rfl, rfl, by subst ht; exact hP⟩, hS.F ht⟩) hS.2.2 dX1_fails_14
  · exact absurd hk9 (by decide)
set_option maxHeartbeats 4000000 in
set_option maxRecDepth 100000 in
theorem n_fails1 (l : Launch) (dC : Nat → ClassId) (dI : Nat → Nat → Nat) (ad : Nat → Nat) (ca : Nat → ClassId) (er : Int) (gl gz go gw : Nat → Int) (n vol why : Int) : Met l yX1_fails wsX1_fails { frames := 0, cells := 0, slots := 0, locals := 0 } (PX (dC, dI) vwCl (yM ca) (wM ad ca er gl gz go gw n vol) [.ref (ad 0), .int (iI 1), .int (iI why)]) (va_Qi (fun (y : Int32) (_ : Unit) => y = iI 1) (fun _ t => va_P (dC, dI) vwCl (wM ad ca why gl gz go gw n vol) t.heap) (inW (wM ad ca er gl gz go gw n vol))) 0 0 (inW (wM ad ca er gl gz go gw n vol)) := by
  refine Met.ofW (cc := cX1_fails) (maxL := 3) (ret := (some .boolean)) (by decide) rfl ?_
  intro p e s m args below meth c s₁ B hml hv
  obtain ⟨rfl, hP, hK, hD0⟩ := hv
  have hx := B.exec
  have hb := B.bytes
  have hr := B.returns
  have hts := atoms_spec (ws := wsX1_fails) B.pre
  have hown : s.vm.findClass RX1 = some m.cls := findClass_of_methodNamed B.named
  have hlocks := B.notSynchronized
  have hw := fun w h => hts w (List.mem_cons_of_mem _ h)
  have hinTX1 : ∀ w ∈ u_ws RX1 TX1 7, w ∈ wsX1_fails := wA_u wuX1
  have fl27 := hw _ wfX1_27
  have hD := wD_own hD0
  obtain ⟨A, hAe⟩ : ∃ A, A = inW (wM ad ca er gl gz go gw n vol) := ⟨_, rfl⟩
  rw [← hAe] at hD
  obtain ⟨H, hH⟩ : ∃ H, H = s.heap := ⟨_, rfl⟩
  obtain ⟨locs, hlc⟩ : ∃ L : List Loc, L = [] := ⟨_, rfl⟩
  have hS : va_S A s.heap H locs := by rw [hH, hlc]; exact va_S.rf
  rw [← hH] at hP ⊢
  rw [← hlc]
  have hl := lv_entry ([.ref (ad 0), .int (iI 1), .int (iI why)]) (n := 3) (Nat.le_of_ble_eq_true rfl)
  rw [lg_entry_eq]
  generalize (lg_sl ([.ref (ad 0), .int (iI 1), .int (iI why)]) ++ List.replicate (3 - (lg_sl ([.ref (ad 0), .int (iI 1), .int (iI why)])).length) Slot.unset).toArray = ls at hl ⊢
  have hl : lv_has ls 3 [(0, .ref (ad 0)), (1, .int (iI 1)), (2, .int (iI why))] := hl
  refine lv_aload_n hx hb dX1_fails_0 rfl (lv_at hl 0 rfl) ?_
  refine lv_iload_n hx hb dX1_fails_1 rfl (lv_at hl 1 rfl) ?_
  refine r_if_eq hx hb dX1_fails_2 (tgt := 9) (by decide) (by omega) (fun hk9 => ?_) (fun hk9 => ?_)
  · exact absurd hk9 (by decide)
  · refine lv_iload_n hx hb dX1_fails_5 rfl (lv_at hl 2 rfl) ?_
    refine lv_goto hx hb dX1_fails_6 (tgt := 10) (by decide) ?_
    refine va_put (D := (dC, dI)) (ci := 1) (v := .int (iI why)) (ty := .int) (C := RX1) (T := TX1) (N := 7) hx hb hts hinTX1 tyX1 tyX1_ok nmX1 hown hK hP hD hS 0 rfl rfl 0 (by decide) fl27 (fun _ h9 => h9) rfl (by decide +kernel) rfl rfl (Nat.le_of_ble_eq_true rfl) dX1_fails_10 (fun H locs hP hD hS => ?_)
    have hP : va_P (dC, dI) vwCl (wM ad ca why gl gz go gw n vol) H := hP
    have hD : va_D A (wM ad ca why gl gz go gw n vol) := hD
    refine lv_iload_n hx hb dX1_fails_13 rfl (lv_at hl 1 rfl) ?_
    subst hAe
    exact W.zret (v := iI 1) hx hb hr rfl (fun t ht hW => ⟨⟨_, (), rfl, rfl, by subst ht; exact hP⟩, hS.F ht⟩) hS.2.2 dX1_fails_14
set_option maxHeartbeats 4000000 in
set_option maxRecDepth 100000 in
theorem n_none (l : Launch) (dC : Nat → ClassId) (dI : Nat → Nat → Nat) (ad : Nat → Nat) (ca : Nat → ClassId) (er : Int) (gl gz go gw : Nat → Int) (n : Nat) (vol : Int) (q : Int) (hq : iR q) (hn : n ≤ 300) : Met l yX1_none wsX1_none { frames := 0, cells := 0, slots := 0, locals := 0 } (PX (dC, dI) vwCl (yM ca) (wM ad ca er gl gz go gw ((n : Int)) vol) [.ref (ad 0), .int (iI q)]) (RQi (fun y => y = iI (if 0 ≤ q ∧ q < (n : Int) then 0 else 1))) 0 0 nF := by
  refine Met.ofW (cc := cX1_none) (maxL := 2) (ret := (some .boolean)) (by decide) rfl ?_
  intro p e s m args below meth c s₁ B hml hv
  obtain ⟨rfl, hP, hK, hD0⟩ := hv
  have hx := B.exec
  have hb := B.bytes
  have hr := B.returns
  have hts := atoms_spec (ws := wsX1_none) B.pre
  have hown : s.vm.findClass RX1 = some m.cls := findClass_of_methodNamed B.named
  have hlocks := B.notSynchronized
  have hw := fun w h => hts w (List.mem_cons_of_mem _ h)
  have hinTX1 : ∀ w ∈ u_ws RX1 TX1 7, w ∈ wsX1_none := wA_u wuX1
  have fl30 := hw _ wfX1_30
  have hD := hD0
  obtain ⟨H, hH⟩ : ∃ H, H = s.heap := ⟨_, rfl⟩
  obtain ⟨locs, hlc⟩ : ∃ L : List Loc, L = [] := ⟨_, rfl⟩
  have hS : va_S nF s.heap H locs := by rw [hH, hlc]; exact va_S.rf
  rw [← hH] at hP ⊢
  rw [← hlc]
  have hl := lv_entry ([.ref (ad 0), .int (iI q)]) (n := 2) (Nat.le_of_ble_eq_true rfl)
  rw [lg_entry_eq]
  generalize (lg_sl ([.ref (ad 0), .int (iI q)]) ++ List.replicate (2 - (lg_sl ([.ref (ad 0), .int (iI q)])).length) Slot.unset).toArray = ls at hl ⊢
  have hl : lv_has ls 2 [(0, .ref (ad 0)), (1, .int (iI q))] := hl
  refine lv_iload_n hx hb dX1_none_0 rfl (lv_at hl 1 rfl) ?_
  refine r_if_lt hx hb dX1_none_1 (tgt := 12) (by decide) (by omega) (fun hlt => ?_) (fun hge => ?_)
  · refine r_iconst hx hb dX1_none_12 ?_
    refine lv_goto hx hb dX1_none_13 (tgt := 17) (by decide) ?_
    exact W.zret (v := iI 1) hx hb hr rfl (fun t ht hW => ⟨⟨_, (), rfl, by rw [if_neg (by omega)], trivial⟩, hS.F ht⟩) hS.2.2 dX1_none_17
  · refine lv_iload_n hx hb dX1_none_4 rfl (lv_at hl 1 rfl) ?_
    refine lv_aload_n hx hb dX1_none_5 rfl (lv_at hl 0 rfl) ?_
    refine va_get (D := (dC, dI)) (ci := 1) (v := .int (iI ((n : Int)))) (C := RX1) (T := TX1) (N := 7) hx hb hts hinTX1 hown hK hP 0 rfl rfl 5 (by decide) fl30 (fun _ h9 => h9) rfl dX1_none_6 ?_
    refine r_icmp_lt hx hb dX1_none_9 (tgt := 16) (by decide) (by omega) (by omega) (fun hin => ?_) (fun hout => ?_)
    · refine r_iconst hx hb dX1_none_16 ?_
      exact W.zret (v := iI 0) hx hb hr rfl (fun t ht hW => ⟨⟨_, (), rfl, by rw [if_pos (by omega)], trivial⟩, hS.F ht⟩) hS.2.2 dX1_none_17
    · refine r_iconst hx hb dX1_none_12 ?_
      refine lv_goto hx hb dX1_none_13 (tgt := 17) (by decide) ?_
      exact W.zret (v := iI 1) hx hb hr rfl (fun t ht hW => ⟨⟨_, (), rfl, by rw [if_neg (by omega)], trivial⟩, hS.F ht⟩) hS.2.2 dX1_none_17
set_option maxHeartbeats 4000000 in
set_option maxRecDepth 100000 in
theorem n_before (l : Launch) (dC : Nat → ClassId) (dI : Nat → Nat → Nat) (ad : Nat → Nat) (ca : Nat → ClassId) (er : Int) (gl gz go gw : Nat → Int) (n r : Nat) (L S : Nat → Nat) (lo : Nat → Bool) (hok : okS n L S r) (hT : tM n L S lo gl gz go) (d : Nat) (hd : d ≤ n) : Met l yX1_before wsX1_before { frames := 0, cells := 0, slots := 0, locals := 0 } (PX (dC, dI) vwCl (yM ca) (wM ad ca er gl gz go gw ((n : Int)) ((r : Int) + 1)) [.ref (ad 0), .int (iI ((d : Int)))]) (RQi (fun y => y = iI (sm S d : Int))) 0 0 nF := by
  refine Met.ofW (cc := cX1_before) (maxL := 4) (ret := (some .int)) (by decide) rfl ?_
  intro p e s m args below meth c s₁ B hml hv
  obtain ⟨rfl, hP, hK, hD0⟩ := hv
  have hx := B.exec
  have hb := B.bytes
  have hr := B.returns
  have hts := atoms_spec (ws := wsX1_before) B.pre
  have hown : s.vm.findClass RX1 = some m.cls := findClass_of_methodNamed B.named
  have hlocks := B.notSynchronized
  have hw := fun w h => hts w (List.mem_cons_of_mem _ h)
  have hinTX1 : ∀ w ∈ u_ws RX1 TX1 7, w ∈ wsX1_before := wA_u wuX1
  have fl13 := hw _ wfX1_13
  have hD := hD0
  obtain ⟨H, hH⟩ : ∃ H, H = s.heap := ⟨_, rfl⟩
  obtain ⟨locs, hlc⟩ : ∃ L : List Loc, L = [] := ⟨_, rfl⟩
  have hS : va_S nF s.heap H locs := by rw [hH, hlc]; exact va_S.rf
  rw [← hH] at hP ⊢
  rw [← hlc]
  have hl := lv_entry ([.ref (ad 0), .int (iI ((d : Int)))]) (n := 4) (Nat.le_of_ble_eq_true rfl)
  rw [lg_entry_eq]
  generalize (lg_sl ([.ref (ad 0), .int (iI ((d : Int)))]) ++ List.replicate (4 - (lg_sl ([.ref (ad 0), .int (iI ((d : Int)))])).length) Slot.unset).toArray = ls at hl ⊢
  have hl : lv_has ls 4 [(0, .ref (ad 0)), (1, .int (iI ((d : Int))))] := hl
  obtain ⟨ok1, ok2, ok3, ok4, ok5⟩ := id hok
  refine r_iconst hx hb dX1_before_0 ?_
  refine lv_istore_n hx hb dX1_before_1 rfl hl (by decide) rfl (fun ls hl => ?_)
  have hl : lv_has ls 4 [(2, .int (iI 0)), (0, .ref (ad 0)), (1, .int (iI ((d : Int))))] := hl
  refine r_iconst hx hb dX1_before_2 ?_
  refine lv_istore_n hx hb dX1_before_3 rfl hl (by decide) rfl (fun ls hl => ?_)
  have hl : lv_has ls 4 [(3, .int (iI 0)), (2, .int (iI 0)), (0, .ref (ad 0)), (1, .int (iI ((d : Int))))] := hl
  have loop : ∀ (N : Nat) (k : Nat) (ls : Array Slot), d - k < N → (k ≤ d) → lv_has ls 4 [(3, .int (iI ((k : Int)))), (2, .int (iI ((sm S k : Int)))), (0, .ref (ad 0)), (1, .int (iI ((d : Int))))] → W p l e (headSpec wsX1_before { frames := 0, cells := 0, slots := 0, locals := 0 }).room s m ([.ref (ad 0), .int (iI ((d : Int)))]).toArray below meth c H locs 0 0 (MQ below (RQi (fun y => y = iI (sm S d : Int))) ([.ref (ad 0), .int (iI ((d : Int)))]).toArray s 0 0 nF) (F0 m 4 ls []) := by
    intro N
    induction N with
    | zero => intro k ls h; exact absurd h (Nat.not_lt_zero _)
    | succ N ih =>
      intro k ls hN hk hl
      refine lv_iload_n hx hb dX1_before_4 rfl (lv_at hl 0 rfl) ?_
      refine lv_iload_n hx hb dX1_before_5 rfl (lv_at hl 3 rfl) ?_
      refine r_icmp_ge hx hb dX1_before_6 (tgt := 24) (by decide) (by omega) (by omega) (fun hge => ?_) (fun hlt => ?_)
      · have hk0 : k = d := by omega
        subst hk0
        refine lv_iload_n hx hb dX1_before_24 rfl (lv_at hl 1 rfl) ?_
        exact W.iret (v := iI ((sm S k : Int))) hx hb hr (fun t ht hW => ⟨⟨_, (), rfl, rfl, trivial⟩, hS.F ht⟩) hS.2.2 dX1_before_25
      · have ek : ((k : Int)).toNat = k := by omega
        obtain ⟨-, t2⟩ := hT.1 k (by omega)
        refine lv_iload_n hx hb dX1_before_9 rfl (lv_at hl 1 rfl) ?_
        refine lv_aload_n hx hb dX1_before_10 rfl (lv_at hl 2 rfl) ?_
        refine va_get (D := (dC, dI)) (ci := 1) (v := .ref (ad 2)) (C := RX1) (T := TX1) (N := 7) hx hb hts hinTX1 hown hK hP 0 rfl rfl 2 (by decide) fl13 (fun _ h9 => h9) rfl dX1_before_11 ?_
        refine lv_iload_n hx hb dX1_before_14 rfl (lv_at hl 0 rfl) ?_
        refine r_iald hx hb hK hP 2 1 rfl rfl (by omega) (by omega) (by decide) dX1_before_15 ?_
        refine r_topi (b := (S k : Int)) (by rw [ek]; exact t2) ?_
        refine r_iadd hx hb dX1_before_16 ?_
        refine lv_istore_n hx hb dX1_before_17 rfl hl (by decide) rfl (fun ls hl => ?_)
        have hl : lv_has ls 4 [(2, .int (iI (((sm S k : Int)) + ((S k : Int))))), (3, .int (iI ((k : Int)))), (0, .ref (ad 0)), (1, .int (iI ((d : Int))))] := hl
        refine r_iinc (k := 1) hx hb dX1_before_18 hl rfl (by decide) rfl (fun ls hl => ?_)
        have hl : lv_has ls 4 [(3, .int (iI ((k : Int) + 1))), (2, .int (iI (((sm S k : Int)) + ((S k : Int))))), (0, .ref (ad 0)), (1, .int (iI ((d : Int))))] := hl
        refine lv_goto hx hb dX1_before_21 (tgt := 4) (by decide) ?_
        have hl : lv_has ls 4 [(3, .int (iI ((k + 1 : Nat) : Int))), (2, .int (iI (sm S (k + 1) : Int))), (0, .ref (ad 0)), (1, .int (iI (d : Int)))] := by
          rw [show ((k + 1 : Nat) : Int) = (k : Int) + 1 by omega, show (sm S (k + 1) : Int) = (sm S k : Int) + (S k : Int) from Int.natCast_add _ _]
          exact hl
        exact ih (k + 1) ls (by omega) (by omega) hl
  exact loop (d + 1) 0 ls (by omega) (Nat.zero_le d) hl
set_option maxHeartbeats 4000000 in
set_option maxRecDepth 100000 in
theorem n_base (l : Launch) (dC : Nat → ClassId) (dI : Nat → Nat → Nat) (ad : Nat → Nat) (ca : Nat → ClassId) (er : Int) (gl gz go gw : Nat → Int) (n r : Nat) (L S : Nat → Nat) (lo : Nat → Bool) (hok : okS n L S r) (hT : tM n L S lo gl gz go) (d : Nat) (hd : d < n) : Met l yX1_base wsX1_base { frames := 0, cells := 0, slots := 0, locals := 0 } (PX (dC, dI) vwCl (yM ca) (wM ad ca er gl gz go gw ((n : Int)) ((r : Int) + 1)) [.ref (ad 0), .int (iI ((d : Int)))]) (RQi (fun y => y = iI ((bs L d : Int) - 1))) 0 0 nF := by
  refine Met.ofW (cc := cX1_base) (maxL := 3) (ret := (some .int)) (by decide) rfl ?_
  intro p e s m args below meth c s₁ B hml hv
  obtain ⟨rfl, hP, hK, hD0⟩ := hv
  have hx := B.exec
  have hb := B.bytes
  have hr := B.returns
  have hts := atoms_spec (ws := wsX1_base) B.pre
  have hown : s.vm.findClass RX1 = some m.cls := findClass_of_methodNamed B.named
  have hlocks := B.notSynchronized
  have hw := fun w h => hts w (List.mem_cons_of_mem _ h)
  have hinTX1 : ∀ w ∈ u_ws RX1 TX1 7, w ∈ wsX1_base := wA_u wuX1
  have fl7 := hw _ wfX1_7
  have hD := hD0
  obtain ⟨H, hH⟩ : ∃ H, H = s.heap := ⟨_, rfl⟩
  obtain ⟨locs, hlc⟩ : ∃ L : List Loc, L = [] := ⟨_, rfl⟩
  have hS : va_S nF s.heap H locs := by rw [hH, hlc]; exact va_S.rf
  rw [← hH] at hP ⊢
  rw [← hlc]
  have hl := lv_entry ([.ref (ad 0), .int (iI ((d : Int)))]) (n := 3) (Nat.le_of_ble_eq_true rfl)
  rw [lg_entry_eq]
  generalize (lg_sl ([.ref (ad 0), .int (iI ((d : Int)))]) ++ List.replicate (3 - (lg_sl ([.ref (ad 0), .int (iI ((d : Int)))])).length) Slot.unset).toArray = ls at hl ⊢
  have hl : lv_has ls 3 [(0, .ref (ad 0)), (1, .int (iI ((d : Int))))] := hl
  obtain ⟨ok1, ok2, ok3, ok4, ok5⟩ := id hok
  have ed : ((d : Int)).toNat = d := by omega
  obtain ⟨t1, -⟩ := hT.1 d hd
  have hL9 := (ok4 d hd).1
  refine lv_iload_n hx hb dX1_base_0 rfl (lv_at hl 1 rfl) ?_
  refine r_iconst hx hb dX1_base_1 ?_
  refine r_isub hx hb dX1_base_2 ?_
  refine lv_istore_n hx hb dX1_base_3 rfl hl (by decide) rfl (fun ls hl => ?_)
  have hl : lv_has ls 3 [(2, .int (iI (((d : Int)) - 1))), (0, .ref (ad 0)), (1, .int (iI ((d : Int))))] := hl
  have loop : ∀ (N : Nat) (k : Nat) (ls : Array Slot), k < N → (k ≤ d) → (ba L (L d) k = ba L (L d) d) → lv_has ls 3 [(2, .int (iI ((k : Int) - 1))), (0, .ref (ad 0)), (1, .int (iI ((d : Int))))] → W p l e (headSpec wsX1_base { frames := 0, cells := 0, slots := 0, locals := 0 }).room s m ([.ref (ad 0), .int (iI ((d : Int)))]).toArray below meth c H locs 0 0 (MQ below (RQi (fun y => y = iI ((bs L d : Int) - 1))) ([.ref (ad 0), .int (iI ((d : Int)))]).toArray s 0 0 nF) (F0 m 4 ls []) := by
    intro N
    induction N with
    | zero => intro k ls h; exact absurd h (Nat.not_lt_zero _)
    | succ N ih =>
      intro k ls hN hk hb9 hl
      refine lv_iload_n hx hb dX1_base_4 rfl (lv_at hl 0 rfl) ?_
      refine r_if_lt hx hb dX1_base_5 (tgt := 29) (by decide) (by omega) (fun hlt => ?_) (fun hge => ?_)
      · have hk0 : k = 0 := by omega
        refine lv_iload_n hx hb dX1_base_29 rfl (lv_at hl 0 rfl) ?_
        exact W.iret (v := iI ((k : Int) - 1)) hx hb hr (fun t ht hW => ⟨⟨_, (), rfl, by show iI ((k : Int) - 1) = iI ((ba L (L d) d : Int) - 1); rw [← hb9, hk0]; rfl, trivial⟩, hS.F ht⟩) hS.2.2 dX1_base_30
      · obtain ⟨j, hj⟩ : ∃ j, k = j + 1 := ⟨k - 1, by omega⟩
        have ej : ((k : Int) - 1).toNat = j := by omega
        obtain ⟨t3, -⟩ := hT.1 j (by omega)
        have hLj := (ok4 j (by omega)).1
        have eb : ba L (L d) k = if L j < L d then j + 1 else ba L (L d) j := by rw [hj]; rfl
        refine lv_aload_n hx hb dX1_base_8 rfl (lv_at hl 1 rfl) ?_
        refine va_get (D := (dC, dI)) (ci := 1) (v := .ref (ad 1)) (C := RX1) (T := TX1) (N := 7) hx hb hts hinTX1 hown hK hP 0 rfl rfl 1 (by decide) fl7 (fun _ h9 => h9) rfl dX1_base_9 ?_
        refine lv_iload_n hx hb dX1_base_12 rfl (lv_at hl 0 rfl) ?_
        refine r_iald hx hb hK hP 1 0 rfl rfl (by omega) (by omega) (by decide) dX1_base_13 ?_
        refine r_topi (b := (L j : Int)) (by rw [ej]; exact t3) ?_
        refine lv_aload_n hx hb dX1_base_14 rfl (lv_at hl 1 rfl) ?_
        refine va_get (D := (dC, dI)) (ci := 1) (v := .ref (ad 1)) (C := RX1) (T := TX1) (N := 7) hx hb hts hinTX1 hown hK hP 0 rfl rfl 1 (by decide) fl7 (fun _ h9 => h9) rfl dX1_base_15 ?_
        refine lv_iload_n hx hb dX1_base_18 rfl (lv_at hl 2 rfl) ?_
        refine r_iald hx hb hK hP 1 0 rfl rfl (by omega) (by omega) (by decide) dX1_base_19 ?_
        refine r_topi (b := (L d : Int)) (by rw [ed]; exact t1) ?_
        refine r_icmp_lt hx hb dX1_base_20 (tgt := 29) (by decide) (by omega) (by omega) (fun hlt2 => ?_) (fun hge2 => ?_)
        · refine lv_iload_n hx hb dX1_base_29 rfl (lv_at hl 0 rfl) ?_
          exact W.iret (v := iI ((k : Int) - 1)) hx hb hr (fun t ht hW => ⟨⟨_, (), rfl, by show iI ((k : Int) - 1) = iI ((ba L (L d) d : Int) - 1); rw [← hb9, eb, if_pos (by omega), hj], trivial⟩, hS.F ht⟩) hS.2.2 dX1_base_30
        · refine r_iinc (k := 0) hx hb dX1_base_23 hl rfl (by decide) rfl (fun ls hl => ?_)
          have hl : lv_has ls 3 [(2, .int (iI ((k : Int) - 1 + (-1)))), (0, .ref (ad 0)), (1, .int (iI ((d : Int))))] := hl
          refine lv_goto hx hb dX1_base_26 (tgt := 4) (by decide) ?_
          have hl : lv_has ls 3 [(2, .int (iI ((j : Int) - 1))), (0, .ref (ad 0)), (1, .int (iI (d : Int)))] := by rw [show (j : Int) - 1 = (k : Int) - 1 + (-1) by omega]; exact hl
          exact ih j ls (by omega) (by omega) (by rw [← hb9, eb, if_neg (by omega)]) hl
  exact loop (d + 1) d ls (Nat.lt_succ_self _) (Nat.le_refl d) rfl hl
set_option maxHeartbeats 4000000 in
set_option maxRecDepth 100000 in
theorem n_depthOf (l : Launch) (dC : Nat → ClassId) (dI : Nat → Nat → Nat) (ad : Nat → Nat) (ca : Nat → ClassId) (er : Int) (gl gz go gw : Nat → Int) (n r : Nat) (L S : Nat → Nat) (lo : Nat → Bool) (hok : okS n L S r) (hT : tM n L S lo gl gz go) (d : Nat) (hd : d < n) : Met l yX1_depthOf wsX1_depthOf { frames := 1, cells := 0, slots := 0, locals := 22 } (PX (dC, dI) vwCl (yM ca) (wM ad ca er gl gz go gw ((n : Int)) ((r : Int) + 1)) [.ref (ad 0), .int (iI ((d : Int)))]) (RQi (fun y => y = iI (dp L (d + 1) : Int))) 0 0 nF := by
  refine Met.ofW (cc := cX1_depthOf) (maxL := 4) (ret := (some .int)) (by decide) rfl ?_
  intro p e s m args below meth c s₁ B hml hv
  obtain ⟨rfl, hP, hK, hD0⟩ := hv
  have hx := B.exec
  have hb := B.bytes
  have hr := B.returns
  have hts := atoms_spec (ws := wsX1_depthOf) B.pre
  have hown : s.vm.findClass RX1 = some m.cls := findClass_of_methodNamed B.named
  have hlocks := B.notSynchronized
  have hw := fun w h => hts w (List.mem_cons_of_mem _ h)
  have hinTX1 : ∀ w ∈ u_ws RX1 TX1 7, w ∈ wsX1_depthOf := wA_u wuX1
  have hD := hD0
  obtain ⟨H, hH⟩ : ∃ H, H = s.heap := ⟨_, rfl⟩
  obtain ⟨locs, hlc⟩ : ∃ L : List Loc, L = [] := ⟨_, rfl⟩
  have hS : va_S nF s.heap H locs := by rw [hH, hlc]; exact va_S.rf
  rw [← hH] at hP ⊢
  rw [← hlc]
  have hl := lv_entry ([.ref (ad 0), .int (iI ((d : Int)))]) (n := 4) (Nat.le_of_ble_eq_true rfl)
  rw [lg_entry_eq]
  generalize (lg_sl ([.ref (ad 0), .int (iI ((d : Int)))]) ++ List.replicate (4 - (lg_sl ([.ref (ad 0), .int (iI ((d : Int)))])).length) Slot.unset).toArray = ls at hl ⊢
  have hl : lv_has ls 4 [(0, .ref (ad 0)), (1, .int (iI ((d : Int))))] := hl
  obtain ⟨ok1, ok2, ok3, ok4, ok5⟩ := id hok
  refine r_iconst hx hb dX1_depthOf_0 ?_
  refine lv_istore_n hx hb dX1_depthOf_1 rfl hl (by decide) rfl (fun ls hl => ?_)
  have hl : lv_has ls 4 [(2, .int (iI 0)), (0, .ref (ad 0)), (1, .int (iI ((d : Int))))] := hl
  refine lv_iload_n hx hb dX1_depthOf_2 rfl (lv_at hl 2 rfl) ?_
  refine lv_istore_n hx hb dX1_depthOf_3 rfl hl (by decide) rfl (fun ls hl => ?_)
  have hl : lv_has ls 4 [(3, .int (iI ((d : Int)))), (2, .int (iI 0)), (0, .ref (ad 0)), (1, .int (iI ((d : Int))))] := hl
  have loop : ∀ (N : Nat) (k : Nat) (p9 : Nat) (ls : Array Slot) (H : Heap) (locs : List Loc), p9 < N → (p9 ≤ n) → (k + dp L p9 = dp L (d + 1)) → va_P (dC, dI) vwCl (wM ad ca er gl gz go gw ((n : Int)) ((r : Int) + 1)) H → va_S nF s.heap H locs → lv_has ls 4 [(3, .int (iI ((p9 : Int) - 1))), (2, .int (iI ((k : Int)))), (0, .ref (ad 0)), (1, .int (iI ((d : Int))))] → W p l e (headSpec wsX1_depthOf { frames := 1, cells := 0, slots := 0, locals := 22 }).room s m ([.ref (ad 0), .int (iI ((d : Int)))]).toArray below meth c H locs 0 0 (MQ below (RQi (fun y => y = iI (dp L (d + 1) : Int))) ([.ref (ad 0), .int (iI ((d : Int)))]).toArray s 0 0 nF) (F0 m 4 ls []) := by
    intro N
    induction N with
    | zero => intro k p9 ls H locs h; exact absurd h (Nat.not_lt_zero _)
    | succ N ih =>
      intro k p9 ls H locs hN hp hm hP hS hl
      refine lv_iload_n hx hb dX1_depthOf_4 rfl (lv_at hl 0 rfl) ?_
      refine r_if_lt hx hb dX1_depthOf_5 (tgt := 20) (by decide) (by omega) (fun hlt => ?_) (fun hge => ?_)
      · have hk0 : p9 = 0 := by omega
        subst hk0
        rw [dp_0] at hm
        refine lv_iload_n hx hb dX1_depthOf_20 rfl (lv_at hl 1 rfl) ?_
        exact W.iret (v := iI ((k : Int))) hx hb hr (fun t ht hW => ⟨⟨_, (), rfl, by congr 1; omega, trivial⟩, hS.F ht⟩) hS.2.2 dX1_depthOf_21
      · obtain ⟨j, hj⟩ : ∃ j, p9 = j + 1 := ⟨p9 - 1, by omega⟩
        have hbl := bs_le L j
        have hds := dp_s L j
        rw [hj] at hm
        refine r_iinc (k := 1) hx hb dX1_depthOf_8 hl rfl (by decide) rfl (fun ls hl => ?_)
        have hl : lv_has ls 4 [(2, .int (iI ((k : Int) + 1))), (3, .int (iI ((p9 : Int) - 1))), (0, .ref (ad 0)), (1, .int (iI ((d : Int))))] := hl
        refine lv_aload_n hx hb dX1_depthOf_11 rfl (lv_at hl 2 rfl) ?_
        refine lv_iload_n hx hb dX1_depthOf_12 rfl (lv_at hl 1 rfl) ?_
        refine r_topi (b := (j : Int)) (by omega) ?_
        refine ro_z (z := (bs L j : Int) - 1) (va_runV (As := [.int (iI ((j : Int)))]) (rest := []) ⟨hx, hb, hml, hown, hts⟩ (n_base l dC dI ad ca er gl gz go gw n r L S lo hok hT j (by omega)) (cwV 1 hts (gV wlX1_45 wo_X1_base wz_X1_base wi_2 wcX1_base) rfl rfl rfl (by decide +kernel) ⟨Nat.le_of_ble_eq_true rfl, Nat.le_of_ble_eq_true rfl⟩) (PX_V (q0 := 0) (ci := 1) hP hK hD rfl rfl) rfl rfl hl.1 rfl (lv_room (Nat.le_of_ble_eq_true rfl)) dX1_depthOf_13 ⟨Nat.le_of_ble_eq_true rfl, Nat.le_of_ble_eq_true rfl⟩) hS hP (fun H locs hP hS => ?_)
        refine lv_istore_n hx hb dX1_depthOf_16 rfl hl (by decide) rfl (fun ls hl => ?_)
        have hl : lv_has ls 4 [(3, .int (iI ((bs L j : Int) - 1))), (2, .int (iI ((k : Int) + 1))), (0, .ref (ad 0)), (1, .int (iI ((d : Int))))] := hl
        refine lv_goto hx hb dX1_depthOf_17 (tgt := 4) (by decide) ?_
        have hl : lv_has ls 4 [(3, .int (iI ((bs L j : Int) - 1))), (2, .int (iI ((k + 1 : Nat) : Int))), (0, .ref (ad 0)), (1, .int (iI (d : Int)))] := by
          rw [show ((k + 1 : Nat) : Int) = (k : Int) + 1 by omega]
          exact hl
        exact ih (k + 1) (bs L j) ls H locs (by omega) (by omega) (by omega) hP hS hl
  have hl : lv_has ls 4 [(3, .int (iI (((d + 1 : Nat) : Int) - 1))), (2, .int (iI ((0 : Nat) : Int))), (0, .ref (ad 0)), (1, .int (iI (d : Int)))] := by
    rw [show ((d + 1 : Nat) : Int) - 1 = (d : Int) by omega]
    exact hl
  exact loop (d + 2) 0 (d + 1) ls H locs (Nat.lt_succ_self _) (by omega) (Nat.zero_add _) hP hS hl
set_option maxHeartbeats 4000000 in
set_option maxRecDepth 100000 in
theorem n_written (l : Launch) (dC : Nat → ClassId) (dI : Nat → Nat → Nat) (ad : Nat → Nat) (ca : Nat → ClassId) (er : Int) (gl gz go gw : Nat → Int) (n r : Nat) (L S : Nat → Nat) (lo : Nat → Bool) (hok : okS n L S r) (hT : tM n L S lo gl gz go) : Met l yX1_written wsX1_written { frames := 1, cells := 0, slots := 0, locals := 23 } (PX (dC, dI) vwCl (yM ca) (wM ad ca er gl gz go gw ((n : Int)) ((r : Int) + 1)) [.ref (ad 0)]) (RQi (fun y => y = iI (wr S r n : Int))) 0 0 nF := by
  refine Met.ofW (cc := cX1_written) (maxL := 1) (ret := (some .int)) (by decide) rfl ?_
  intro p e s m args below meth c s₁ B hml hv
  obtain ⟨rfl, hP, hK, hD0⟩ := hv
  have hx := B.exec
  have hb := B.bytes
  have hr := B.returns
  have hts := atoms_spec (ws := wsX1_written) B.pre
  have hown : s.vm.findClass RX1 = some m.cls := findClass_of_methodNamed B.named
  have hlocks := B.notSynchronized
  have hw := fun w h => hts w (List.mem_cons_of_mem _ h)
  have hinTX1 : ∀ w ∈ u_ws RX1 TX1 7, w ∈ wsX1_written := wA_u wuX1
  have fl30 := hw _ wfX1_30
  have fl23 := hw _ wfX1_23
  have hD := hD0
  obtain ⟨H, hH⟩ : ∃ H, H = s.heap := ⟨_, rfl⟩
  obtain ⟨locs, hlc⟩ : ∃ L : List Loc, L = [] := ⟨_, rfl⟩
  have hS : va_S nF s.heap H locs := by rw [hH, hlc]; exact va_S.rf
  rw [← hH] at hP ⊢
  rw [← hlc]
  have hl := lv_entry ([.ref (ad 0)]) (n := 1) (Nat.le_of_ble_eq_true rfl)
  rw [lg_entry_eq]
  generalize (lg_sl ([.ref (ad 0)]) ++ List.replicate (1 - (lg_sl ([.ref (ad 0)])).length) Slot.unset).toArray = ls at hl ⊢
  have hl : lv_has ls 1 [(0, .ref (ad 0))] := hl
  obtain ⟨ok1, ok2, ok3, ok4, ok5⟩ := id hok
  have e9 : ((sm S n : Int) + ((r : Int) + 1) - 2) / (r : Int) = (wr S r n : Int) := by
    unfold wr
    rw [Int.natCast_ediv]
    congr 1
    omega
  refine lv_aload_n hx hb dX1_written_0 rfl (lv_at hl 0 rfl) ?_
  refine lv_aload_n hx hb dX1_written_1 rfl (lv_at hl 0 rfl) ?_
  refine va_get (D := (dC, dI)) (ci := 1) (v := .int (iI ((n : Int)))) (C := RX1) (T := TX1) (N := 7) hx hb hts hinTX1 hown hK hP 0 rfl rfl 5 (by decide) fl30 (fun _ h9 => h9) rfl dX1_written_2 ?_
  refine ro_z (z := (sm S n : Int)) (va_runV (As := [.int (iI ((n : Int)))]) (rest := []) ⟨hx, hb, hml, hown, hts⟩ (n_before l dC dI ad ca er gl gz go gw n r L S lo hok hT n (Nat.le_refl n)) (cwV 1 hts (gV wlX1_37 wo_X1_before wz_X1_before wi_2 wcX1_before) rfl rfl rfl (by decide +kernel) ⟨Nat.le_of_ble_eq_true rfl, Nat.le_of_ble_eq_true rfl⟩) (PX_V (q0 := 0) (ci := 1) hP hK hD rfl rfl) rfl rfl hl.1 rfl (lv_room (Nat.le_of_ble_eq_true rfl)) dX1_written_5 ⟨Nat.le_of_ble_eq_true rfl, Nat.le_of_ble_eq_true rfl⟩) hS hP (fun H locs hP hS => ?_)
  refine lv_aload_n hx hb dX1_written_8 rfl (lv_at hl 0 rfl) ?_
  refine va_get (D := (dC, dI)) (ci := 1) (v := .int (iI ((r : Int) + 1))) (C := RX1) (T := TX1) (N := 7) hx hb hts hinTX1 hown hK hP 0 rfl rfl 6 (by decide) fl23 (fun _ h9 => h9) rfl dX1_written_9 ?_
  refine r_iadd hx hb dX1_written_12 ?_
  refine r_iconst hx hb dX1_written_13 ?_
  refine r_isub hx hb dX1_written_14 ?_
  refine lv_aload_n hx hb dX1_written_15 rfl (lv_at hl 0 rfl) ?_
  refine va_get (D := (dC, dI)) (ci := 1) (v := .int (iI ((r : Int) + 1))) (C := RX1) (T := TX1) (N := 7) hx hb hts hinTX1 hown hK hP 0 rfl rfl 6 (by decide) fl23 (fun _ h9 => h9) rfl dX1_written_16 ?_
  refine r_iconst hx hb dX1_written_19 ?_
  refine r_isub hx hb dX1_written_20 ?_
  refine r_topi (b := (r : Int)) (by omega) ?_
  refine r_idiv hx hb dX1_written_21 (by omega) (by omega) (by omega) (by omega) ?_
  exact W.iret (v := iI (((((sm S n : Int)) + ((r : Int) + 1)) - 2) / ((r : Int)))) hx hb hr (fun t ht hW => ⟨⟨_, (), rfl, by rw [e9], trivial⟩, hS.F ht⟩) hS.2.2 dX1_written_22
set_option maxHeartbeats 4000000 in
set_option maxRecDepth 100000 in
theorem n_nothing (l : Launch) (dC : Nat → ClassId) (dI : Nat → Nat → Nat) (ad : Nat → Nat) (ca : Nat → ClassId) (er : Int) (gl gz go gw : Nat → Int) (n vol : Int) : Met l yX1_nothing wsX1_nothing { frames := 0, cells := 0, slots := 0, locals := 0 } (PX (dC, dI) vwCl (yM ca) (wM ad ca er gl gz go gw n vol) [.ref (ad 0)]) (va_Qv (fun (g9 : Nat → Int) => ∀ v, v < 64 → g9 v = 0) (fun g9 t => va_P (dC, dI) vwCl (wM ad ca er gl gz go g9 n vol) t.heap) (inW (wM ad ca er gl gz go gw n vol))) 0 0 (inW (wM ad ca er gl gz go gw n vol)) := by
  refine Met.ofW (cc := cX1_nothing) (maxL := 2) (ret := none) (by decide) rfl ?_
  intro p e s m args below meth c s₁ B hml hv
  obtain ⟨rfl, hP, hK, hD0⟩ := hv
  have hx := B.exec
  have hb := B.bytes
  have hr := B.returns
  have hts := atoms_spec (ws := wsX1_nothing) B.pre
  have hown : s.vm.findClass RX1 = some m.cls := findClass_of_methodNamed B.named
  have hlocks := B.notSynchronized
  have hw := fun w h => hts w (List.mem_cons_of_mem _ h)
  have hinTX1 : ∀ w ∈ u_ws RX1 TX1 7, w ∈ wsX1_nothing := wA_u wuX1
  have fl20 := hw _ wfX1_20
  have hD := wD_own hD0
  obtain ⟨A, hAe⟩ : ∃ A, A = inW (wM ad ca er gl gz go gw n vol) := ⟨_, rfl⟩
  rw [← hAe] at hD
  obtain ⟨H, hH⟩ : ∃ H, H = s.heap := ⟨_, rfl⟩
  obtain ⟨locs, hlc⟩ : ∃ L : List Loc, L = [] := ⟨_, rfl⟩
  have hS : va_S A s.heap H locs := by rw [hH, hlc]; exact va_S.rf
  rw [← hH] at hP ⊢
  rw [← hlc]
  have hl := lv_entry ([.ref (ad 0)]) (n := 2) (Nat.le_of_ble_eq_true rfl)
  rw [lg_entry_eq]
  generalize (lg_sl ([.ref (ad 0)]) ++ List.replicate (2 - (lg_sl ([.ref (ad 0)])).length) Slot.unset).toArray = ls at hl ⊢
  have hl : lv_has ls 2 [(0, .ref (ad 0))] := hl
  refine r_iconst hx hb dX1_nothing_0 ?_
  refine lv_istore_n hx hb dX1_nothing_1 rfl hl (by decide) rfl (fun ls hl => ?_)
  have hl : lv_has ls 2 [(1, .int (iI 0)), (0, .ref (ad 0))] := hl
  have loop : ∀ (N : Nat) (k : Nat) (g1 : Nat → Int) (ls : Array Slot) (H : Heap) (locs : List Loc), 64 - k < N → (k ≤ 64) → (∀ j, j < k → g1 j = 0) → va_P (dC, dI) vwCl (wM ad ca er gl gz go g1 n vol) H → va_D A (wM ad ca er gl gz go g1 n vol) → va_S A s.heap H locs → lv_has ls 2 [(1, .int (iI ((k : Int)))), (0, .ref (ad 0))] → W p l e (headSpec wsX1_nothing { frames := 0, cells := 0, slots := 0, locals := 0 }).room s m ([.ref (ad 0)]).toArray below meth c H locs 0 0 (MQ below (va_Qv (fun (g9 : Nat → Int) => ∀ v, v < 64 → g9 v = 0) (fun g9 t => va_P (dC, dI) vwCl (wM ad ca er gl gz go g9 n vol) t.heap) (inW (wM ad ca er gl gz go gw n vol))) ([.ref (ad 0)]).toArray s 0 0 (inW (wM ad ca er gl gz go gw n vol))) (F0 m 2 ls []) := by
    intro N
    induction N with
    | zero => intro k g1 ls H locs h; exact absurd h (Nat.not_lt_zero _)
    | succ N ih =>
      intro k g1 ls H locs hN hk h9 hP hD hS hl
      refine lv_iload_n hx hb dX1_nothing_2 rfl (lv_at hl 0 rfl) ?_
      refine r_bipush hx hb dX1_nothing_3 (by decide +kernel) ?_
      refine r_icmp_ge hx hb dX1_nothing_5 (tgt := 21) (by decide) (by omega) (by omega) (fun hge => ?_) (fun hlt => ?_)
      · have hk0 : k = 64 := by omega
        subst hk0
        subst hAe
        exact W.vret hx hb hr (fun t ht hW => ⟨⟨g1, rfl, h9, by subst ht; exact hP⟩, hS.F ht⟩) hS.2.2 dX1_nothing_21
      · refine lv_aload_n hx hb dX1_nothing_8 rfl (lv_at hl 1 rfl) ?_
        refine va_get (D := (dC, dI)) (ci := 1) (v := .ref (ad 4)) (C := RX1) (T := TX1) (N := 7) hx hb hts hinTX1 hown hK hP 0 rfl rfl 4 (by decide) fl20 (fun _ h9 => h9) rfl dX1_nothing_9 ?_
        refine lv_iload_n hx hb dX1_nothing_12 rfl (lv_at hl 0 rfl) ?_
        refine r_iconst hx hb dX1_nothing_13 ?_
        refine r_zast hx hb hK hP hD hS 4 3 rfl rfl (by omega) (by omega) (by decide) (by omega) dX1_nothing_14 (fun H locs hP hD hS => ?_)
        have hP : va_P (dC, dI) vwCl (wM ad ca er gl gz go (uZ g1 ((k : Int)).toNat 0) n vol) H := hP
        have hD : va_D A (wM ad ca er gl gz go (uZ g1 ((k : Int)).toNat 0) n vol) := hD
        refine r_iinc (k := 0) hx hb dX1_nothing_15 hl rfl (by decide) rfl (fun ls hl => ?_)
        have hl : lv_has ls 2 [(1, .int (iI ((k : Int) + 1))), (0, .ref (ad 0))] := hl
        refine lv_goto hx hb dX1_nothing_18 (tgt := 2) (by decide) ?_
        have hl : lv_has ls 2 [(1, .int (iI ((k + 1 : Nat) : Int))), (0, .ref (ad 0))] := by
          rw [show ((k + 1 : Nat) : Int) = (k : Int) + 1 by omega]
          exact hl
        exact ih (k + 1) (uZ g1 ((k : Int)).toNat 0) ls H locs (by omega) (by omega) (uZ_all h9) hP hD hS hl
  exact loop (65) 0 gw ls H locs (by omega) (by omega) (fun j h => absurd h (Nat.not_lt_zero j)) hP hD hS hl
set_option maxHeartbeats 4000000 in
set_option maxRecDepth 100000 in
theorem n_want (l : Launch) (dC : Nat → ClassId) (dI : Nat → Nat → Nat) (ad : Nat → Nat) (ca : Nat → ClassId) (er : Int) (gl gz go gw : Nat → Int) (n r : Nat) (L S : Nat → Nat) (lo : Nat → Bool) (hok : okS n L S r) (hT : tM n L S lo gl gz go) (d : Nat) (hd : d < n) (wa : Nat → Bool) (hwa : ∀ v, v < 64 → gw v = b2 (wa v)) : Met l yX1_want wsX1_want { frames := 1, cells := 0, slots := 0, locals := 23 } (PX (dC, dI) vwCl (yM ca) (wM ad ca er gl gz go gw ((n : Int)) ((r : Int) + 1)) [.ref (ad 0), .int (iI ((d : Int)))]) (va_Qv (fun (g9 : Nat → Int) => ∀ v, v < 64 → g9 v = b2 (wa v || nd L S r v (d + 1))) (fun g9 t => va_P (dC, dI) vwCl (wM ad ca er gl gz go g9 ((n : Int)) ((r : Int) + 1)) t.heap) (inW (wM ad ca er gl gz go gw ((n : Int)) ((r : Int) + 1)))) 0 0 (inW (wM ad ca er gl gz go gw ((n : Int)) ((r : Int) + 1))) := by
  refine Met.ofW (cc := cX1_want) (maxL := 5) (ret := none) (by decide) rfl ?_
  intro p e s m args below meth c s₁ B hml hv
  obtain ⟨rfl, hP, hK, hD0⟩ := hv
  have hx := B.exec
  have hb := B.bytes
  have hr := B.returns
  have hts := atoms_spec (ws := wsX1_want) B.pre
  have hown : s.vm.findClass RX1 = some m.cls := findClass_of_methodNamed B.named
  have hlocks := B.notSynchronized
  have hw := fun w h => hts w (List.mem_cons_of_mem _ h)
  have hinTX1 : ∀ w ∈ u_ws RX1 TX1 7, w ∈ wsX1_want := wA_u wuX1
  have fl23 := hw _ wfX1_23
  have fl13 := hw _ wfX1_13
  have fl20 := hw _ wfX1_20
  have hD := wD_own hD0
  obtain ⟨A, hAe⟩ : ∃ A, A = inW (wM ad ca er gl gz go gw ((n : Int)) ((r : Int) + 1)) := ⟨_, rfl⟩
  rw [← hAe] at hD
  obtain ⟨H, hH⟩ : ∃ H, H = s.heap := ⟨_, rfl⟩
  obtain ⟨locs, hlc⟩ : ∃ L : List Loc, L = [] := ⟨_, rfl⟩
  have hS : va_S A s.heap H locs := by rw [hH, hlc]; exact va_S.rf
  rw [← hH] at hP ⊢
  rw [← hlc]
  have hl := lv_entry ([.ref (ad 0), .int (iI ((d : Int)))]) (n := 5) (Nat.le_of_ble_eq_true rfl)
  rw [lg_entry_eq]
  generalize (lg_sl ([.ref (ad 0), .int (iI ((d : Int)))]) ++ List.replicate (5 - (lg_sl ([.ref (ad 0), .int (iI ((d : Int)))])).length) Slot.unset).toArray = ls at hl ⊢
  have hl : lv_has ls 5 [(0, .ref (ad 0)), (1, .int (iI ((d : Int))))] := hl
  obtain ⟨ok1, ok2, ok3, ok4, ok5⟩ := id hok
  refine lv_iload_n hx hb dX1_want_0 rfl (lv_at hl 1 rfl) ?_
  refine lv_istore_n hx hb dX1_want_1 rfl hl (by decide) rfl (fun ls hl => ?_)
  have hl : lv_has ls 5 [(2, .int (iI ((d : Int)))), (0, .ref (ad 0)), (1, .int (iI ((d : Int))))] := hl
  have loop : ∀ (N : Nat) (p9 : Nat) (g1 : Nat → Int) (w1 : Nat → Bool) (ls : Array Slot) (H : Heap) (locs : List Loc), p9 < N → (p9 ≤ n) → (∀ v, v < 64 → g1 v = b2 (w1 v)) → (∀ v, v < 64 → (w1 v || nd L S r v p9) = (wa v || nd L S r v (d + 1))) → va_P (dC, dI) vwCl (wM ad ca er gl gz go g1 ((n : Int)) ((r : Int) + 1)) H → va_D A (wM ad ca er gl gz go g1 ((n : Int)) ((r : Int) + 1)) → va_S A s.heap H locs → lv_has ls 5 [(2, .int (iI ((p9 : Int) - 1))), (0, .ref (ad 0)), (1, .int (iI ((d : Int))))] → W p l e (headSpec wsX1_want { frames := 1, cells := 0, slots := 0, locals := 23 }).room s m ([.ref (ad 0), .int (iI ((d : Int)))]).toArray below meth c H locs 0 0 (MQ below (va_Qv (fun (g9 : Nat → Int) => ∀ v, v < 64 → g9 v = b2 (wa v || nd L S r v (d + 1))) (fun g9 t => va_P (dC, dI) vwCl (wM ad ca er gl gz go g9 ((n : Int)) ((r : Int) + 1)) t.heap) (inW (wM ad ca er gl gz go gw ((n : Int)) ((r : Int) + 1)))) ([.ref (ad 0), .int (iI ((d : Int)))]).toArray s 0 0 (inW (wM ad ca er gl gz go gw ((n : Int)) ((r : Int) + 1)))) (F0 m 2 ls []) := by
    intro N
    induction N with
    | zero => intro p9 g1 w1 ls H locs h; exact absurd h (Nat.not_lt_zero _)
    | succ N ih =>
      intro p9 g1 w1 ls H locs hN hp h9 hn9 hP hD hS hl
      refine lv_iload_n hx hb dX1_want_2 rfl (lv_at hl 0 rfl) ?_
      refine r_if_lt hx hb dX1_want_3 (tgt := 67) (by decide) (by omega) (fun hlt => ?_) (fun hge => ?_)
      · have hk0 : p9 = 0 := by omega
        subst hk0
        subst hAe
        exact W.vret hx hb hr (fun t ht hW => ⟨⟨g1, rfl, fun v hv => by rw [h9 v hv, ← hn9 v hv, nd_0, Bool.or_false], by subst ht; exact hP⟩, hS.F ht⟩) hS.2.2 dX1_want_67
      · obtain ⟨j, hj⟩ : ∃ j, p9 = j + 1 := ⟨p9 - 1, by omega⟩
        have ej : ((p9 : Int) - 1).toNat = j := by omega
        have hbl := bs_le L j
        obtain ⟨-, t2⟩ := hT.1 j (by omega)
        obtain ⟨-, hs1, hs2⟩ := ok4 j (by omega)
        have hsm : sm S (j + 1) ≤ sm S n := sm_mono (by omega)
        have hsm2 : sm S (j + 1) = sm S j + S j := rfl
        have e1 : (sm S j : Int) / (r : Int) = ((sm S j / r : Nat) : Int) := (Int.natCast_ediv _ _).symm
        have e2 : ((sm S j : Int) + (S j : Int) - 1) / (r : Int) = (((sm S j + S j - 1) / r : Nat) : Int) := by
          rw [Int.natCast_ediv]
          congr 1
          omega
        have v1 : sm S j / r < 64 := vo_lt (by omega)
        have v2 : (sm S j + S j - 1) / r < 64 := vo_lt (by omega)
        have v3 : sm S j / r ≤ (sm S j + S j - 1) / r := Nat.div_le_div_right (by omega)
        refine lv_aload_n hx hb dX1_want_6 rfl (lv_at hl 1 rfl) ?_
        refine lv_iload_n hx hb dX1_want_7 rfl (lv_at hl 0 rfl) ?_
        refine r_topi (b := (j : Int)) (by omega) ?_
        refine ro_z (z := (sm S j : Int)) (va_runV (As := [.int (iI ((j : Int)))]) (rest := []) ⟨hx, hb, hml, hown, hts⟩ (n_before l dC dI ad ca er gl gz go g1 n r L S lo hok hT j (by omega)) (cwV 1 hts (gV wlX1_37 wo_X1_before wz_X1_before wi_2 wcX1_before) rfl rfl rfl (by decide +kernel) ⟨Nat.le_of_ble_eq_true rfl, Nat.le_of_ble_eq_true rfl⟩) (PX_V (q0 := 0) (ci := 1) hP hK hD rfl rfl) rfl rfl hl.1 rfl (lv_room (Nat.le_of_ble_eq_true rfl)) dX1_want_8 ⟨Nat.le_of_ble_eq_true rfl, Nat.le_of_ble_eq_true rfl⟩) hS hP (fun H locs hP hS => ?_)
        refine lv_istore_n hx hb dX1_want_11 rfl hl (by decide) rfl (fun ls hl => ?_)
        have hl : lv_has ls 5 [(3, .int (iI ((sm S j : Int)))), (2, .int (iI ((p9 : Int) - 1))), (0, .ref (ad 0)), (1, .int (iI ((d : Int))))] := hl
        refine lv_iload_n hx hb dX1_want_12 rfl (lv_at hl 0 rfl) ?_
        refine lv_aload_n hx hb dX1_want_13 rfl (lv_at hl 2 rfl) ?_
        refine va_get (D := (dC, dI)) (ci := 1) (v := .int (iI ((r : Int) + 1))) (C := RX1) (T := TX1) (N := 7) hx hb hts hinTX1 hown hK hP 0 rfl rfl 6 (by decide) fl23 (fun _ h9 => h9) rfl dX1_want_14 ?_
        refine r_iconst hx hb dX1_want_17 ?_
        refine r_isub hx hb dX1_want_18 ?_
        refine r_topi (b := (r : Int)) (by omega) ?_
        refine r_idiv hx hb dX1_want_19 (by omega) (by omega) (by omega) (by omega) ?_
        refine r_topi (b := ((sm S j / r : Nat) : Int)) (e1) ?_
        refine lv_istore hx hb dX1_want_20 hl (by decide) rfl (fun ls hl => ?_)
        have hl : lv_has ls 5 [(4, .int (iI (((sm S j / r : Nat) : Int)))), (3, .int (iI ((sm S j : Int)))), (2, .int (iI ((p9 : Int) - 1))), (0, .ref (ad 0)), (1, .int (iI ((d : Int))))] := hl
        have ih0 := ih
        have loop2 : ∀ (N : Nat) (v : Nat) (g2 : Nat → Int) (ls : Array Slot) (H : Heap) (locs : List Loc), 64 - v < N → (sm S j / r ≤ v) → (v ≤ (sm S j + S j - 1) / r + 1) → (∀ j9, j9 < 64 → g2 j9 = b2 (w1 j9 || (decide (sm S j / r ≤ j9) && decide (j9 < v)))) → va_P (dC, dI) vwCl (wM ad ca er gl gz go g2 ((n : Int)) ((r : Int) + 1)) H → va_D A (wM ad ca er gl gz go g2 ((n : Int)) ((r : Int) + 1)) → va_S A s.heap H locs → lv_has ls 5 [(4, .int (iI ((v : Int)))), (3, .int (iI ((sm S j : Int)))), (2, .int (iI ((p9 : Int) - 1))), (0, .ref (ad 0)), (1, .int (iI ((d : Int))))] → W p l e (headSpec wsX1_want { frames := 1, cells := 0, slots := 0, locals := 23 }).room s m ([.ref (ad 0), .int (iI ((d : Int)))]).toArray below meth c H locs 0 0 (MQ below (va_Qv (fun (g9 : Nat → Int) => ∀ v, v < 64 → g9 v = b2 (wa v || nd L S r v (d + 1))) (fun g9 t => va_P (dC, dI) vwCl (wM ad ca er gl gz go g9 ((n : Int)) ((r : Int) + 1)) t.heap) (inW (wM ad ca er gl gz go gw ((n : Int)) ((r : Int) + 1)))) ([.ref (ad 0), .int (iI ((d : Int)))]).toArray s 0 0 (inW (wM ad ca er gl gz go gw ((n : Int)) ((r : Int) + 1)))) (F0 m 22 ls []) := by
          intro N
          induction N with
          | zero => intro v g2 ls H locs h; exact absurd h (Nat.not_lt_zero _)
          | succ N ih =>
            intro v g2 ls H locs hN hv0 hv1 hi9 hP hD hS hl
            refine lv_iload hx hb dX1_want_22 (lv_at hl 0 rfl) ?_
            refine lv_iload_n hx hb dX1_want_24 rfl (lv_at hl 1 rfl) ?_
            refine lv_aload_n hx hb dX1_want_25 rfl (lv_at hl 3 rfl) ?_
            refine va_get (D := (dC, dI)) (ci := 1) (v := .ref (ad 2)) (C := RX1) (T := TX1) (N := 7) hx hb hts hinTX1 hown hK hP 0 rfl rfl 2 (by decide) fl13 (fun _ h9 => h9) rfl dX1_want_26 ?_
            refine lv_iload_n hx hb dX1_want_29 rfl (lv_at hl 2 rfl) ?_
            refine r_iald hx hb hK hP 2 1 rfl rfl (by omega) (by omega) (by decide) dX1_want_30 ?_
            refine r_topi (b := (S j : Int)) (by rw [ej]; exact t2) ?_
            refine r_iadd hx hb dX1_want_31 ?_
            refine r_iconst hx hb dX1_want_32 ?_
            refine r_isub hx hb dX1_want_33 ?_
            refine lv_aload_n hx hb dX1_want_34 rfl (lv_at hl 3 rfl) ?_
            refine va_get (D := (dC, dI)) (ci := 1) (v := .int (iI ((r : Int) + 1))) (C := RX1) (T := TX1) (N := 7) hx hb hts hinTX1 hown hK hP 0 rfl rfl 6 (by decide) fl23 (fun _ h9 => h9) rfl dX1_want_35 ?_
            refine r_iconst hx hb dX1_want_38 ?_
            refine r_isub hx hb dX1_want_39 ?_
            refine r_topi (b := (r : Int)) (by omega) ?_
            refine r_idiv hx hb dX1_want_40 (by omega) (by omega) (by omega) (by omega) ?_
            refine r_topi (b := (((sm S j + S j - 1) / r : Nat) : Int)) (e2) ?_
            refine r_icmp_gt hx hb dX1_want_41 (tgt := 58) (by decide) (by omega) (by omega) (fun hgt => ?_) (fun hle => ?_)
            · have hv9 : v = (sm S j + S j - 1) / r + 1 := by omega
              refine lv_aload_n hx hb dX1_want_58 rfl (lv_at hl 3 rfl) ?_
              refine lv_iload_n hx hb dX1_want_59 rfl (lv_at hl 2 rfl) ?_
              refine r_topi (b := (j : Int)) (by omega) ?_
              refine ro_z (z := (bs L j : Int) - 1) (va_runV (As := [.int (iI ((j : Int)))]) (rest := []) ⟨hx, hb, hml, hown, hts⟩ (n_base l dC dI ad ca er gl gz go g2 n r L S lo hok hT j (by omega)) (cwV 1 hts (gV wlX1_45 wo_X1_base wz_X1_base wi_2 wcX1_base) rfl rfl rfl (by decide +kernel) ⟨Nat.le_of_ble_eq_true rfl, Nat.le_of_ble_eq_true rfl⟩) (PX_V (q0 := 0) (ci := 1) hP hK hD rfl rfl) rfl rfl hl.1 rfl (lv_room (Nat.le_of_ble_eq_true rfl)) dX1_want_60 ⟨Nat.le_of_ble_eq_true rfl, Nat.le_of_ble_eq_true rfl⟩) hS hP (fun H locs hP hS => ?_)
              refine lv_istore_n hx hb dX1_want_63 rfl hl (by decide) rfl (fun ls hl => ?_)
              have hl : lv_has ls 5 [(2, .int (iI ((bs L j : Int) - 1))), (4, .int (iI ((v : Int)))), (3, .int (iI ((sm S j : Int)))), (0, .ref (ad 0)), (1, .int (iI ((d : Int))))] := hl
              refine lv_goto hx hb dX1_want_64 (tgt := 2) (by decide) ?_
              have hl : lv_has ls 5 [(2, .int (iI ((bs L j : Int) - 1))), (0, .ref (ad 0)), (1, .int (iI (d : Int)))] := lv_sub hl [0, 3, 4] rfl
              exact ih0 (bs L j) g2 (fun v => w1 v || onV S r j v) ls H locs (by omega) (by omega) (fun v9 hv8 => by rw [hi9 v9 hv8, hv9]; congr 1; congr 1; unfold onV; congr 1; exact decide_eq_decide.mpr (by omega)) (fun v9 hv8 => by rw [Bool.or_assoc, ← nd_s, ← hj]; exact hn9 v9 hv8) hP hD hS hl
            · refine lv_aload_n hx hb dX1_want_44 rfl (lv_at hl 3 rfl) ?_
              refine va_get (D := (dC, dI)) (ci := 1) (v := .ref (ad 4)) (C := RX1) (T := TX1) (N := 7) hx hb hts hinTX1 hown hK hP 0 rfl rfl 4 (by decide) fl20 (fun _ h9 => h9) rfl dX1_want_45 ?_
              refine lv_iload hx hb dX1_want_48 (lv_at hl 0 rfl) ?_
              refine r_iconst hx hb dX1_want_50 ?_
              refine r_zast hx hb hK hP hD hS 4 3 rfl rfl (by omega) (by omega) (by decide) (by omega) dX1_want_51 (fun H locs hP hD hS => ?_)
              have hP : va_P (dC, dI) vwCl (wM ad ca er gl gz go (uZ g2 ((v : Int)).toNat 1) ((n : Int)) ((r : Int) + 1)) H := hP
              have hD : va_D A (wM ad ca er gl gz go (uZ g2 ((v : Int)).toNat 1) ((n : Int)) ((r : Int) + 1)) := hD
              refine r_iinc (k := 0) hx hb dX1_want_52 hl rfl (by decide) rfl (fun ls hl => ?_)
              have hl : lv_has ls 5 [(4, .int (iI ((v : Int) + 1))), (3, .int (iI ((sm S j : Int)))), (2, .int (iI ((p9 : Int) - 1))), (0, .ref (ad 0)), (1, .int (iI ((d : Int))))] := hl
              refine lv_goto hx hb dX1_want_55 (tgt := 22) (by decide) ?_
              have hl : lv_has ls 5 [(4, .int (iI ((v + 1 : Nat) : Int))), (3, .int (iI (sm S j : Int))), (2, .int (iI ((p9 : Int) - 1))), (0, .ref (ad 0)), (1, .int (iI (d : Int)))] := by
                rw [show ((v + 1 : Nat) : Int) = (v : Int) + 1 by omega]
                exact hl
              exact ih (v + 1) (uZ g2 ((v : Int)).toNat 1) ls H locs (by omega) (by omega) (by omega) (wn_s hi9 hv0) hP hD hS hl
        exact loop2 (65) (sm S j / r) g1 ls H locs (Nat.lt_succ_of_le (Nat.sub_le _ _)) (Nat.le_refl _) (by omega) (fun j9 h8 => by rw [h9 j9 h8]; congr 1; by_cases q9 : sm S j / r ≤ j9 <;> simp [q9] <;> omega) hP hD hS hl
  have hl : lv_has ls 5 [(2, .int (iI (((d + 1 : Nat) : Int) - 1))), (0, .ref (ad 0)), (1, .int (iI (d : Int)))] := by
    rw [show ((d + 1 : Nat) : Int) - 1 = (d : Int) by omega]
    exact hl
  exact loop (d + 2) (d + 1) gw wa ls H locs (Nat.lt_succ_self _) (by omega) hwa (fun v hv => rfl) hP hD hS hl
end
section
/-! a set built bit by bit; small facts on false and true -/
theorem st_on {y : Int64} {P : Nat → Bool} {k : Nat} (h : ∀ j, j < 64 → bL y j = (decide (j < k) && P j)) (hk : k < 64) (hP : P k = true) : ∀ j, j < 64 → bL (y ||| ((1 : Int64) <<< ((iI (k : Int)).toInt64 &&& 63))) j = (decide (j < k + 1) && P j) := by
  intro j hj
  rw [bL_or, bL_bit hk hj, h j hj]
  by_cases e : j = k
  · subst e
    simp [hP]
  · rw [decide_eq_false e, Bool.or_false]
    congr 1
    exact decide_eq_decide.mpr (by omega)
theorem st_off {y : Int64} {P : Nat → Bool} {k : Nat} (h : ∀ j, j < 64 → bL y j = (decide (j < k) && P j)) (hP : P k = false) : ∀ j, j < 64 → bL y j = (decide (j < k + 1) && P j) := by
  intro j hj
  rw [h j hj]
  by_cases e : j = k
  · subst e
    simp [hP]
  · congr 1
    exact decide_eq_decide.mpr (by omega)
theorem b2_0 {b : Bool} (h : b2 b = 0) : b = false := by
  cases b with
  | true => exact absurd h (by decide)
  | false => rfl
theorem b2_1 {b : Bool} (h : ¬ b2 b = 0) : b = true := by
  cases b with
  | true => rfl
  | false => exact absurd rfl h
end
section
/-! the reference: begin, drop, dump, chain, depth, place, owner -/
set_option maxHeartbeats 4000000 in
set_option maxRecDepth 100000 in
theorem n_begin (l : Launch) (dC : Nat → ClassId) (dI : Nat → Nat → Nat) (ad : Nat → Nat) (ca : Nat → ClassId) (er : Int) (gl gz go gw : Nat → Int) (n r : Nat) (L S : Nat → Nat) (lo : Nat → Bool) (hok : okS n L S r) (hT : tM n L S lo gl gz go) (q : Int) (hq : iR q) : Met l yX1_begin wsX1_begin { frames := 1, cells := 0, slots := 0, locals := 22 } (PX (dC, dI) vwCl (yM ca) (wM ad ca er gl gz go gw ((n : Int)) ((r : Int) + 1)) [.ref (ad 0), .int (iI q)]) (va_Qv (fun (u : MU) => ((2 ≤ q ∧ q ≤ 1000) ∧ u.1 = 0 ∧ MS 0 L S (q - 1).toNat (fun _ => false) u) ∨ (¬ (2 ≤ q ∧ q ≤ 1000) ∧ u.1 = 1 ∧ MS n L S r lo u)) (fun u t => va_P (dC, dI) vwCl (wMu ad ca u) t.heap) (inW (wM ad ca er gl gz go gw ((n : Int)) ((r : Int) + 1)))) 0 0 (inW (wM ad ca er gl gz go gw ((n : Int)) ((r : Int) + 1))) := by
  refine Met.ofW (cc := cX1_begin) (maxL := 3) (ret := none) (by decide) rfl ?_
  intro p e s m args below meth c s₁ B hml hv
  obtain ⟨rfl, hP, hK, hD0⟩ := hv
  have hx := B.exec
  have hb := B.bytes
  have hr := B.returns
  have hts := atoms_spec (ws := wsX1_begin) B.pre
  have hown : s.vm.findClass RX1 = some m.cls := findClass_of_methodNamed B.named
  have hlocks := B.notSynchronized
  have hw := fun w h => hts w (List.mem_cons_of_mem _ h)
  have hinTX1 : ∀ w ∈ u_ws RX1 TX1 7, w ∈ wsX1_begin := wA_u wuX1
  have fl23 := hw _ wfX1_23
  have fl30 := hw _ wfX1_30
  have fl16 := hw _ wfX1_16
  have hD := wD_own hD0
  obtain ⟨A, hAe⟩ : ∃ A, A = inW (wM ad ca er gl gz go gw ((n : Int)) ((r : Int) + 1)) := ⟨_, rfl⟩
  rw [← hAe] at hD
  obtain ⟨H, hH⟩ : ∃ H, H = s.heap := ⟨_, rfl⟩
  obtain ⟨locs, hlc⟩ : ∃ L : List Loc, L = [] := ⟨_, rfl⟩
  have hS : va_S A s.heap H locs := by rw [hH, hlc]; exact va_S.rf
  rw [← hH] at hP ⊢
  rw [← hlc]
  have hl := lv_entry ([.ref (ad 0), .int (iI q)]) (n := 3) (Nat.le_of_ble_eq_true rfl)
  rw [lg_entry_eq]
  generalize (lg_sl ([.ref (ad 0), .int (iI q)]) ++ List.replicate (3 - (lg_sl ([.ref (ad 0), .int (iI q)])).length) Slot.unset).toArray = ls at hl ⊢
  have hl : lv_has ls 3 [(0, .ref (ad 0)), (1, .int (iI q))] := hl
  obtain ⟨ok1, ok2, ok3, ok4, ok5⟩ := id hok
  refine lv_aload_n hx hb dX1_begin_0 rfl (lv_at hl 0 rfl) ?_
  refine lv_iload_n hx hb dX1_begin_1 rfl (lv_at hl 1 rfl) ?_
  refine r_iconst hx hb dX1_begin_2 ?_
  refine r_icmp_lt hx hb dX1_begin_3 (tgt := 13) (by decide) (by omega) (by omega) (fun hlt => ?_) (fun hge => ?_)
  · refine r_iconst hx hb dX1_begin_13 ?_
    refine lv_goto hx hb dX1_begin_14 (tgt := 18) (by decide) ?_
    refine r_iconst hx hb dX1_begin_18 ?_
    refine wc_i (va_runV (As := [.int (iI 1), .int (iI 1)]) (rest := []) ⟨hx, hb, hml, hown, hts⟩ (n_fails1 l dC dI ad ca er gl gz go gw ((n : Int)) ((r : Int) + 1) 1) (cwV 2 hts (gV wlX1_33 wo_X1_fails wz_X1_fails wi_2 wcX1_fails) rfl rfl rfl (by decide +kernel) ⟨Nat.le_of_ble_eq_true rfl, Nat.le_of_ble_eq_true rfl⟩) (PX_V (q0 := 0) (ci := 1) hP hK hD rfl rfl) rfl rfl hl.1 rfl (lv_room (Nat.le_of_ble_eq_true rfl)) dX1_begin_19 ⟨Nat.le_of_ble_eq_true rfl, Nat.le_of_ble_eq_true rfl⟩) hS (by rw [hAe]; exact fun q h => inW_same (by rfl) h) (fun r9 u9 H locs h8 hP hS hk9 => ?_)
    have hP : va_P (dC, dI) vwCl (wM ad ca 1 gl gz go gw ((n : Int)) ((r : Int) + 1)) H := hP
    have hD : va_D A (wM ad ca 1 gl gz go gw ((n : Int)) ((r : Int) + 1)) := wD_same hD rfl
    subst h8
    refine r_if_eq hx hb dX1_begin_22 (tgt := 26) (by decide) (by omega) (fun hk9 => ?_) (fun hk9 => ?_)
    · exact absurd hk9 (by decide)
    · subst hAe
      refine W.widen (k := 0) (n := 0) (by decide) (by decide) ?_
      exact W.vret hx hb hr (fun t ht hW => ⟨⟨(1, gl, gz, go, gw, (n : Int), (r : Int) + 1), rfl, Or.inr ⟨by omega, rfl, ⟨hT, rfl, rfl⟩⟩, by subst ht; exact hP⟩, hS.F ht⟩) hS.2.2 dX1_begin_25
  · refine lv_iload_n hx hb dX1_begin_6 rfl (lv_at hl 1 rfl) ?_
    refine r_sipush hx hb dX1_begin_7 (by decide +kernel) ?_
    refine r_icmp_le hx hb dX1_begin_10 (tgt := 17) (by decide) (by omega) (by omega) (fun hin => ?_) (fun hout => ?_)
    · refine r_iconst hx hb dX1_begin_17 ?_
      refine r_iconst hx hb dX1_begin_18 ?_
      refine wc_i (va_runV (As := [.int (iI 0), .int (iI 1)]) (rest := []) ⟨hx, hb, hml, hown, hts⟩ (n_fails0 l dC dI ad ca er gl gz go gw ((n : Int)) ((r : Int) + 1) 1) (cwV 2 hts (gV wlX1_33 wo_X1_fails wz_X1_fails wi_2 wcX1_fails) rfl rfl rfl (by decide +kernel) ⟨Nat.le_of_ble_eq_true rfl, Nat.le_of_ble_eq_true rfl⟩) (PX_V (q0 := 0) (ci := 1) hP hK hD rfl rfl) rfl rfl hl.1 rfl (lv_room (Nat.le_of_ble_eq_true rfl)) dX1_begin_19 ⟨Nat.le_of_ble_eq_true rfl, Nat.le_of_ble_eq_true rfl⟩) hS (by rw [hAe]; exact fun q h => inW_same (by rfl) h) (fun r9 u9 H locs h8 hP hS hk9 => ?_)
      have hP : va_P (dC, dI) vwCl (wM ad ca 0 gl gz go gw ((n : Int)) ((r : Int) + 1)) H := hP
      have hD : va_D A (wM ad ca 0 gl gz go gw ((n : Int)) ((r : Int) + 1)) := wD_same hD rfl
      subst h8
      refine r_if_eq hx hb dX1_begin_22 (tgt := 26) (by decide) (by omega) (fun hk9 => ?_) (fun hk9 => ?_)
      · refine lv_aload_n hx hb dX1_begin_26 rfl (lv_at hl 0 rfl) ?_
        refine lv_iload_n hx hb dX1_begin_27 rfl (lv_at hl 1 rfl) ?_
        refine va_put (D := (dC, dI)) (ci := 1) (v := .int (iI q)) (ty := .int) (C := RX1) (T := TX1) (N := 7) hx hb hts hinTX1 tyX1 tyX1_ok nmX1 hown hK hP hD hS 0 rfl rfl 6 (by decide) fl23 (fun _ h9 => h9) rfl (by decide +kernel) rfl rfl (Nat.le_of_ble_eq_true rfl) dX1_begin_28 (fun H locs hP hD hS => ?_)
        have hP : va_P (dC, dI) vwCl (wM ad ca 0 gl gz go gw ((n : Int)) q) H := hP
        have hD : va_D A (wM ad ca 0 gl gz go gw ((n : Int)) q) := hD
        refine lv_aload_n hx hb dX1_begin_31 rfl (lv_at hl 0 rfl) ?_
        refine r_iconst hx hb dX1_begin_32 ?_
        refine va_put (D := (dC, dI)) (ci := 1) (v := .int (iI 0)) (ty := .int) (C := RX1) (T := TX1) (N := 7) hx hb hts hinTX1 tyX1 tyX1_ok nmX1 hown hK hP hD hS 0 rfl rfl 5 (by decide) fl30 (fun _ h9 => h9) rfl (by decide +kernel) rfl rfl (Nat.le_of_ble_eq_true rfl) dX1_begin_33 (fun H locs hP hD hS => ?_)
        have hP : va_P (dC, dI) vwCl (wM ad ca 0 gl gz go gw 0 q) H := hP
        have hD : va_D A (wM ad ca 0 gl gz go gw 0 q) := hD
        refine r_iconst hx hb dX1_begin_36 ?_
        refine lv_istore_n hx hb dX1_begin_37 rfl hl (by decide) rfl (fun ls hl => ?_)
        have hl : lv_has ls 3 [(2, .int (iI 0)), (0, .ref (ad 0)), (1, .int (iI q))] := hl
        have loop : ∀ (N : Nat) (k : Nat) (g1 : Nat → Int) (ls : Array Slot) (H : Heap) (locs : List Loc), 64 - k < N → (k ≤ 64) → (∀ j, j < k → g1 j = 0) → va_P (dC, dI) vwCl (wM ad ca 0 gl gz g1 gw 0 q) H → va_D A (wM ad ca 0 gl gz g1 gw 0 q) → va_S A s.heap H locs → lv_has ls 3 [(2, .int (iI ((k : Int)))), (0, .ref (ad 0)), (1, .int (iI q))] → W p l e (headSpec wsX1_begin { frames := 1, cells := 0, slots := 0, locals := 22 }).room s m ([.ref (ad 0), .int (iI q)]).toArray below meth c H locs ((0 + 0) + 0) ((0 + 0) + 0) (MQ below (va_Qv (fun (u : MU) => ((2 ≤ q ∧ q ≤ 1000) ∧ u.1 = 0 ∧ MS 0 L S (q - 1).toNat (fun _ => false) u) ∨ (¬ (2 ≤ q ∧ q ≤ 1000) ∧ u.1 = 1 ∧ MS n L S r lo u)) (fun u t => va_P (dC, dI) vwCl (wMu ad ca u) t.heap) (inW (wM ad ca er gl gz go gw ((n : Int)) ((r : Int) + 1)))) ([.ref (ad 0), .int (iI q)]).toArray s 0 0 (inW (wM ad ca er gl gz go gw ((n : Int)) ((r : Int) + 1)))) (F0 m 38 ls []) := by
          intro N
          induction N with
          | zero => intro k g1 ls H locs h; exact absurd h (Nat.not_lt_zero _)
          | succ N ih =>
            intro k g1 ls H locs hN hk h9 hP hD hS hl
            refine lv_iload_n hx hb dX1_begin_38 rfl (lv_at hl 0 rfl) ?_
            refine r_bipush hx hb dX1_begin_39 (by decide +kernel) ?_
            refine r_icmp_ge hx hb dX1_begin_41 (tgt := 57) (by decide) (by omega) (by omega) (fun hge2 => ?_) (fun hlt2 => ?_)
            · have hk0 : k = 64 := by omega
              subst hk0
              subst hAe
              refine W.widen (k := 0) (n := 0) (by decide) (by decide) ?_
              exact W.vret hx hb hr (fun t ht hW => ⟨⟨(0, gl, gz, g1, gw, 0, q), rfl, Or.inl ⟨by omega, rfl, ⟨fun d h => absurd h (Nat.not_lt_zero d), fun v hv => h9 v hv⟩, rfl, by show q = ((q - 1).toNat : Int) + 1; omega⟩, by subst ht; exact hP⟩, hS.F ht⟩) hS.2.2 dX1_begin_57
            · refine lv_aload_n hx hb dX1_begin_44 rfl (lv_at hl 1 rfl) ?_
              refine va_get (D := (dC, dI)) (ci := 1) (v := .ref (ad 3)) (C := RX1) (T := TX1) (N := 7) hx hb hts hinTX1 hown hK hP 0 rfl rfl 3 (by decide) fl16 (fun _ h9 => h9) rfl dX1_begin_45 ?_
              refine lv_iload_n hx hb dX1_begin_48 rfl (lv_at hl 0 rfl) ?_
              refine r_iconst hx hb dX1_begin_49 ?_
              refine r_zast hx hb hK hP hD hS 3 2 rfl rfl (by omega) (by omega) (by decide) (by omega) dX1_begin_50 (fun H locs hP hD hS => ?_)
              have hP : va_P (dC, dI) vwCl (wM ad ca 0 gl gz (uZ g1 ((k : Int)).toNat 0) gw 0 q) H := hP
              have hD : va_D A (wM ad ca 0 gl gz (uZ g1 ((k : Int)).toNat 0) gw 0 q) := hD
              refine r_iinc (k := 0) hx hb dX1_begin_51 hl rfl (by decide) rfl (fun ls hl => ?_)
              have hl : lv_has ls 3 [(2, .int (iI ((k : Int) + 1))), (0, .ref (ad 0)), (1, .int (iI q))] := hl
              refine lv_goto hx hb dX1_begin_54 (tgt := 38) (by decide) ?_
              have hl : lv_has ls 3 [(2, .int (iI ((k + 1 : Nat) : Int))), (0, .ref (ad 0)), (1, .int (iI q))] := by
                rw [show ((k + 1 : Nat) : Int) = (k : Int) + 1 by omega]
                exact hl
              exact ih (k + 1) (uZ g1 ((k : Int)).toNat 0) ls H locs (by omega) (by omega) (uZ_all h9) hP hD hS hl
        exact loop (65) 0 go ls H locs (by omega) (by omega) (fun j h => absurd h (Nat.not_lt_zero j)) hP hD hS hl
      · exact absurd hk9 (by decide)
    · refine r_iconst hx hb dX1_begin_13 ?_
      refine lv_goto hx hb dX1_begin_14 (tgt := 18) (by decide) ?_
      refine r_iconst hx hb dX1_begin_18 ?_
      refine wc_i (va_runV (As := [.int (iI 1), .int (iI 1)]) (rest := []) ⟨hx, hb, hml, hown, hts⟩ (n_fails1 l dC dI ad ca er gl gz go gw ((n : Int)) ((r : Int) + 1) 1) (cwV 2 hts (gV wlX1_33 wo_X1_fails wz_X1_fails wi_2 wcX1_fails) rfl rfl rfl (by decide +kernel) ⟨Nat.le_of_ble_eq_true rfl, Nat.le_of_ble_eq_true rfl⟩) (PX_V (q0 := 0) (ci := 1) hP hK hD rfl rfl) rfl rfl hl.1 rfl (lv_room (Nat.le_of_ble_eq_true rfl)) dX1_begin_19 ⟨Nat.le_of_ble_eq_true rfl, Nat.le_of_ble_eq_true rfl⟩) hS (by rw [hAe]; exact fun q h => inW_same (by rfl) h) (fun r9 u9 H locs h8 hP hS hk9 => ?_)
      have hP : va_P (dC, dI) vwCl (wM ad ca 1 gl gz go gw ((n : Int)) ((r : Int) + 1)) H := hP
      have hD : va_D A (wM ad ca 1 gl gz go gw ((n : Int)) ((r : Int) + 1)) := wD_same hD rfl
      subst h8
      refine r_if_eq hx hb dX1_begin_22 (tgt := 26) (by decide) (by omega) (fun hk9 => ?_) (fun hk9 => ?_)
      · exact absurd hk9 (by decide)
      · subst hAe
        refine W.widen (k := 0) (n := 0) (by decide) (by decide) ?_
        exact W.vret hx hb hr (fun t ht hW => ⟨⟨(1, gl, gz, go, gw, (n : Int), (r : Int) + 1), rfl, Or.inr ⟨by omega, rfl, ⟨hT, rfl, rfl⟩⟩, by subst ht; exact hP⟩, hS.F ht⟩) hS.2.2 dX1_begin_25
set_option maxHeartbeats 4000000 in
set_option maxRecDepth 100000 in
theorem n_drop (l : Launch) (dC : Nat → ClassId) (dI : Nat → Nat → Nat) (ad : Nat → Nat) (ca : Nat → ClassId) (er : Int) (gl gz go gw : Nat → Int) (n r : Nat) (L S : Nat → Nat) (lo : Nat → Bool) (hok : okS n L S r) (hT : tM n L S lo gl gz go) (q : Int) (hq : iR q) : Met l yX1_drop wsX1_drop { frames := 1, cells := 0, slots := 0, locals := 22 } (PX (dC, dI) vwCl (yM ca) (wM ad ca er gl gz go gw ((n : Int)) ((r : Int) + 1)) [.ref (ad 0), .int (iI q)]) (va_Qv (fun (u : MU) => ((0 ≤ q ∧ q ≤ (n : Int)) ∧ u.1 = 0 ∧ MS (n - q.toNat) L S r lo u) ∨ (¬ (0 ≤ q ∧ q ≤ (n : Int)) ∧ u.1 = 1 ∧ MS n L S r lo u)) (fun u t => va_P (dC, dI) vwCl (wMu ad ca u) t.heap) (inW (wM ad ca er gl gz go gw ((n : Int)) ((r : Int) + 1)))) 0 0 (inW (wM ad ca er gl gz go gw ((n : Int)) ((r : Int) + 1))) := by
  refine Met.ofW (cc := cX1_drop) (maxL := 2) (ret := none) (by decide) rfl ?_
  intro p e s m args below meth c s₁ B hml hv
  obtain ⟨rfl, hP, hK, hD0⟩ := hv
  have hx := B.exec
  have hb := B.bytes
  have hr := B.returns
  have hts := atoms_spec (ws := wsX1_drop) B.pre
  have hown : s.vm.findClass RX1 = some m.cls := findClass_of_methodNamed B.named
  have hlocks := B.notSynchronized
  have hw := fun w h => hts w (List.mem_cons_of_mem _ h)
  have hinTX1 : ∀ w ∈ u_ws RX1 TX1 7, w ∈ wsX1_drop := wA_u wuX1
  have fl30 := hw _ wfX1_30
  have hD := wD_own hD0
  obtain ⟨A, hAe⟩ : ∃ A, A = inW (wM ad ca er gl gz go gw ((n : Int)) ((r : Int) + 1)) := ⟨_, rfl⟩
  rw [← hAe] at hD
  obtain ⟨H, hH⟩ : ∃ H, H = s.heap := ⟨_, rfl⟩
  obtain ⟨locs, hlc⟩ : ∃ L : List Loc, L = [] := ⟨_, rfl⟩
  have hS : va_S A s.heap H locs := by rw [hH, hlc]; exact va_S.rf
  rw [← hH] at hP ⊢
  rw [← hlc]
  have hl := lv_entry ([.ref (ad 0), .int (iI q)]) (n := 2) (Nat.le_of_ble_eq_true rfl)
  rw [lg_entry_eq]
  generalize (lg_sl ([.ref (ad 0), .int (iI q)]) ++ List.replicate (2 - (lg_sl ([.ref (ad 0), .int (iI q)])).length) Slot.unset).toArray = ls at hl ⊢
  have hl : lv_has ls 2 [(0, .ref (ad 0)), (1, .int (iI q))] := hl
  obtain ⟨ok1, ok2, ok3, ok4, ok5⟩ := id hok
  refine lv_aload_n hx hb dX1_drop_0 rfl (lv_at hl 0 rfl) ?_
  refine lv_iload_n hx hb dX1_drop_1 rfl (lv_at hl 1 rfl) ?_
  refine r_if_lt hx hb dX1_drop_2 (tgt := 13) (by decide) (by omega) (fun hlt => ?_) (fun hge => ?_)
  · refine r_iconst hx hb dX1_drop_13 ?_
    refine lv_goto hx hb dX1_drop_14 (tgt := 18) (by decide) ?_
    refine r_iconst hx hb dX1_drop_18 ?_
    refine wc_i (va_runV (As := [.int (iI 1), .int (iI 1)]) (rest := []) ⟨hx, hb, hml, hown, hts⟩ (n_fails1 l dC dI ad ca er gl gz go gw ((n : Int)) ((r : Int) + 1) 1) (cwV 2 hts (gV wlX1_33 wo_X1_fails wz_X1_fails wi_2 wcX1_fails) rfl rfl rfl (by decide +kernel) ⟨Nat.le_of_ble_eq_true rfl, Nat.le_of_ble_eq_true rfl⟩) (PX_V (q0 := 0) (ci := 1) hP hK hD rfl rfl) rfl rfl hl.1 rfl (lv_room (Nat.le_of_ble_eq_true rfl)) dX1_drop_19 ⟨Nat.le_of_ble_eq_true rfl, Nat.le_of_ble_eq_true rfl⟩) hS (by rw [hAe]; exact fun q h => inW_same (by rfl) h) (fun r9 u9 H locs h8 hP hS hk9 => ?_)
    have hP : va_P (dC, dI) vwCl (wM ad ca 1 gl gz go gw ((n : Int)) ((r : Int) + 1)) H := hP
    have hD : va_D A (wM ad ca 1 gl gz go gw ((n : Int)) ((r : Int) + 1)) := wD_same hD rfl
    subst h8
    refine r_if_eq hx hb dX1_drop_22 (tgt := 26) (by decide) (by omega) (fun hk9 => ?_) (fun hk9 => ?_)
    · exact absurd hk9 (by decide)
    · subst hAe
      refine W.widen (k := 0) (n := 0) (by decide) (by decide) ?_
      exact W.vret hx hb hr (fun t ht hW => ⟨⟨(1, gl, gz, go, gw, (n : Int), (r : Int) + 1), rfl, Or.inr ⟨by omega, rfl, ⟨hT, rfl, rfl⟩⟩, by subst ht; exact hP⟩, hS.F ht⟩) hS.2.2 dX1_drop_25
  · refine lv_iload_n hx hb dX1_drop_5 rfl (lv_at hl 1 rfl) ?_
    refine lv_aload_n hx hb dX1_drop_6 rfl (lv_at hl 0 rfl) ?_
    refine va_get (D := (dC, dI)) (ci := 1) (v := .int (iI ((n : Int)))) (C := RX1) (T := TX1) (N := 7) hx hb hts hinTX1 hown hK hP 0 rfl rfl 5 (by decide) fl30 (fun _ h9 => h9) rfl dX1_drop_7 ?_
    refine r_icmp_le hx hb dX1_drop_10 (tgt := 17) (by decide) (by omega) (by omega) (fun hin => ?_) (fun hout => ?_)
    · refine r_iconst hx hb dX1_drop_17 ?_
      refine r_iconst hx hb dX1_drop_18 ?_
      refine wc_i (va_runV (As := [.int (iI 0), .int (iI 1)]) (rest := []) ⟨hx, hb, hml, hown, hts⟩ (n_fails0 l dC dI ad ca er gl gz go gw ((n : Int)) ((r : Int) + 1) 1) (cwV 2 hts (gV wlX1_33 wo_X1_fails wz_X1_fails wi_2 wcX1_fails) rfl rfl rfl (by decide +kernel) ⟨Nat.le_of_ble_eq_true rfl, Nat.le_of_ble_eq_true rfl⟩) (PX_V (q0 := 0) (ci := 1) hP hK hD rfl rfl) rfl rfl hl.1 rfl (lv_room (Nat.le_of_ble_eq_true rfl)) dX1_drop_19 ⟨Nat.le_of_ble_eq_true rfl, Nat.le_of_ble_eq_true rfl⟩) hS (by rw [hAe]; exact fun q h => inW_same (by rfl) h) (fun r9 u9 H locs h8 hP hS hk9 => ?_)
      have hP : va_P (dC, dI) vwCl (wM ad ca 0 gl gz go gw ((n : Int)) ((r : Int) + 1)) H := hP
      have hD : va_D A (wM ad ca 0 gl gz go gw ((n : Int)) ((r : Int) + 1)) := wD_same hD rfl
      subst h8
      refine r_if_eq hx hb dX1_drop_22 (tgt := 26) (by decide) (by omega) (fun hk9 => ?_) (fun hk9 => ?_)
      · refine lv_aload_n hx hb dX1_drop_26 rfl (lv_at hl 0 rfl) ?_
        refine lv_dup hx hb dX1_drop_27 rfl ?_
        refine va_get (D := (dC, dI)) (ci := 1) (v := .int (iI ((n : Int)))) (C := RX1) (T := TX1) (N := 7) hx hb hts hinTX1 hown hK hP 0 rfl rfl 5 (by decide) fl30 (fun _ h9 => h9) rfl dX1_drop_28 ?_
        refine lv_iload_n hx hb dX1_drop_31 rfl (lv_at hl 1 rfl) ?_
        refine r_isub hx hb dX1_drop_32 ?_
        refine va_put (D := (dC, dI)) (ci := 1) (v := .int (iI (((n : Int)) - q))) (ty := .int) (C := RX1) (T := TX1) (N := 7) hx hb hts hinTX1 tyX1 tyX1_ok nmX1 hown hK hP hD hS 0 rfl rfl 5 (by decide) fl30 (fun _ h9 => h9) rfl (by decide +kernel) rfl rfl (Nat.le_of_ble_eq_true rfl) dX1_drop_33 (fun H locs hP hD hS => ?_)
        have hP : va_P (dC, dI) vwCl (wM ad ca 0 gl gz go gw (((n : Int)) - q) ((r : Int) + 1)) H := hP
        have hD : va_D A (wM ad ca 0 gl gz go gw (((n : Int)) - q) ((r : Int) + 1)) := hD
        subst hAe
        refine W.widen (k := 0) (n := 0) (by decide) (by decide) ?_
        exact W.vret hx hb hr (fun t ht hW => ⟨⟨(0, gl, gz, go, gw, ((n : Int)) - q, (r : Int) + 1), rfl, Or.inl ⟨by omega, rfl, tM_drop (Nat.sub_le _ _) hT, by show (n : Int) - q = ((n - q.toNat : Nat) : Int); omega, rfl⟩, by subst ht; exact hP⟩, hS.F ht⟩) hS.2.2 dX1_drop_36
      · exact absurd hk9 (by decide)
    · refine r_iconst hx hb dX1_drop_13 ?_
      refine lv_goto hx hb dX1_drop_14 (tgt := 18) (by decide) ?_
      refine r_iconst hx hb dX1_drop_18 ?_
      refine wc_i (va_runV (As := [.int (iI 1), .int (iI 1)]) (rest := []) ⟨hx, hb, hml, hown, hts⟩ (n_fails1 l dC dI ad ca er gl gz go gw ((n : Int)) ((r : Int) + 1) 1) (cwV 2 hts (gV wlX1_33 wo_X1_fails wz_X1_fails wi_2 wcX1_fails) rfl rfl rfl (by decide +kernel) ⟨Nat.le_of_ble_eq_true rfl, Nat.le_of_ble_eq_true rfl⟩) (PX_V (q0 := 0) (ci := 1) hP hK hD rfl rfl) rfl rfl hl.1 rfl (lv_room (Nat.le_of_ble_eq_true rfl)) dX1_drop_19 ⟨Nat.le_of_ble_eq_true rfl, Nat.le_of_ble_eq_true rfl⟩) hS (by rw [hAe]; exact fun q h => inW_same (by rfl) h) (fun r9 u9 H locs h8 hP hS hk9 => ?_)
      have hP : va_P (dC, dI) vwCl (wM ad ca 1 gl gz go gw ((n : Int)) ((r : Int) + 1)) H := hP
      have hD : va_D A (wM ad ca 1 gl gz go gw ((n : Int)) ((r : Int) + 1)) := wD_same hD rfl
      subst h8
      refine r_if_eq hx hb dX1_drop_22 (tgt := 26) (by decide) (by omega) (fun hk9 => ?_) (fun hk9 => ?_)
      · exact absurd hk9 (by decide)
      · subst hAe
        refine W.widen (k := 0) (n := 0) (by decide) (by decide) ?_
        exact W.vret hx hb hr (fun t ht hW => ⟨⟨(1, gl, gz, go, gw, (n : Int), (r : Int) + 1), rfl, Or.inr ⟨by omega, rfl, ⟨hT, rfl, rfl⟩⟩, by subst ht; exact hP⟩, hS.F ht⟩) hS.2.2 dX1_drop_25
set_option maxHeartbeats 4000000 in
set_option maxRecDepth 100000 in
theorem n_dump (l : Launch) (dC : Nat → ClassId) (dI : Nat → Nat → Nat) (ad : Nat → Nat) (ca : Nat → ClassId) (er : Int) (gl gz go gw : Nat → Int) (n r : Nat) (L S : Nat → Nat) (lo : Nat → Bool) (hok : okS n L S r) (hT : tM n L S lo gl gz go) (v b : Int) (hv : iR v) (hb0 : iR b) : Met l yX1_dump wsX1_dump { frames := 1, cells := 0, slots := 0, locals := 23 } (PX (dC, dI) vwCl (yM ca) (wM ad ca er gl gz go gw ((n : Int)) ((r : Int) + 1)) [.ref (ad 0), .int (iI v), .int (iI b)]) (va_Qi (fun (y : Int32) (u : MU) => ((0 ≤ v ∧ v ≤ 9 ∧ 1 ≤ b ∧ b ≤ 500) ∧ (n < 300 ∧ (sm S n : Int) + b ≤ 64 * (r : Int)) ∧ u.1 = 0 ∧ y = iI (n : Int) ∧ MS (n + 1) (uN L n v.toNat) (uN S n b.toNat) r lo u) ∨ (¬ (0 ≤ v ∧ v ≤ 9 ∧ 1 ≤ b ∧ b ≤ 500) ∧ u.1 = 1 ∧ MS n L S r lo u) ∨ ((0 ≤ v ∧ v ≤ 9 ∧ 1 ≤ b ∧ b ≤ 500) ∧ ¬ (n < 300 ∧ (sm S n : Int) + b ≤ 64 * (r : Int)) ∧ u.1 = 2 ∧ MS n L S r lo u)) (fun u t => va_P (dC, dI) vwCl (wMu ad ca u) t.heap) (inW (wM ad ca er gl gz go gw ((n : Int)) ((r : Int) + 1)))) 0 0 (inW (wM ad ca er gl gz go gw ((n : Int)) ((r : Int) + 1))) := by
  refine Met.ofW (cc := cX1_dump) (maxL := 3) (ret := (some .int)) (by decide) rfl ?_
  intro p e s m args below meth c s₁ B hml hv
  obtain ⟨rfl, hP, hK, hD0⟩ := hv
  have hx := B.exec
  have hb := B.bytes
  have hr := B.returns
  have hts := atoms_spec (ws := wsX1_dump) B.pre
  have hown : s.vm.findClass RX1 = some m.cls := findClass_of_methodNamed B.named
  have hlocks := B.notSynchronized
  have hw := fun w h => hts w (List.mem_cons_of_mem _ h)
  have hinTX1 : ∀ w ∈ u_ws RX1 TX1 7, w ∈ wsX1_dump := wA_u wuX1
  have fl30 := hw _ wfX1_30
  have fl23 := hw _ wfX1_23
  have fl7 := hw _ wfX1_7
  have fl13 := hw _ wfX1_13
  have hD := wD_own hD0
  obtain ⟨A, hAe⟩ : ∃ A, A = inW (wM ad ca er gl gz go gw ((n : Int)) ((r : Int) + 1)) := ⟨_, rfl⟩
  rw [← hAe] at hD
  obtain ⟨H, hH⟩ : ∃ H, H = s.heap := ⟨_, rfl⟩
  obtain ⟨locs, hlc⟩ : ∃ L : List Loc, L = [] := ⟨_, rfl⟩
  have hS : va_S A s.heap H locs := by rw [hH, hlc]; exact va_S.rf
  rw [← hH] at hP ⊢
  rw [← hlc]
  have hl := lv_entry ([.ref (ad 0), .int (iI v), .int (iI b)]) (n := 3) (Nat.le_of_ble_eq_true rfl)
  rw [lg_entry_eq]
  generalize (lg_sl ([.ref (ad 0), .int (iI v), .int (iI b)]) ++ List.replicate (3 - (lg_sl ([.ref (ad 0), .int (iI v), .int (iI b)])).length) Slot.unset).toArray = ls at hl ⊢
  have hl : lv_has ls 3 [(0, .ref (ad 0)), (1, .int (iI v)), (2, .int (iI b))] := hl
  obtain ⟨ok1, ok2, ok3, ok4, ok5⟩ := id hok
  refine lv_aload_n hx hb dX1_dump_0 rfl (lv_at hl 0 rfl) ?_
  refine lv_iload_n hx hb dX1_dump_1 rfl (lv_at hl 1 rfl) ?_
  refine r_if_lt hx hb dX1_dump_2 (tgt := 23) (by decide) (by omega) (fun h1t => ?_) (fun h1f => ?_)
  · refine r_iconst hx hb dX1_dump_23 ?_
    refine lv_goto hx hb dX1_dump_24 (tgt := 28) (by decide) ?_
    refine r_iconst hx hb dX1_dump_28 ?_
    refine wc_i (va_runV (As := [.int (iI 1), .int (iI 1)]) (rest := []) ⟨hx, hb, hml, hown, hts⟩ (n_fails1 l dC dI ad ca er gl gz go gw ((n : Int)) ((r : Int) + 1) 1) (cwV 2 hts (gV wlX1_33 wo_X1_fails wz_X1_fails wi_2 wcX1_fails) rfl rfl rfl (by decide +kernel) ⟨Nat.le_of_ble_eq_true rfl, Nat.le_of_ble_eq_true rfl⟩) (PX_V (q0 := 0) (ci := 1) hP hK hD rfl rfl) rfl rfl hl.1 rfl (lv_room (Nat.le_of_ble_eq_true rfl)) dX1_dump_29 ⟨Nat.le_of_ble_eq_true rfl, Nat.le_of_ble_eq_true rfl⟩) hS (by rw [hAe]; exact fun q h => inW_same (by rfl) h) (fun r9 u9 H locs h8 hP hS hk9 => ?_)
    have hP : va_P (dC, dI) vwCl (wM ad ca 1 gl gz go gw ((n : Int)) ((r : Int) + 1)) H := hP
    have hD : va_D A (wM ad ca 1 gl gz go gw ((n : Int)) ((r : Int) + 1)) := wD_same hD rfl
    subst h8
    refine r_if_eq hx hb dX1_dump_32 (tgt := 37) (by decide) (by omega) (fun hk9 => ?_) (fun hk9 => ?_)
    · exact absurd hk9 (by decide)
    · refine r_iconst hx hb dX1_dump_35 ?_
      subst hAe
      refine W.widen (k := 0) (n := 0) (by decide) (by decide) ?_
      exact W.iret (v := iI 0) hx hb hr (fun t ht hW => ⟨⟨_, (1, gl, gz, go, gw, (n : Int), (r : Int) + 1), rfl, Or.inr (Or.inl ⟨by omega, rfl, ⟨hT, rfl, rfl⟩⟩), by subst ht; exact hP⟩, hS.F ht⟩) hS.2.2 dX1_dump_36
  · refine lv_iload_n hx hb dX1_dump_5 rfl (lv_at hl 1 rfl) ?_
    refine r_bipush hx hb dX1_dump_6 (by decide +kernel) ?_
    refine r_icmp_gt hx hb dX1_dump_8 (tgt := 23) (by decide) (by omega) (by omega) (fun h2t => ?_) (fun h2f => ?_)
    · refine r_iconst hx hb dX1_dump_23 ?_
      refine lv_goto hx hb dX1_dump_24 (tgt := 28) (by decide) ?_
      refine r_iconst hx hb dX1_dump_28 ?_
      refine wc_i (va_runV (As := [.int (iI 1), .int (iI 1)]) (rest := []) ⟨hx, hb, hml, hown, hts⟩ (n_fails1 l dC dI ad ca er gl gz go gw ((n : Int)) ((r : Int) + 1) 1) (cwV 2 hts (gV wlX1_33 wo_X1_fails wz_X1_fails wi_2 wcX1_fails) rfl rfl rfl (by decide +kernel) ⟨Nat.le_of_ble_eq_true rfl, Nat.le_of_ble_eq_true rfl⟩) (PX_V (q0 := 0) (ci := 1) hP hK hD rfl rfl) rfl rfl hl.1 rfl (lv_room (Nat.le_of_ble_eq_true rfl)) dX1_dump_29 ⟨Nat.le_of_ble_eq_true rfl, Nat.le_of_ble_eq_true rfl⟩) hS (by rw [hAe]; exact fun q h => inW_same (by rfl) h) (fun r9 u9 H locs h8 hP hS hk9 => ?_)
      have hP : va_P (dC, dI) vwCl (wM ad ca 1 gl gz go gw ((n : Int)) ((r : Int) + 1)) H := hP
      have hD : va_D A (wM ad ca 1 gl gz go gw ((n : Int)) ((r : Int) + 1)) := wD_same hD rfl
      subst h8
      refine r_if_eq hx hb dX1_dump_32 (tgt := 37) (by decide) (by omega) (fun hk9 => ?_) (fun hk9 => ?_)
      · exact absurd hk9 (by decide)
      · refine r_iconst hx hb dX1_dump_35 ?_
        subst hAe
        refine W.widen (k := 0) (n := 0) (by decide) (by decide) ?_
        exact W.iret (v := iI 0) hx hb hr (fun t ht hW => ⟨⟨_, (1, gl, gz, go, gw, (n : Int), (r : Int) + 1), rfl, Or.inr (Or.inl ⟨by omega, rfl, ⟨hT, rfl, rfl⟩⟩), by subst ht; exact hP⟩, hS.F ht⟩) hS.2.2 dX1_dump_36
    · refine lv_iload_n hx hb dX1_dump_11 rfl (lv_at hl 2 rfl) ?_
      refine r_iconst hx hb dX1_dump_12 ?_
      refine r_icmp_lt hx hb dX1_dump_13 (tgt := 23) (by decide) (by omega) (by omega) (fun h3t => ?_) (fun h3f => ?_)
      · refine r_iconst hx hb dX1_dump_23 ?_
        refine lv_goto hx hb dX1_dump_24 (tgt := 28) (by decide) ?_
        refine r_iconst hx hb dX1_dump_28 ?_
        refine wc_i (va_runV (As := [.int (iI 1), .int (iI 1)]) (rest := []) ⟨hx, hb, hml, hown, hts⟩ (n_fails1 l dC dI ad ca er gl gz go gw ((n : Int)) ((r : Int) + 1) 1) (cwV 2 hts (gV wlX1_33 wo_X1_fails wz_X1_fails wi_2 wcX1_fails) rfl rfl rfl (by decide +kernel) ⟨Nat.le_of_ble_eq_true rfl, Nat.le_of_ble_eq_true rfl⟩) (PX_V (q0 := 0) (ci := 1) hP hK hD rfl rfl) rfl rfl hl.1 rfl (lv_room (Nat.le_of_ble_eq_true rfl)) dX1_dump_29 ⟨Nat.le_of_ble_eq_true rfl, Nat.le_of_ble_eq_true rfl⟩) hS (by rw [hAe]; exact fun q h => inW_same (by rfl) h) (fun r9 u9 H locs h8 hP hS hk9 => ?_)
        have hP : va_P (dC, dI) vwCl (wM ad ca 1 gl gz go gw ((n : Int)) ((r : Int) + 1)) H := hP
        have hD : va_D A (wM ad ca 1 gl gz go gw ((n : Int)) ((r : Int) + 1)) := wD_same hD rfl
        subst h8
        refine r_if_eq hx hb dX1_dump_32 (tgt := 37) (by decide) (by omega) (fun hk9 => ?_) (fun hk9 => ?_)
        · exact absurd hk9 (by decide)
        · refine r_iconst hx hb dX1_dump_35 ?_
          subst hAe
          refine W.widen (k := 0) (n := 0) (by decide) (by decide) ?_
          exact W.iret (v := iI 0) hx hb hr (fun t ht hW => ⟨⟨_, (1, gl, gz, go, gw, (n : Int), (r : Int) + 1), rfl, Or.inr (Or.inl ⟨by omega, rfl, ⟨hT, rfl, rfl⟩⟩), by subst ht; exact hP⟩, hS.F ht⟩) hS.2.2 dX1_dump_36
      · refine lv_iload_n hx hb dX1_dump_16 rfl (lv_at hl 2 rfl) ?_
        refine r_sipush hx hb dX1_dump_17 (by decide +kernel) ?_
        refine r_icmp_le hx hb dX1_dump_20 (tgt := 27) (by decide) (by omega) (by omega) (fun h4t => ?_) (fun h4f => ?_)
        · refine r_iconst hx hb dX1_dump_27 ?_
          refine r_iconst hx hb dX1_dump_28 ?_
          refine wc_i (va_runV (As := [.int (iI 0), .int (iI 1)]) (rest := []) ⟨hx, hb, hml, hown, hts⟩ (n_fails0 l dC dI ad ca er gl gz go gw ((n : Int)) ((r : Int) + 1) 1) (cwV 2 hts (gV wlX1_33 wo_X1_fails wz_X1_fails wi_2 wcX1_fails) rfl rfl rfl (by decide +kernel) ⟨Nat.le_of_ble_eq_true rfl, Nat.le_of_ble_eq_true rfl⟩) (PX_V (q0 := 0) (ci := 1) hP hK hD rfl rfl) rfl rfl hl.1 rfl (lv_room (Nat.le_of_ble_eq_true rfl)) dX1_dump_29 ⟨Nat.le_of_ble_eq_true rfl, Nat.le_of_ble_eq_true rfl⟩) hS (by rw [hAe]; exact fun q h => inW_same (by rfl) h) (fun r9 u9 H locs h8 hP hS hk9 => ?_)
          have hP : va_P (dC, dI) vwCl (wM ad ca 0 gl gz go gw ((n : Int)) ((r : Int) + 1)) H := hP
          have hD : va_D A (wM ad ca 0 gl gz go gw ((n : Int)) ((r : Int) + 1)) := wD_same hD rfl
          subst h8
          refine r_if_eq hx hb dX1_dump_32 (tgt := 37) (by decide) (by omega) (fun hk9 => ?_) (fun hk9 => ?_)
          · refine lv_aload_n hx hb dX1_dump_37 rfl (lv_at hl 0 rfl) ?_
            refine lv_aload_n hx hb dX1_dump_38 rfl (lv_at hl 0 rfl) ?_
            refine va_get (D := (dC, dI)) (ci := 1) (v := .int (iI ((n : Int)))) (C := RX1) (T := TX1) (N := 7) hx hb hts hinTX1 hown hK hP 0 rfl rfl 5 (by decide) fl30 (fun _ h9 => h9) rfl dX1_dump_39 ?_
            refine r_sipush hx hb dX1_dump_42 (by decide +kernel) ?_
            refine r_icmp_eq hx hb dX1_dump_45 (tgt := 70) (by decide) (by omega) (by omega) (fun heq => ?_) (fun hne => ?_)
            · refine r_iconst hx hb dX1_dump_70 ?_
              refine lv_goto hx hb dX1_dump_71 (tgt := 75) (by decide) ?_
              refine r_iconst hx hb dX1_dump_75 ?_
              refine wc_i (va_runV (As := [.int (iI 1), .int (iI 2)]) (rest := []) ⟨hx, hb, hml, hown, hts⟩ (n_fails1 l dC dI ad ca 0 gl gz go gw ((n : Int)) ((r : Int) + 1) 2) (cwV 2 hts (gV wlX1_33 wo_X1_fails wz_X1_fails wi_2 wcX1_fails) rfl rfl rfl (by decide +kernel) ⟨Nat.le_of_ble_eq_true rfl, Nat.le_of_ble_eq_true rfl⟩) (PX_V (q0 := 0) (ci := 1) hP hK hD rfl rfl) rfl rfl hl.1 rfl (lv_room (Nat.le_of_ble_eq_true rfl)) dX1_dump_76 ⟨Nat.le_of_ble_eq_true rfl, Nat.le_of_ble_eq_true rfl⟩) hS (by rw [hAe]; exact fun q h => inW_same (by rfl) h) (fun r9 u9 H locs h8 hP hS hk9 => ?_)
              have hP : va_P (dC, dI) vwCl (wM ad ca 2 gl gz go gw ((n : Int)) ((r : Int) + 1)) H := hP
              have hD : va_D A (wM ad ca 2 gl gz go gw ((n : Int)) ((r : Int) + 1)) := wD_same hD rfl
              subst h8
              refine r_if_eq hx hb dX1_dump_79 (tgt := 84) (by decide) (by omega) (fun hk9 => ?_) (fun hk9 => ?_)
              · exact absurd hk9 (by decide)
              · refine r_iconst hx hb dX1_dump_82 ?_
                subst hAe
                refine W.widen (k := 0) (n := 0) (by decide) (by decide) ?_
                exact W.iret (v := iI 0) hx hb hr (fun t ht hW => ⟨⟨_, (2, gl, gz, go, gw, (n : Int), (r : Int) + 1), rfl, Or.inr (Or.inr ⟨by omega, by omega, rfl, ⟨hT, rfl, rfl⟩⟩), by subst ht; exact hP⟩, hS.F ht⟩) hS.2.2 dX1_dump_83
            · refine lv_aload_n hx hb dX1_dump_48 rfl (lv_at hl 0 rfl) ?_
              refine lv_aload_n hx hb dX1_dump_49 rfl (lv_at hl 0 rfl) ?_
              refine va_get (D := (dC, dI)) (ci := 1) (v := .int (iI ((n : Int)))) (C := RX1) (T := TX1) (N := 7) hx hb hts hinTX1 hown hK hP 0 rfl rfl 5 (by decide) fl30 (fun _ h9 => h9) rfl dX1_dump_50 ?_
              refine ro_z (z := (sm S n : Int)) (va_runV (As := [.int (iI ((n : Int)))]) (rest := [.ref (ad 0)]) ⟨hx, hb, hml, hown, hts⟩ (n_before l dC dI ad ca 0 gl gz go gw n r L S lo hok hT n (Nat.le_refl n)) (cwV 1 hts (gV wlX1_37 wo_X1_before wz_X1_before wi_2 wcX1_before) rfl rfl rfl (by decide +kernel) ⟨Nat.le_of_ble_eq_true rfl, Nat.le_of_ble_eq_true rfl⟩) (PX_V (q0 := 0) (ci := 1) hP hK hD rfl rfl) rfl rfl hl.1 rfl (lv_room (Nat.le_of_ble_eq_true rfl)) dX1_dump_53 ⟨Nat.le_of_ble_eq_true rfl, Nat.le_of_ble_eq_true rfl⟩) hS hP (fun H locs hP hS => ?_)
              refine lv_iload_n hx hb dX1_dump_56 rfl (lv_at hl 2 rfl) ?_
              refine r_iadd hx hb dX1_dump_57 ?_
              refine r_bipush hx hb dX1_dump_58 (by decide +kernel) ?_
              refine lv_aload_n hx hb dX1_dump_60 rfl (lv_at hl 0 rfl) ?_
              refine va_get (D := (dC, dI)) (ci := 1) (v := .int (iI ((r : Int) + 1))) (C := RX1) (T := TX1) (N := 7) hx hb hts hinTX1 hown hK hP 0 rfl rfl 6 (by decide) fl23 (fun _ h9 => h9) rfl dX1_dump_61 ?_
              refine r_iconst hx hb dX1_dump_64 ?_
              refine r_isub hx hb dX1_dump_65 ?_
              refine r_topi (b := (r : Int)) (by omega) ?_
              refine r_imul hx hb dX1_dump_66 ?_
              refine r_icmp_le hx hb dX1_dump_67 (tgt := 74) (by decide) (by omega) (by omega) (fun hin => ?_) (fun hout => ?_)
              · refine r_iconst hx hb dX1_dump_74 ?_
                refine r_iconst hx hb dX1_dump_75 ?_
                refine wc_i (va_runV (As := [.int (iI 0), .int (iI 2)]) (rest := []) ⟨hx, hb, hml, hown, hts⟩ (n_fails0 l dC dI ad ca 0 gl gz go gw ((n : Int)) ((r : Int) + 1) 2) (cwV 2 hts (gV wlX1_33 wo_X1_fails wz_X1_fails wi_2 wcX1_fails) rfl rfl rfl (by decide +kernel) ⟨Nat.le_of_ble_eq_true rfl, Nat.le_of_ble_eq_true rfl⟩) (PX_V (q0 := 0) (ci := 1) hP hK hD rfl rfl) rfl rfl hl.1 rfl (lv_room (Nat.le_of_ble_eq_true rfl)) dX1_dump_76 ⟨Nat.le_of_ble_eq_true rfl, Nat.le_of_ble_eq_true rfl⟩) hS (by rw [hAe]; exact fun q h => inW_same (by rfl) h) (fun r9 u9 H locs h8 hP hS hk9 => ?_)
                have hP : va_P (dC, dI) vwCl (wM ad ca 0 gl gz go gw ((n : Int)) ((r : Int) + 1)) H := hP
                have hD : va_D A (wM ad ca 0 gl gz go gw ((n : Int)) ((r : Int) + 1)) := wD_same hD rfl
                subst h8
                refine r_if_eq hx hb dX1_dump_79 (tgt := 84) (by decide) (by omega) (fun hk9 => ?_) (fun hk9 => ?_)
                · have ev : v = (v.toNat : Int) := by omega
                  have eb : b = (b.toNat : Int) := by omega
                  have en : ((n : Int)).toNat = n := by omega
                  refine lv_aload_n hx hb dX1_dump_84 rfl (lv_at hl 0 rfl) ?_
                  refine va_get (D := (dC, dI)) (ci := 1) (v := .ref (ad 1)) (C := RX1) (T := TX1) (N := 7) hx hb hts hinTX1 hown hK hP 0 rfl rfl 1 (by decide) fl7 (fun _ h9 => h9) rfl dX1_dump_85 ?_
                  refine lv_aload_n hx hb dX1_dump_88 rfl (lv_at hl 0 rfl) ?_
                  refine va_get (D := (dC, dI)) (ci := 1) (v := .int (iI ((n : Int)))) (C := RX1) (T := TX1) (N := 7) hx hb hts hinTX1 hown hK hP 0 rfl rfl 5 (by decide) fl30 (fun _ h9 => h9) rfl dX1_dump_89 ?_
                  refine lv_iload_n hx hb dX1_dump_92 rfl (lv_at hl 1 rfl) ?_
                  refine r_iast hx hb hK hP hD hS 1 0 rfl rfl (by omega) (by omega) (by decide) dX1_dump_93 (fun H locs hP hD hS => ?_)
                  have hP : va_P (dC, dI) vwCl (wM ad ca 0 (uZ gl ((n : Int)).toNat v) gz go gw ((n : Int)) ((r : Int) + 1)) H := hP
                  have hD : va_D A (wM ad ca 0 (uZ gl ((n : Int)).toNat v) gz go gw ((n : Int)) ((r : Int) + 1)) := hD
                  refine lv_aload_n hx hb dX1_dump_94 rfl (lv_at hl 0 rfl) ?_
                  refine va_get (D := (dC, dI)) (ci := 1) (v := .ref (ad 2)) (C := RX1) (T := TX1) (N := 7) hx hb hts hinTX1 hown hK hP 0 rfl rfl 2 (by decide) fl13 (fun _ h9 => h9) rfl dX1_dump_95 ?_
                  refine lv_aload_n hx hb dX1_dump_98 rfl (lv_at hl 0 rfl) ?_
                  refine lv_dup hx hb dX1_dump_99 rfl ?_
                  refine va_get (D := (dC, dI)) (ci := 1) (v := .int (iI ((n : Int)))) (C := RX1) (T := TX1) (N := 7) hx hb hts hinTX1 hown hK hP 0 rfl rfl 5 (by decide) fl30 (fun _ h9 => h9) rfl dX1_dump_100 ?_
                  refine lv_dup_x1 hx hb dX1_dump_103 rfl rfl ?_
                  refine r_iconst hx hb dX1_dump_104 ?_
                  refine r_iadd hx hb dX1_dump_105 ?_
                  refine va_put (D := (dC, dI)) (ci := 1) (v := .int (iI (((n : Int)) + 1))) (ty := .int) (C := RX1) (T := TX1) (N := 7) hx hb hts hinTX1 tyX1 tyX1_ok nmX1 hown hK hP hD hS 0 rfl rfl 5 (by decide) fl30 (fun _ h9 => h9) rfl (by decide +kernel) rfl rfl (Nat.le_of_ble_eq_true rfl) dX1_dump_106 (fun H locs hP hD hS => ?_)
                  have hP : va_P (dC, dI) vwCl (wM ad ca 0 (uZ gl ((n : Int)).toNat v) gz go gw (((n : Int)) + 1) ((r : Int) + 1)) H := hP
                  have hD : va_D A (wM ad ca 0 (uZ gl ((n : Int)).toNat v) gz go gw (((n : Int)) + 1) ((r : Int) + 1)) := hD
                  refine lv_iload_n hx hb dX1_dump_109 rfl (lv_at hl 2 rfl) ?_
                  refine r_iast hx hb hK hP hD hS 2 1 rfl rfl (by omega) (by omega) (by decide) dX1_dump_110 (fun H locs hP hD hS => ?_)
                  have hP : va_P (dC, dI) vwCl (wM ad ca 0 (uZ gl ((n : Int)).toNat v) (uZ gz ((n : Int)).toNat b) go gw (((n : Int)) + 1) ((r : Int) + 1)) H := hP
                  have hD : va_D A (wM ad ca 0 (uZ gl ((n : Int)).toNat v) (uZ gz ((n : Int)).toNat b) go gw (((n : Int)) + 1) ((r : Int) + 1)) := hD
                  refine lv_aload_n hx hb dX1_dump_111 rfl (lv_at hl 0 rfl) ?_
                  refine va_get (D := (dC, dI)) (ci := 1) (v := .int (iI (((n : Int)) + 1))) (C := RX1) (T := TX1) (N := 7) hx hb hts hinTX1 hown hK hP 0 rfl rfl 5 (by decide) fl30 (fun _ h9 => h9) rfl dX1_dump_112 ?_
                  refine r_iconst hx hb dX1_dump_115 ?_
                  refine r_isub hx hb dX1_dump_116 ?_
                  have hTn : tM (n + 1) (uN L n v.toNat) (uN S n b.toNat) lo (uZ gl ((n : Int)).toNat v) (uZ gz ((n : Int)).toNat b) go := by
                    have h := tM_push (lv := v.toNat) (b := b.toNat) hT
                    rw [← ev, ← eb] at h
                    exact h
                  refine r_topi (b := (n : Int)) (by omega) ?_
                  subst hAe
                  refine W.widen (k := 0) (n := 0) (by decide) (by decide) ?_
                  exact W.iret (v := iI ((n : Int))) hx hb hr (fun t ht hW => ⟨⟨_, (0, uZ gl ((n : Int)).toNat v, uZ gz ((n : Int)).toNat b, go, gw, ((n : Int)) + 1, (r : Int) + 1), rfl, Or.inl ⟨by omega, by omega, rfl, rfl, hTn, rfl, rfl⟩, by subst ht; exact hP⟩, hS.F ht⟩) hS.2.2 dX1_dump_117
                · exact absurd hk9 (by decide)
              · refine r_iconst hx hb dX1_dump_70 ?_
                refine lv_goto hx hb dX1_dump_71 (tgt := 75) (by decide) ?_
                refine r_iconst hx hb dX1_dump_75 ?_
                refine wc_i (va_runV (As := [.int (iI 1), .int (iI 2)]) (rest := []) ⟨hx, hb, hml, hown, hts⟩ (n_fails1 l dC dI ad ca 0 gl gz go gw ((n : Int)) ((r : Int) + 1) 2) (cwV 2 hts (gV wlX1_33 wo_X1_fails wz_X1_fails wi_2 wcX1_fails) rfl rfl rfl (by decide +kernel) ⟨Nat.le_of_ble_eq_true rfl, Nat.le_of_ble_eq_true rfl⟩) (PX_V (q0 := 0) (ci := 1) hP hK hD rfl rfl) rfl rfl hl.1 rfl (lv_room (Nat.le_of_ble_eq_true rfl)) dX1_dump_76 ⟨Nat.le_of_ble_eq_true rfl, Nat.le_of_ble_eq_true rfl⟩) hS (by rw [hAe]; exact fun q h => inW_same (by rfl) h) (fun r9 u9 H locs h8 hP hS hk9 => ?_)
                have hP : va_P (dC, dI) vwCl (wM ad ca 2 gl gz go gw ((n : Int)) ((r : Int) + 1)) H := hP
                have hD : va_D A (wM ad ca 2 gl gz go gw ((n : Int)) ((r : Int) + 1)) := wD_same hD rfl
                subst h8
                refine r_if_eq hx hb dX1_dump_79 (tgt := 84) (by decide) (by omega) (fun hk9 => ?_) (fun hk9 => ?_)
                · exact absurd hk9 (by decide)
                · refine r_iconst hx hb dX1_dump_82 ?_
                  subst hAe
                  refine W.widen (k := 0) (n := 0) (by decide) (by decide) ?_
                  exact W.iret (v := iI 0) hx hb hr (fun t ht hW => ⟨⟨_, (2, gl, gz, go, gw, (n : Int), (r : Int) + 1), rfl, Or.inr (Or.inr ⟨by omega, by omega, rfl, ⟨hT, rfl, rfl⟩⟩), by subst ht; exact hP⟩, hS.F ht⟩) hS.2.2 dX1_dump_83
          · exact absurd hk9 (by decide)
        · refine r_iconst hx hb dX1_dump_23 ?_
          refine lv_goto hx hb dX1_dump_24 (tgt := 28) (by decide) ?_
          refine r_iconst hx hb dX1_dump_28 ?_
          refine wc_i (va_runV (As := [.int (iI 1), .int (iI 1)]) (rest := []) ⟨hx, hb, hml, hown, hts⟩ (n_fails1 l dC dI ad ca er gl gz go gw ((n : Int)) ((r : Int) + 1) 1) (cwV 2 hts (gV wlX1_33 wo_X1_fails wz_X1_fails wi_2 wcX1_fails) rfl rfl rfl (by decide +kernel) ⟨Nat.le_of_ble_eq_true rfl, Nat.le_of_ble_eq_true rfl⟩) (PX_V (q0 := 0) (ci := 1) hP hK hD rfl rfl) rfl rfl hl.1 rfl (lv_room (Nat.le_of_ble_eq_true rfl)) dX1_dump_29 ⟨Nat.le_of_ble_eq_true rfl, Nat.le_of_ble_eq_true rfl⟩) hS (by rw [hAe]; exact fun q h => inW_same (by rfl) h) (fun r9 u9 H locs h8 hP hS hk9 => ?_)
          have hP : va_P (dC, dI) vwCl (wM ad ca 1 gl gz go gw ((n : Int)) ((r : Int) + 1)) H := hP
          have hD : va_D A (wM ad ca 1 gl gz go gw ((n : Int)) ((r : Int) + 1)) := wD_same hD rfl
          subst h8
          refine r_if_eq hx hb dX1_dump_32 (tgt := 37) (by decide) (by omega) (fun hk9 => ?_) (fun hk9 => ?_)
          · exact absurd hk9 (by decide)
          · refine r_iconst hx hb dX1_dump_35 ?_
            subst hAe
            refine W.widen (k := 0) (n := 0) (by decide) (by decide) ?_
            exact W.iret (v := iI 0) hx hb hr (fun t ht hW => ⟨⟨_, (1, gl, gz, go, gw, (n : Int), (r : Int) + 1), rfl, Or.inr (Or.inl ⟨by omega, rfl, ⟨hT, rfl, rfl⟩⟩), by subst ht; exact hP⟩, hS.F ht⟩) hS.2.2 dX1_dump_36
set_option maxHeartbeats 4000000 in
set_option maxRecDepth 100000 in
theorem n_chain (l : Launch) (dC : Nat → ClassId) (dI : Nat → Nat → Nat) (ad : Nat → Nat) (ca : Nat → ClassId) (er : Int) (gl gz go gw : Nat → Int) (n r : Nat) (L S : Nat → Nat) (lo : Nat → Bool) (hok : okS n L S r) (hT : tM n L S lo gl gz go) (q k : Int) (hq : iR q) (hk0 : iR k) : Met l yX1_chain wsX1_chain { frames := 1, cells := 0, slots := 0, locals := 22 } (PX (dC, dI) vwCl (yM ca) (wM ad ca er gl gz go gw ((n : Int)) ((r : Int) + 1)) [.ref (ad 0), .int (iI q), .int (iI k)]) (va_Qi (fun (y : Int32) (u : MU) => MS n L S r lo u ∧ (((0 ≤ q ∧ q < (n : Int)) ∧ 0 ≤ k ∧ u.1 = 0 ∧ y = iI ((ch L (q.toNat + 1) k.toNat : Int) - 1)) ∨ (¬ (0 ≤ q ∧ q < (n : Int)) ∧ u.1 = 1) ∨ ((0 ≤ q ∧ q < (n : Int)) ∧ ¬ 0 ≤ k ∧ u.1 = 2))) (fun u t => va_P (dC, dI) vwCl (wMu ad ca u) t.heap) (inW (wM ad ca er gl gz go gw ((n : Int)) ((r : Int) + 1)))) 0 0 (inW (wM ad ca er gl gz go gw ((n : Int)) ((r : Int) + 1))) := by
  refine Met.ofW (cc := cX1_chain) (maxL := 5) (ret := (some .int)) (by decide) rfl ?_
  intro p e s m args below meth c s₁ B hml hv
  obtain ⟨rfl, hP, hK, hD0⟩ := hv
  have hx := B.exec
  have hb := B.bytes
  have hr := B.returns
  have hts := atoms_spec (ws := wsX1_chain) B.pre
  have hown : s.vm.findClass RX1 = some m.cls := findClass_of_methodNamed B.named
  have hlocks := B.notSynchronized
  have hw := fun w h => hts w (List.mem_cons_of_mem _ h)
  have hinTX1 : ∀ w ∈ u_ws RX1 TX1 7, w ∈ wsX1_chain := wA_u wuX1
  have hD := wD_own hD0
  obtain ⟨A, hAe⟩ : ∃ A, A = inW (wM ad ca er gl gz go gw ((n : Int)) ((r : Int) + 1)) := ⟨_, rfl⟩
  rw [← hAe] at hD
  obtain ⟨H, hH⟩ : ∃ H, H = s.heap := ⟨_, rfl⟩
  obtain ⟨locs, hlc⟩ : ∃ L : List Loc, L = [] := ⟨_, rfl⟩
  have hS : va_S A s.heap H locs := by rw [hH, hlc]; exact va_S.rf
  rw [← hH] at hP ⊢
  rw [← hlc]
  have hl := lv_entry ([.ref (ad 0), .int (iI q), .int (iI k)]) (n := 5) (Nat.le_of_ble_eq_true rfl)
  rw [lg_entry_eq]
  generalize (lg_sl ([.ref (ad 0), .int (iI q), .int (iI k)]) ++ List.replicate (5 - (lg_sl ([.ref (ad 0), .int (iI q), .int (iI k)])).length) Slot.unset).toArray = ls at hl ⊢
  have hl : lv_has ls 5 [(0, .ref (ad 0)), (1, .int (iI q)), (2, .int (iI k))] := hl
  obtain ⟨ok1, ok2, ok3, ok4, ok5⟩ := id hok
  refine lv_aload_n hx hb dX1_chain_0 rfl (lv_at hl 0 rfl) ?_
  refine lv_aload_n hx hb dX1_chain_1 rfl (lv_at hl 0 rfl) ?_
  refine lv_iload_n hx hb dX1_chain_2 rfl (lv_at hl 1 rfl) ?_
  refine ro_z (z := if 0 ≤ q ∧ q < (n : Int) then 0 else 1) (va_runV (As := [.int (iI q)]) (rest := [.ref (ad 0)]) ⟨hx, hb, hml, hown, hts⟩ (n_none l dC dI ad ca er gl gz go gw n ((r : Int) + 1) q hq ok1) (cwV 1 hts (gV wlX1_41 wo_X1_none wz_X1_none wi_2 wcX1_none) rfl rfl rfl (by decide +kernel) ⟨Nat.le_of_ble_eq_true rfl, Nat.le_of_ble_eq_true rfl⟩) (PX_V (q0 := 0) (ci := 1) hP hK hD rfl rfl) rfl rfl hl.1 rfl (lv_room (Nat.le_of_ble_eq_true rfl)) dX1_chain_3 ⟨Nat.le_of_ble_eq_true rfl, Nat.le_of_ble_eq_true rfl⟩) hS hP (fun H locs hP hS => ?_)
  by_cases hc : 0 ≤ q ∧ q < (n : Int)
  · refine r_topi (b := 0) (if_pos hc) ?_
    refine r_iconst hx hb dX1_chain_6 ?_
    refine wc_i (va_runV (As := [.int (iI 0), .int (iI 1)]) (rest := []) ⟨hx, hb, hml, hown, hts⟩ (n_fails0 l dC dI ad ca er gl gz go gw ((n : Int)) ((r : Int) + 1) 1) (cwV 2 hts (gV wlX1_33 wo_X1_fails wz_X1_fails wi_2 wcX1_fails) rfl rfl rfl (by decide +kernel) ⟨Nat.le_of_ble_eq_true rfl, Nat.le_of_ble_eq_true rfl⟩) (PX_V (q0 := 0) (ci := 1) hP hK hD rfl rfl) rfl rfl hl.1 rfl (lv_room (Nat.le_of_ble_eq_true rfl)) dX1_chain_7 ⟨Nat.le_of_ble_eq_true rfl, Nat.le_of_ble_eq_true rfl⟩) hS (by rw [hAe]; exact fun q h => inW_same (by rfl) h) (fun r9 u9 H locs h8 hP hS hk9 => ?_)
    have hP : va_P (dC, dI) vwCl (wM ad ca 0 gl gz go gw ((n : Int)) ((r : Int) + 1)) H := hP
    have hD : va_D A (wM ad ca 0 gl gz go gw ((n : Int)) ((r : Int) + 1)) := wD_same hD rfl
    subst h8
    refine r_if_eq hx hb dX1_chain_10 (tgt := 15) (by decide) (by omega) (fun hk9 => ?_) (fun hk9 => ?_)
    · refine lv_aload_n hx hb dX1_chain_15 rfl (lv_at hl 0 rfl) ?_
      refine lv_iload_n hx hb dX1_chain_16 rfl (lv_at hl 2 rfl) ?_
      refine r_if_ge hx hb dX1_chain_17 (tgt := 24) (by decide) (by omega) (fun hge => ?_) (fun hlt => ?_)
      · refine r_iconst hx hb dX1_chain_24 ?_
        refine r_iconst hx hb dX1_chain_25 ?_
        refine wc_i (va_runV (As := [.int (iI 0), .int (iI 2)]) (rest := []) ⟨hx, hb, hml, hown, hts⟩ (n_fails0 l dC dI ad ca 0 gl gz go gw ((n : Int)) ((r : Int) + 1) 2) (cwV 2 hts (gV wlX1_33 wo_X1_fails wz_X1_fails wi_2 wcX1_fails) rfl rfl rfl (by decide +kernel) ⟨Nat.le_of_ble_eq_true rfl, Nat.le_of_ble_eq_true rfl⟩) (PX_V (q0 := 0) (ci := 1) hP hK hD rfl rfl) rfl rfl hl.1 rfl (lv_room (Nat.le_of_ble_eq_true rfl)) dX1_chain_26 ⟨Nat.le_of_ble_eq_true rfl, Nat.le_of_ble_eq_true rfl⟩) hS (by rw [hAe]; exact fun q h => inW_same (by rfl) h) (fun r9 u9 H locs h8 hP hS hk9 => ?_)
        have hP : va_P (dC, dI) vwCl (wM ad ca 0 gl gz go gw ((n : Int)) ((r : Int) + 1)) H := hP
        have hD : va_D A (wM ad ca 0 gl gz go gw ((n : Int)) ((r : Int) + 1)) := wD_same hD rfl
        subst h8
        refine r_if_eq hx hb dX1_chain_29 (tgt := 34) (by decide) (by omega) (fun hk9 => ?_) (fun hk9 => ?_)
        · have hl : lv_has ls 5 [(0, .ref (ad 0)), (1, .int (iI ((q.toNat : Int)))), (2, .int (iI k))] := by
            rw [Int.toNat_of_nonneg hc.1]
            exact hl
          refine lv_iload_n hx hb dX1_chain_34 rfl (lv_at hl 1 rfl) ?_
          refine lv_istore_n hx hb dX1_chain_35 rfl hl (by decide) rfl (fun ls hl => ?_)
          have hl : lv_has ls 5 [(3, .int (iI ((q.toNat : Int)))), (0, .ref (ad 0)), (1, .int (iI ((q.toNat : Int)))), (2, .int (iI k))] := hl
          refine r_iconst hx hb dX1_chain_36 ?_
          refine lv_istore hx hb dX1_chain_37 hl (by decide) rfl (fun ls hl => ?_)
          have hl : lv_has ls 5 [(4, .int (iI 0)), (3, .int (iI ((q.toNat : Int)))), (0, .ref (ad 0)), (1, .int (iI ((q.toNat : Int)))), (2, .int (iI k))] := hl
          have loop : ∀ (N : Nat) (i : Nat) (p9 : Nat) (ls : Array Slot) (H : Heap) (locs : List Loc), p9 < N → (i ≤ k.toNat) → (p9 = ch L (q.toNat + 1) i) → va_P (dC, dI) vwCl (wM ad ca 0 gl gz go gw ((n : Int)) ((r : Int) + 1)) H → va_D A (wM ad ca 0 gl gz go gw ((n : Int)) ((r : Int) + 1)) → va_S A s.heap H locs → lv_has ls 5 [(4, .int (iI ((i : Int)))), (3, .int (iI ((p9 : Int) - 1))), (0, .ref (ad 0)), (1, .int (iI ((q.toNat : Int)))), (2, .int (iI k))] → W p l e (headSpec wsX1_chain { frames := 1, cells := 0, slots := 0, locals := 22 }).room s m ([.ref (ad 0), .int (iI q), .int (iI k)]).toArray below meth c H locs ((0 + 0) + 0) ((0 + 0) + 0) (MQ below (va_Qi (fun (y : Int32) (u : MU) => MS n L S r lo u ∧ (((0 ≤ q ∧ q < (n : Int)) ∧ 0 ≤ k ∧ u.1 = 0 ∧ y = iI ((ch L (q.toNat + 1) k.toNat : Int) - 1)) ∨ (¬ (0 ≤ q ∧ q < (n : Int)) ∧ u.1 = 1) ∨ ((0 ≤ q ∧ q < (n : Int)) ∧ ¬ 0 ≤ k ∧ u.1 = 2))) (fun u t => va_P (dC, dI) vwCl (wMu ad ca u) t.heap) (inW (wM ad ca er gl gz go gw ((n : Int)) ((r : Int) + 1)))) ([.ref (ad 0), .int (iI q), .int (iI k)]).toArray s 0 0 (inW (wM ad ca er gl gz go gw ((n : Int)) ((r : Int) + 1)))) (F0 m 39 ls []) := by
            intro N
            induction N with
            | zero => intro i p9 ls H locs h; exact absurd h (Nat.not_lt_zero _)
            | succ N ih =>
              intro i p9 ls H locs hN hi hp hP hD hS hl
              refine lv_iload hx hb dX1_chain_39 (lv_at hl 0 rfl) ?_
              refine lv_iload_n hx hb dX1_chain_41 rfl (lv_at hl 4 rfl) ?_
              refine r_icmp_ge hx hb dX1_chain_42 (tgt := 61) (by decide) (by omega) (by omega) (fun hge2 => ?_) (fun hlt2 => ?_)
              · have hik : i = k.toNat := by omega
                subst hik
                refine lv_iload_n hx hb dX1_chain_61 rfl (lv_at hl 1 rfl) ?_
                subst hAe
                refine W.widen (k := 0) (n := 0) (by decide) (by decide) ?_
                exact W.iret (v := iI ((p9 : Int) - 1)) hx hb hr (fun t ht hW => ⟨⟨_, (0, gl, gz, go, gw, (n : Int), (r : Int) + 1), rfl, ⟨⟨hT, rfl, rfl⟩, Or.inl ⟨hc, hge, rfl, by rw [hp]⟩⟩, by subst ht; exact hP⟩, hS.F ht⟩) hS.2.2 dX1_chain_62
              · have hpl := ch_le L (q.toNat + 1) i
                refine lv_iload_n hx hb dX1_chain_45 rfl (lv_at hl 1 rfl) ?_
                refine r_if_lt hx hb dX1_chain_46 (tgt := 61) (by decide) (by omega) (fun heq => ?_) (fun hne => ?_)
                · have hp0 : p9 = 0 := by omega
                  have hz := ch_0 (hp.symm.trans hp0) k.toNat (by omega)
                  refine lv_iload_n hx hb dX1_chain_61 rfl (lv_at hl 1 rfl) ?_
                  subst hAe
                  refine W.widen (k := 0) (n := 0) (by decide) (by decide) ?_
                  exact W.iret (v := iI ((p9 : Int) - 1)) hx hb hr (fun t ht hW => ⟨⟨_, (0, gl, gz, go, gw, (n : Int), (r : Int) + 1), rfl, ⟨⟨hT, rfl, rfl⟩, Or.inl ⟨hc, hge, rfl, by rw [hz, hp0]⟩⟩, by subst ht; exact hP⟩, hS.F ht⟩) hS.2.2 dX1_chain_62
                · obtain ⟨j, hj⟩ : ∃ j, p9 = j + 1 := ⟨p9 - 1, by omega⟩
                  have hbl := bs_le L j
                  refine lv_aload_n hx hb dX1_chain_49 rfl (lv_at hl 2 rfl) ?_
                  refine lv_iload_n hx hb dX1_chain_50 rfl (lv_at hl 1 rfl) ?_
                  refine r_topi (b := (j : Int)) (by omega) ?_
                  refine ro_z (z := (bs L j : Int) - 1) (va_runV (As := [.int (iI ((j : Int)))]) (rest := []) ⟨hx, hb, hml, hown, hts⟩ (n_base l dC dI ad ca 0 gl gz go gw n r L S lo hok hT j (by omega)) (cwV 1 hts (gV wlX1_45 wo_X1_base wz_X1_base wi_2 wcX1_base) rfl rfl rfl (by decide +kernel) ⟨Nat.le_of_ble_eq_true rfl, Nat.le_of_ble_eq_true rfl⟩) (PX_V (q0 := 0) (ci := 1) hP hK hD rfl rfl) rfl rfl hl.1 rfl (lv_room (Nat.le_of_ble_eq_true rfl)) dX1_chain_51 ⟨Nat.le_of_ble_eq_true rfl, Nat.le_of_ble_eq_true rfl⟩) hS hP (fun H locs hP hS => ?_)
                  refine lv_istore_n hx hb dX1_chain_54 rfl hl (by decide) rfl (fun ls hl => ?_)
                  have hl : lv_has ls 5 [(3, .int (iI ((bs L j : Int) - 1))), (4, .int (iI ((i : Int)))), (0, .ref (ad 0)), (1, .int (iI ((q.toNat : Int)))), (2, .int (iI k))] := hl
                  refine r_iinc (k := 1) hx hb dX1_chain_55 hl rfl (by decide) rfl (fun ls hl => ?_)
                  have hl : lv_has ls 5 [(4, .int (iI ((i : Int) + 1))), (3, .int (iI ((bs L j : Int) - 1))), (0, .ref (ad 0)), (1, .int (iI ((q.toNat : Int)))), (2, .int (iI k))] := hl
                  refine lv_goto hx hb dX1_chain_58 (tgt := 39) (by decide) ?_
                  have hl : lv_has ls 5 [(4, .int (iI ((i + 1 : Nat) : Int))), (3, .int (iI ((bs L j : Int) - 1))), (0, .ref (ad 0)), (1, .int (iI (q.toNat : Int))), (2, .int (iI k))] := by
                    rw [show ((i + 1 : Nat) : Int) = (i : Int) + 1 by omega]
                    exact hl
                  exact ih (i + 1) (bs L j) ls H locs (by omega) (by omega) (by show bs L j = nx L (ch L (q.toNat + 1) i); rw [← hp, hj]; rfl) hP hD hS hl
          have hl : lv_has ls 5 [(4, .int (iI ((0 : Nat) : Int))), (3, .int (iI (((q.toNat + 1 : Nat) : Int) - 1))), (0, .ref (ad 0)), (1, .int (iI (q.toNat : Int))), (2, .int (iI k))] := by
            rw [show ((q.toNat + 1 : Nat) : Int) - 1 = (q.toNat : Int) by omega]
            exact hl
          exact loop (q.toNat + 2) 0 (q.toNat + 1) ls H locs (by omega) (Nat.zero_le _) rfl hP hD hS hl
        · exact absurd hk9 (by decide)
      · refine r_iconst hx hb dX1_chain_20 ?_
        refine lv_goto hx hb dX1_chain_21 (tgt := 25) (by decide) ?_
        refine r_iconst hx hb dX1_chain_25 ?_
        refine wc_i (va_runV (As := [.int (iI 1), .int (iI 2)]) (rest := []) ⟨hx, hb, hml, hown, hts⟩ (n_fails1 l dC dI ad ca 0 gl gz go gw ((n : Int)) ((r : Int) + 1) 2) (cwV 2 hts (gV wlX1_33 wo_X1_fails wz_X1_fails wi_2 wcX1_fails) rfl rfl rfl (by decide +kernel) ⟨Nat.le_of_ble_eq_true rfl, Nat.le_of_ble_eq_true rfl⟩) (PX_V (q0 := 0) (ci := 1) hP hK hD rfl rfl) rfl rfl hl.1 rfl (lv_room (Nat.le_of_ble_eq_true rfl)) dX1_chain_26 ⟨Nat.le_of_ble_eq_true rfl, Nat.le_of_ble_eq_true rfl⟩) hS (by rw [hAe]; exact fun q h => inW_same (by rfl) h) (fun r9 u9 H locs h8 hP hS hk9 => ?_)
        have hP : va_P (dC, dI) vwCl (wM ad ca 2 gl gz go gw ((n : Int)) ((r : Int) + 1)) H := hP
        have hD : va_D A (wM ad ca 2 gl gz go gw ((n : Int)) ((r : Int) + 1)) := wD_same hD rfl
        subst h8
        refine r_if_eq hx hb dX1_chain_29 (tgt := 34) (by decide) (by omega) (fun hk9 => ?_) (fun hk9 => ?_)
        · exact absurd hk9 (by decide)
        · refine r_iconst hx hb dX1_chain_32 ?_
          subst hAe
          refine W.widen (k := 0) (n := 0) (by decide) (by decide) ?_
          exact W.iret (v := iI 0) hx hb hr (fun t ht hW => ⟨⟨_, (2, gl, gz, go, gw, (n : Int), (r : Int) + 1), rfl, ⟨⟨hT, rfl, rfl⟩, Or.inr (Or.inr ⟨hc, by omega, rfl⟩)⟩, by subst ht; exact hP⟩, hS.F ht⟩) hS.2.2 dX1_chain_33
    · exact absurd hk9 (by decide)
  · refine r_topi (b := 1) (if_neg hc) ?_
    refine r_iconst hx hb dX1_chain_6 ?_
    refine wc_i (va_runV (As := [.int (iI 1), .int (iI 1)]) (rest := []) ⟨hx, hb, hml, hown, hts⟩ (n_fails1 l dC dI ad ca er gl gz go gw ((n : Int)) ((r : Int) + 1) 1) (cwV 2 hts (gV wlX1_33 wo_X1_fails wz_X1_fails wi_2 wcX1_fails) rfl rfl rfl (by decide +kernel) ⟨Nat.le_of_ble_eq_true rfl, Nat.le_of_ble_eq_true rfl⟩) (PX_V (q0 := 0) (ci := 1) hP hK hD rfl rfl) rfl rfl hl.1 rfl (lv_room (Nat.le_of_ble_eq_true rfl)) dX1_chain_7 ⟨Nat.le_of_ble_eq_true rfl, Nat.le_of_ble_eq_true rfl⟩) hS (by rw [hAe]; exact fun q h => inW_same (by rfl) h) (fun r9 u9 H locs h8 hP hS hk9 => ?_)
    have hP : va_P (dC, dI) vwCl (wM ad ca 1 gl gz go gw ((n : Int)) ((r : Int) + 1)) H := hP
    have hD : va_D A (wM ad ca 1 gl gz go gw ((n : Int)) ((r : Int) + 1)) := wD_same hD rfl
    subst h8
    refine r_if_eq hx hb dX1_chain_10 (tgt := 15) (by decide) (by omega) (fun hk9 => ?_) (fun hk9 => ?_)
    · exact absurd hk9 (by decide)
    · refine r_iconst hx hb dX1_chain_13 ?_
      subst hAe
      refine W.widen (k := 0) (n := 0) (by decide) (by decide) ?_
      exact W.iret (v := iI 0) hx hb hr (fun t ht hW => ⟨⟨_, (1, gl, gz, go, gw, (n : Int), (r : Int) + 1), rfl, ⟨⟨hT, rfl, rfl⟩, Or.inr (Or.inl ⟨hc, rfl⟩)⟩, by subst ht; exact hP⟩, hS.F ht⟩) hS.2.2 dX1_chain_14
set_option maxHeartbeats 4000000 in
set_option maxRecDepth 100000 in
theorem n_depth (l : Launch) (dC : Nat → ClassId) (dI : Nat → Nat → Nat) (ad : Nat → Nat) (ca : Nat → ClassId) (er : Int) (gl gz go gw : Nat → Int) (n r : Nat) (L S : Nat → Nat) (lo : Nat → Bool) (hok : okS n L S r) (hT : tM n L S lo gl gz go) (q : Int) (hq : iR q) : Met l yX1_depth wsX1_depth { frames := 2, cells := 0, slots := 0, locals := 45 } (PX (dC, dI) vwCl (yM ca) (wM ad ca er gl gz go gw ((n : Int)) ((r : Int) + 1)) [.ref (ad 0), .int (iI q)]) (va_Qi (fun (y : Int32) (u : MU) => MS n L S r lo u ∧ (((0 ≤ q ∧ q < (n : Int)) ∧ u.1 = 0 ∧ y = iI (dp L (q.toNat + 1) : Int)) ∨ (¬ (0 ≤ q ∧ q < (n : Int)) ∧ u.1 = 1))) (fun u t => va_P (dC, dI) vwCl (wMu ad ca u) t.heap) (inW (wM ad ca er gl gz go gw ((n : Int)) ((r : Int) + 1)))) 0 0 (inW (wM ad ca er gl gz go gw ((n : Int)) ((r : Int) + 1))) := by
  refine Met.ofW (cc := cX1_depth) (maxL := 2) (ret := (some .int)) (by decide) rfl ?_
  intro p e s m args below meth c s₁ B hml hv
  obtain ⟨rfl, hP, hK, hD0⟩ := hv
  have hx := B.exec
  have hb := B.bytes
  have hr := B.returns
  have hts := atoms_spec (ws := wsX1_depth) B.pre
  have hown : s.vm.findClass RX1 = some m.cls := findClass_of_methodNamed B.named
  have hlocks := B.notSynchronized
  have hw := fun w h => hts w (List.mem_cons_of_mem _ h)
  have hinTX1 : ∀ w ∈ u_ws RX1 TX1 7, w ∈ wsX1_depth := wA_u wuX1
  have hD := wD_own hD0
  obtain ⟨A, hAe⟩ : ∃ A, A = inW (wM ad ca er gl gz go gw ((n : Int)) ((r : Int) + 1)) := ⟨_, rfl⟩
  rw [← hAe] at hD
  obtain ⟨H, hH⟩ : ∃ H, H = s.heap := ⟨_, rfl⟩
  obtain ⟨locs, hlc⟩ : ∃ L : List Loc, L = [] := ⟨_, rfl⟩
  have hS : va_S A s.heap H locs := by rw [hH, hlc]; exact va_S.rf
  rw [← hH] at hP ⊢
  rw [← hlc]
  have hl := lv_entry ([.ref (ad 0), .int (iI q)]) (n := 2) (Nat.le_of_ble_eq_true rfl)
  rw [lg_entry_eq]
  generalize (lg_sl ([.ref (ad 0), .int (iI q)]) ++ List.replicate (2 - (lg_sl ([.ref (ad 0), .int (iI q)])).length) Slot.unset).toArray = ls at hl ⊢
  have hl : lv_has ls 2 [(0, .ref (ad 0)), (1, .int (iI q))] := hl
  obtain ⟨ok1, ok2, ok3, ok4, ok5⟩ := id hok
  refine lv_aload_n hx hb dX1_depth_0 rfl (lv_at hl 0 rfl) ?_
  refine lv_aload_n hx hb dX1_depth_1 rfl (lv_at hl 0 rfl) ?_
  refine lv_iload_n hx hb dX1_depth_2 rfl (lv_at hl 1 rfl) ?_
  refine ro_z (z := if 0 ≤ q ∧ q < (n : Int) then 0 else 1) (va_runV (As := [.int (iI q)]) (rest := [.ref (ad 0)]) ⟨hx, hb, hml, hown, hts⟩ (n_none l dC dI ad ca er gl gz go gw n ((r : Int) + 1) q hq ok1) (cwV 1 hts (gV wlX1_41 wo_X1_none wz_X1_none wi_2 wcX1_none) rfl rfl rfl (by decide +kernel) ⟨Nat.le_of_ble_eq_true rfl, Nat.le_of_ble_eq_true rfl⟩) (PX_V (q0 := 0) (ci := 1) hP hK hD rfl rfl) rfl rfl hl.1 rfl (lv_room (Nat.le_of_ble_eq_true rfl)) dX1_depth_3 ⟨Nat.le_of_ble_eq_true rfl, Nat.le_of_ble_eq_true rfl⟩) hS hP (fun H locs hP hS => ?_)
  by_cases hc : 0 ≤ q ∧ q < (n : Int)
  · refine r_topi (b := 0) (if_pos hc) ?_
    refine r_iconst hx hb dX1_depth_6 ?_
    refine wc_i (va_runV (As := [.int (iI 0), .int (iI 1)]) (rest := []) ⟨hx, hb, hml, hown, hts⟩ (n_fails0 l dC dI ad ca er gl gz go gw ((n : Int)) ((r : Int) + 1) 1) (cwV 2 hts (gV wlX1_33 wo_X1_fails wz_X1_fails wi_2 wcX1_fails) rfl rfl rfl (by decide +kernel) ⟨Nat.le_of_ble_eq_true rfl, Nat.le_of_ble_eq_true rfl⟩) (PX_V (q0 := 0) (ci := 1) hP hK hD rfl rfl) rfl rfl hl.1 rfl (lv_room (Nat.le_of_ble_eq_true rfl)) dX1_depth_7 ⟨Nat.le_of_ble_eq_true rfl, Nat.le_of_ble_eq_true rfl⟩) hS (by rw [hAe]; exact fun q h => inW_same (by rfl) h) (fun r9 u9 H locs h8 hP hS hk9 => ?_)
    have hP : va_P (dC, dI) vwCl (wM ad ca 0 gl gz go gw ((n : Int)) ((r : Int) + 1)) H := hP
    have hD : va_D A (wM ad ca 0 gl gz go gw ((n : Int)) ((r : Int) + 1)) := wD_same hD rfl
    subst h8
    refine r_if_eq hx hb dX1_depth_10 (tgt := 17) (by decide) (by omega) (fun hk9 => ?_) (fun hk9 => ?_)
    · refine lv_aload_n hx hb dX1_depth_17 rfl (lv_at hl 0 rfl) ?_
      refine lv_iload_n hx hb dX1_depth_18 rfl (lv_at hl 1 rfl) ?_
      refine r_topi (b := (q.toNat : Int)) (by omega) ?_
      refine ro_z (z := (dp L (q.toNat + 1) : Int)) (va_runV (As := [.int (iI ((q.toNat : Int)))]) (rest := []) ⟨hx, hb, hml, hown, hts⟩ (n_depthOf l dC dI ad ca 0 gl gz go gw n r L S lo hok hT q.toNat (by omega)) (cwV 1 hts (gV wlX1_48 wo_X1_depthOf wz_X1_depthOf wi_2 wcX1_depthOf) rfl rfl rfl (by decide +kernel) ⟨Nat.le_of_ble_eq_true rfl, Nat.le_of_ble_eq_true rfl⟩) (PX_V (q0 := 0) (ci := 1) hP hK hD rfl rfl) rfl rfl hl.1 rfl (lv_room (Nat.le_of_ble_eq_true rfl)) dX1_depth_19 ⟨Nat.le_of_ble_eq_true rfl, Nat.le_of_ble_eq_true rfl⟩) hS hP (fun H locs hP hS => ?_)
      subst hAe
      refine W.widen (k := 0) (n := 0) (by decide) (by decide) ?_
      exact W.iret (v := iI ((dp L (q.toNat + 1) : Int))) hx hb hr (fun t ht hW => ⟨⟨_, (0, gl, gz, go, gw, (n : Int), (r : Int) + 1), rfl, ⟨⟨hT, rfl, rfl⟩, Or.inl ⟨hc, rfl, rfl⟩⟩, by subst ht; exact hP⟩, hS.F ht⟩) hS.2.2 dX1_depth_22
    · exact absurd hk9 (by decide)
  · refine r_topi (b := 1) (if_neg hc) ?_
    refine r_iconst hx hb dX1_depth_6 ?_
    refine wc_i (va_runV (As := [.int (iI 1), .int (iI 1)]) (rest := []) ⟨hx, hb, hml, hown, hts⟩ (n_fails1 l dC dI ad ca er gl gz go gw ((n : Int)) ((r : Int) + 1) 1) (cwV 2 hts (gV wlX1_33 wo_X1_fails wz_X1_fails wi_2 wcX1_fails) rfl rfl rfl (by decide +kernel) ⟨Nat.le_of_ble_eq_true rfl, Nat.le_of_ble_eq_true rfl⟩) (PX_V (q0 := 0) (ci := 1) hP hK hD rfl rfl) rfl rfl hl.1 rfl (lv_room (Nat.le_of_ble_eq_true rfl)) dX1_depth_7 ⟨Nat.le_of_ble_eq_true rfl, Nat.le_of_ble_eq_true rfl⟩) hS (by rw [hAe]; exact fun q h => inW_same (by rfl) h) (fun r9 u9 H locs h8 hP hS hk9 => ?_)
    have hP : va_P (dC, dI) vwCl (wM ad ca 1 gl gz go gw ((n : Int)) ((r : Int) + 1)) H := hP
    have hD : va_D A (wM ad ca 1 gl gz go gw ((n : Int)) ((r : Int) + 1)) := wD_same hD rfl
    subst h8
    refine r_if_eq hx hb dX1_depth_10 (tgt := 17) (by decide) (by omega) (fun hk9 => ?_) (fun hk9 => ?_)
    · exact absurd hk9 (by decide)
    · refine r_iconst hx hb dX1_depth_13 ?_
      refine lv_goto hx hb dX1_depth_14 (tgt := 22) (by decide) ?_
      subst hAe
      refine W.widen (k := 0) (n := 0) (by decide) (by decide) ?_
      exact W.iret (v := iI 0) hx hb hr (fun t ht hW => ⟨⟨_, (1, gl, gz, go, gw, (n : Int), (r : Int) + 1), rfl, ⟨⟨hT, rfl, rfl⟩, Or.inr ⟨hc, rfl⟩⟩, by subst ht; exact hP⟩, hS.F ht⟩) hS.2.2 dX1_depth_22
set_option maxHeartbeats 4000000 in
set_option maxRecDepth 100000 in
theorem n_place (l : Launch) (dC : Nat → ClassId) (dI : Nat → Nat → Nat) (ad : Nat → Nat) (ca : Nat → ClassId) (er : Int) (gl gz go gw : Nat → Int) (n r : Nat) (L S : Nat → Nat) (lo : Nat → Bool) (hok : okS n L S r) (hT : tM n L S lo gl gz go) (q k : Int) (hq : iR q) (hk0 : iR k) : Met l yX1_place wsX1_place { frames := 1, cells := 0, slots := 0, locals := 23 } (PX (dC, dI) vwCl (yM ca) (wM ad ca er gl gz go gw ((n : Int)) ((r : Int) + 1)) [.ref (ad 0), .int (iI q), .int (iI k)]) (va_Qi (fun (y : Int32) (u : MU) => MS n L S r lo u ∧ (((0 ≤ q ∧ q < (n : Int)) ∧ (0 ≤ k ∧ k < (S q.toNat : Int)) ∧ u.1 = 0 ∧ y = iI (1000 * (((sm S q.toNat : Int) + k) / (r : Int)) + 1 + ((sm S q.toNat : Int) + k) % (r : Int))) ∨ (¬ (0 ≤ q ∧ q < (n : Int)) ∧ u.1 = 1) ∨ ((0 ≤ q ∧ q < (n : Int)) ∧ ¬ (0 ≤ k ∧ k < (S q.toNat : Int)) ∧ u.1 = 2))) (fun u t => va_P (dC, dI) vwCl (wMu ad ca u) t.heap) (inW (wM ad ca er gl gz go gw ((n : Int)) ((r : Int) + 1)))) 0 0 (inW (wM ad ca er gl gz go gw ((n : Int)) ((r : Int) + 1))) := by
  refine Met.ofW (cc := cX1_place) (maxL := 4) (ret := (some .int)) (by decide) rfl ?_
  intro p e s m args below meth c s₁ B hml hv
  obtain ⟨rfl, hP, hK, hD0⟩ := hv
  have hx := B.exec
  have hb := B.bytes
  have hr := B.returns
  have hts := atoms_spec (ws := wsX1_place) B.pre
  have hown : s.vm.findClass RX1 = some m.cls := findClass_of_methodNamed B.named
  have hlocks := B.notSynchronized
  have hw := fun w h => hts w (List.mem_cons_of_mem _ h)
  have hinTX1 : ∀ w ∈ u_ws RX1 TX1 7, w ∈ wsX1_place := wA_u wuX1
  have fl13 := hw _ wfX1_13
  have fl23 := hw _ wfX1_23
  have hD := wD_own hD0
  obtain ⟨A, hAe⟩ : ∃ A, A = inW (wM ad ca er gl gz go gw ((n : Int)) ((r : Int) + 1)) := ⟨_, rfl⟩
  rw [← hAe] at hD
  obtain ⟨H, hH⟩ : ∃ H, H = s.heap := ⟨_, rfl⟩
  obtain ⟨locs, hlc⟩ : ∃ L : List Loc, L = [] := ⟨_, rfl⟩
  have hS : va_S A s.heap H locs := by rw [hH, hlc]; exact va_S.rf
  rw [← hH] at hP ⊢
  rw [← hlc]
  have hl := lv_entry ([.ref (ad 0), .int (iI q), .int (iI k)]) (n := 4) (Nat.le_of_ble_eq_true rfl)
  rw [lg_entry_eq]
  generalize (lg_sl ([.ref (ad 0), .int (iI q), .int (iI k)]) ++ List.replicate (4 - (lg_sl ([.ref (ad 0), .int (iI q), .int (iI k)])).length) Slot.unset).toArray = ls at hl ⊢
  have hl : lv_has ls 4 [(0, .ref (ad 0)), (1, .int (iI q)), (2, .int (iI k))] := hl
  obtain ⟨ok1, ok2, ok3, ok4, ok5⟩ := id hok
  refine lv_aload_n hx hb dX1_place_0 rfl (lv_at hl 0 rfl) ?_
  refine lv_aload_n hx hb dX1_place_1 rfl (lv_at hl 0 rfl) ?_
  refine lv_iload_n hx hb dX1_place_2 rfl (lv_at hl 1 rfl) ?_
  refine ro_z (z := if 0 ≤ q ∧ q < (n : Int) then 0 else 1) (va_runV (As := [.int (iI q)]) (rest := [.ref (ad 0)]) ⟨hx, hb, hml, hown, hts⟩ (n_none l dC dI ad ca er gl gz go gw n ((r : Int) + 1) q hq ok1) (cwV 1 hts (gV wlX1_41 wo_X1_none wz_X1_none wi_2 wcX1_none) rfl rfl rfl (by decide +kernel) ⟨Nat.le_of_ble_eq_true rfl, Nat.le_of_ble_eq_true rfl⟩) (PX_V (q0 := 0) (ci := 1) hP hK hD rfl rfl) rfl rfl hl.1 rfl (lv_room (Nat.le_of_ble_eq_true rfl)) dX1_place_3 ⟨Nat.le_of_ble_eq_true rfl, Nat.le_of_ble_eq_true rfl⟩) hS hP (fun H locs hP hS => ?_)
  by_cases hc : 0 ≤ q ∧ q < (n : Int)
  · refine r_topi (b := 0) (if_pos hc) ?_
    refine r_iconst hx hb dX1_place_6 ?_
    refine wc_i (va_runV (As := [.int (iI 0), .int (iI 1)]) (rest := []) ⟨hx, hb, hml, hown, hts⟩ (n_fails0 l dC dI ad ca er gl gz go gw ((n : Int)) ((r : Int) + 1) 1) (cwV 2 hts (gV wlX1_33 wo_X1_fails wz_X1_fails wi_2 wcX1_fails) rfl rfl rfl (by decide +kernel) ⟨Nat.le_of_ble_eq_true rfl, Nat.le_of_ble_eq_true rfl⟩) (PX_V (q0 := 0) (ci := 1) hP hK hD rfl rfl) rfl rfl hl.1 rfl (lv_room (Nat.le_of_ble_eq_true rfl)) dX1_place_7 ⟨Nat.le_of_ble_eq_true rfl, Nat.le_of_ble_eq_true rfl⟩) hS (by rw [hAe]; exact fun q h => inW_same (by rfl) h) (fun r9 u9 H locs h8 hP hS hk9 => ?_)
    have hP : va_P (dC, dI) vwCl (wM ad ca 0 gl gz go gw ((n : Int)) ((r : Int) + 1)) H := hP
    have hD : va_D A (wM ad ca 0 gl gz go gw ((n : Int)) ((r : Int) + 1)) := wD_same hD rfl
    subst h8
    refine r_if_eq hx hb dX1_place_10 (tgt := 15) (by decide) (by omega) (fun hk9 => ?_) (fun hk9 => ?_)
    · obtain ⟨-, t2⟩ := hT.1 q.toNat (by omega)
      obtain ⟨-, hs1, hs2⟩ := ok4 q.toNat (by omega)
      have hsm : sm S (q.toNat + 1) = sm S q.toNat + S q.toNat := rfl
      have hsl : sm S (q.toNat + 1) ≤ sm S n := sm_mono (by omega)
      refine lv_aload_n hx hb dX1_place_15 rfl (lv_at hl 0 rfl) ?_
      refine lv_iload_n hx hb dX1_place_16 rfl (lv_at hl 2 rfl) ?_
      refine r_if_lt hx hb dX1_place_17 (tgt := 30) (by decide) (by omega) (fun hlt => ?_) (fun hge => ?_)
      · refine r_iconst hx hb dX1_place_30 ?_
        refine lv_goto hx hb dX1_place_31 (tgt := 35) (by decide) ?_
        refine r_iconst hx hb dX1_place_35 ?_
        refine wc_i (va_runV (As := [.int (iI 1), .int (iI 2)]) (rest := []) ⟨hx, hb, hml, hown, hts⟩ (n_fails1 l dC dI ad ca 0 gl gz go gw ((n : Int)) ((r : Int) + 1) 2) (cwV 2 hts (gV wlX1_33 wo_X1_fails wz_X1_fails wi_2 wcX1_fails) rfl rfl rfl (by decide +kernel) ⟨Nat.le_of_ble_eq_true rfl, Nat.le_of_ble_eq_true rfl⟩) (PX_V (q0 := 0) (ci := 1) hP hK hD rfl rfl) rfl rfl hl.1 rfl (lv_room (Nat.le_of_ble_eq_true rfl)) dX1_place_36 ⟨Nat.le_of_ble_eq_true rfl, Nat.le_of_ble_eq_true rfl⟩) hS (by rw [hAe]; exact fun q h => inW_same (by rfl) h) (fun r9 u9 H locs h8 hP hS hk9 => ?_)
        have hP : va_P (dC, dI) vwCl (wM ad ca 2 gl gz go gw ((n : Int)) ((r : Int) + 1)) H := hP
        have hD : va_D A (wM ad ca 2 gl gz go gw ((n : Int)) ((r : Int) + 1)) := wD_same hD rfl
        subst h8
        refine r_if_eq hx hb dX1_place_39 (tgt := 44) (by decide) (by omega) (fun hk9 => ?_) (fun hk9 => ?_)
        · exact absurd hk9 (by decide)
        · refine r_iconst hx hb dX1_place_42 ?_
          subst hAe
          refine W.widen (k := 0) (n := 0) (by decide) (by decide) ?_
          exact W.iret (v := iI 0) hx hb hr (fun t ht hW => ⟨⟨_, (2, gl, gz, go, gw, (n : Int), (r : Int) + 1), rfl, ⟨⟨hT, rfl, rfl⟩, Or.inr (Or.inr ⟨hc, by omega, rfl⟩)⟩, by subst ht; exact hP⟩, hS.F ht⟩) hS.2.2 dX1_place_43
      · refine lv_iload_n hx hb dX1_place_20 rfl (lv_at hl 2 rfl) ?_
        refine lv_aload_n hx hb dX1_place_21 rfl (lv_at hl 0 rfl) ?_
        refine va_get (D := (dC, dI)) (ci := 1) (v := .ref (ad 2)) (C := RX1) (T := TX1) (N := 7) hx hb hts hinTX1 hown hK hP 0 rfl rfl 2 (by decide) fl13 (fun _ h9 => h9) rfl dX1_place_22 ?_
        refine lv_iload_n hx hb dX1_place_25 rfl (lv_at hl 1 rfl) ?_
        refine r_iald hx hb hK hP 2 1 rfl rfl (by omega) (by omega) (by decide) dX1_place_26 ?_
        refine r_topi (b := (S q.toNat : Int)) (t2) ?_
        refine r_icmp_lt hx hb dX1_place_27 (tgt := 34) (by decide) (by omega) (by omega) (fun hin => ?_) (fun hout => ?_)
        · refine r_iconst hx hb dX1_place_34 ?_
          refine r_iconst hx hb dX1_place_35 ?_
          refine wc_i (va_runV (As := [.int (iI 0), .int (iI 2)]) (rest := []) ⟨hx, hb, hml, hown, hts⟩ (n_fails0 l dC dI ad ca 0 gl gz go gw ((n : Int)) ((r : Int) + 1) 2) (cwV 2 hts (gV wlX1_33 wo_X1_fails wz_X1_fails wi_2 wcX1_fails) rfl rfl rfl (by decide +kernel) ⟨Nat.le_of_ble_eq_true rfl, Nat.le_of_ble_eq_true rfl⟩) (PX_V (q0 := 0) (ci := 1) hP hK hD rfl rfl) rfl rfl hl.1 rfl (lv_room (Nat.le_of_ble_eq_true rfl)) dX1_place_36 ⟨Nat.le_of_ble_eq_true rfl, Nat.le_of_ble_eq_true rfl⟩) hS (by rw [hAe]; exact fun q h => inW_same (by rfl) h) (fun r9 u9 H locs h8 hP hS hk9 => ?_)
          have hP : va_P (dC, dI) vwCl (wM ad ca 0 gl gz go gw ((n : Int)) ((r : Int) + 1)) H := hP
          have hD : va_D A (wM ad ca 0 gl gz go gw ((n : Int)) ((r : Int) + 1)) := wD_same hD rfl
          subst h8
          refine r_if_eq hx hb dX1_place_39 (tgt := 44) (by decide) (by omega) (fun hk9 => ?_) (fun hk9 => ?_)
          · refine lv_aload_n hx hb dX1_place_44 rfl (lv_at hl 0 rfl) ?_
            refine lv_iload_n hx hb dX1_place_45 rfl (lv_at hl 1 rfl) ?_
            refine r_topi (b := (q.toNat : Int)) (by omega) ?_
            refine ro_z (z := (sm S q.toNat : Int)) (va_runV (As := [.int (iI ((q.toNat : Int)))]) (rest := []) ⟨hx, hb, hml, hown, hts⟩ (n_before l dC dI ad ca 0 gl gz go gw n r L S lo hok hT q.toNat (by omega)) (cwV 1 hts (gV wlX1_37 wo_X1_before wz_X1_before wi_2 wcX1_before) rfl rfl rfl (by decide +kernel) ⟨Nat.le_of_ble_eq_true rfl, Nat.le_of_ble_eq_true rfl⟩) (PX_V (q0 := 0) (ci := 1) hP hK hD rfl rfl) rfl rfl hl.1 rfl (lv_room (Nat.le_of_ble_eq_true rfl)) dX1_place_46 ⟨Nat.le_of_ble_eq_true rfl, Nat.le_of_ble_eq_true rfl⟩) hS hP (fun H locs hP hS => ?_)
            refine lv_iload_n hx hb dX1_place_49 rfl (lv_at hl 2 rfl) ?_
            refine r_iadd hx hb dX1_place_50 ?_
            refine lv_istore_n hx hb dX1_place_51 rfl hl (by decide) rfl (fun ls hl => ?_)
            have hl : lv_has ls 4 [(3, .int (iI (((sm S q.toNat : Int)) + k))), (0, .ref (ad 0)), (1, .int (iI q)), (2, .int (iI k))] := hl
            refine r_sipush hx hb dX1_place_52 (by decide +kernel) ?_
            refine lv_iload_n hx hb dX1_place_55 rfl (lv_at hl 0 rfl) ?_
            refine lv_aload_n hx hb dX1_place_56 rfl (lv_at hl 1 rfl) ?_
            refine va_get (D := (dC, dI)) (ci := 1) (v := .int (iI ((r : Int) + 1))) (C := RX1) (T := TX1) (N := 7) hx hb hts hinTX1 hown hK hP 0 rfl rfl 6 (by decide) fl23 (fun _ h9 => h9) rfl dX1_place_57 ?_
            refine r_iconst hx hb dX1_place_60 ?_
            refine r_isub hx hb dX1_place_61 ?_
            refine r_topi (b := (r : Int)) (by omega) ?_
            refine r_idiv hx hb dX1_place_62 (by omega) (by omega) (by omega) (by omega) ?_
            refine r_imul hx hb dX1_place_63 ?_
            refine r_iconst hx hb dX1_place_64 ?_
            refine r_iadd hx hb dX1_place_65 ?_
            refine lv_iload_n hx hb dX1_place_66 rfl (lv_at hl 0 rfl) ?_
            refine lv_aload_n hx hb dX1_place_67 rfl (lv_at hl 1 rfl) ?_
            refine va_get (D := (dC, dI)) (ci := 1) (v := .int (iI ((r : Int) + 1))) (C := RX1) (T := TX1) (N := 7) hx hb hts hinTX1 hown hK hP 0 rfl rfl 6 (by decide) fl23 (fun _ h9 => h9) rfl dX1_place_68 ?_
            refine r_iconst hx hb dX1_place_71 ?_
            refine r_isub hx hb dX1_place_72 ?_
            refine r_topi (b := (r : Int)) (by omega) ?_
            refine r_irem hx hb dX1_place_73 (by omega) (by omega) (by omega) (by omega) ?_
            refine r_iadd hx hb dX1_place_74 ?_
            subst hAe
            refine W.widen (k := 0) (n := 0) (by decide) (by decide) ?_
            exact W.iret (v := iI (((1000 * ((((sm S q.toNat : Int)) + k) / ((r : Int)))) + 1) + ((((sm S q.toNat : Int)) + k) % ((r : Int))))) hx hb hr (fun t ht hW => ⟨⟨_, (0, gl, gz, go, gw, (n : Int), (r : Int) + 1), rfl, ⟨⟨hT, rfl, rfl⟩, Or.inl ⟨hc, by omega, rfl, rfl⟩⟩, by subst ht; exact hP⟩, hS.F ht⟩) hS.2.2 dX1_place_75
          · exact absurd hk9 (by decide)
        · refine r_iconst hx hb dX1_place_30 ?_
          refine lv_goto hx hb dX1_place_31 (tgt := 35) (by decide) ?_
          refine r_iconst hx hb dX1_place_35 ?_
          refine wc_i (va_runV (As := [.int (iI 1), .int (iI 2)]) (rest := []) ⟨hx, hb, hml, hown, hts⟩ (n_fails1 l dC dI ad ca 0 gl gz go gw ((n : Int)) ((r : Int) + 1) 2) (cwV 2 hts (gV wlX1_33 wo_X1_fails wz_X1_fails wi_2 wcX1_fails) rfl rfl rfl (by decide +kernel) ⟨Nat.le_of_ble_eq_true rfl, Nat.le_of_ble_eq_true rfl⟩) (PX_V (q0 := 0) (ci := 1) hP hK hD rfl rfl) rfl rfl hl.1 rfl (lv_room (Nat.le_of_ble_eq_true rfl)) dX1_place_36 ⟨Nat.le_of_ble_eq_true rfl, Nat.le_of_ble_eq_true rfl⟩) hS (by rw [hAe]; exact fun q h => inW_same (by rfl) h) (fun r9 u9 H locs h8 hP hS hk9 => ?_)
          have hP : va_P (dC, dI) vwCl (wM ad ca 2 gl gz go gw ((n : Int)) ((r : Int) + 1)) H := hP
          have hD : va_D A (wM ad ca 2 gl gz go gw ((n : Int)) ((r : Int) + 1)) := wD_same hD rfl
          subst h8
          refine r_if_eq hx hb dX1_place_39 (tgt := 44) (by decide) (by omega) (fun hk9 => ?_) (fun hk9 => ?_)
          · exact absurd hk9 (by decide)
          · refine r_iconst hx hb dX1_place_42 ?_
            subst hAe
            refine W.widen (k := 0) (n := 0) (by decide) (by decide) ?_
            exact W.iret (v := iI 0) hx hb hr (fun t ht hW => ⟨⟨_, (2, gl, gz, go, gw, (n : Int), (r : Int) + 1), rfl, ⟨⟨hT, rfl, rfl⟩, Or.inr (Or.inr ⟨hc, by omega, rfl⟩)⟩, by subst ht; exact hP⟩, hS.F ht⟩) hS.2.2 dX1_place_43
    · exact absurd hk9 (by decide)
  · refine r_topi (b := 1) (if_neg hc) ?_
    refine r_iconst hx hb dX1_place_6 ?_
    refine wc_i (va_runV (As := [.int (iI 1), .int (iI 1)]) (rest := []) ⟨hx, hb, hml, hown, hts⟩ (n_fails1 l dC dI ad ca er gl gz go gw ((n : Int)) ((r : Int) + 1) 1) (cwV 2 hts (gV wlX1_33 wo_X1_fails wz_X1_fails wi_2 wcX1_fails) rfl rfl rfl (by decide +kernel) ⟨Nat.le_of_ble_eq_true rfl, Nat.le_of_ble_eq_true rfl⟩) (PX_V (q0 := 0) (ci := 1) hP hK hD rfl rfl) rfl rfl hl.1 rfl (lv_room (Nat.le_of_ble_eq_true rfl)) dX1_place_7 ⟨Nat.le_of_ble_eq_true rfl, Nat.le_of_ble_eq_true rfl⟩) hS (by rw [hAe]; exact fun q h => inW_same (by rfl) h) (fun r9 u9 H locs h8 hP hS hk9 => ?_)
    have hP : va_P (dC, dI) vwCl (wM ad ca 1 gl gz go gw ((n : Int)) ((r : Int) + 1)) H := hP
    have hD : va_D A (wM ad ca 1 gl gz go gw ((n : Int)) ((r : Int) + 1)) := wD_same hD rfl
    subst h8
    refine r_if_eq hx hb dX1_place_10 (tgt := 15) (by decide) (by omega) (fun hk9 => ?_) (fun hk9 => ?_)
    · exact absurd hk9 (by decide)
    · refine r_iconst hx hb dX1_place_13 ?_
      subst hAe
      refine W.widen (k := 0) (n := 0) (by decide) (by decide) ?_
      exact W.iret (v := iI 0) hx hb hr (fun t ht hW => ⟨⟨_, (1, gl, gz, go, gw, (n : Int), (r : Int) + 1), rfl, ⟨⟨hT, rfl, rfl⟩, Or.inr (Or.inl ⟨hc, rfl⟩)⟩, by subst ht; exact hP⟩, hS.F ht⟩) hS.2.2 dX1_place_14
set_option maxHeartbeats 4000000 in
set_option maxRecDepth 100000 in
theorem n_owner (l : Launch) (dC : Nat → ClassId) (dI : Nat → Nat → Nat) (ad : Nat → Nat) (ca : Nat → ClassId) (er : Int) (gl gz go gw : Nat → Int) (n r : Nat) (L S : Nat → Nat) (lo : Nat → Bool) (hok : okS n L S r) (hT : tM n L S lo gl gz go) (v b : Int) (hv : iR v) (hb0 : iR b) : Met l yX1_owner wsX1_owner { frames := 1, cells := 0, slots := 0, locals := 22 } (PX (dC, dI) vwCl (yM ca) (wM ad ca er gl gz go gw ((n : Int)) ((r : Int) + 1)) [.ref (ad 0), .int (iI v), .int (iI b)]) (va_Qi (fun (y : Int32) (u : MU) => MS n L S r lo u ∧ ((((0 ≤ v ∧ v < 64) ∧ 0 ≤ b ∧ b ≤ (r : Int)) ∧ u.1 = 0 ∧ y = iI (if b = 0 then -1 else (ow S (v * (r : Int) + b - 1).toNat n : Int) - 1)) ∨ (¬ ((0 ≤ v ∧ v < 64) ∧ 0 ≤ b ∧ b ≤ (r : Int)) ∧ u.1 = 1))) (fun u t => va_P (dC, dI) vwCl (wMu ad ca u) t.heap) (inW (wM ad ca er gl gz go gw ((n : Int)) ((r : Int) + 1)))) 0 0 (inW (wM ad ca er gl gz go gw ((n : Int)) ((r : Int) + 1))) := by
  refine Met.ofW (cc := cX1_owner) (maxL := 5) (ret := (some .int)) (by decide) rfl ?_
  intro p e s m args below meth c s₁ B hml hv
  obtain ⟨rfl, hP, hK, hD0⟩ := hv
  have hx := B.exec
  have hb := B.bytes
  have hr := B.returns
  have hts := atoms_spec (ws := wsX1_owner) B.pre
  have hown : s.vm.findClass RX1 = some m.cls := findClass_of_methodNamed B.named
  have hlocks := B.notSynchronized
  have hw := fun w h => hts w (List.mem_cons_of_mem _ h)
  have hinTX1 : ∀ w ∈ u_ws RX1 TX1 7, w ∈ wsX1_owner := wA_u wuX1
  have fl23 := hw _ wfX1_23
  have fl30 := hw _ wfX1_30
  have fl13 := hw _ wfX1_13
  have hD := wD_own hD0
  obtain ⟨A, hAe⟩ : ∃ A, A = inW (wM ad ca er gl gz go gw ((n : Int)) ((r : Int) + 1)) := ⟨_, rfl⟩
  rw [← hAe] at hD
  obtain ⟨H, hH⟩ : ∃ H, H = s.heap := ⟨_, rfl⟩
  obtain ⟨locs, hlc⟩ : ∃ L : List Loc, L = [] := ⟨_, rfl⟩
  have hS : va_S A s.heap H locs := by rw [hH, hlc]; exact va_S.rf
  rw [← hH] at hP ⊢
  rw [← hlc]
  have hl := lv_entry ([.ref (ad 0), .int (iI v), .int (iI b)]) (n := 5) (Nat.le_of_ble_eq_true rfl)
  rw [lg_entry_eq]
  generalize (lg_sl ([.ref (ad 0), .int (iI v), .int (iI b)]) ++ List.replicate (5 - (lg_sl ([.ref (ad 0), .int (iI v), .int (iI b)])).length) Slot.unset).toArray = ls at hl ⊢
  have hl : lv_has ls 5 [(0, .ref (ad 0)), (1, .int (iI v)), (2, .int (iI b))] := hl
  obtain ⟨ok1, ok2, ok3, ok4, ok5⟩ := id hok
  refine lv_aload_n hx hb dX1_owner_0 rfl (lv_at hl 0 rfl) ?_
  refine lv_iload_n hx hb dX1_owner_1 rfl (lv_at hl 1 rfl) ?_
  refine r_if_lt hx hb dX1_owner_2 (tgt := 23) (by decide) (by omega) (fun h1t => ?_) (fun h1f => ?_)
  · refine r_iconst hx hb dX1_owner_23 ?_
    refine lv_goto hx hb dX1_owner_24 (tgt := 28) (by decide) ?_
    refine r_iconst hx hb dX1_owner_28 ?_
    refine wc_i (va_runV (As := [.int (iI 1), .int (iI 1)]) (rest := []) ⟨hx, hb, hml, hown, hts⟩ (n_fails1 l dC dI ad ca er gl gz go gw ((n : Int)) ((r : Int) + 1) 1) (cwV 2 hts (gV wlX1_33 wo_X1_fails wz_X1_fails wi_2 wcX1_fails) rfl rfl rfl (by decide +kernel) ⟨Nat.le_of_ble_eq_true rfl, Nat.le_of_ble_eq_true rfl⟩) (PX_V (q0 := 0) (ci := 1) hP hK hD rfl rfl) rfl rfl hl.1 rfl (lv_room (Nat.le_of_ble_eq_true rfl)) dX1_owner_29 ⟨Nat.le_of_ble_eq_true rfl, Nat.le_of_ble_eq_true rfl⟩) hS (by rw [hAe]; exact fun q h => inW_same (by rfl) h) (fun r9 u9 H locs h8 hP hS hk9 => ?_)
    have hP : va_P (dC, dI) vwCl (wM ad ca 1 gl gz go gw ((n : Int)) ((r : Int) + 1)) H := hP
    have hD : va_D A (wM ad ca 1 gl gz go gw ((n : Int)) ((r : Int) + 1)) := wD_same hD rfl
    subst h8
    refine r_if_eq hx hb dX1_owner_32 (tgt := 37) (by decide) (by omega) (fun hk9 => ?_) (fun hk9 => ?_)
    · exact absurd hk9 (by decide)
    · refine r_iconst hx hb dX1_owner_35 ?_
      subst hAe
      refine W.widen (k := 0) (n := 0) (by decide) (by decide) ?_
      exact W.iret (v := iI 0) hx hb hr (fun t ht hW => ⟨⟨_, (1, gl, gz, go, gw, (n : Int), (r : Int) + 1), rfl, ⟨⟨hT, rfl, rfl⟩, Or.inr ⟨by omega, rfl⟩⟩, by subst ht; exact hP⟩, hS.F ht⟩) hS.2.2 dX1_owner_36
  · refine lv_iload_n hx hb dX1_owner_5 rfl (lv_at hl 1 rfl) ?_
    refine r_bipush hx hb dX1_owner_6 (by decide +kernel) ?_
    refine r_icmp_ge hx hb dX1_owner_8 (tgt := 23) (by decide) (by omega) (by omega) (fun h2t => ?_) (fun h2f => ?_)
    · refine r_iconst hx hb dX1_owner_23 ?_
      refine lv_goto hx hb dX1_owner_24 (tgt := 28) (by decide) ?_
      refine r_iconst hx hb dX1_owner_28 ?_
      refine wc_i (va_runV (As := [.int (iI 1), .int (iI 1)]) (rest := []) ⟨hx, hb, hml, hown, hts⟩ (n_fails1 l dC dI ad ca er gl gz go gw ((n : Int)) ((r : Int) + 1) 1) (cwV 2 hts (gV wlX1_33 wo_X1_fails wz_X1_fails wi_2 wcX1_fails) rfl rfl rfl (by decide +kernel) ⟨Nat.le_of_ble_eq_true rfl, Nat.le_of_ble_eq_true rfl⟩) (PX_V (q0 := 0) (ci := 1) hP hK hD rfl rfl) rfl rfl hl.1 rfl (lv_room (Nat.le_of_ble_eq_true rfl)) dX1_owner_29 ⟨Nat.le_of_ble_eq_true rfl, Nat.le_of_ble_eq_true rfl⟩) hS (by rw [hAe]; exact fun q h => inW_same (by rfl) h) (fun r9 u9 H locs h8 hP hS hk9 => ?_)
      have hP : va_P (dC, dI) vwCl (wM ad ca 1 gl gz go gw ((n : Int)) ((r : Int) + 1)) H := hP
      have hD : va_D A (wM ad ca 1 gl gz go gw ((n : Int)) ((r : Int) + 1)) := wD_same hD rfl
      subst h8
      refine r_if_eq hx hb dX1_owner_32 (tgt := 37) (by decide) (by omega) (fun hk9 => ?_) (fun hk9 => ?_)
      · exact absurd hk9 (by decide)
      · refine r_iconst hx hb dX1_owner_35 ?_
        subst hAe
        refine W.widen (k := 0) (n := 0) (by decide) (by decide) ?_
        exact W.iret (v := iI 0) hx hb hr (fun t ht hW => ⟨⟨_, (1, gl, gz, go, gw, (n : Int), (r : Int) + 1), rfl, ⟨⟨hT, rfl, rfl⟩, Or.inr ⟨by omega, rfl⟩⟩, by subst ht; exact hP⟩, hS.F ht⟩) hS.2.2 dX1_owner_36
    · refine lv_iload_n hx hb dX1_owner_11 rfl (lv_at hl 2 rfl) ?_
      refine r_if_lt hx hb dX1_owner_12 (tgt := 23) (by decide) (by omega) (fun h3t => ?_) (fun h3f => ?_)
      · refine r_iconst hx hb dX1_owner_23 ?_
        refine lv_goto hx hb dX1_owner_24 (tgt := 28) (by decide) ?_
        refine r_iconst hx hb dX1_owner_28 ?_
        refine wc_i (va_runV (As := [.int (iI 1), .int (iI 1)]) (rest := []) ⟨hx, hb, hml, hown, hts⟩ (n_fails1 l dC dI ad ca er gl gz go gw ((n : Int)) ((r : Int) + 1) 1) (cwV 2 hts (gV wlX1_33 wo_X1_fails wz_X1_fails wi_2 wcX1_fails) rfl rfl rfl (by decide +kernel) ⟨Nat.le_of_ble_eq_true rfl, Nat.le_of_ble_eq_true rfl⟩) (PX_V (q0 := 0) (ci := 1) hP hK hD rfl rfl) rfl rfl hl.1 rfl (lv_room (Nat.le_of_ble_eq_true rfl)) dX1_owner_29 ⟨Nat.le_of_ble_eq_true rfl, Nat.le_of_ble_eq_true rfl⟩) hS (by rw [hAe]; exact fun q h => inW_same (by rfl) h) (fun r9 u9 H locs h8 hP hS hk9 => ?_)
        have hP : va_P (dC, dI) vwCl (wM ad ca 1 gl gz go gw ((n : Int)) ((r : Int) + 1)) H := hP
        have hD : va_D A (wM ad ca 1 gl gz go gw ((n : Int)) ((r : Int) + 1)) := wD_same hD rfl
        subst h8
        refine r_if_eq hx hb dX1_owner_32 (tgt := 37) (by decide) (by omega) (fun hk9 => ?_) (fun hk9 => ?_)
        · exact absurd hk9 (by decide)
        · refine r_iconst hx hb dX1_owner_35 ?_
          subst hAe
          refine W.widen (k := 0) (n := 0) (by decide) (by decide) ?_
          exact W.iret (v := iI 0) hx hb hr (fun t ht hW => ⟨⟨_, (1, gl, gz, go, gw, (n : Int), (r : Int) + 1), rfl, ⟨⟨hT, rfl, rfl⟩, Or.inr ⟨by omega, rfl⟩⟩, by subst ht; exact hP⟩, hS.F ht⟩) hS.2.2 dX1_owner_36
      · refine lv_iload_n hx hb dX1_owner_15 rfl (lv_at hl 2 rfl) ?_
        refine lv_aload_n hx hb dX1_owner_16 rfl (lv_at hl 0 rfl) ?_
        refine va_get (D := (dC, dI)) (ci := 1) (v := .int (iI ((r : Int) + 1))) (C := RX1) (T := TX1) (N := 7) hx hb hts hinTX1 hown hK hP 0 rfl rfl 6 (by decide) fl23 (fun _ h9 => h9) rfl dX1_owner_17 ?_
        refine r_icmp_lt hx hb dX1_owner_20 (tgt := 27) (by decide) (by omega) (by omega) (fun h4t => ?_) (fun h4f => ?_)
        · refine r_iconst hx hb dX1_owner_27 ?_
          refine r_iconst hx hb dX1_owner_28 ?_
          refine wc_i (va_runV (As := [.int (iI 0), .int (iI 1)]) (rest := []) ⟨hx, hb, hml, hown, hts⟩ (n_fails0 l dC dI ad ca er gl gz go gw ((n : Int)) ((r : Int) + 1) 1) (cwV 2 hts (gV wlX1_33 wo_X1_fails wz_X1_fails wi_2 wcX1_fails) rfl rfl rfl (by decide +kernel) ⟨Nat.le_of_ble_eq_true rfl, Nat.le_of_ble_eq_true rfl⟩) (PX_V (q0 := 0) (ci := 1) hP hK hD rfl rfl) rfl rfl hl.1 rfl (lv_room (Nat.le_of_ble_eq_true rfl)) dX1_owner_29 ⟨Nat.le_of_ble_eq_true rfl, Nat.le_of_ble_eq_true rfl⟩) hS (by rw [hAe]; exact fun q h => inW_same (by rfl) h) (fun r9 u9 H locs h8 hP hS hk9 => ?_)
          have hP : va_P (dC, dI) vwCl (wM ad ca 0 gl gz go gw ((n : Int)) ((r : Int) + 1)) H := hP
          have hD : va_D A (wM ad ca 0 gl gz go gw ((n : Int)) ((r : Int) + 1)) := wD_same hD rfl
          subst h8
          refine r_if_eq hx hb dX1_owner_32 (tgt := 37) (by decide) (by omega) (fun hk9 => ?_) (fun hk9 => ?_)
          · refine lv_iload_n hx hb dX1_owner_37 rfl (lv_at hl 2 rfl) ?_
            refine r_if_ne hx hb dX1_owner_38 (tgt := 43) (by decide) (by omega) (fun hne => ?_) (fun heq => ?_)
            · have hm1 : 0 ≤ v * (r : Int) := Int.mul_nonneg (by omega) (by omega)
              have hm2 : v * (r : Int) ≤ 63 * (r : Int) := Int.mul_le_mul_of_nonneg_right (by omega) (by omega)
              refine lv_aload_n hx hb dX1_owner_43 rfl (lv_at hl 0 rfl) ?_
              refine va_get (D := (dC, dI)) (ci := 1) (v := .int (iI ((r : Int) + 1))) (C := RX1) (T := TX1) (N := 7) hx hb hts hinTX1 hown hK hP 0 rfl rfl 6 (by decide) fl23 (fun _ h9 => h9) rfl dX1_owner_44 ?_
              refine r_iconst hx hb dX1_owner_47 ?_
              refine r_isub hx hb dX1_owner_48 ?_
              refine r_topi (b := (r : Int)) (by omega) ?_
              refine lv_iload_n hx hb dX1_owner_49 rfl (lv_at hl 1 rfl) ?_
              refine r_imul hx hb dX1_owner_50 ?_
              refine r_topi (b := v * (r : Int)) (Int.mul_comm _ _) ?_
              refine lv_iload_n hx hb dX1_owner_51 rfl (lv_at hl 2 rfl) ?_
              refine r_iadd hx hb dX1_owner_52 ?_
              refine r_iconst hx hb dX1_owner_53 ?_
              refine r_isub hx hb dX1_owner_54 ?_
              refine r_topi (b := ((v * (r : Int) + b - 1).toNat : Int) - (sm S 0 : Int)) (by show _ = _ - (0 : Int); omega) ?_
              refine lv_istore_n hx hb dX1_owner_55 rfl hl (by decide) rfl (fun ls hl => ?_)
              have hl : lv_has ls 5 [(3, .int (iI (((v * (r : Int) + b - 1).toNat : Int) - (sm S 0 : Int)))), (0, .ref (ad 0)), (1, .int (iI v)), (2, .int (iI b))] := hl
              refine r_iconst hx hb dX1_owner_56 ?_
              refine lv_istore hx hb dX1_owner_57 hl (by decide) rfl (fun ls hl => ?_)
              have hl : lv_has ls 5 [(4, .int (iI 0)), (3, .int (iI (((v * (r : Int) + b - 1).toNat : Int) - (sm S 0 : Int)))), (0, .ref (ad 0)), (1, .int (iI v)), (2, .int (iI b))] := hl
              have loop : ∀ (N : Nat) (k : Nat) (ls : Array Slot), n - k < N → (k ≤ n) → (ow S (v * (r : Int) + b - 1).toNat k = 0) → (sm S k ≤ (v * (r : Int) + b - 1).toNat) → lv_has ls 5 [(4, .int (iI ((k : Int)))), (3, .int (iI (((v * (r : Int) + b - 1).toNat : Int) - (sm S k : Int)))), (0, .ref (ad 0)), (1, .int (iI v)), (2, .int (iI b))] → W p l e (headSpec wsX1_owner { frames := 1, cells := 0, slots := 0, locals := 22 }).room s m ([.ref (ad 0), .int (iI v), .int (iI b)]).toArray below meth c H locs ((((0 + 0) + 0) + 0) + 0) ((((0 + 0) + 0) + 0) + 0) (MQ below (va_Qi (fun (y : Int32) (u : MU) => MS n L S r lo u ∧ ((((0 ≤ v ∧ v < 64) ∧ 0 ≤ b ∧ b ≤ (r : Int)) ∧ u.1 = 0 ∧ y = iI (if b = 0 then -1 else (ow S (v * (r : Int) + b - 1).toNat n : Int) - 1)) ∨ (¬ ((0 ≤ v ∧ v < 64) ∧ 0 ≤ b ∧ b ≤ (r : Int)) ∧ u.1 = 1))) (fun u t => va_P (dC, dI) vwCl (wMu ad ca u) t.heap) (inW (wM ad ca er gl gz go gw ((n : Int)) ((r : Int) + 1)))) ([.ref (ad 0), .int (iI v), .int (iI b)]).toArray s 0 0 (inW (wM ad ca er gl gz go gw ((n : Int)) ((r : Int) + 1)))) (F0 m 59 ls []) := by
                intro N
                induction N with
                | zero => intro k ls h; exact absurd h (Nat.not_lt_zero _)
                | succ N ih =>
                  intro k ls hN hk h0 hq9 hl
                  refine lv_iload hx hb dX1_owner_59 (lv_at hl 0 rfl) ?_
                  refine lv_aload_n hx hb dX1_owner_61 rfl (lv_at hl 2 rfl) ?_
                  refine va_get (D := (dC, dI)) (ci := 1) (v := .int (iI ((n : Int)))) (C := RX1) (T := TX1) (N := 7) hx hb hts hinTX1 hown hK hP 0 rfl rfl 5 (by decide) fl30 (fun _ h9 => h9) rfl dX1_owner_62 ?_
                  refine r_icmp_ge hx hb dX1_owner_65 (tgt := 98) (by decide) (by omega) (by omega) (fun hge2 => ?_) (fun hlt2 => ?_)
                  · have hk0 : k = n := by omega
                    refine r_iconst hx hb dX1_owner_98 ?_
                    subst hAe
                    refine W.widen (k := 0) (n := 0) (by decide) (by decide) ?_
                    exact W.iret (v := iI ((-1))) hx hb hr (fun t ht hW => ⟨⟨_, (0, gl, gz, go, gw, (n : Int), (r : Int) + 1), rfl, ⟨⟨hT, rfl, rfl⟩, Or.inl ⟨by omega, rfl, by rw [if_neg hne, ← hk0, h0]; rfl⟩⟩, by subst ht; exact hP⟩, hS.F ht⟩) hS.2.2 dX1_owner_99
                  · have ek : ((k : Int)).toNat = k := by omega
                    obtain ⟨-, t2⟩ := hT.1 k (by omega)
                    have hsk : sm S (k + 1) = sm S k + S k := rfl
                    obtain ⟨-, hs1, hs2⟩ := ok4 k (by omega)
                    refine lv_iload_n hx hb dX1_owner_68 rfl (lv_at hl 1 rfl) ?_
                    refine lv_aload_n hx hb dX1_owner_69 rfl (lv_at hl 2 rfl) ?_
                    refine va_get (D := (dC, dI)) (ci := 1) (v := .ref (ad 2)) (C := RX1) (T := TX1) (N := 7) hx hb hts hinTX1 hown hK hP 0 rfl rfl 2 (by decide) fl13 (fun _ h9 => h9) rfl dX1_owner_70 ?_
                    refine lv_iload hx hb dX1_owner_73 (lv_at hl 0 rfl) ?_
                    refine r_iald hx hb hK hP 2 1 rfl rfl (by omega) (by omega) (by decide) dX1_owner_75 ?_
                    refine r_topi (b := (S k : Int)) (by rw [ek]; exact t2) ?_
                    refine r_icmp_ge hx hb dX1_owner_76 (tgt := 82) (by decide) (by omega) (by omega) (fun hge3 => ?_) (fun hlt3 => ?_)
                    · refine lv_iload_n hx hb dX1_owner_82 rfl (lv_at hl 1 rfl) ?_
                      refine lv_aload_n hx hb dX1_owner_83 rfl (lv_at hl 2 rfl) ?_
                      refine va_get (D := (dC, dI)) (ci := 1) (v := .ref (ad 2)) (C := RX1) (T := TX1) (N := 7) hx hb hts hinTX1 hown hK hP 0 rfl rfl 2 (by decide) fl13 (fun _ h9 => h9) rfl dX1_owner_84 ?_
                      refine lv_iload hx hb dX1_owner_87 (lv_at hl 0 rfl) ?_
                      refine r_iald hx hb hK hP 2 1 rfl rfl (by omega) (by omega) (by decide) dX1_owner_89 ?_
                      refine r_topi (b := (S k : Int)) (by rw [ek]; exact t2) ?_
                      refine r_isub hx hb dX1_owner_90 ?_
                      refine lv_istore_n hx hb dX1_owner_91 rfl hl (by decide) rfl (fun ls hl => ?_)
                      have hl : lv_has ls 5 [(3, .int (iI ((((v * (r : Int) + b - 1).toNat : Int) - (sm S k : Int)) - ((S k : Int))))), (4, .int (iI ((k : Int)))), (0, .ref (ad 0)), (1, .int (iI v)), (2, .int (iI b))] := hl
                      refine r_iinc (k := 1) hx hb dX1_owner_92 hl rfl (by decide) rfl (fun ls hl => ?_)
                      have hl : lv_has ls 5 [(4, .int (iI ((k : Int) + 1))), (3, .int (iI ((((v * (r : Int) + b - 1).toNat : Int) - (sm S k : Int)) - ((S k : Int))))), (0, .ref (ad 0)), (1, .int (iI v)), (2, .int (iI b))] := hl
                      refine lv_goto hx hb dX1_owner_95 (tgt := 59) (by decide) ?_
                      have hl : lv_has ls 5 [(4, .int (iI ((k + 1 : Nat) : Int))), (3, .int (iI (((v * (r : Int) + b - 1).toNat : Int) - (sm S (k + 1) : Int)))), (0, .ref (ad 0)), (1, .int (iI v)), (2, .int (iI b))] := by
                        rw [show ((k + 1 : Nat) : Int) = (k : Int) + 1 by omega, show ((v * (r : Int) + b - 1).toNat : Int) - (sm S (k + 1) : Int) = ((v * (r : Int) + b - 1).toNat : Int) - (sm S k : Int) - (S k : Int) by omega]
                        exact hl
                      exact ih (k + 1) ls (by omega) (by omega) (ow_miss h0 (by omega)) (by omega) hl
                    · refine lv_iload hx hb dX1_owner_79 (lv_at hl 0 rfl) ?_
                      subst hAe
                      refine W.widen (k := 0) (n := 0) (by decide) (by decide) ?_
                      exact W.iret (v := iI ((k : Int))) hx hb hr (fun t ht hW => ⟨⟨_, (0, gl, gz, go, gw, (n : Int), (r : Int) + 1), rfl, ⟨⟨hT, rfl, rfl⟩, Or.inl ⟨by omega, rfl, by rw [if_neg hne, ow_keep (k := k + 1) (by rw [ow_hit h0 (by omega)]; omega) n (by omega), ow_hit h0 (by omega)]; congr 1; omega⟩⟩, by subst ht; exact hP⟩, hS.F ht⟩) hS.2.2 dX1_owner_81
              exact loop (n + 1) 0 ls (by omega) (Nat.zero_le n) rfl (Nat.zero_le _) hl
            · refine r_iconst hx hb dX1_owner_41 ?_
              subst hAe
              refine W.widen (k := 0) (n := 0) (by decide) (by decide) ?_
              exact W.iret (v := iI ((-1))) hx hb hr (fun t ht hW => ⟨⟨_, (0, gl, gz, go, gw, (n : Int), (r : Int) + 1), rfl, ⟨⟨hT, rfl, rfl⟩, Or.inl ⟨by omega, rfl, by rw [if_pos heq]⟩⟩, by subst ht; exact hP⟩, hS.F ht⟩) hS.2.2 dX1_owner_42
          · exact absurd hk9 (by decide)
        · refine r_iconst hx hb dX1_owner_23 ?_
          refine lv_goto hx hb dX1_owner_24 (tgt := 28) (by decide) ?_
          refine r_iconst hx hb dX1_owner_28 ?_
          refine wc_i (va_runV (As := [.int (iI 1), .int (iI 1)]) (rest := []) ⟨hx, hb, hml, hown, hts⟩ (n_fails1 l dC dI ad ca er gl gz go gw ((n : Int)) ((r : Int) + 1) 1) (cwV 2 hts (gV wlX1_33 wo_X1_fails wz_X1_fails wi_2 wcX1_fails) rfl rfl rfl (by decide +kernel) ⟨Nat.le_of_ble_eq_true rfl, Nat.le_of_ble_eq_true rfl⟩) (PX_V (q0 := 0) (ci := 1) hP hK hD rfl rfl) rfl rfl hl.1 rfl (lv_room (Nat.le_of_ble_eq_true rfl)) dX1_owner_29 ⟨Nat.le_of_ble_eq_true rfl, Nat.le_of_ble_eq_true rfl⟩) hS (by rw [hAe]; exact fun q h => inW_same (by rfl) h) (fun r9 u9 H locs h8 hP hS hk9 => ?_)
          have hP : va_P (dC, dI) vwCl (wM ad ca 1 gl gz go gw ((n : Int)) ((r : Int) + 1)) H := hP
          have hD : va_D A (wM ad ca 1 gl gz go gw ((n : Int)) ((r : Int) + 1)) := wD_same hD rfl
          subst h8
          refine r_if_eq hx hb dX1_owner_32 (tgt := 37) (by decide) (by omega) (fun hk9 => ?_) (fun hk9 => ?_)
          · exact absurd hk9 (by decide)
          · refine r_iconst hx hb dX1_owner_35 ?_
            subst hAe
            refine W.widen (k := 0) (n := 0) (by decide) (by decide) ?_
            exact W.iret (v := iI 0) hx hb hr (fun t ht hW => ⟨⟨_, (1, gl, gz, go, gw, (n : Int), (r : Int) + 1), rfl, ⟨⟨hT, rfl, rfl⟩, Or.inr ⟨by omega, rfl⟩⟩, by subst ht; exact hP⟩, hS.F ht⟩) hS.2.2 dX1_owner_36
end
section
/-! the reference: isGood, needs, lose, good, latest, spare, count -/
set_option maxHeartbeats 4000000 in
set_option maxRecDepth 100000 in
theorem n_isGood (l : Launch) (dC : Nat → ClassId) (dI : Nat → Nat → Nat) (ad : Nat → Nat) (ca : Nat → ClassId) (er : Int) (gl gz go gw : Nat → Int) (n r : Nat) (L S : Nat → Nat) (lo : Nat → Bool) (hok : okS n L S r) (hT : tM n L S lo gl gz go) (d : Nat) (hd : d < n) : Met l yX1_isGood wsX1_isGood { frames := 2, cells := 0, slots := 0, locals := 47 } (PX (dC, dI) vwCl (yM ca) (wM ad ca er gl gz go gw ((n : Int)) ((r : Int) + 1)) [.ref (ad 0), .int (iI ((d : Int)))]) (va_Qi (fun (y : Int32) (_ : Nat → Int) => y = iI (b2 (gd L S r lo d))) (fun g9 t => va_P (dC, dI) vwCl (wM ad ca er gl gz go g9 ((n : Int)) ((r : Int) + 1)) t.heap) (inW (wM ad ca er gl gz go gw ((n : Int)) ((r : Int) + 1)))) 0 0 (inW (wM ad ca er gl gz go gw ((n : Int)) ((r : Int) + 1))) := by
  refine Met.ofW (cc := cX1_isGood) (maxL := 3) (ret := (some .boolean)) (by decide) rfl ?_
  intro p e s m args below meth c s₁ B hml hv
  obtain ⟨rfl, hP, hK, hD0⟩ := hv
  have hx := B.exec
  have hb := B.bytes
  have hr := B.returns
  have hts := atoms_spec (ws := wsX1_isGood) B.pre
  have hown : s.vm.findClass RX1 = some m.cls := findClass_of_methodNamed B.named
  have hlocks := B.notSynchronized
  have hw := fun w h => hts w (List.mem_cons_of_mem _ h)
  have hinTX1 : ∀ w ∈ u_ws RX1 TX1 7, w ∈ wsX1_isGood := wA_u wuX1
  have fl20 := hw _ wfX1_20
  have fl16 := hw _ wfX1_16
  have hD := wD_own hD0
  obtain ⟨A, hAe⟩ : ∃ A, A = inW (wM ad ca er gl gz go gw ((n : Int)) ((r : Int) + 1)) := ⟨_, rfl⟩
  rw [← hAe] at hD
  obtain ⟨H, hH⟩ : ∃ H, H = s.heap := ⟨_, rfl⟩
  obtain ⟨locs, hlc⟩ : ∃ L : List Loc, L = [] := ⟨_, rfl⟩
  have hS : va_S A s.heap H locs := by rw [hH, hlc]; exact va_S.rf
  rw [← hH] at hP ⊢
  rw [← hlc]
  have hl := lv_entry ([.ref (ad 0), .int (iI ((d : Int)))]) (n := 3) (Nat.le_of_ble_eq_true rfl)
  rw [lg_entry_eq]
  generalize (lg_sl ([.ref (ad 0), .int (iI ((d : Int)))]) ++ List.replicate (3 - (lg_sl ([.ref (ad 0), .int (iI ((d : Int)))])).length) Slot.unset).toArray = ls at hl ⊢
  have hl : lv_has ls 3 [(0, .ref (ad 0)), (1, .int (iI ((d : Int))))] := hl
  obtain ⟨ok1, ok2, ok3, ok4, ok5⟩ := id hok
  refine lv_aload_n hx hb dX1_isGood_0 rfl (lv_at hl 0 rfl) ?_
  refine wc_v (va_runV (As := []) (rest := []) ⟨hx, hb, hml, hown, hts⟩ (n_nothing l dC dI ad ca er gl gz go gw ((n : Int)) ((r : Int) + 1)) (cwV 0 hts (gV wlX1_51 wo_X1_nothing wz_X1_nothing wi_2 wcX1_nothing) rfl rfl rfl (by decide +kernel) ⟨Nat.le_of_ble_eq_true rfl, Nat.le_of_ble_eq_true rfl⟩) (PX_V (q0 := 0) (ci := 1) hP hK hD rfl rfl) rfl rfl hl.1 rfl (lv_room (Nat.le_of_ble_eq_true rfl)) dX1_isGood_1 ⟨Nat.le_of_ble_eq_true rfl, Nat.le_of_ble_eq_true rfl⟩) hS (by rw [hAe]; exact fun q h => inW_same (by rfl) h) (fun z9 H locs hz9 hP hS hk9 => ?_)
  have hP : va_P (dC, dI) vwCl (wM ad ca er gl gz go z9 ((n : Int)) ((r : Int) + 1)) H := hP
  have hD : va_D A (wM ad ca er gl gz go z9 ((n : Int)) ((r : Int) + 1)) := wD_same hD rfl
  refine lv_aload_n hx hb dX1_isGood_4 rfl (lv_at hl 0 rfl) ?_
  refine lv_iload_n hx hb dX1_isGood_5 rfl (lv_at hl 1 rfl) ?_
  refine wc_v (va_runV (As := [.int (iI ((d : Int)))]) (rest := []) ⟨hx, hb, hml, hown, hts⟩ (n_want l dC dI ad ca er gl gz go z9 n r L S lo hok hT d (by omega) (fun _ => false) (fun v hv => hz9 v hv)) (cwV 1 hts (gV wlX1_54 wo_X1_want wz_X1_want wi_2 wcX1_want) rfl rfl rfl (by decide +kernel) ⟨Nat.le_of_ble_eq_true rfl, Nat.le_of_ble_eq_true rfl⟩) (PX_V (q0 := 0) (ci := 1) hP hK hD rfl rfl) rfl rfl hl.1 rfl (lv_room (Nat.le_of_ble_eq_true rfl)) dX1_isGood_6 ⟨Nat.le_of_ble_eq_true rfl, Nat.le_of_ble_eq_true rfl⟩) hS (by rw [hAe]; exact fun q h => inW_same (by rfl) h) (fun k9 H locs hw9 hP hS hk9 => ?_)
  have hP : va_P (dC, dI) vwCl (wM ad ca er gl gz go k9 ((n : Int)) ((r : Int) + 1)) H := hP
  have hD : va_D A (wM ad ca er gl gz go k9 ((n : Int)) ((r : Int) + 1)) := wD_same hD rfl
  have hw8 : ∀ v, v < 64 → k9 v = b2 (nd L S r v (d + 1)) := fun v hv => by rw [hw9 v hv, Bool.false_or]
  refine r_iconst hx hb dX1_isGood_9 ?_
  refine lv_istore_n hx hb dX1_isGood_10 rfl hl (by decide) rfl (fun ls hl => ?_)
  have hl : lv_has ls 3 [(2, .int (iI 0)), (0, .ref (ad 0)), (1, .int (iI ((d : Int))))] := hl
  have loop : ∀ (N : Nat) (k : Nat) (ls : Array Slot), 64 - k < N → (k ≤ 64) → (noH (fun v => nd L S r v (d + 1) && lo v) k = true) → lv_has ls 3 [(2, .int (iI ((k : Int)))), (0, .ref (ad 0)), (1, .int (iI ((d : Int))))] → W p l e (headSpec wsX1_isGood { frames := 2, cells := 0, slots := 0, locals := 47 }).room s m ([.ref (ad 0), .int (iI ((d : Int)))]).toArray below meth c H locs ((0 + 0) + 0) ((0 + 0) + 0) (MQ below (va_Qi (fun (y : Int32) (_ : Nat → Int) => y = iI (b2 (gd L S r lo d))) (fun g9 t => va_P (dC, dI) vwCl (wM ad ca er gl gz go g9 ((n : Int)) ((r : Int) + 1)) t.heap) (inW (wM ad ca er gl gz go gw ((n : Int)) ((r : Int) + 1)))) ([.ref (ad 0), .int (iI ((d : Int)))]).toArray s 0 0 (inW (wM ad ca er gl gz go gw ((n : Int)) ((r : Int) + 1)))) (F0 m 11 ls []) := by
    intro N
    induction N with
    | zero => intro k ls h; exact absurd h (Nat.not_lt_zero _)
    | succ N ih =>
      intro k ls hN hk h9 hl
      refine lv_iload_n hx hb dX1_isGood_11 rfl (lv_at hl 0 rfl) ?_
      refine r_bipush hx hb dX1_isGood_12 (by decide +kernel) ?_
      refine r_icmp_ge hx hb dX1_isGood_14 (tgt := 43) (by decide) (by omega) (by omega) (fun hge => ?_) (fun hlt => ?_)
      · have hk0 : k = 64 := by omega
        subst hk0
        have hgt : gd L S r lo d = true := h9
        refine r_iconst hx hb dX1_isGood_43 ?_
        subst hAe
        refine W.widen (k := 0) (n := 0) (by decide) (by decide) ?_
        exact W.zret (v := iI 1) hx hb hr rfl (fun t ht hW => ⟨⟨_, k9, rfl, by rw [gd_t hgt], by subst ht; exact hP⟩, hS.F ht⟩) hS.2.2 dX1_isGood_44
      · have ek : ((k : Int)).toNat = k := by omega
        have h01 := b2_01 (nd L S r k (d + 1))
        have h02 := b2_01 (lo k)
        have hs9 : noH (fun v => nd L S r v (d + 1) && lo v) (k + 1) = (noH (fun v => nd L S r v (d + 1) && lo v) k && !(nd L S r k (d + 1) && lo k)) := rfl
        refine lv_aload_n hx hb dX1_isGood_17 rfl (lv_at hl 1 rfl) ?_
        refine va_get (D := (dC, dI)) (ci := 1) (v := .ref (ad 4)) (C := RX1) (T := TX1) (N := 7) hx hb hts hinTX1 hown hK hP 0 rfl rfl 4 (by decide) fl20 (fun _ h9 => h9) rfl dX1_isGood_18 ?_
        refine lv_iload_n hx hb dX1_isGood_21 rfl (lv_at hl 0 rfl) ?_
        refine r_zald hx hb hK hP 4 3 rfl rfl (by omega) (by omega) (by decide) dX1_isGood_22 ?_
        refine r_topi (b := b2 (nd L S r k (d + 1))) (by rw [ek]; exact hw8 k (by omega)) ?_
        refine r_if_eq hx hb dX1_isGood_23 (tgt := 37) (by decide) (by omega) (fun hz => ?_) (fun hnz => ?_)
        · refine r_iinc (k := 0) hx hb dX1_isGood_37 hl rfl (by decide) rfl (fun ls hl => ?_)
          have hl : lv_has ls 3 [(2, .int (iI ((k : Int) + 1))), (0, .ref (ad 0)), (1, .int (iI ((d : Int))))] := hl
          refine lv_goto hx hb dX1_isGood_40 (tgt := 11) (by decide) ?_
          have hl : lv_has ls 3 [(2, .int (iI ((k + 1 : Nat) : Int))), (0, .ref (ad 0)), (1, .int (iI (d : Int)))] := by
            rw [show ((k + 1 : Nat) : Int) = (k : Int) + 1 by omega]
            exact hl
          exact ih (k + 1) ls (by omega) (by omega) (by rw [hs9, h9, b2_0 hz, Bool.false_and]; rfl) hl
        · refine lv_aload_n hx hb dX1_isGood_26 rfl (lv_at hl 1 rfl) ?_
          refine va_get (D := (dC, dI)) (ci := 1) (v := .ref (ad 3)) (C := RX1) (T := TX1) (N := 7) hx hb hts hinTX1 hown hK hP 0 rfl rfl 3 (by decide) fl16 (fun _ h9 => h9) rfl dX1_isGood_27 ?_
          refine lv_iload_n hx hb dX1_isGood_30 rfl (lv_at hl 0 rfl) ?_
          refine r_zald hx hb hK hP 3 2 rfl rfl (by omega) (by omega) (by decide) dX1_isGood_31 ?_
          refine r_topi (b := b2 (lo k)) (by rw [ek]; exact hT.2 k (by omega)) ?_
          refine r_if_eq hx hb dX1_isGood_32 (tgt := 37) (by decide) (by omega) (fun hz2 => ?_) (fun hnz2 => ?_)
          · refine r_iinc (k := 0) hx hb dX1_isGood_37 hl rfl (by decide) rfl (fun ls hl => ?_)
            have hl : lv_has ls 3 [(2, .int (iI ((k : Int) + 1))), (0, .ref (ad 0)), (1, .int (iI ((d : Int))))] := hl
            refine lv_goto hx hb dX1_isGood_40 (tgt := 11) (by decide) ?_
            have hl : lv_has ls 3 [(2, .int (iI ((k + 1 : Nat) : Int))), (0, .ref (ad 0)), (1, .int (iI (d : Int)))] := by
              rw [show ((k + 1 : Nat) : Int) = (k : Int) + 1 by omega]
              exact hl
            exact ih (k + 1) ls (by omega) (by omega) (by rw [hs9, h9, b2_0 hz2, Bool.and_false]; rfl) hl
          · refine r_iconst hx hb dX1_isGood_35 ?_
            have hgf : ¬ gd L S r lo d = true := fun q9 => by
              have q8 := (noH_t.mp q9) k (by omega)
              rw [b2_1 hnz, b2_1 hnz2] at q8
              exact absurd q8 (by decide)
            subst hAe
            refine W.widen (k := 0) (n := 0) (by decide) (by decide) ?_
            exact W.zret (v := iI 0) hx hb hr rfl (fun t ht hW => ⟨⟨_, k9, rfl, by rw [gd_f hgf], by subst ht; exact hP⟩, hS.F ht⟩) hS.2.2 dX1_isGood_36
  exact loop (65) 0 ls (by omega) (by omega) rfl hl
set_option maxHeartbeats 4000000 in
set_option maxRecDepth 100000 in
theorem n_needs (l : Launch) (dC : Nat → ClassId) (dI : Nat → Nat → Nat) (ad : Nat → Nat) (ca : Nat → ClassId) (er : Int) (gl gz go gw : Nat → Int) (n r : Nat) (L S : Nat → Nat) (lo : Nat → Bool) (hok : okS n L S r) (hT : tM n L S lo gl gz go) (q : Int) (hq : iR q) : Met l yX1_needs wsX1_needs { frames := 2, cells := 0, slots := 0, locals := 47 } (PX (dC, dI) vwCl (yM ca) (wM ad ca er gl gz go gw ((n : Int)) ((r : Int) + 1)) [.ref (ad 0), .int (iI q)]) (va_Ql (fun (y : Int64) (u : MU) => MS n L S r lo u ∧ (((0 ≤ q ∧ q < (n : Int)) ∧ u.1 = 0 ∧ ∀ v, v < 64 → bL y v = nd L S r v (q.toNat + 1)) ∨ (¬ (0 ≤ q ∧ q < (n : Int)) ∧ u.1 = 1))) (fun u t => va_P (dC, dI) vwCl (wMu ad ca u) t.heap) (inW (wM ad ca er gl gz go gw ((n : Int)) ((r : Int) + 1)))) 0 0 (inW (wM ad ca er gl gz go gw ((n : Int)) ((r : Int) + 1))) := by
  refine Met.ofW (cc := cX1_needs) (maxL := 5) (ret := (some .long)) (by decide) rfl ?_
  intro p e s m args below meth c s₁ B hml hv
  obtain ⟨rfl, hP, hK, hD0⟩ := hv
  have hx := B.exec
  have hb := B.bytes
  have hr := B.returns
  have hts := atoms_spec (ws := wsX1_needs) B.pre
  have hown : s.vm.findClass RX1 = some m.cls := findClass_of_methodNamed B.named
  have hlocks := B.notSynchronized
  have hw := fun w h => hts w (List.mem_cons_of_mem _ h)
  have hinTX1 : ∀ w ∈ u_ws RX1 TX1 7, w ∈ wsX1_needs := wA_u wuX1
  have fl20 := hw _ wfX1_20
  have hD := wD_own hD0
  obtain ⟨A, hAe⟩ : ∃ A, A = inW (wM ad ca er gl gz go gw ((n : Int)) ((r : Int) + 1)) := ⟨_, rfl⟩
  rw [← hAe] at hD
  obtain ⟨H, hH⟩ : ∃ H, H = s.heap := ⟨_, rfl⟩
  obtain ⟨locs, hlc⟩ : ∃ L : List Loc, L = [] := ⟨_, rfl⟩
  have hS : va_S A s.heap H locs := by rw [hH, hlc]; exact va_S.rf
  rw [← hH] at hP ⊢
  rw [← hlc]
  have hl := lv_entry ([.ref (ad 0), .int (iI q)]) (n := 5) (Nat.le_of_ble_eq_true rfl)
  rw [lg_entry_eq]
  generalize (lg_sl ([.ref (ad 0), .int (iI q)]) ++ List.replicate (5 - (lg_sl ([.ref (ad 0), .int (iI q)])).length) Slot.unset).toArray = ls at hl ⊢
  have hl : lv_has ls 5 [(0, .ref (ad 0)), (1, .int (iI q))] := hl
  obtain ⟨ok1, ok2, ok3, ok4, ok5⟩ := id hok
  refine lv_aload_n hx hb dX1_needs_0 rfl (lv_at hl 0 rfl) ?_
  refine lv_aload_n hx hb dX1_needs_1 rfl (lv_at hl 0 rfl) ?_
  refine lv_iload_n hx hb dX1_needs_2 rfl (lv_at hl 1 rfl) ?_
  refine ro_z (z := if 0 ≤ q ∧ q < (n : Int) then 0 else 1) (va_runV (As := [.int (iI q)]) (rest := [.ref (ad 0)]) ⟨hx, hb, hml, hown, hts⟩ (n_none l dC dI ad ca er gl gz go gw n ((r : Int) + 1) q hq ok1) (cwV 1 hts (gV wlX1_41 wo_X1_none wz_X1_none wi_2 wcX1_none) rfl rfl rfl (by decide +kernel) ⟨Nat.le_of_ble_eq_true rfl, Nat.le_of_ble_eq_true rfl⟩) (PX_V (q0 := 0) (ci := 1) hP hK hD rfl rfl) rfl rfl hl.1 rfl (lv_room (Nat.le_of_ble_eq_true rfl)) dX1_needs_3 ⟨Nat.le_of_ble_eq_true rfl, Nat.le_of_ble_eq_true rfl⟩) hS hP (fun H locs hP hS => ?_)
  by_cases hc : 0 ≤ q ∧ q < (n : Int)
  · refine r_topi (b := 0) (if_pos hc) ?_
    refine r_iconst hx hb dX1_needs_6 ?_
    refine wc_i (va_runV (As := [.int (iI 0), .int (iI 1)]) (rest := []) ⟨hx, hb, hml, hown, hts⟩ (n_fails0 l dC dI ad ca er gl gz go gw ((n : Int)) ((r : Int) + 1) 1) (cwV 2 hts (gV wlX1_33 wo_X1_fails wz_X1_fails wi_2 wcX1_fails) rfl rfl rfl (by decide +kernel) ⟨Nat.le_of_ble_eq_true rfl, Nat.le_of_ble_eq_true rfl⟩) (PX_V (q0 := 0) (ci := 1) hP hK hD rfl rfl) rfl rfl hl.1 rfl (lv_room (Nat.le_of_ble_eq_true rfl)) dX1_needs_7 ⟨Nat.le_of_ble_eq_true rfl, Nat.le_of_ble_eq_true rfl⟩) hS (by rw [hAe]; exact fun q h => inW_same (by rfl) h) (fun r9 u9 H locs h8 hP hS hk9 => ?_)
    have hP : va_P (dC, dI) vwCl (wM ad ca 0 gl gz go gw ((n : Int)) ((r : Int) + 1)) H := hP
    have hD : va_D A (wM ad ca 0 gl gz go gw ((n : Int)) ((r : Int) + 1)) := wD_same hD rfl
    subst h8
    refine r_if_eq hx hb dX1_needs_10 (tgt := 15) (by decide) (by omega) (fun hk9 => ?_) (fun hk9 => ?_)
    · refine lv_aload_n hx hb dX1_needs_15 rfl (lv_at hl 0 rfl) ?_
      refine wc_v (va_runV (As := []) (rest := []) ⟨hx, hb, hml, hown, hts⟩ (n_nothing l dC dI ad ca 0 gl gz go gw ((n : Int)) ((r : Int) + 1)) (cwV 0 hts (gV wlX1_51 wo_X1_nothing wz_X1_nothing wi_2 wcX1_nothing) rfl rfl rfl (by decide +kernel) ⟨Nat.le_of_ble_eq_true rfl, Nat.le_of_ble_eq_true rfl⟩) (PX_V (q0 := 0) (ci := 1) hP hK hD rfl rfl) rfl rfl hl.1 rfl (lv_room (Nat.le_of_ble_eq_true rfl)) dX1_needs_16 ⟨Nat.le_of_ble_eq_true rfl, Nat.le_of_ble_eq_true rfl⟩) hS (by rw [hAe]; exact fun q h => inW_same (by rfl) h) (fun z9 H locs hz9 hP hS hk9 => ?_)
      have hP : va_P (dC, dI) vwCl (wM ad ca 0 gl gz go z9 ((n : Int)) ((r : Int) + 1)) H := hP
      have hD : va_D A (wM ad ca 0 gl gz go z9 ((n : Int)) ((r : Int) + 1)) := wD_same hD rfl
      refine lv_aload_n hx hb dX1_needs_19 rfl (lv_at hl 0 rfl) ?_
      refine lv_iload_n hx hb dX1_needs_20 rfl (lv_at hl 1 rfl) ?_
      refine r_topi (b := (q.toNat : Int)) (by omega) ?_
      refine wc_v (va_runV (As := [.int (iI ((q.toNat : Int)))]) (rest := []) ⟨hx, hb, hml, hown, hts⟩ (n_want l dC dI ad ca 0 gl gz go z9 n r L S lo hok hT q.toNat (by omega) (fun _ => false) (fun v hv => hz9 v hv)) (cwV 1 hts (gV wlX1_54 wo_X1_want wz_X1_want wi_2 wcX1_want) rfl rfl rfl (by decide +kernel) ⟨Nat.le_of_ble_eq_true rfl, Nat.le_of_ble_eq_true rfl⟩) (PX_V (q0 := 0) (ci := 1) hP hK hD rfl rfl) rfl rfl hl.1 rfl (lv_room (Nat.le_of_ble_eq_true rfl)) dX1_needs_21 ⟨Nat.le_of_ble_eq_true rfl, Nat.le_of_ble_eq_true rfl⟩) hS (by rw [hAe]; exact fun q h => inW_same (by rfl) h) (fun k9 H locs hw9 hP hS hk9 => ?_)
      have hP : va_P (dC, dI) vwCl (wM ad ca 0 gl gz go k9 ((n : Int)) ((r : Int) + 1)) H := hP
      have hD : va_D A (wM ad ca 0 gl gz go k9 ((n : Int)) ((r : Int) + 1)) := wD_same hD rfl
      have hw8 : ∀ v, v < 64 → k9 v = b2 (nd L S r v (q.toNat + 1)) := fun v hv => by rw [hw9 v hv, Bool.false_or]
      refine lv_lconst hx hb dX1_needs_24 rfl ?_
      refine lv_lstore_n hx hb dX1_needs_25 rfl hl (by decide) rfl (fun ls hl => ?_)
      have hl : lv_has ls 5 [(2, .long (Int64.ofNat 0)), (0, .ref (ad 0)), (1, .int (iI q))] := hl
      refine r_iconst hx hb dX1_needs_26 ?_
      refine lv_istore hx hb dX1_needs_27 hl (by decide) rfl (fun ls hl => ?_)
      have hl : lv_has ls 5 [(4, .int (iI 0)), (2, .long (Int64.ofNat 0)), (0, .ref (ad 0)), (1, .int (iI q))] := hl
      have loop : ∀ (N : Nat) (k : Nat) (y : Int64) (ls : Array Slot), 64 - k < N → (k ≤ 64) → (∀ j, j < 64 → bL y j = (decide (j < k) && nd L S r j (q.toNat + 1))) → lv_has ls 5 [(4, .int (iI ((k : Int)))), (2, .long y), (0, .ref (ad 0)), (1, .int (iI q))] → W p l e (headSpec wsX1_needs { frames := 2, cells := 0, slots := 0, locals := 47 }).room s m ([.ref (ad 0), .int (iI q)]).toArray below meth c H locs (((0 + 0) + 0) + 0) (((0 + 0) + 0) + 0) (MQ below (va_Ql (fun (y : Int64) (u : MU) => MS n L S r lo u ∧ (((0 ≤ q ∧ q < (n : Int)) ∧ u.1 = 0 ∧ ∀ v, v < 64 → bL y v = nd L S r v (q.toNat + 1)) ∨ (¬ (0 ≤ q ∧ q < (n : Int)) ∧ u.1 = 1))) (fun u t => va_P (dC, dI) vwCl (wMu ad ca u) t.heap) (inW (wM ad ca er gl gz go gw ((n : Int)) ((r : Int) + 1)))) ([.ref (ad 0), .int (iI q)]).toArray s 0 0 (inW (wM ad ca er gl gz go gw ((n : Int)) ((r : Int) + 1)))) (F0 m 29 ls []) := by
        intro N
        induction N with
        | zero => intro k y ls h; exact absurd h (Nat.not_lt_zero _)
        | succ N ih =>
          intro k y ls hN hk hy hl
          refine lv_iload hx hb dX1_needs_29 (lv_at hl 0 rfl) ?_
          refine r_bipush hx hb dX1_needs_31 (by decide +kernel) ?_
          refine r_icmp_ge hx hb dX1_needs_33 (tgt := 59) (by decide) (by omega) (by omega) (fun hge => ?_) (fun hlt => ?_)
          · have hk0 : k = 64 := by omega
            subst hk0
            refine lv_lload_n hx hb dX1_needs_59 rfl (lv_at hl 1 rfl) ?_
            subst hAe
            refine W.widen (k := 0) (n := 0) (by decide) (by decide) ?_
            exact W.lret hx hb hr (fun t ht hW => ⟨⟨_, (0, gl, gz, go, k9, (n : Int), (r : Int) + 1), rfl, ⟨⟨hT, rfl, rfl⟩, Or.inl ⟨hc, rfl, fun v hv => by rw [hy v hv, decide_eq_true hv, Bool.true_and]⟩⟩, by subst ht; exact hP⟩, hS.F ht⟩) hS.2.2 dX1_needs_60
          · have ek : ((k : Int)).toNat = k := by omega
            have h01 := b2_01 (nd L S r k (q.toNat + 1))
            refine lv_aload_n hx hb dX1_needs_36 rfl (lv_at hl 2 rfl) ?_
            refine va_get (D := (dC, dI)) (ci := 1) (v := .ref (ad 4)) (C := RX1) (T := TX1) (N := 7) hx hb hts hinTX1 hown hK hP 0 rfl rfl 4 (by decide) fl20 (fun _ h9 => h9) rfl dX1_needs_37 ?_
            refine lv_iload hx hb dX1_needs_40 (lv_at hl 0 rfl) ?_
            refine r_zald hx hb hK hP 4 3 rfl rfl (by omega) (by omega) (by decide) dX1_needs_42 ?_
            refine r_topi (b := b2 (nd L S r k (q.toNat + 1))) (by rw [ek]; exact hw8 k (by omega)) ?_
            refine r_if_eq hx hb dX1_needs_43 (tgt := 53) (by decide) (by omega) (fun hz => ?_) (fun hnz => ?_)
            · refine r_iinc (k := 0) hx hb dX1_needs_53 hl rfl (by decide) rfl (fun ls hl => ?_)
              have hl : lv_has ls 5 [(4, .int (iI ((k : Int) + 1))), (2, .long y), (0, .ref (ad 0)), (1, .int (iI q))] := hl
              refine lv_goto hx hb dX1_needs_56 (tgt := 29) (by decide) ?_
              have hl : lv_has ls 5 [(4, .int (iI ((k + 1 : Nat) : Int))), (2, .long (y)), (0, .ref (ad 0)), (1, .int (iI q))] := by
                rw [show ((k + 1 : Nat) : Int) = (k : Int) + 1 by omega]
                exact hl
              exact ih (k + 1) y ls (by omega) (by omega) (st_off (P := fun v => nd L S r v (q.toNat + 1)) hy (b2_0 hz)) hl
            · refine lv_lload_n hx hb dX1_needs_46 rfl (lv_at hl 1 rfl) ?_
              refine lv_lconst hx hb dX1_needs_47 rfl ?_
              refine lv_iload hx hb dX1_needs_48 (lv_at hl 0 rfl) ?_
              refine lv_lshl hx hb dX1_needs_50 rfl ?_
              refine lv_lor hx hb dX1_needs_51 ?_
              refine lv_lstore_n hx hb dX1_needs_52 rfl hl (by decide) rfl (fun ls hl => ?_)
              have hl : lv_has ls 5 [(2, .long (y ||| ((Int64.ofNat 1) <<< ((iI ((k : Int))).toInt64 &&& 63)))), (4, .int (iI ((k : Int)))), (0, .ref (ad 0)), (1, .int (iI q))] := hl
              refine r_iinc (k := 1) hx hb dX1_needs_53 hl rfl (by decide) rfl (fun ls hl => ?_)
              have hl : lv_has ls 5 [(4, .int (iI ((k : Int) + 1))), (2, .long (y ||| ((Int64.ofNat 1) <<< ((iI ((k : Int))).toInt64 &&& 63)))), (0, .ref (ad 0)), (1, .int (iI q))] := hl
              refine lv_goto hx hb dX1_needs_56 (tgt := 29) (by decide) ?_
              have hl : lv_has ls 5 [(4, .int (iI ((k + 1 : Nat) : Int))), (2, .long (y ||| ((Int64.ofNat 1) <<< ((iI ((k : Int))).toInt64 &&& 63)))), (0, .ref (ad 0)), (1, .int (iI q))] := by
                rw [show ((k + 1 : Nat) : Int) = (k : Int) + 1 by omega]
                exact hl
              exact ih (k + 1) (y ||| ((Int64.ofNat 1) <<< ((iI ((k : Int))).toInt64 &&& 63))) ls (by omega) (by omega) (st_on (P := fun v => nd L S r v (q.toNat + 1)) hy (by omega) (b2_1 hnz)) hl
      exact loop (65) 0 (Int64.ofNat 0) ls (by omega) (by omega) (fun j hj => bL_0 j) hl
    · exact absurd hk9 (by decide)
  · refine r_topi (b := 1) (if_neg hc) ?_
    refine r_iconst hx hb dX1_needs_6 ?_
    refine wc_i (va_runV (As := [.int (iI 1), .int (iI 1)]) (rest := []) ⟨hx, hb, hml, hown, hts⟩ (n_fails1 l dC dI ad ca er gl gz go gw ((n : Int)) ((r : Int) + 1) 1) (cwV 2 hts (gV wlX1_33 wo_X1_fails wz_X1_fails wi_2 wcX1_fails) rfl rfl rfl (by decide +kernel) ⟨Nat.le_of_ble_eq_true rfl, Nat.le_of_ble_eq_true rfl⟩) (PX_V (q0 := 0) (ci := 1) hP hK hD rfl rfl) rfl rfl hl.1 rfl (lv_room (Nat.le_of_ble_eq_true rfl)) dX1_needs_7 ⟨Nat.le_of_ble_eq_true rfl, Nat.le_of_ble_eq_true rfl⟩) hS (by rw [hAe]; exact fun q h => inW_same (by rfl) h) (fun r9 u9 H locs h8 hP hS hk9 => ?_)
    have hP : va_P (dC, dI) vwCl (wM ad ca 1 gl gz go gw ((n : Int)) ((r : Int) + 1)) H := hP
    have hD : va_D A (wM ad ca 1 gl gz go gw ((n : Int)) ((r : Int) + 1)) := wD_same hD rfl
    subst h8
    refine r_if_eq hx hb dX1_needs_10 (tgt := 15) (by decide) (by omega) (fun hk9 => ?_) (fun hk9 => ?_)
    · exact absurd hk9 (by decide)
    · refine lv_lconst hx hb dX1_needs_13 rfl ?_
      subst hAe
      refine W.widen (k := 0) (n := 0) (by decide) (by decide) ?_
      exact W.lret hx hb hr (fun t ht hW => ⟨⟨_, (1, gl, gz, go, gw, (n : Int), (r : Int) + 1), rfl, ⟨⟨hT, rfl, rfl⟩, Or.inr ⟨hc, rfl⟩⟩, by subst ht; exact hP⟩, hS.F ht⟩) hS.2.2 dX1_needs_14
set_option maxHeartbeats 4000000 in
set_option maxRecDepth 100000 in
theorem n_lose (l : Launch) (dC : Nat → ClassId) (dI : Nat → Nat → Nat) (ad : Nat → Nat) (ca : Nat → ClassId) (er : Int) (gl gz go gw : Nat → Int) (n r : Nat) (L S : Nat → Nat) (lo : Nat → Bool) (hok : okS n L S r) (hT : tM n L S lo gl gz go) (v f : Int) (hv : iR v) (hf : f = 0 ∨ f = 1) : Met l yX1_lose wsX1_lose { frames := 1, cells := 0, slots := 0, locals := 22 } (PX (dC, dI) vwCl (yM ca) (wM ad ca er gl gz go gw ((n : Int)) ((r : Int) + 1)) [.ref (ad 0), .int (iI v), .int (iI f)]) (va_Qi (fun (y : Int32) (u : MU) => ((0 ≤ v ∧ v < 64) ∧ u.1 = 0 ∧ y = iI (b2 (lo v.toNat)) ∧ MS n L S r (lsU lo v.toNat (decide (f = 1))) u) ∨ (¬ (0 ≤ v ∧ v < 64) ∧ u.1 = 1 ∧ MS n L S r lo u)) (fun u t => va_P (dC, dI) vwCl (wMu ad ca u) t.heap) (inW (wM ad ca er gl gz go gw ((n : Int)) ((r : Int) + 1)))) 0 0 (inW (wM ad ca er gl gz go gw ((n : Int)) ((r : Int) + 1))) := by
  refine Met.ofW (cc := cX1_lose) (maxL := 4) (ret := (some .boolean)) (by decide) rfl ?_
  intro p e s m args below meth c s₁ B hml hv
  obtain ⟨rfl, hP, hK, hD0⟩ := hv
  have hx := B.exec
  have hb := B.bytes
  have hr := B.returns
  have hts := atoms_spec (ws := wsX1_lose) B.pre
  have hown : s.vm.findClass RX1 = some m.cls := findClass_of_methodNamed B.named
  have hlocks := B.notSynchronized
  have hw := fun w h => hts w (List.mem_cons_of_mem _ h)
  have hinTX1 : ∀ w ∈ u_ws RX1 TX1 7, w ∈ wsX1_lose := wA_u wuX1
  have fl16 := hw _ wfX1_16
  have hD := wD_own hD0
  obtain ⟨A, hAe⟩ : ∃ A, A = inW (wM ad ca er gl gz go gw ((n : Int)) ((r : Int) + 1)) := ⟨_, rfl⟩
  rw [← hAe] at hD
  obtain ⟨H, hH⟩ : ∃ H, H = s.heap := ⟨_, rfl⟩
  obtain ⟨locs, hlc⟩ : ∃ L : List Loc, L = [] := ⟨_, rfl⟩
  have hS : va_S A s.heap H locs := by rw [hH, hlc]; exact va_S.rf
  rw [← hH] at hP ⊢
  rw [← hlc]
  have hl := lv_entry ([.ref (ad 0), .int (iI v), .int (iI f)]) (n := 4) (Nat.le_of_ble_eq_true rfl)
  rw [lg_entry_eq]
  generalize (lg_sl ([.ref (ad 0), .int (iI v), .int (iI f)]) ++ List.replicate (4 - (lg_sl ([.ref (ad 0), .int (iI v), .int (iI f)])).length) Slot.unset).toArray = ls at hl ⊢
  have hl : lv_has ls 4 [(0, .ref (ad 0)), (1, .int (iI v)), (2, .int (iI f))] := hl
  obtain ⟨ok1, ok2, ok3, ok4, ok5⟩ := id hok
  refine lv_aload_n hx hb dX1_lose_0 rfl (lv_at hl 0 rfl) ?_
  refine lv_iload_n hx hb dX1_lose_1 rfl (lv_at hl 1 rfl) ?_
  refine r_if_lt hx hb dX1_lose_2 (tgt := 11) (by decide) (by omega) (fun h1t => ?_) (fun h1f => ?_)
  · refine r_iconst hx hb dX1_lose_11 ?_
    refine lv_goto hx hb dX1_lose_12 (tgt := 16) (by decide) ?_
    refine r_iconst hx hb dX1_lose_16 ?_
    refine wc_i (va_runV (As := [.int (iI 1), .int (iI 1)]) (rest := []) ⟨hx, hb, hml, hown, hts⟩ (n_fails1 l dC dI ad ca er gl gz go gw ((n : Int)) ((r : Int) + 1) 1) (cwV 2 hts (gV wlX1_33 wo_X1_fails wz_X1_fails wi_2 wcX1_fails) rfl rfl rfl (by decide +kernel) ⟨Nat.le_of_ble_eq_true rfl, Nat.le_of_ble_eq_true rfl⟩) (PX_V (q0 := 0) (ci := 1) hP hK hD rfl rfl) rfl rfl hl.1 rfl (lv_room (Nat.le_of_ble_eq_true rfl)) dX1_lose_17 ⟨Nat.le_of_ble_eq_true rfl, Nat.le_of_ble_eq_true rfl⟩) hS (by rw [hAe]; exact fun q h => inW_same (by rfl) h) (fun r9 u9 H locs h8 hP hS hk9 => ?_)
    have hP : va_P (dC, dI) vwCl (wM ad ca 1 gl gz go gw ((n : Int)) ((r : Int) + 1)) H := hP
    have hD : va_D A (wM ad ca 1 gl gz go gw ((n : Int)) ((r : Int) + 1)) := wD_same hD rfl
    subst h8
    refine r_if_eq hx hb dX1_lose_20 (tgt := 25) (by decide) (by omega) (fun hk9 => ?_) (fun hk9 => ?_)
    · exact absurd hk9 (by decide)
    · refine r_iconst hx hb dX1_lose_23 ?_
      subst hAe
      refine W.widen (k := 0) (n := 0) (by decide) (by decide) ?_
      exact W.zret (v := iI 0) hx hb hr rfl (fun t ht hW => ⟨⟨_, (1, gl, gz, go, gw, (n : Int), (r : Int) + 1), rfl, Or.inr ⟨by omega, rfl, ⟨hT, rfl, rfl⟩⟩, by subst ht; exact hP⟩, hS.F ht⟩) hS.2.2 dX1_lose_24
  · refine lv_iload_n hx hb dX1_lose_5 rfl (lv_at hl 1 rfl) ?_
    refine r_bipush hx hb dX1_lose_6 (by decide +kernel) ?_
    refine r_icmp_lt hx hb dX1_lose_8 (tgt := 15) (by decide) (by omega) (by omega) (fun h2t => ?_) (fun h2f => ?_)
    · refine r_iconst hx hb dX1_lose_15 ?_
      refine r_iconst hx hb dX1_lose_16 ?_
      refine wc_i (va_runV (As := [.int (iI 0), .int (iI 1)]) (rest := []) ⟨hx, hb, hml, hown, hts⟩ (n_fails0 l dC dI ad ca er gl gz go gw ((n : Int)) ((r : Int) + 1) 1) (cwV 2 hts (gV wlX1_33 wo_X1_fails wz_X1_fails wi_2 wcX1_fails) rfl rfl rfl (by decide +kernel) ⟨Nat.le_of_ble_eq_true rfl, Nat.le_of_ble_eq_true rfl⟩) (PX_V (q0 := 0) (ci := 1) hP hK hD rfl rfl) rfl rfl hl.1 rfl (lv_room (Nat.le_of_ble_eq_true rfl)) dX1_lose_17 ⟨Nat.le_of_ble_eq_true rfl, Nat.le_of_ble_eq_true rfl⟩) hS (by rw [hAe]; exact fun q h => inW_same (by rfl) h) (fun r9 u9 H locs h8 hP hS hk9 => ?_)
      have hP : va_P (dC, dI) vwCl (wM ad ca 0 gl gz go gw ((n : Int)) ((r : Int) + 1)) H := hP
      have hD : va_D A (wM ad ca 0 gl gz go gw ((n : Int)) ((r : Int) + 1)) := wD_same hD rfl
      subst h8
      refine r_if_eq hx hb dX1_lose_20 (tgt := 25) (by decide) (by omega) (fun hk9 => ?_) (fun hk9 => ?_)
      · have hl9 := hT.2 v.toNat (by omega)
        have h01 := b2_01 (lo v.toNat)
        refine lv_aload_n hx hb dX1_lose_25 rfl (lv_at hl 0 rfl) ?_
        refine va_get (D := (dC, dI)) (ci := 1) (v := .ref (ad 3)) (C := RX1) (T := TX1) (N := 7) hx hb hts hinTX1 hown hK hP 0 rfl rfl 3 (by decide) fl16 (fun _ h9 => h9) rfl dX1_lose_26 ?_
        refine lv_iload_n hx hb dX1_lose_29 rfl (lv_at hl 1 rfl) ?_
        refine r_zald hx hb hK hP 3 2 rfl rfl (by omega) (by omega) (by decide) dX1_lose_30 ?_
        refine r_topi (b := b2 (lo v.toNat)) (hl9) ?_
        refine lv_istore_n hx hb dX1_lose_31 rfl hl (by decide) rfl (fun ls hl => ?_)
        have hl : lv_has ls 4 [(3, .int (iI (b2 (lo v.toNat)))), (0, .ref (ad 0)), (1, .int (iI v)), (2, .int (iI f))] := hl
        refine lv_aload_n hx hb dX1_lose_32 rfl (lv_at hl 1 rfl) ?_
        refine va_get (D := (dC, dI)) (ci := 1) (v := .ref (ad 3)) (C := RX1) (T := TX1) (N := 7) hx hb hts hinTX1 hown hK hP 0 rfl rfl 3 (by decide) fl16 (fun _ h9 => h9) rfl dX1_lose_33 ?_
        refine lv_iload_n hx hb dX1_lose_36 rfl (lv_at hl 2 rfl) ?_
        refine lv_iload_n hx hb dX1_lose_37 rfl (lv_at hl 3 rfl) ?_
        refine r_zast hx hb hK hP hD hS 3 2 rfl rfl (by omega) (by omega) (by decide) (by omega) dX1_lose_38 (fun H locs hP hD hS => ?_)
        have hP : va_P (dC, dI) vwCl (wM ad ca 0 gl gz (uZ go (v).toNat f) gw ((n : Int)) ((r : Int) + 1)) H := hP
        have hD : va_D A (wM ad ca 0 gl gz (uZ go (v).toNat f) gw ((n : Int)) ((r : Int) + 1)) := hD
        refine lv_iload_n hx hb dX1_lose_39 rfl (lv_at hl 0 rfl) ?_
        have hgo : ∀ w, w < 64 → (uZ go (v).toNat f) w = b2 (lsU lo v.toNat (decide (f = 1)) w) := fun w hw9 => by
          by_cases e : w = v.toNat
          · rw [e, uZ_s]
            unfold lsU
            rw [if_pos rfl]
            rcases hf with h | h <;> rw [h] <;> rfl
          · rw [uZ_n e, hT.2 w hw9]
            unfold lsU
            rw [if_neg e]
        subst hAe
        refine W.widen (k := 0) (n := 0) (by decide) (by decide) ?_
        exact W.zret (v := iI (b2 (lo v.toNat))) hx hb hr (by rcases b2_r (lo v.toNat) with h | h <;> rw [h] <;> rfl) (fun t ht hW => ⟨⟨_, (0, gl, gz, uZ go (v).toNat f, gw, (n : Int), (r : Int) + 1), rfl, Or.inl ⟨by omega, rfl, rfl, ⟨hT.1, hgo⟩, rfl, rfl⟩, by subst ht; exact hP⟩, hS.F ht⟩) hS.2.2 dX1_lose_40
      · exact absurd hk9 (by decide)
    · refine r_iconst hx hb dX1_lose_11 ?_
      refine lv_goto hx hb dX1_lose_12 (tgt := 16) (by decide) ?_
      refine r_iconst hx hb dX1_lose_16 ?_
      refine wc_i (va_runV (As := [.int (iI 1), .int (iI 1)]) (rest := []) ⟨hx, hb, hml, hown, hts⟩ (n_fails1 l dC dI ad ca er gl gz go gw ((n : Int)) ((r : Int) + 1) 1) (cwV 2 hts (gV wlX1_33 wo_X1_fails wz_X1_fails wi_2 wcX1_fails) rfl rfl rfl (by decide +kernel) ⟨Nat.le_of_ble_eq_true rfl, Nat.le_of_ble_eq_true rfl⟩) (PX_V (q0 := 0) (ci := 1) hP hK hD rfl rfl) rfl rfl hl.1 rfl (lv_room (Nat.le_of_ble_eq_true rfl)) dX1_lose_17 ⟨Nat.le_of_ble_eq_true rfl, Nat.le_of_ble_eq_true rfl⟩) hS (by rw [hAe]; exact fun q h => inW_same (by rfl) h) (fun r9 u9 H locs h8 hP hS hk9 => ?_)
      have hP : va_P (dC, dI) vwCl (wM ad ca 1 gl gz go gw ((n : Int)) ((r : Int) + 1)) H := hP
      have hD : va_D A (wM ad ca 1 gl gz go gw ((n : Int)) ((r : Int) + 1)) := wD_same hD rfl
      subst h8
      refine r_if_eq hx hb dX1_lose_20 (tgt := 25) (by decide) (by omega) (fun hk9 => ?_) (fun hk9 => ?_)
      · exact absurd hk9 (by decide)
      · refine r_iconst hx hb dX1_lose_23 ?_
        subst hAe
        refine W.widen (k := 0) (n := 0) (by decide) (by decide) ?_
        exact W.zret (v := iI 0) hx hb hr rfl (fun t ht hW => ⟨⟨_, (1, gl, gz, go, gw, (n : Int), (r : Int) + 1), rfl, Or.inr ⟨by omega, rfl, ⟨hT, rfl, rfl⟩⟩, by subst ht; exact hP⟩, hS.F ht⟩) hS.2.2 dX1_lose_24
set_option maxHeartbeats 4000000 in
set_option maxRecDepth 100000 in
theorem n_good (l : Launch) (dC : Nat → ClassId) (dI : Nat → Nat → Nat) (ad : Nat → Nat) (ca : Nat → ClassId) (er : Int) (gl gz go gw : Nat → Int) (n r : Nat) (L S : Nat → Nat) (lo : Nat → Bool) (hok : okS n L S r) (hT : tM n L S lo gl gz go) (q : Int) (hq : iR q) : Met l yX1_good wsX1_good { frames := 3, cells := 0, slots := 0, locals := 69 } (PX (dC, dI) vwCl (yM ca) (wM ad ca er gl gz go gw ((n : Int)) ((r : Int) + 1)) [.ref (ad 0), .int (iI q)]) (va_Qi (fun (y : Int32) (u : MU) => MS n L S r lo u ∧ (((0 ≤ q ∧ q < (n : Int)) ∧ u.1 = 0 ∧ y = iI (b2 (gd L S r lo q.toNat))) ∨ (¬ (0 ≤ q ∧ q < (n : Int)) ∧ u.1 = 1))) (fun u t => va_P (dC, dI) vwCl (wMu ad ca u) t.heap) (inW (wM ad ca er gl gz go gw ((n : Int)) ((r : Int) + 1)))) 0 0 (inW (wM ad ca er gl gz go gw ((n : Int)) ((r : Int) + 1))) := by
  refine Met.ofW (cc := cX1_good) (maxL := 2) (ret := (some .boolean)) (by decide) rfl ?_
  intro p e s m args below meth c s₁ B hml hv
  obtain ⟨rfl, hP, hK, hD0⟩ := hv
  have hx := B.exec
  have hb := B.bytes
  have hr := B.returns
  have hts := atoms_spec (ws := wsX1_good) B.pre
  have hown : s.vm.findClass RX1 = some m.cls := findClass_of_methodNamed B.named
  have hlocks := B.notSynchronized
  have hw := fun w h => hts w (List.mem_cons_of_mem _ h)
  have hinTX1 : ∀ w ∈ u_ws RX1 TX1 7, w ∈ wsX1_good := wA_u wuX1
  have hD := wD_own hD0
  obtain ⟨A, hAe⟩ : ∃ A, A = inW (wM ad ca er gl gz go gw ((n : Int)) ((r : Int) + 1)) := ⟨_, rfl⟩
  rw [← hAe] at hD
  obtain ⟨H, hH⟩ : ∃ H, H = s.heap := ⟨_, rfl⟩
  obtain ⟨locs, hlc⟩ : ∃ L : List Loc, L = [] := ⟨_, rfl⟩
  have hS : va_S A s.heap H locs := by rw [hH, hlc]; exact va_S.rf
  rw [← hH] at hP ⊢
  rw [← hlc]
  have hl := lv_entry ([.ref (ad 0), .int (iI q)]) (n := 2) (Nat.le_of_ble_eq_true rfl)
  rw [lg_entry_eq]
  generalize (lg_sl ([.ref (ad 0), .int (iI q)]) ++ List.replicate (2 - (lg_sl ([.ref (ad 0), .int (iI q)])).length) Slot.unset).toArray = ls at hl ⊢
  have hl : lv_has ls 2 [(0, .ref (ad 0)), (1, .int (iI q))] := hl
  obtain ⟨ok1, ok2, ok3, ok4, ok5⟩ := id hok
  refine lv_aload_n hx hb dX1_good_0 rfl (lv_at hl 0 rfl) ?_
  refine lv_aload_n hx hb dX1_good_1 rfl (lv_at hl 0 rfl) ?_
  refine lv_iload_n hx hb dX1_good_2 rfl (lv_at hl 1 rfl) ?_
  refine ro_z (z := if 0 ≤ q ∧ q < (n : Int) then 0 else 1) (va_runV (As := [.int (iI q)]) (rest := [.ref (ad 0)]) ⟨hx, hb, hml, hown, hts⟩ (n_none l dC dI ad ca er gl gz go gw n ((r : Int) + 1) q hq ok1) (cwV 1 hts (gV wlX1_41 wo_X1_none wz_X1_none wi_2 wcX1_none) rfl rfl rfl (by decide +kernel) ⟨Nat.le_of_ble_eq_true rfl, Nat.le_of_ble_eq_true rfl⟩) (PX_V (q0 := 0) (ci := 1) hP hK hD rfl rfl) rfl rfl hl.1 rfl (lv_room (Nat.le_of_ble_eq_true rfl)) dX1_good_3 ⟨Nat.le_of_ble_eq_true rfl, Nat.le_of_ble_eq_true rfl⟩) hS hP (fun H locs hP hS => ?_)
  by_cases hc : 0 ≤ q ∧ q < (n : Int)
  · refine r_topi (b := 0) (if_pos hc) ?_
    refine r_iconst hx hb dX1_good_6 ?_
    refine wc_i (va_runV (As := [.int (iI 0), .int (iI 1)]) (rest := []) ⟨hx, hb, hml, hown, hts⟩ (n_fails0 l dC dI ad ca er gl gz go gw ((n : Int)) ((r : Int) + 1) 1) (cwV 2 hts (gV wlX1_33 wo_X1_fails wz_X1_fails wi_2 wcX1_fails) rfl rfl rfl (by decide +kernel) ⟨Nat.le_of_ble_eq_true rfl, Nat.le_of_ble_eq_true rfl⟩) (PX_V (q0 := 0) (ci := 1) hP hK hD rfl rfl) rfl rfl hl.1 rfl (lv_room (Nat.le_of_ble_eq_true rfl)) dX1_good_7 ⟨Nat.le_of_ble_eq_true rfl, Nat.le_of_ble_eq_true rfl⟩) hS (by rw [hAe]; exact fun q h => inW_same (by rfl) h) (fun r9 u9 H locs h8 hP hS hk9 => ?_)
    have hP : va_P (dC, dI) vwCl (wM ad ca 0 gl gz go gw ((n : Int)) ((r : Int) + 1)) H := hP
    have hD : va_D A (wM ad ca 0 gl gz go gw ((n : Int)) ((r : Int) + 1)) := wD_same hD rfl
    subst h8
    refine r_if_ne hx hb dX1_good_10 (tgt := 25) (by decide) (by omega) (fun hk9 => ?_) (fun hk9 => ?_)
    · exact absurd hk9 (by decide)
    · refine lv_aload_n hx hb dX1_good_13 rfl (lv_at hl 0 rfl) ?_
      refine lv_iload_n hx hb dX1_good_14 rfl (lv_at hl 1 rfl) ?_
      refine r_topi (b := (q.toNat : Int)) (by omega) ?_
      refine wc_i (va_runV (As := [.int (iI ((q.toNat : Int)))]) (rest := []) ⟨hx, hb, hml, hown, hts⟩ (n_isGood l dC dI ad ca 0 gl gz go gw n r L S lo hok hT q.toNat (by omega)) (cwV 1 hts (gV wlX1_58 wo_X1_isGood wz_X1_isGood wi_2 wcX1_isGood) rfl rfl rfl (by decide +kernel) ⟨Nat.le_of_ble_eq_true rfl, Nat.le_of_ble_eq_true rfl⟩) (PX_V (q0 := 0) (ci := 1) hP hK hD rfl rfl) rfl rfl hl.1 rfl (lv_room (Nat.le_of_ble_eq_true rfl)) dX1_good_15 ⟨Nat.le_of_ble_eq_true rfl, Nat.le_of_ble_eq_true rfl⟩) hS (by rw [hAe]; exact fun q h => inW_same (by rfl) h) (fun r9 k9 H locs h8 hP hS hk9 => ?_)
      have hP : va_P (dC, dI) vwCl (wM ad ca 0 gl gz go k9 ((n : Int)) ((r : Int) + 1)) H := hP
      have hD : va_D A (wM ad ca 0 gl gz go k9 ((n : Int)) ((r : Int) + 1)) := wD_same hD rfl
      subst h8
      have h01 := b2_01 (gd L S r lo q.toNat)
      refine r_if_eq hx hb dX1_good_18 (tgt := 25) (by decide) (by omega) (fun hz => ?_) (fun hnz => ?_)
      · refine r_iconst hx hb dX1_good_25 ?_
        subst hAe
        refine W.widen (k := 0) (n := 0) (by decide) (by decide) ?_
        exact W.zret (v := iI 0) hx hb hr rfl (fun t ht hW => ⟨⟨_, (0, gl, gz, go, k9, (n : Int), (r : Int) + 1), rfl, ⟨⟨hT, rfl, rfl⟩, Or.inl ⟨hc, rfl, by rw [hz]⟩⟩, by subst ht; exact hP⟩, hS.F ht⟩) hS.2.2 dX1_good_26
      · refine r_iconst hx hb dX1_good_21 ?_
        refine lv_goto hx hb dX1_good_22 (tgt := 26) (by decide) ?_
        subst hAe
        refine W.widen (k := 0) (n := 0) (by decide) (by decide) ?_
        exact W.zret (v := iI 1) hx hb hr rfl (fun t ht hW => ⟨⟨_, (0, gl, gz, go, k9, (n : Int), (r : Int) + 1), rfl, ⟨⟨hT, rfl, rfl⟩, Or.inl ⟨hc, rfl, by rw [b2_1 hnz]; rfl⟩⟩, by subst ht; exact hP⟩, hS.F ht⟩) hS.2.2 dX1_good_26
  · refine r_topi (b := 1) (if_neg hc) ?_
    refine r_iconst hx hb dX1_good_6 ?_
    refine wc_i (va_runV (As := [.int (iI 1), .int (iI 1)]) (rest := []) ⟨hx, hb, hml, hown, hts⟩ (n_fails1 l dC dI ad ca er gl gz go gw ((n : Int)) ((r : Int) + 1) 1) (cwV 2 hts (gV wlX1_33 wo_X1_fails wz_X1_fails wi_2 wcX1_fails) rfl rfl rfl (by decide +kernel) ⟨Nat.le_of_ble_eq_true rfl, Nat.le_of_ble_eq_true rfl⟩) (PX_V (q0 := 0) (ci := 1) hP hK hD rfl rfl) rfl rfl hl.1 rfl (lv_room (Nat.le_of_ble_eq_true rfl)) dX1_good_7 ⟨Nat.le_of_ble_eq_true rfl, Nat.le_of_ble_eq_true rfl⟩) hS (by rw [hAe]; exact fun q h => inW_same (by rfl) h) (fun r9 u9 H locs h8 hP hS hk9 => ?_)
    have hP : va_P (dC, dI) vwCl (wM ad ca 1 gl gz go gw ((n : Int)) ((r : Int) + 1)) H := hP
    have hD : va_D A (wM ad ca 1 gl gz go gw ((n : Int)) ((r : Int) + 1)) := wD_same hD rfl
    subst h8
    refine r_if_ne hx hb dX1_good_10 (tgt := 25) (by decide) (by omega) (fun hk9 => ?_) (fun hk9 => ?_)
    · refine r_iconst hx hb dX1_good_25 ?_
      subst hAe
      refine W.widen (k := 0) (n := 0) (by decide) (by decide) ?_
      exact W.zret (v := iI 0) hx hb hr rfl (fun t ht hW => ⟨⟨_, (1, gl, gz, go, gw, (n : Int), (r : Int) + 1), rfl, ⟨⟨hT, rfl, rfl⟩, Or.inr ⟨hc, rfl⟩⟩, by subst ht; exact hP⟩, hS.F ht⟩) hS.2.2 dX1_good_26
    · exact absurd hk9 (by decide)
set_option maxHeartbeats 4000000 in
set_option maxRecDepth 100000 in
theorem n_latest (l : Launch) (dC : Nat → ClassId) (dI : Nat → Nat → Nat) (ad : Nat → Nat) (ca : Nat → ClassId) (er : Int) (gl gz go gw : Nat → Int) (n r : Nat) (L S : Nat → Nat) (lo : Nat → Bool) (hok : okS n L S r) (hT : tM n L S lo gl gz go) (q : Int) (hq : iR q) : Met l yX1_latest wsX1_latest { frames := 3, cells := 0, slots := 0, locals := 69 } (PX (dC, dI) vwCl (yM ca) (wM ad ca er gl gz go gw ((n : Int)) ((r : Int) + 1)) [.ref (ad 0), .int (iI q)]) (va_Qi (fun (y : Int32) (u : MU) => MS n L S r lo u ∧ (((0 ≤ q ∧ q < (n : Int)) ∧ u.1 = 0 ∧ y = iI ((la (gd L S r lo) (q.toNat + 1) : Int) - 1)) ∨ (¬ (0 ≤ q ∧ q < (n : Int)) ∧ u.1 = 1))) (fun u t => va_P (dC, dI) vwCl (wMu ad ca u) t.heap) (inW (wM ad ca er gl gz go gw ((n : Int)) ((r : Int) + 1)))) 0 0 (inW (wM ad ca er gl gz go gw ((n : Int)) ((r : Int) + 1))) := by
  refine Met.ofW (cc := cX1_latest) (maxL := 3) (ret := (some .int)) (by decide) rfl ?_
  intro p e s m args below meth c s₁ B hml hv
  obtain ⟨rfl, hP, hK, hD0⟩ := hv
  have hx := B.exec
  have hb := B.bytes
  have hr := B.returns
  have hts := atoms_spec (ws := wsX1_latest) B.pre
  have hown : s.vm.findClass RX1 = some m.cls := findClass_of_methodNamed B.named
  have hlocks := B.notSynchronized
  have hw := fun w h => hts w (List.mem_cons_of_mem _ h)
  have hinTX1 : ∀ w ∈ u_ws RX1 TX1 7, w ∈ wsX1_latest := wA_u wuX1
  have hD := wD_own hD0
  obtain ⟨A, hAe⟩ : ∃ A, A = inW (wM ad ca er gl gz go gw ((n : Int)) ((r : Int) + 1)) := ⟨_, rfl⟩
  rw [← hAe] at hD
  obtain ⟨H, hH⟩ : ∃ H, H = s.heap := ⟨_, rfl⟩
  obtain ⟨locs, hlc⟩ : ∃ L : List Loc, L = [] := ⟨_, rfl⟩
  have hS : va_S A s.heap H locs := by rw [hH, hlc]; exact va_S.rf
  rw [← hH] at hP ⊢
  rw [← hlc]
  have hl := lv_entry ([.ref (ad 0), .int (iI q)]) (n := 3) (Nat.le_of_ble_eq_true rfl)
  rw [lg_entry_eq]
  generalize (lg_sl ([.ref (ad 0), .int (iI q)]) ++ List.replicate (3 - (lg_sl ([.ref (ad 0), .int (iI q)])).length) Slot.unset).toArray = ls at hl ⊢
  have hl : lv_has ls 3 [(0, .ref (ad 0)), (1, .int (iI q))] := hl
  obtain ⟨ok1, ok2, ok3, ok4, ok5⟩ := id hok
  refine lv_aload_n hx hb dX1_latest_0 rfl (lv_at hl 0 rfl) ?_
  refine lv_aload_n hx hb dX1_latest_1 rfl (lv_at hl 0 rfl) ?_
  refine lv_iload_n hx hb dX1_latest_2 rfl (lv_at hl 1 rfl) ?_
  refine ro_z (z := if 0 ≤ q ∧ q < (n : Int) then 0 else 1) (va_runV (As := [.int (iI q)]) (rest := [.ref (ad 0)]) ⟨hx, hb, hml, hown, hts⟩ (n_none l dC dI ad ca er gl gz go gw n ((r : Int) + 1) q hq ok1) (cwV 1 hts (gV wlX1_41 wo_X1_none wz_X1_none wi_2 wcX1_none) rfl rfl rfl (by decide +kernel) ⟨Nat.le_of_ble_eq_true rfl, Nat.le_of_ble_eq_true rfl⟩) (PX_V (q0 := 0) (ci := 1) hP hK hD rfl rfl) rfl rfl hl.1 rfl (lv_room (Nat.le_of_ble_eq_true rfl)) dX1_latest_3 ⟨Nat.le_of_ble_eq_true rfl, Nat.le_of_ble_eq_true rfl⟩) hS hP (fun H locs hP hS => ?_)
  by_cases hc : 0 ≤ q ∧ q < (n : Int)
  · refine r_topi (b := 0) (if_pos hc) ?_
    refine r_iconst hx hb dX1_latest_6 ?_
    refine wc_i (va_runV (As := [.int (iI 0), .int (iI 1)]) (rest := []) ⟨hx, hb, hml, hown, hts⟩ (n_fails0 l dC dI ad ca er gl gz go gw ((n : Int)) ((r : Int) + 1) 1) (cwV 2 hts (gV wlX1_33 wo_X1_fails wz_X1_fails wi_2 wcX1_fails) rfl rfl rfl (by decide +kernel) ⟨Nat.le_of_ble_eq_true rfl, Nat.le_of_ble_eq_true rfl⟩) (PX_V (q0 := 0) (ci := 1) hP hK hD rfl rfl) rfl rfl hl.1 rfl (lv_room (Nat.le_of_ble_eq_true rfl)) dX1_latest_7 ⟨Nat.le_of_ble_eq_true rfl, Nat.le_of_ble_eq_true rfl⟩) hS (by rw [hAe]; exact fun q h => inW_same (by rfl) h) (fun r9 u9 H locs h8 hP hS hk9 => ?_)
    have hP : va_P (dC, dI) vwCl (wM ad ca 0 gl gz go gw ((n : Int)) ((r : Int) + 1)) H := hP
    have hD : va_D A (wM ad ca 0 gl gz go gw ((n : Int)) ((r : Int) + 1)) := wD_same hD rfl
    subst h8
    refine r_if_eq hx hb dX1_latest_10 (tgt := 15) (by decide) (by omega) (fun hk9 => ?_) (fun hk9 => ?_)
    · refine lv_iload_n hx hb dX1_latest_15 rfl (lv_at hl 1 rfl) ?_
      refine lv_istore_n hx hb dX1_latest_16 rfl hl (by decide) rfl (fun ls hl => ?_)
      have hl : lv_has ls 3 [(2, .int (iI q)), (0, .ref (ad 0)), (1, .int (iI q))] := hl
      have loop : ∀ (N : Nat) (k : Nat) (g1 : Nat → Int) (ls : Array Slot) (H : Heap) (locs : List Loc), k < N → (k ≤ n) → (la (gd L S r lo) k = la (gd L S r lo) (q.toNat + 1)) → va_P (dC, dI) vwCl (wM ad ca 0 gl gz go g1 ((n : Int)) ((r : Int) + 1)) H → va_D A (wM ad ca 0 gl gz go g1 ((n : Int)) ((r : Int) + 1)) → va_S A s.heap H locs → lv_has ls 3 [(2, .int (iI ((k : Int) - 1))), (0, .ref (ad 0)), (1, .int (iI q))] → W p l e (headSpec wsX1_latest { frames := 3, cells := 0, slots := 0, locals := 69 }).room s m ([.ref (ad 0), .int (iI q)]).toArray below meth c H locs (0 + 0) (0 + 0) (MQ below (va_Qi (fun (y : Int32) (u : MU) => MS n L S r lo u ∧ (((0 ≤ q ∧ q < (n : Int)) ∧ u.1 = 0 ∧ y = iI ((la (gd L S r lo) (q.toNat + 1) : Int) - 1)) ∨ (¬ (0 ≤ q ∧ q < (n : Int)) ∧ u.1 = 1))) (fun u t => va_P (dC, dI) vwCl (wMu ad ca u) t.heap) (inW (wM ad ca er gl gz go gw ((n : Int)) ((r : Int) + 1)))) ([.ref (ad 0), .int (iI q)]).toArray s 0 0 (inW (wM ad ca er gl gz go gw ((n : Int)) ((r : Int) + 1)))) (F0 m 17 ls []) := by
        intro N
        induction N with
        | zero => intro k g1 ls H locs h; exact absurd h (Nat.not_lt_zero _)
        | succ N ih =>
          intro k g1 ls H locs hN hk hb9 hP hD hS hl
          refine lv_iload_n hx hb dX1_latest_17 rfl (lv_at hl 0 rfl) ?_
          refine r_if_lt hx hb dX1_latest_18 (tgt := 35) (by decide) (by omega) (fun hlt => ?_) (fun hge => ?_)
          · have hk0 : k = 0 := by omega
            refine lv_iload_n hx hb dX1_latest_35 rfl (lv_at hl 0 rfl) ?_
            subst hAe
            refine W.widen (k := 0) (n := 0) (by decide) (by decide) ?_
            exact W.iret (v := iI ((k : Int) - 1)) hx hb hr (fun t ht hW => ⟨⟨_, (0, gl, gz, go, g1, (n : Int), (r : Int) + 1), rfl, ⟨⟨hT, rfl, rfl⟩, Or.inl ⟨hc, rfl, by rw [← hb9, hk0]; rfl⟩⟩, by subst ht; exact hP⟩, hS.F ht⟩) hS.2.2 dX1_latest_36
          · obtain ⟨j, hj⟩ : ∃ j, k = j + 1 := ⟨k - 1, by omega⟩
            have eb : la (gd L S r lo) k = if gd L S r lo j then j + 1 else la (gd L S r lo) j := by rw [hj]; rfl
            have h01 := b2_01 (gd L S r lo j)
            refine lv_aload_n hx hb dX1_latest_21 rfl (lv_at hl 1 rfl) ?_
            refine lv_iload_n hx hb dX1_latest_22 rfl (lv_at hl 0 rfl) ?_
            refine r_topi (b := (j : Int)) (by omega) ?_
            refine wc_i (va_runV (As := [.int (iI ((j : Int)))]) (rest := []) ⟨hx, hb, hml, hown, hts⟩ (n_isGood l dC dI ad ca 0 gl gz go g1 n r L S lo hok hT j (by omega)) (cwV 1 hts (gV wlX1_58 wo_X1_isGood wz_X1_isGood wi_2 wcX1_isGood) rfl rfl rfl (by decide +kernel) ⟨Nat.le_of_ble_eq_true rfl, Nat.le_of_ble_eq_true rfl⟩) (PX_V (q0 := 0) (ci := 1) hP hK hD rfl rfl) rfl rfl hl.1 rfl (lv_room (Nat.le_of_ble_eq_true rfl)) dX1_latest_23 ⟨Nat.le_of_ble_eq_true rfl, Nat.le_of_ble_eq_true rfl⟩) hS (by rw [hAe]; exact fun q h => inW_same (by rfl) h) (fun r9 k9 H locs h8 hP hS hk9 => ?_)
            have hP : va_P (dC, dI) vwCl (wM ad ca 0 gl gz go k9 ((n : Int)) ((r : Int) + 1)) H := hP
            have hD : va_D A (wM ad ca 0 gl gz go k9 ((n : Int)) ((r : Int) + 1)) := wD_same hD rfl
            subst h8
            refine r_if_ne hx hb dX1_latest_26 (tgt := 35) (by decide) (by omega) (fun hnz => ?_) (fun hz => ?_)
            · refine lv_iload_n hx hb dX1_latest_35 rfl (lv_at hl 0 rfl) ?_
              subst hAe
              refine W.widen (k := 0) (n := 0) (by decide) (by decide) ?_
              exact W.iret (v := iI ((k : Int) - 1)) hx hb hr (fun t ht hW => ⟨⟨_, (0, gl, gz, go, k9, (n : Int), (r : Int) + 1), rfl, ⟨⟨hT, rfl, rfl⟩, Or.inl ⟨hc, rfl, by rw [← hb9, eb, if_pos (b2_1 hnz), hj]⟩⟩, by subst ht; exact hP⟩, hS.F ht⟩) hS.2.2 dX1_latest_36
            · have hgf : ¬ gd L S r lo j = true := fun q9 => by rw [b2_0 hz] at q9; exact absurd q9 (by decide)
              refine r_iinc (k := 0) hx hb dX1_latest_29 hl rfl (by decide) rfl (fun ls hl => ?_)
              have hl : lv_has ls 3 [(2, .int (iI ((k : Int) - 1 + (-1)))), (0, .ref (ad 0)), (1, .int (iI q))] := hl
              refine lv_goto hx hb dX1_latest_32 (tgt := 17) (by decide) ?_
              have hl : lv_has ls 3 [(2, .int (iI ((j : Int) - 1))), (0, .ref (ad 0)), (1, .int (iI q))] := by rw [show (j : Int) - 1 = (k : Int) - 1 + (-1) by omega]; exact hl
              exact ih j k9 ls H locs (by omega) (by omega) (by rw [← hb9, eb, if_neg hgf]) hP hD hS hl
      have hl : lv_has ls 3 [(2, .int (iI (((q.toNat + 1 : Nat) : Int) - 1))), (0, .ref (ad 0)), (1, .int (iI q))] := by
        rw [show ((q.toNat + 1 : Nat) : Int) - 1 = q by omega]
        exact hl
      exact loop (q.toNat + 2) (q.toNat + 1) gw ls H locs (Nat.lt_succ_self _) (by omega) rfl hP hD hS hl
    · exact absurd hk9 (by decide)
  · refine r_topi (b := 1) (if_neg hc) ?_
    refine r_iconst hx hb dX1_latest_6 ?_
    refine wc_i (va_runV (As := [.int (iI 1), .int (iI 1)]) (rest := []) ⟨hx, hb, hml, hown, hts⟩ (n_fails1 l dC dI ad ca er gl gz go gw ((n : Int)) ((r : Int) + 1) 1) (cwV 2 hts (gV wlX1_33 wo_X1_fails wz_X1_fails wi_2 wcX1_fails) rfl rfl rfl (by decide +kernel) ⟨Nat.le_of_ble_eq_true rfl, Nat.le_of_ble_eq_true rfl⟩) (PX_V (q0 := 0) (ci := 1) hP hK hD rfl rfl) rfl rfl hl.1 rfl (lv_room (Nat.le_of_ble_eq_true rfl)) dX1_latest_7 ⟨Nat.le_of_ble_eq_true rfl, Nat.le_of_ble_eq_true rfl⟩) hS (by rw [hAe]; exact fun q h => inW_same (by rfl) h) (fun r9 u9 H locs h8 hP hS hk9 => ?_)
    have hP : va_P (dC, dI) vwCl (wM ad ca 1 gl gz go gw ((n : Int)) ((r : Int) + 1)) H := hP
    have hD : va_D A (wM ad ca 1 gl gz go gw ((n : Int)) ((r : Int) + 1)) := wD_same hD rfl
    subst h8
    refine r_if_eq hx hb dX1_latest_10 (tgt := 15) (by decide) (by omega) (fun hk9 => ?_) (fun hk9 => ?_)
    · exact absurd hk9 (by decide)
    · refine r_iconst hx hb dX1_latest_13 ?_
      subst hAe
      refine W.widen (k := 0) (n := 0) (by decide) (by decide) ?_
      exact W.iret (v := iI 0) hx hb hr (fun t ht hW => ⟨⟨_, (1, gl, gz, go, gw, (n : Int), (r : Int) + 1), rfl, ⟨⟨hT, rfl, rfl⟩, Or.inr ⟨hc, rfl⟩⟩, by subst ht; exact hP⟩, hS.F ht⟩) hS.2.2 dX1_latest_14
set_option maxHeartbeats 4000000 in
set_option maxRecDepth 100000 in
theorem n_spare (l : Launch) (dC : Nat → ClassId) (dI : Nat → Nat → Nat) (ad : Nat → Nat) (ca : Nat → ClassId) (er : Int) (gl gz go gw : Nat → Int) (n r : Nat) (L S : Nat → Nat) (lo : Nat → Bool) (hok : okS n L S r) (hT : tM n L S lo gl gz go) (q : Int) (hq : iR q) : Met l yX1_spare wsX1_spare { frames := 2, cells := 0, slots := 0, locals := 47 } (PX (dC, dI) vwCl (yM ca) (wM ad ca er gl gz go gw ((n : Int)) ((r : Int) + 1)) [.ref (ad 0), .int (iI q)]) (va_Ql (fun (y : Int64) (u : MU) => MS n L S r lo u ∧ ((0 ≤ q ∧ u.1 = 0 ∧ ∀ v, v < 64 → bL y v = sp L S r n q.toNat v) ∨ (¬ 0 ≤ q ∧ u.1 = 1))) (fun u t => va_P (dC, dI) vwCl (wMu ad ca u) t.heap) (inW (wM ad ca er gl gz go gw ((n : Int)) ((r : Int) + 1)))) 0 0 (inW (wM ad ca er gl gz go gw ((n : Int)) ((r : Int) + 1))) := by
  refine Met.ofW (cc := cX1_spare) (maxL := 5) (ret := (some .long)) (by decide) rfl ?_
  intro p e s m args below meth c s₁ B hml hv
  obtain ⟨rfl, hP, hK, hD0⟩ := hv
  have hx := B.exec
  have hb := B.bytes
  have hr := B.returns
  have hts := atoms_spec (ws := wsX1_spare) B.pre
  have hown : s.vm.findClass RX1 = some m.cls := findClass_of_methodNamed B.named
  have hlocks := B.notSynchronized
  have hw := fun w h => hts w (List.mem_cons_of_mem _ h)
  have hinTX1 : ∀ w ∈ u_ws RX1 TX1 7, w ∈ wsX1_spare := wA_u wuX1
  have fl30 := hw _ wfX1_30
  have fl20 := hw _ wfX1_20
  have hD := wD_own hD0
  obtain ⟨A, hAe⟩ : ∃ A, A = inW (wM ad ca er gl gz go gw ((n : Int)) ((r : Int) + 1)) := ⟨_, rfl⟩
  rw [← hAe] at hD
  obtain ⟨H, hH⟩ : ∃ H, H = s.heap := ⟨_, rfl⟩
  obtain ⟨locs, hlc⟩ : ∃ L : List Loc, L = [] := ⟨_, rfl⟩
  have hS : va_S A s.heap H locs := by rw [hH, hlc]; exact va_S.rf
  rw [← hH] at hP ⊢
  rw [← hlc]
  have hl := lv_entry ([.ref (ad 0), .int (iI q)]) (n := 5) (Nat.le_of_ble_eq_true rfl)
  rw [lg_entry_eq]
  generalize (lg_sl ([.ref (ad 0), .int (iI q)]) ++ List.replicate (5 - (lg_sl ([.ref (ad 0), .int (iI q)])).length) Slot.unset).toArray = ls at hl ⊢
  have hl : lv_has ls 5 [(0, .ref (ad 0)), (1, .int (iI q))] := hl
  obtain ⟨ok1, ok2, ok3, ok4, ok5⟩ := id hok
  have hwr := wr_le (S := S) (n := n) ok2 ok5
  refine lv_aload_n hx hb dX1_spare_0 rfl (lv_at hl 0 rfl) ?_
  refine lv_iload_n hx hb dX1_spare_1 rfl (lv_at hl 1 rfl) ?_
  refine r_if_ge hx hb dX1_spare_2 (tgt := 9) (by decide) (by omega) (fun hge => ?_) (fun hlt => ?_)
  · refine r_iconst hx hb dX1_spare_9 ?_
    refine r_iconst hx hb dX1_spare_10 ?_
    refine wc_i (va_runV (As := [.int (iI 0), .int (iI 1)]) (rest := []) ⟨hx, hb, hml, hown, hts⟩ (n_fails0 l dC dI ad ca er gl gz go gw ((n : Int)) ((r : Int) + 1) 1) (cwV 2 hts (gV wlX1_33 wo_X1_fails wz_X1_fails wi_2 wcX1_fails) rfl rfl rfl (by decide +kernel) ⟨Nat.le_of_ble_eq_true rfl, Nat.le_of_ble_eq_true rfl⟩) (PX_V (q0 := 0) (ci := 1) hP hK hD rfl rfl) rfl rfl hl.1 rfl (lv_room (Nat.le_of_ble_eq_true rfl)) dX1_spare_11 ⟨Nat.le_of_ble_eq_true rfl, Nat.le_of_ble_eq_true rfl⟩) hS (by rw [hAe]; exact fun q h => inW_same (by rfl) h) (fun r9 u9 H locs h8 hP hS hk9 => ?_)
    have hP : va_P (dC, dI) vwCl (wM ad ca 0 gl gz go gw ((n : Int)) ((r : Int) + 1)) H := hP
    have hD : va_D A (wM ad ca 0 gl gz go gw ((n : Int)) ((r : Int) + 1)) := wD_same hD rfl
    subst h8
    refine r_if_eq hx hb dX1_spare_14 (tgt := 19) (by decide) (by omega) (fun hk9 => ?_) (fun hk9 => ?_)
    · refine lv_aload_n hx hb dX1_spare_19 rfl (lv_at hl 0 rfl) ?_
      refine wc_v (va_runV (As := []) (rest := []) ⟨hx, hb, hml, hown, hts⟩ (n_nothing l dC dI ad ca 0 gl gz go gw ((n : Int)) ((r : Int) + 1)) (cwV 0 hts (gV wlX1_51 wo_X1_nothing wz_X1_nothing wi_2 wcX1_nothing) rfl rfl rfl (by decide +kernel) ⟨Nat.le_of_ble_eq_true rfl, Nat.le_of_ble_eq_true rfl⟩) (PX_V (q0 := 0) (ci := 1) hP hK hD rfl rfl) rfl rfl hl.1 rfl (lv_room (Nat.le_of_ble_eq_true rfl)) dX1_spare_20 ⟨Nat.le_of_ble_eq_true rfl, Nat.le_of_ble_eq_true rfl⟩) hS (by rw [hAe]; exact fun q h => inW_same (by rfl) h) (fun z9 H locs hz9 hP hS hk9 => ?_)
      have hP : va_P (dC, dI) vwCl (wM ad ca 0 gl gz go z9 ((n : Int)) ((r : Int) + 1)) H := hP
      have hD : va_D A (wM ad ca 0 gl gz go z9 ((n : Int)) ((r : Int) + 1)) := wD_same hD rfl
      refine lv_aload_n hx hb dX1_spare_23 rfl (lv_at hl 0 rfl) ?_
      refine va_get (D := (dC, dI)) (ci := 1) (v := .int (iI ((n : Int)))) (C := RX1) (T := TX1) (N := 7) hx hb hts hinTX1 hown hK hP 0 rfl rfl 5 (by decide) fl30 (fun _ h9 => h9) rfl dX1_spare_24 ?_
      refine r_iconst hx hb dX1_spare_27 ?_
      refine r_isub hx hb dX1_spare_28 ?_
      refine lv_istore_n hx hb dX1_spare_29 rfl hl (by decide) rfl (fun ls hl => ?_)
      have hl : lv_has ls 5 [(2, .int (iI (((n : Int)) - 1))), (0, .ref (ad 0)), (1, .int (iI q))] := hl
      have loop : ∀ (N : Nat) (p9 : Nat) (g1 : Nat → Int) (w1 : Nat → Bool) (ls : Array Slot) (H : Heap) (locs : List Loc), p9 < N → (p9 ≤ n) → (∀ v, v < 64 → g1 v = b2 (w1 v)) → (∀ v, v < 64 → (!w1 v && noH (spP L S r n q.toNat v) p9) = noH (spP L S r n q.toNat v) n) → va_P (dC, dI) vwCl (wM ad ca 0 gl gz go g1 ((n : Int)) ((r : Int) + 1)) H → va_D A (wM ad ca 0 gl gz go g1 ((n : Int)) ((r : Int) + 1)) → va_S A s.heap H locs → lv_has ls 5 [(2, .int (iI ((p9 : Int) - 1))), (0, .ref (ad 0)), (1, .int (iI q))] → W p l e (headSpec wsX1_spare { frames := 2, cells := 0, slots := 0, locals := 47 }).room s m ([.ref (ad 0), .int (iI q)]).toArray below meth c H locs ((0 + 0) + 0) ((0 + 0) + 0) (MQ below (va_Ql (fun (y : Int64) (u : MU) => MS n L S r lo u ∧ ((0 ≤ q ∧ u.1 = 0 ∧ ∀ v, v < 64 → bL y v = sp L S r n q.toNat v) ∨ (¬ 0 ≤ q ∧ u.1 = 1))) (fun u t => va_P (dC, dI) vwCl (wMu ad ca u) t.heap) (inW (wM ad ca er gl gz go gw ((n : Int)) ((r : Int) + 1)))) ([.ref (ad 0), .int (iI q)]).toArray s 0 0 (inW (wM ad ca er gl gz go gw ((n : Int)) ((r : Int) + 1)))) (F0 m 30 ls []) := by
        intro N
        induction N with
        | zero => intro p9 g1 w1 ls H locs h; exact absurd h (Nat.not_lt_zero _)
        | succ N ih =>
          intro p9 g1 w1 ls H locs hN hp h9 hn9 hP hD hS hl
          refine lv_iload_n hx hb dX1_spare_30 rfl (lv_at hl 0 rfl) ?_
          refine r_if_lt hx hb dX1_spare_31 (tgt := 55) (by decide) (by omega) (fun hlt2 => ?_) (fun hge2 => ?_)
          · have hp0 : p9 = 0 := by omega
            have hs9 : ∀ v, v < 64 → (!w1 v) = noH (spP L S r n q.toNat v) n := fun v hv => by rw [← hn9 v hv, hp0, show noH (spP L S r n q.toNat v) 0 = true from rfl, Bool.and_true]
            refine lv_lconst hx hb dX1_spare_55 rfl ?_
            refine lv_lstore_n hx hb dX1_spare_56 rfl hl (by decide) rfl (fun ls hl => ?_)
            have hl : lv_has ls 5 [(2, .long (Int64.ofNat 0)), (0, .ref (ad 0)), (1, .int (iI q))] := hl
            refine r_iconst hx hb dX1_spare_57 ?_
            refine lv_istore hx hb dX1_spare_58 hl (by decide) rfl (fun ls hl => ?_)
            have hl : lv_has ls 5 [(4, .int (iI 0)), (2, .long (Int64.ofNat 0)), (0, .ref (ad 0)), (1, .int (iI q))] := hl
            have loop2 : ∀ (N : Nat) (k : Nat) (y : Int64) (ls : Array Slot) (H : Heap) (locs : List Loc), 64 - k < N → (k ≤ wr S r n) → (∀ j, j < 64 → bL y j = (decide (j < k) && !w1 j)) → va_P (dC, dI) vwCl (wM ad ca 0 gl gz go g1 ((n : Int)) ((r : Int) + 1)) H → va_D A (wM ad ca 0 gl gz go g1 ((n : Int)) ((r : Int) + 1)) → va_S A s.heap H locs → lv_has ls 5 [(4, .int (iI ((k : Int)))), (2, .long y), (0, .ref (ad 0)), (1, .int (iI q))] → W p l e (headSpec wsX1_spare { frames := 2, cells := 0, slots := 0, locals := 47 }).room s m ([.ref (ad 0), .int (iI q)]).toArray below meth c H locs ((0 + 0) + 0) ((0 + 0) + 0) (MQ below (va_Ql (fun (y : Int64) (u : MU) => MS n L S r lo u ∧ ((0 ≤ q ∧ u.1 = 0 ∧ ∀ v, v < 64 → bL y v = sp L S r n q.toNat v) ∨ (¬ 0 ≤ q ∧ u.1 = 1))) (fun u t => va_P (dC, dI) vwCl (wMu ad ca u) t.heap) (inW (wM ad ca er gl gz go gw ((n : Int)) ((r : Int) + 1)))) ([.ref (ad 0), .int (iI q)]).toArray s 0 0 (inW (wM ad ca er gl gz go gw ((n : Int)) ((r : Int) + 1)))) (F0 m 60 ls []) := by
              intro N
              induction N with
              | zero => intro k y ls H locs h; exact absurd h (Nat.not_lt_zero _)
              | succ N ih =>
                intro k y ls H locs hN hk hy hP hD hS hl
                refine lv_iload hx hb dX1_spare_60 (lv_at hl 0 rfl) ?_
                refine lv_aload_n hx hb dX1_spare_62 rfl (lv_at hl 2 rfl) ?_
                refine ro_z (z := (wr S r n : Int)) (va_runV (As := []) (rest := [.int (iI ((k : Int)))]) ⟨hx, hb, hml, hown, hts⟩ (n_written l dC dI ad ca 0 gl gz go g1 n r L S lo hok hT) (cwV 0 hts (gV wlX1_61 wo_X1_written wz_X1_written wi_2 wcX1_written) rfl rfl rfl (by decide +kernel) ⟨Nat.le_of_ble_eq_true rfl, Nat.le_of_ble_eq_true rfl⟩) (PX_V (q0 := 0) (ci := 1) hP hK hD rfl rfl) rfl rfl hl.1 rfl (lv_room (Nat.le_of_ble_eq_true rfl)) dX1_spare_63 ⟨Nat.le_of_ble_eq_true rfl, Nat.le_of_ble_eq_true rfl⟩) hS hP (fun H locs hP hS => ?_)
                refine r_icmp_ge hx hb dX1_spare_66 (tgt := 92) (by decide) (by omega) (by omega) (fun hge5 => ?_) (fun hlt5 => ?_)
                · have hk0 : k = wr S r n := by omega
                  refine lv_lload_n hx hb dX1_spare_92 rfl (lv_at hl 1 rfl) ?_
                  subst hAe
                  refine W.widen (k := 0) (n := 0) (by decide) (by decide) ?_
                  exact W.lret hx hb hr (fun t ht hW => ⟨⟨_, (0, gl, gz, go, g1, (n : Int), (r : Int) + 1), rfl, ⟨⟨hT, rfl, rfl⟩, Or.inl ⟨hge, rfl, fun v hv => by rw [hy v hv, hk0, hs9 v hv]; rfl⟩⟩, by subst ht; exact hP⟩, hS.F ht⟩) hS.2.2 dX1_spare_93
                · have ek : ((k : Int)).toNat = k := by omega
                  have h01 := b2_01 (w1 k)
                  refine lv_aload_n hx hb dX1_spare_69 rfl (lv_at hl 2 rfl) ?_
                  refine va_get (D := (dC, dI)) (ci := 1) (v := .ref (ad 4)) (C := RX1) (T := TX1) (N := 7) hx hb hts hinTX1 hown hK hP 0 rfl rfl 4 (by decide) fl20 (fun _ h9 => h9) rfl dX1_spare_70 ?_
                  refine lv_iload hx hb dX1_spare_73 (lv_at hl 0 rfl) ?_
                  refine r_zald hx hb hK hP 4 3 rfl rfl (by omega) (by omega) (by decide) dX1_spare_75 ?_
                  refine r_topi (b := b2 (w1 k)) (by rw [ek]; exact h9 k (by omega)) ?_
                  refine r_if_ne hx hb dX1_spare_76 (tgt := 86) (by decide) (by omega) (fun hnz => ?_) (fun hz => ?_)
                  · refine r_iinc (k := 0) hx hb dX1_spare_86 hl rfl (by decide) rfl (fun ls hl => ?_)
                    have hl : lv_has ls 5 [(4, .int (iI ((k : Int) + 1))), (2, .long y), (0, .ref (ad 0)), (1, .int (iI q))] := hl
                    refine lv_goto hx hb dX1_spare_89 (tgt := 60) (by decide) ?_
                    have hl : lv_has ls 5 [(4, .int (iI ((k + 1 : Nat) : Int))), (2, .long (y)), (0, .ref (ad 0)), (1, .int (iI q))] := by
                      rw [show ((k + 1 : Nat) : Int) = (k : Int) + 1 by omega]
                      exact hl
                    exact ih (k + 1) y ls H locs (by omega) (by omega) (st_off (P := fun v => !w1 v) hy (by rw [b2_1 hnz]; rfl)) hP hD hS hl
                  · refine lv_lload_n hx hb dX1_spare_79 rfl (lv_at hl 1 rfl) ?_
                    refine lv_lconst hx hb dX1_spare_80 rfl ?_
                    refine lv_iload hx hb dX1_spare_81 (lv_at hl 0 rfl) ?_
                    refine lv_lshl hx hb dX1_spare_83 rfl ?_
                    refine lv_lor hx hb dX1_spare_84 ?_
                    refine lv_lstore_n hx hb dX1_spare_85 rfl hl (by decide) rfl (fun ls hl => ?_)
                    have hl : lv_has ls 5 [(2, .long (y ||| ((Int64.ofNat 1) <<< ((iI ((k : Int))).toInt64 &&& 63)))), (4, .int (iI ((k : Int)))), (0, .ref (ad 0)), (1, .int (iI q))] := hl
                    refine r_iinc (k := 1) hx hb dX1_spare_86 hl rfl (by decide) rfl (fun ls hl => ?_)
                    have hl : lv_has ls 5 [(4, .int (iI ((k : Int) + 1))), (2, .long (y ||| ((Int64.ofNat 1) <<< ((iI ((k : Int))).toInt64 &&& 63)))), (0, .ref (ad 0)), (1, .int (iI q))] := hl
                    refine lv_goto hx hb dX1_spare_89 (tgt := 60) (by decide) ?_
                    have hl : lv_has ls 5 [(4, .int (iI ((k + 1 : Nat) : Int))), (2, .long (y ||| ((Int64.ofNat 1) <<< ((iI ((k : Int))).toInt64 &&& 63)))), (0, .ref (ad 0)), (1, .int (iI q))] := by
                      rw [show ((k + 1 : Nat) : Int) = (k : Int) + 1 by omega]
                      exact hl
                    exact ih (k + 1) (y ||| ((Int64.ofNat 1) <<< ((iI ((k : Int))).toInt64 &&& 63))) ls H locs (by omega) (by omega) (st_on (P := fun v => !w1 v) hy (by omega) (by rw [b2_0 hz]; rfl)) hP hD hS hl
            exact loop2 (65) 0 (Int64.ofNat 0) ls H locs (by omega) (Nat.zero_le _) (fun j hj => bL_0 j) hP hD hS hl
          · obtain ⟨j, hj⟩ : ∃ j, p9 = j + 1 := ⟨p9 - 1, by omega⟩
            refine lv_iload_n hx hb dX1_spare_34 rfl (lv_at hl 0 rfl) ?_
            refine lv_aload_n hx hb dX1_spare_35 rfl (lv_at hl 1 rfl) ?_
            refine va_get (D := (dC, dI)) (ci := 1) (v := .int (iI ((n : Int)))) (C := RX1) (T := TX1) (N := 7) hx hb hts hinTX1 hown hK hP 0 rfl rfl 5 (by decide) fl30 (fun _ h9 => h9) rfl dX1_spare_36 ?_
            refine lv_iload_n hx hb dX1_spare_39 rfl (lv_at hl 2 rfl) ?_
            refine r_isub hx hb dX1_spare_40 ?_
            refine r_icmp_lt hx hb dX1_spare_41 (tgt := 55) (by decide) (by omega) (by omega) (fun hlt3 => ?_) (fun hge3 => ?_)
            · have hs9 : ∀ v, v < 64 → (!w1 v) = noH (spP L S r n q.toNat v) n := fun v hv => by rw [← hn9 v hv, hj, spP_0 (by omega), Bool.and_true]
              refine lv_lconst hx hb dX1_spare_55 rfl ?_
              refine lv_lstore_n hx hb dX1_spare_56 rfl hl (by decide) rfl (fun ls hl => ?_)
              have hl : lv_has ls 5 [(2, .long (Int64.ofNat 0)), (0, .ref (ad 0)), (1, .int (iI q))] := hl
              refine r_iconst hx hb dX1_spare_57 ?_
              refine lv_istore hx hb dX1_spare_58 hl (by decide) rfl (fun ls hl => ?_)
              have hl : lv_has ls 5 [(4, .int (iI 0)), (2, .long (Int64.ofNat 0)), (0, .ref (ad 0)), (1, .int (iI q))] := hl
              have loop2 : ∀ (N : Nat) (k : Nat) (y : Int64) (ls : Array Slot) (H : Heap) (locs : List Loc), 64 - k < N → (k ≤ wr S r n) → (∀ j, j < 64 → bL y j = (decide (j < k) && !w1 j)) → va_P (dC, dI) vwCl (wM ad ca 0 gl gz go g1 ((n : Int)) ((r : Int) + 1)) H → va_D A (wM ad ca 0 gl gz go g1 ((n : Int)) ((r : Int) + 1)) → va_S A s.heap H locs → lv_has ls 5 [(4, .int (iI ((k : Int)))), (2, .long y), (0, .ref (ad 0)), (1, .int (iI q))] → W p l e (headSpec wsX1_spare { frames := 2, cells := 0, slots := 0, locals := 47 }).room s m ([.ref (ad 0), .int (iI q)]).toArray below meth c H locs ((0 + 0) + 0) ((0 + 0) + 0) (MQ below (va_Ql (fun (y : Int64) (u : MU) => MS n L S r lo u ∧ ((0 ≤ q ∧ u.1 = 0 ∧ ∀ v, v < 64 → bL y v = sp L S r n q.toNat v) ∨ (¬ 0 ≤ q ∧ u.1 = 1))) (fun u t => va_P (dC, dI) vwCl (wMu ad ca u) t.heap) (inW (wM ad ca er gl gz go gw ((n : Int)) ((r : Int) + 1)))) ([.ref (ad 0), .int (iI q)]).toArray s 0 0 (inW (wM ad ca er gl gz go gw ((n : Int)) ((r : Int) + 1)))) (F0 m 60 ls []) := by
                intro N
                induction N with
                | zero => intro k y ls H locs h; exact absurd h (Nat.not_lt_zero _)
                | succ N ih =>
                  intro k y ls H locs hN hk hy hP hD hS hl
                  refine lv_iload hx hb dX1_spare_60 (lv_at hl 0 rfl) ?_
                  refine lv_aload_n hx hb dX1_spare_62 rfl (lv_at hl 2 rfl) ?_
                  refine ro_z (z := (wr S r n : Int)) (va_runV (As := []) (rest := [.int (iI ((k : Int)))]) ⟨hx, hb, hml, hown, hts⟩ (n_written l dC dI ad ca 0 gl gz go g1 n r L S lo hok hT) (cwV 0 hts (gV wlX1_61 wo_X1_written wz_X1_written wi_2 wcX1_written) rfl rfl rfl (by decide +kernel) ⟨Nat.le_of_ble_eq_true rfl, Nat.le_of_ble_eq_true rfl⟩) (PX_V (q0 := 0) (ci := 1) hP hK hD rfl rfl) rfl rfl hl.1 rfl (lv_room (Nat.le_of_ble_eq_true rfl)) dX1_spare_63 ⟨Nat.le_of_ble_eq_true rfl, Nat.le_of_ble_eq_true rfl⟩) hS hP (fun H locs hP hS => ?_)
                  refine r_icmp_ge hx hb dX1_spare_66 (tgt := 92) (by decide) (by omega) (by omega) (fun hge5 => ?_) (fun hlt5 => ?_)
                  · have hk0 : k = wr S r n := by omega
                    refine lv_lload_n hx hb dX1_spare_92 rfl (lv_at hl 1 rfl) ?_
                    subst hAe
                    refine W.widen (k := 0) (n := 0) (by decide) (by decide) ?_
                    exact W.lret hx hb hr (fun t ht hW => ⟨⟨_, (0, gl, gz, go, g1, (n : Int), (r : Int) + 1), rfl, ⟨⟨hT, rfl, rfl⟩, Or.inl ⟨hge, rfl, fun v hv => by rw [hy v hv, hk0, hs9 v hv]; rfl⟩⟩, by subst ht; exact hP⟩, hS.F ht⟩) hS.2.2 dX1_spare_93
                  · have ek : ((k : Int)).toNat = k := by omega
                    have h01 := b2_01 (w1 k)
                    refine lv_aload_n hx hb dX1_spare_69 rfl (lv_at hl 2 rfl) ?_
                    refine va_get (D := (dC, dI)) (ci := 1) (v := .ref (ad 4)) (C := RX1) (T := TX1) (N := 7) hx hb hts hinTX1 hown hK hP 0 rfl rfl 4 (by decide) fl20 (fun _ h9 => h9) rfl dX1_spare_70 ?_
                    refine lv_iload hx hb dX1_spare_73 (lv_at hl 0 rfl) ?_
                    refine r_zald hx hb hK hP 4 3 rfl rfl (by omega) (by omega) (by decide) dX1_spare_75 ?_
                    refine r_topi (b := b2 (w1 k)) (by rw [ek]; exact h9 k (by omega)) ?_
                    refine r_if_ne hx hb dX1_spare_76 (tgt := 86) (by decide) (by omega) (fun hnz => ?_) (fun hz => ?_)
                    · refine r_iinc (k := 0) hx hb dX1_spare_86 hl rfl (by decide) rfl (fun ls hl => ?_)
                      have hl : lv_has ls 5 [(4, .int (iI ((k : Int) + 1))), (2, .long y), (0, .ref (ad 0)), (1, .int (iI q))] := hl
                      refine lv_goto hx hb dX1_spare_89 (tgt := 60) (by decide) ?_
                      have hl : lv_has ls 5 [(4, .int (iI ((k + 1 : Nat) : Int))), (2, .long (y)), (0, .ref (ad 0)), (1, .int (iI q))] := by
                        rw [show ((k + 1 : Nat) : Int) = (k : Int) + 1 by omega]
                        exact hl
                      exact ih (k + 1) y ls H locs (by omega) (by omega) (st_off (P := fun v => !w1 v) hy (by rw [b2_1 hnz]; rfl)) hP hD hS hl
                    · refine lv_lload_n hx hb dX1_spare_79 rfl (lv_at hl 1 rfl) ?_
                      refine lv_lconst hx hb dX1_spare_80 rfl ?_
                      refine lv_iload hx hb dX1_spare_81 (lv_at hl 0 rfl) ?_
                      refine lv_lshl hx hb dX1_spare_83 rfl ?_
                      refine lv_lor hx hb dX1_spare_84 ?_
                      refine lv_lstore_n hx hb dX1_spare_85 rfl hl (by decide) rfl (fun ls hl => ?_)
                      have hl : lv_has ls 5 [(2, .long (y ||| ((Int64.ofNat 1) <<< ((iI ((k : Int))).toInt64 &&& 63)))), (4, .int (iI ((k : Int)))), (0, .ref (ad 0)), (1, .int (iI q))] := hl
                      refine r_iinc (k := 1) hx hb dX1_spare_86 hl rfl (by decide) rfl (fun ls hl => ?_)
                      have hl : lv_has ls 5 [(4, .int (iI ((k : Int) + 1))), (2, .long (y ||| ((Int64.ofNat 1) <<< ((iI ((k : Int))).toInt64 &&& 63)))), (0, .ref (ad 0)), (1, .int (iI q))] := hl
                      refine lv_goto hx hb dX1_spare_89 (tgt := 60) (by decide) ?_
                      have hl : lv_has ls 5 [(4, .int (iI ((k + 1 : Nat) : Int))), (2, .long (y ||| ((Int64.ofNat 1) <<< ((iI ((k : Int))).toInt64 &&& 63)))), (0, .ref (ad 0)), (1, .int (iI q))] := by
                        rw [show ((k + 1 : Nat) : Int) = (k : Int) + 1 by omega]
                        exact hl
                      exact ih (k + 1) (y ||| ((Int64.ofNat 1) <<< ((iI ((k : Int))).toInt64 &&& 63))) ls H locs (by omega) (by omega) (st_on (P := fun v => !w1 v) hy (by omega) (by rw [b2_0 hz]; rfl)) hP hD hS hl
              exact loop2 (65) 0 (Int64.ofNat 0) ls H locs (by omega) (Nat.zero_le _) (fun j hj => bL_0 j) hP hD hS hl
            · refine lv_aload_n hx hb dX1_spare_44 rfl (lv_at hl 1 rfl) ?_
              refine lv_iload_n hx hb dX1_spare_45 rfl (lv_at hl 0 rfl) ?_
              refine r_topi (b := (j : Int)) (by omega) ?_
              refine wc_v (va_runV (As := [.int (iI ((j : Int)))]) (rest := []) ⟨hx, hb, hml, hown, hts⟩ (n_want l dC dI ad ca 0 gl gz go g1 n r L S lo hok hT j (by omega) w1 h9) (cwV 1 hts (gV wlX1_54 wo_X1_want wz_X1_want wi_2 wcX1_want) rfl rfl rfl (by decide +kernel) ⟨Nat.le_of_ble_eq_true rfl, Nat.le_of_ble_eq_true rfl⟩) (PX_V (q0 := 0) (ci := 1) hP hK hD rfl rfl) rfl rfl hl.1 rfl (lv_room (Nat.le_of_ble_eq_true rfl)) dX1_spare_46 ⟨Nat.le_of_ble_eq_true rfl, Nat.le_of_ble_eq_true rfl⟩) hS (by rw [hAe]; exact fun q h => inW_same (by rfl) h) (fun k9 H locs hw9 hP hS hk9 => ?_)
              have hP : va_P (dC, dI) vwCl (wM ad ca 0 gl gz go k9 ((n : Int)) ((r : Int) + 1)) H := hP
              have hD : va_D A (wM ad ca 0 gl gz go k9 ((n : Int)) ((r : Int) + 1)) := wD_same hD rfl
              refine r_iinc (k := 0) hx hb dX1_spare_49 hl rfl (by decide) rfl (fun ls hl => ?_)
              have hl : lv_has ls 5 [(2, .int (iI ((p9 : Int) - 1 + (-1)))), (0, .ref (ad 0)), (1, .int (iI q))] := hl
              refine lv_goto hx hb dX1_spare_52 (tgt := 30) (by decide) ?_
              have hl : lv_has ls 5 [(2, .int (iI ((j : Int) - 1))), (0, .ref (ad 0)), (1, .int (iI q))] := by rw [show (j : Int) - 1 = (p9 : Int) - 1 + (-1) by omega]; exact hl
              exact ih j k9 (fun v => w1 v || nd L S r v (j + 1)) ls H locs (by omega) (by omega) hw9 (fun v hv => by rw [← hn9 v hv, hj, spP_s (by omega)]; cases w1 v <;> cases nd L S r v (j + 1) <;> simp) hP hD hS hl
      exact loop (n + 1) n z9 (fun _ => false) ls H locs (Nat.lt_succ_self _) (Nat.le_refl n) (fun v hv => hz9 v hv) (fun v hv => Bool.true_and _) hP hD hS hl
    · exact absurd hk9 (by decide)
  · refine r_iconst hx hb dX1_spare_5 ?_
    refine lv_goto hx hb dX1_spare_6 (tgt := 10) (by decide) ?_
    refine r_iconst hx hb dX1_spare_10 ?_
    refine wc_i (va_runV (As := [.int (iI 1), .int (iI 1)]) (rest := []) ⟨hx, hb, hml, hown, hts⟩ (n_fails1 l dC dI ad ca er gl gz go gw ((n : Int)) ((r : Int) + 1) 1) (cwV 2 hts (gV wlX1_33 wo_X1_fails wz_X1_fails wi_2 wcX1_fails) rfl rfl rfl (by decide +kernel) ⟨Nat.le_of_ble_eq_true rfl, Nat.le_of_ble_eq_true rfl⟩) (PX_V (q0 := 0) (ci := 1) hP hK hD rfl rfl) rfl rfl hl.1 rfl (lv_room (Nat.le_of_ble_eq_true rfl)) dX1_spare_11 ⟨Nat.le_of_ble_eq_true rfl, Nat.le_of_ble_eq_true rfl⟩) hS (by rw [hAe]; exact fun q h => inW_same (by rfl) h) (fun r9 u9 H locs h8 hP hS hk9 => ?_)
    have hP : va_P (dC, dI) vwCl (wM ad ca 1 gl gz go gw ((n : Int)) ((r : Int) + 1)) H := hP
    have hD : va_D A (wM ad ca 1 gl gz go gw ((n : Int)) ((r : Int) + 1)) := wD_same hD rfl
    subst h8
    refine r_if_eq hx hb dX1_spare_14 (tgt := 19) (by decide) (by omega) (fun hk9 => ?_) (fun hk9 => ?_)
    · exact absurd hk9 (by decide)
    · refine lv_lconst hx hb dX1_spare_17 rfl ?_
      subst hAe
      refine W.widen (k := 0) (n := 0) (by decide) (by decide) ?_
      exact W.lret hx hb hr (fun t ht hW => ⟨⟨_, (1, gl, gz, go, gw, (n : Int), (r : Int) + 1), rfl, ⟨⟨hT, rfl, rfl⟩, Or.inr ⟨by omega, rfl⟩⟩, by subst ht; exact hP⟩, hS.F ht⟩) hS.2.2 dX1_spare_18
set_option maxHeartbeats 4000000 in
set_option maxRecDepth 100000 in
theorem n_count (l : Launch) (dC : Nat → ClassId) (dI : Nat → Nat → Nat) (ad : Nat → Nat) (ca : Nat → ClassId) (er : Int) (gl gz go gw : Nat → Int) (n r : Nat) (L S : Nat → Nat) (lo : Nat → Bool) (hok : okS n L S r) (hT : tM n L S lo gl gz go) (q : Int) (hq : iR q) : Met l yX1_count wsX1_count { frames := 3, cells := 0, slots := 0, locals := 69 } (PX (dC, dI) vwCl (yM ca) (wM ad ca er gl gz go gw ((n : Int)) ((r : Int) + 1)) [.ref (ad 0), .int (iI q)]) (va_Qi (fun (y : Int32) (u : MU) => MS n L S r lo u ∧ (((0 ≤ q ∧ q ≤ 5) ∧ u.1 = 0 ∧ y = iI (ct L S r n lo q.toNat : Int)) ∨ (¬ (0 ≤ q ∧ q ≤ 5) ∧ u.1 = 1))) (fun u t => va_P (dC, dI) vwCl (wMu ad ca u) t.heap) (inW (wM ad ca er gl gz go gw ((n : Int)) ((r : Int) + 1)))) 0 0 (inW (wM ad ca er gl gz go gw ((n : Int)) ((r : Int) + 1))) := by
  refine Met.ofW (cc := cX1_count) (maxL := 4) (ret := (some .int)) (by decide) rfl ?_
  intro p e s m args below meth c s₁ B hml hv
  obtain ⟨rfl, hP, hK, hD0⟩ := hv
  have hx := B.exec
  have hb := B.bytes
  have hr := B.returns
  have hts := atoms_spec (ws := wsX1_count) B.pre
  have hown : s.vm.findClass RX1 = some m.cls := findClass_of_methodNamed B.named
  have hlocks := B.notSynchronized
  have hw := fun w h => hts w (List.mem_cons_of_mem _ h)
  have hinTX1 : ∀ w ∈ u_ws RX1 TX1 7, w ∈ wsX1_count := wA_u wuX1
  have fl30 := hw _ wfX1_30
  have fl16 := hw _ wfX1_16
  have hD := wD_own hD0
  obtain ⟨A, hAe⟩ : ∃ A, A = inW (wM ad ca er gl gz go gw ((n : Int)) ((r : Int) + 1)) := ⟨_, rfl⟩
  rw [← hAe] at hD
  obtain ⟨H, hH⟩ : ∃ H, H = s.heap := ⟨_, rfl⟩
  obtain ⟨locs, hlc⟩ : ∃ L : List Loc, L = [] := ⟨_, rfl⟩
  have hS : va_S A s.heap H locs := by rw [hH, hlc]; exact va_S.rf
  rw [← hH] at hP ⊢
  rw [← hlc]
  have hl := lv_entry ([.ref (ad 0), .int (iI q)]) (n := 4) (Nat.le_of_ble_eq_true rfl)
  rw [lg_entry_eq]
  generalize (lg_sl ([.ref (ad 0), .int (iI q)]) ++ List.replicate (4 - (lg_sl ([.ref (ad 0), .int (iI q)])).length) Slot.unset).toArray = ls at hl ⊢
  have hl : lv_has ls 4 [(0, .ref (ad 0)), (1, .int (iI q))] := hl
  obtain ⟨ok1, ok2, ok3, ok4, ok5⟩ := id hok
  have hwr := wr_le (S := S) (n := n) ok2 ok5
  refine lv_aload_n hx hb dX1_count_0 rfl (lv_at hl 0 rfl) ?_
  refine lv_iload_n hx hb dX1_count_1 rfl (lv_at hl 1 rfl) ?_
  refine r_if_lt hx hb dX1_count_2 (tgt := 10) (by decide) (by omega) (fun h1t => ?_) (fun h1f => ?_)
  · refine r_iconst hx hb dX1_count_10 ?_
    refine lv_goto hx hb dX1_count_11 (tgt := 15) (by decide) ?_
    refine r_iconst hx hb dX1_count_15 ?_
    refine wc_i (va_runV (As := [.int (iI 1), .int (iI 1)]) (rest := []) ⟨hx, hb, hml, hown, hts⟩ (n_fails1 l dC dI ad ca er gl gz go gw ((n : Int)) ((r : Int) + 1) 1) (cwV 2 hts (gV wlX1_33 wo_X1_fails wz_X1_fails wi_2 wcX1_fails) rfl rfl rfl (by decide +kernel) ⟨Nat.le_of_ble_eq_true rfl, Nat.le_of_ble_eq_true rfl⟩) (PX_V (q0 := 0) (ci := 1) hP hK hD rfl rfl) rfl rfl hl.1 rfl (lv_room (Nat.le_of_ble_eq_true rfl)) dX1_count_16 ⟨Nat.le_of_ble_eq_true rfl, Nat.le_of_ble_eq_true rfl⟩) hS (by rw [hAe]; exact fun q h => inW_same (by rfl) h) (fun r9 u9 H locs h8 hP hS hk9 => ?_)
    have hP : va_P (dC, dI) vwCl (wM ad ca 1 gl gz go gw ((n : Int)) ((r : Int) + 1)) H := hP
    have hD : va_D A (wM ad ca 1 gl gz go gw ((n : Int)) ((r : Int) + 1)) := wD_same hD rfl
    subst h8
    refine r_if_eq hx hb dX1_count_19 (tgt := 24) (by decide) (by omega) (fun hk9 => ?_) (fun hk9 => ?_)
    · exact absurd hk9 (by decide)
    · refine r_iconst hx hb dX1_count_22 ?_
      subst hAe
      refine W.widen (k := 0) (n := 0) (by decide) (by decide) ?_
      exact W.iret (v := iI 0) hx hb hr (fun t ht hW => ⟨⟨_, (1, gl, gz, go, gw, (n : Int), (r : Int) + 1), rfl, ⟨⟨hT, rfl, rfl⟩, Or.inr ⟨by omega, rfl⟩⟩, by subst ht; exact hP⟩, hS.F ht⟩) hS.2.2 dX1_count_23
  · refine lv_iload_n hx hb dX1_count_5 rfl (lv_at hl 1 rfl) ?_
    refine r_iconst hx hb dX1_count_6 ?_
    refine r_icmp_le hx hb dX1_count_7 (tgt := 14) (by decide) (by omega) (by omega) (fun h2t => ?_) (fun h2f => ?_)
    · refine r_iconst hx hb dX1_count_14 ?_
      refine r_iconst hx hb dX1_count_15 ?_
      refine wc_i (va_runV (As := [.int (iI 0), .int (iI 1)]) (rest := []) ⟨hx, hb, hml, hown, hts⟩ (n_fails0 l dC dI ad ca er gl gz go gw ((n : Int)) ((r : Int) + 1) 1) (cwV 2 hts (gV wlX1_33 wo_X1_fails wz_X1_fails wi_2 wcX1_fails) rfl rfl rfl (by decide +kernel) ⟨Nat.le_of_ble_eq_true rfl, Nat.le_of_ble_eq_true rfl⟩) (PX_V (q0 := 0) (ci := 1) hP hK hD rfl rfl) rfl rfl hl.1 rfl (lv_room (Nat.le_of_ble_eq_true rfl)) dX1_count_16 ⟨Nat.le_of_ble_eq_true rfl, Nat.le_of_ble_eq_true rfl⟩) hS (by rw [hAe]; exact fun q h => inW_same (by rfl) h) (fun r9 u9 H locs h8 hP hS hk9 => ?_)
      have hP : va_P (dC, dI) vwCl (wM ad ca 0 gl gz go gw ((n : Int)) ((r : Int) + 1)) H := hP
      have hD : va_D A (wM ad ca 0 gl gz go gw ((n : Int)) ((r : Int) + 1)) := wD_same hD rfl
      subst h8
      refine r_if_eq hx hb dX1_count_19 (tgt := 24) (by decide) (by omega) (fun hk9 => ?_) (fun hk9 => ?_)
      · refine r_iconst hx hb dX1_count_24 ?_
        refine lv_istore_n hx hb dX1_count_25 rfl hl (by decide) rfl (fun ls hl => ?_)
        have hl : lv_has ls 4 [(2, .int (iI 0)), (0, .ref (ad 0)), (1, .int (iI q))] := hl
        refine lv_iload_n hx hb dX1_count_26 rfl (lv_at hl 2 rfl) ?_
        have hcases : q = 0 ∨ q = 1 ∨ q = 2 ∨ q = 3 ∨ q = 4 ∨ q = 5 := by omega
        rcases hcases with hq9 | hq9 | hq9 | hq9 | hq9 | hq9
        · refine lv_tableIn hx hb dX1_count_27 (off := 33) (tgt := 60) (by rw [hq9]; decide) (by rw [hq9]; decide) (by rw [hq9]; decide) (by decide) ?_
          refine lv_aload_n hx hb dX1_count_60 rfl (lv_at hl 1 rfl) ?_
          refine va_get (D := (dC, dI)) (ci := 1) (v := .int (iI ((n : Int)))) (C := RX1) (T := TX1) (N := 7) hx hb hts hinTX1 hown hK hP 0 rfl rfl 5 (by decide) fl30 (fun _ h9 => h9) rfl dX1_count_61 ?_
          subst hAe
          refine W.widen (k := 0) (n := 0) (by decide) (by decide) ?_
          exact W.iret (v := iI ((n : Int))) hx hb hr (fun t ht hW => ⟨⟨_, (0, gl, gz, go, gw, (n : Int), (r : Int) + 1), rfl, ⟨⟨hT, rfl, rfl⟩, Or.inl ⟨by omega, rfl, by rw [hq9]; rfl⟩⟩, by subst ht; exact hP⟩, hS.F ht⟩) hS.2.2 dX1_count_64
        · refine lv_tableIn hx hb dX1_count_27 (off := 38) (tgt := 65) (by rw [hq9]; decide) (by rw [hq9]; decide) (by rw [hq9]; decide) (by decide) ?_
          refine lv_aload_n hx hb dX1_count_65 rfl (lv_at hl 1 rfl) ?_
          refine ro_z (z := (wr S r n : Int)) (va_runV (As := []) (rest := []) ⟨hx, hb, hml, hown, hts⟩ (n_written l dC dI ad ca 0 gl gz go gw n r L S lo hok hT) (cwV 0 hts (gV wlX1_61 wo_X1_written wz_X1_written wi_2 wcX1_written) rfl rfl rfl (by decide +kernel) ⟨Nat.le_of_ble_eq_true rfl, Nat.le_of_ble_eq_true rfl⟩) (PX_V (q0 := 0) (ci := 1) hP hK hD rfl rfl) rfl rfl hl.1 rfl (lv_room (Nat.le_of_ble_eq_true rfl)) dX1_count_66 ⟨Nat.le_of_ble_eq_true rfl, Nat.le_of_ble_eq_true rfl⟩) hS hP (fun H locs hP hS => ?_)
          subst hAe
          refine W.widen (k := 0) (n := 0) (by decide) (by decide) ?_
          exact W.iret (v := iI ((wr S r n : Int))) hx hb hr (fun t ht hW => ⟨⟨_, (0, gl, gz, go, gw, (n : Int), (r : Int) + 1), rfl, ⟨⟨hT, rfl, rfl⟩, Or.inl ⟨by omega, rfl, by rw [hq9]; rfl⟩⟩, by subst ht; exact hP⟩, hS.F ht⟩) hS.2.2 dX1_count_69
        · refine lv_tableIn hx hb dX1_count_27 (off := 43) (tgt := 70) (by rw [hq9]; decide) (by rw [hq9]; decide) (by rw [hq9]; decide) (by decide) ?_
          refine lv_aload_n hx hb dX1_count_70 rfl (lv_at hl 1 rfl) ?_
          refine lv_aload_n hx hb dX1_count_71 rfl (lv_at hl 1 rfl) ?_
          refine va_get (D := (dC, dI)) (ci := 1) (v := .int (iI ((n : Int)))) (C := RX1) (T := TX1) (N := 7) hx hb hts hinTX1 hown hK hP 0 rfl rfl 5 (by decide) fl30 (fun _ h9 => h9) rfl dX1_count_72 ?_
          refine ro_z (z := (sm S n : Int)) (va_runV (As := [.int (iI ((n : Int)))]) (rest := []) ⟨hx, hb, hml, hown, hts⟩ (n_before l dC dI ad ca 0 gl gz go gw n r L S lo hok hT n (Nat.le_refl n)) (cwV 1 hts (gV wlX1_37 wo_X1_before wz_X1_before wi_2 wcX1_before) rfl rfl rfl (by decide +kernel) ⟨Nat.le_of_ble_eq_true rfl, Nat.le_of_ble_eq_true rfl⟩) (PX_V (q0 := 0) (ci := 1) hP hK hD rfl rfl) rfl rfl hl.1 rfl (lv_room (Nat.le_of_ble_eq_true rfl)) dX1_count_75 ⟨Nat.le_of_ble_eq_true rfl, Nat.le_of_ble_eq_true rfl⟩) hS hP (fun H locs hP hS => ?_)
          refine lv_aload_n hx hb dX1_count_78 rfl (lv_at hl 1 rfl) ?_
          refine ro_z (z := (wr S r n : Int)) (va_runV (As := []) (rest := [.int (iI ((sm S n : Int)))]) ⟨hx, hb, hml, hown, hts⟩ (n_written l dC dI ad ca 0 gl gz go gw n r L S lo hok hT) (cwV 0 hts (gV wlX1_61 wo_X1_written wz_X1_written wi_2 wcX1_written) rfl rfl rfl (by decide +kernel) ⟨Nat.le_of_ble_eq_true rfl, Nat.le_of_ble_eq_true rfl⟩) (PX_V (q0 := 0) (ci := 1) hP hK hD rfl rfl) rfl rfl hl.1 rfl (lv_room (Nat.le_of_ble_eq_true rfl)) dX1_count_79 ⟨Nat.le_of_ble_eq_true rfl, Nat.le_of_ble_eq_true rfl⟩) hS hP (fun H locs hP hS => ?_)
          refine r_iadd hx hb dX1_count_82 ?_
          subst hAe
          refine W.widen (k := 0) (n := 0) (by decide) (by decide) ?_
          exact W.iret (v := iI (((sm S n : Int)) + ((wr S r n : Int)))) hx hb hr (fun t ht hW => ⟨⟨_, (0, gl, gz, go, gw, (n : Int), (r : Int) + 1), rfl, ⟨⟨hT, rfl, rfl⟩, Or.inl ⟨by omega, rfl, by rw [hq9, show (ct L S r n lo (2 : Int).toNat : Int) = (sm S n : Int) + (wr S r n : Int) from Int.natCast_add _ _]⟩⟩, by subst ht; exact hP⟩, hS.F ht⟩) hS.2.2 dX1_count_83
        · refine lv_tableIn hx hb dX1_count_27 (off := 57) (tgt := 84) (by rw [hq9]; decide) (by rw [hq9]; decide) (by rw [hq9]; decide) (by decide) ?_
          refine r_iconst hx hb dX1_count_84 ?_
          refine lv_istore_n hx hb dX1_count_85 rfl hl (by decide) rfl (fun ls hl => ?_)
          have hl : lv_has ls 4 [(3, .int (iI 0)), (2, .int (iI 0)), (0, .ref (ad 0)), (1, .int (iI q))] := hl
          have loop : ∀ (N : Nat) (k : Nat) (g1 : Nat → Int) (ls : Array Slot) (H : Heap) (locs : List Loc), n - k < N → (k ≤ n) → va_P (dC, dI) vwCl (wM ad ca 0 gl gz go g1 ((n : Int)) ((r : Int) + 1)) H → va_D A (wM ad ca 0 gl gz go g1 ((n : Int)) ((r : Int) + 1)) → va_S A s.heap H locs → lv_has ls 4 [(3, .int (iI ((k : Int)))), (2, .int (iI ((cn (gd L S r lo) k : Int)))), (0, .ref (ad 0)), (1, .int (iI q))] → W p l e (headSpec wsX1_count { frames := 3, cells := 0, slots := 0, locals := 69 }).room s m ([.ref (ad 0), .int (iI q)]).toArray below meth c H locs ((0 + 0) + 0) ((0 + 0) + 0) (MQ below (va_Qi (fun (y : Int32) (u : MU) => MS n L S r lo u ∧ (((0 ≤ q ∧ q ≤ 5) ∧ u.1 = 0 ∧ y = iI (ct L S r n lo q.toNat : Int)) ∨ (¬ (0 ≤ q ∧ q ≤ 5) ∧ u.1 = 1))) (fun u t => va_P (dC, dI) vwCl (wMu ad ca u) t.heap) (inW (wM ad ca er gl gz go gw ((n : Int)) ((r : Int) + 1)))) ([.ref (ad 0), .int (iI q)]).toArray s 0 0 (inW (wM ad ca er gl gz go gw ((n : Int)) ((r : Int) + 1)))) (F0 m 86 ls []) := by
            intro N
            induction N with
            | zero => intro k g1 ls H locs h; exact absurd h (Nat.not_lt_zero _)
            | succ N ih =>
              intro k g1 ls H locs hN hk hP hD hS hl
              refine lv_iload_n hx hb dX1_count_86 rfl (lv_at hl 0 rfl) ?_
              refine lv_aload_n hx hb dX1_count_87 rfl (lv_at hl 2 rfl) ?_
              refine va_get (D := (dC, dI)) (ci := 1) (v := .int (iI ((n : Int)))) (C := RX1) (T := TX1) (N := 7) hx hb hts hinTX1 hown hK hP 0 rfl rfl 5 (by decide) fl30 (fun _ h9 => h9) rfl dX1_count_88 ?_
              refine r_icmp_ge hx hb dX1_count_91 (tgt := 111) (by decide) (by omega) (by omega) (fun hge => ?_) (fun hlt => ?_)
              · have hk0 : k = n := by omega
                refine lv_iload_n hx hb dX1_count_111 rfl (lv_at hl 1 rfl) ?_
                subst hAe
                refine W.widen (k := 0) (n := 0) (by decide) (by decide) ?_
                exact W.iret (v := iI ((cn (gd L S r lo) k : Int))) hx hb hr (fun t ht hW => ⟨⟨_, (0, gl, gz, go, g1, (n : Int), (r : Int) + 1), rfl, ⟨⟨hT, rfl, rfl⟩, Or.inl ⟨by omega, rfl, by rw [hk0, hq9]; rfl⟩⟩, by subst ht; exact hP⟩, hS.F ht⟩) hS.2.2 dX1_count_112
              · have hc := cn_s (gd L S r lo) k
                have hc2 := cn_le (gd L S r lo) k
                have h01 := b2_01 (gd L S r lo k)
                refine lv_aload_n hx hb dX1_count_94 rfl (lv_at hl 2 rfl) ?_
                refine lv_iload_n hx hb dX1_count_95 rfl (lv_at hl 0 rfl) ?_
                refine wc_i (va_runV (As := [.int (iI ((k : Int)))]) (rest := []) ⟨hx, hb, hml, hown, hts⟩ (n_isGood l dC dI ad ca 0 gl gz go g1 n r L S lo hok hT k (by omega)) (cwV 1 hts (gV wlX1_58 wo_X1_isGood wz_X1_isGood wi_2 wcX1_isGood) rfl rfl rfl (by decide +kernel) ⟨Nat.le_of_ble_eq_true rfl, Nat.le_of_ble_eq_true rfl⟩) (PX_V (q0 := 0) (ci := 1) hP hK hD rfl rfl) rfl rfl hl.1 rfl (lv_room (Nat.le_of_ble_eq_true rfl)) dX1_count_96 ⟨Nat.le_of_ble_eq_true rfl, Nat.le_of_ble_eq_true rfl⟩) hS (by rw [hAe]; exact fun q h => inW_same (by rfl) h) (fun r9 k9 H locs h8 hP hS hk9 => ?_)
                have hP : va_P (dC, dI) vwCl (wM ad ca 0 gl gz go k9 ((n : Int)) ((r : Int) + 1)) H := hP
                have hD : va_D A (wM ad ca 0 gl gz go k9 ((n : Int)) ((r : Int) + 1)) := wD_same hD rfl
                subst h8
                refine r_if_eq hx hb dX1_count_99 (tgt := 105) (by decide) (by omega) (fun hz => ?_) (fun hnz => ?_)
                · refine r_iinc (k := 0) hx hb dX1_count_105 hl rfl (by decide) rfl (fun ls hl => ?_)
                  have hl : lv_has ls 4 [(3, .int (iI ((k : Int) + 1))), (2, .int (iI ((cn (gd L S r lo) k : Int)))), (0, .ref (ad 0)), (1, .int (iI q))] := hl
                  refine lv_goto hx hb dX1_count_108 (tgt := 86) (by decide) ?_
                  have hl : lv_has ls 4 [(3, .int (iI ((k + 1 : Nat) : Int))), (2, .int (iI (cn (gd L S r lo) (k + 1) : Int))), (0, .ref (ad 0)), (1, .int (iI q))] := by
                    rw [show ((k + 1 : Nat) : Int) = (k : Int) + 1 by omega, show (cn (gd L S r lo) (k + 1) : Int) = (cn (gd L S r lo) k : Int) by omega]
                    exact hl
                  exact ih (k + 1) k9 ls H locs (by omega) (by omega) hP hD hS hl
                · refine r_iinc (k := 1) hx hb dX1_count_102 hl rfl (by decide) rfl (fun ls hl => ?_)
                  have hl : lv_has ls 4 [(2, .int (iI ((cn (gd L S r lo) k : Int) + 1))), (3, .int (iI ((k : Int)))), (0, .ref (ad 0)), (1, .int (iI q))] := hl
                  refine r_iinc (k := 1) hx hb dX1_count_105 hl rfl (by decide) rfl (fun ls hl => ?_)
                  have hl : lv_has ls 4 [(3, .int (iI ((k : Int) + 1))), (2, .int (iI ((cn (gd L S r lo) k : Int) + 1))), (0, .ref (ad 0)), (1, .int (iI q))] := hl
                  refine lv_goto hx hb dX1_count_108 (tgt := 86) (by decide) ?_
                  have hl : lv_has ls 4 [(3, .int (iI ((k + 1 : Nat) : Int))), (2, .int (iI (cn (gd L S r lo) (k + 1) : Int))), (0, .ref (ad 0)), (1, .int (iI q))] := by
                    rw [show ((k + 1 : Nat) : Int) = (k : Int) + 1 by omega, show (cn (gd L S r lo) (k + 1) : Int) = (cn (gd L S r lo) k : Int) + 1 by omega]
                    exact hl
                  exact ih (k + 1) k9 ls H locs (by omega) (by omega) hP hD hS hl
          exact loop (n + 1) 0 gw ls H locs (by omega) (Nat.zero_le n) hP hD hS hl
        · refine lv_tableIn hx hb dX1_count_27 (off := 86) (tgt := 113) (by rw [hq9]; decide) (by rw [hq9]; decide) (by rw [hq9]; decide) (by decide) ?_
          refine r_iconst hx hb dX1_count_113 ?_
          refine lv_istore_n hx hb dX1_count_114 rfl hl (by decide) rfl (fun ls hl => ?_)
          have hl : lv_has ls 4 [(3, .int (iI 0)), (2, .int (iI 0)), (0, .ref (ad 0)), (1, .int (iI q))] := hl
          have loop : ∀ (N : Nat) (k : Nat) (ls : Array Slot) (H : Heap) (locs : List Loc), n - k < N → (k ≤ n) → va_P (dC, dI) vwCl (wM ad ca 0 gl gz go gw ((n : Int)) ((r : Int) + 1)) H → va_D A (wM ad ca 0 gl gz go gw ((n : Int)) ((r : Int) + 1)) → va_S A s.heap H locs → lv_has ls 4 [(3, .int (iI ((k : Int)))), (2, .int (iI ((mx (fun d => dp L (d + 1)) k : Int)))), (0, .ref (ad 0)), (1, .int (iI q))] → W p l e (headSpec wsX1_count { frames := 3, cells := 0, slots := 0, locals := 69 }).room s m ([.ref (ad 0), .int (iI q)]).toArray below meth c H locs (((0 + 0) + 0) + 0) (((0 + 0) + 0) + 0) (MQ below (va_Qi (fun (y : Int32) (u : MU) => MS n L S r lo u ∧ (((0 ≤ q ∧ q ≤ 5) ∧ u.1 = 0 ∧ y = iI (ct L S r n lo q.toNat : Int)) ∨ (¬ (0 ≤ q ∧ q ≤ 5) ∧ u.1 = 1))) (fun u t => va_P (dC, dI) vwCl (wMu ad ca u) t.heap) (inW (wM ad ca er gl gz go gw ((n : Int)) ((r : Int) + 1)))) ([.ref (ad 0), .int (iI q)]).toArray s 0 0 (inW (wM ad ca er gl gz go gw ((n : Int)) ((r : Int) + 1)))) (F0 m 115 ls []) := by
            intro N
            induction N with
            | zero => intro k ls H locs h; exact absurd h (Nat.not_lt_zero _)
            | succ N ih =>
              intro k ls H locs hN hk hP hD hS hl
              refine lv_iload_n hx hb dX1_count_115 rfl (lv_at hl 0 rfl) ?_
              refine lv_aload_n hx hb dX1_count_116 rfl (lv_at hl 2 rfl) ?_
              refine va_get (D := (dC, dI)) (ci := 1) (v := .int (iI ((n : Int)))) (C := RX1) (T := TX1) (N := 7) hx hb hts hinTX1 hown hK hP 0 rfl rfl 5 (by decide) fl30 (fun _ h9 => h9) rfl dX1_count_117 ?_
              refine r_icmp_ge hx hb dX1_count_120 (tgt := 144) (by decide) (by omega) (by omega) (fun hge => ?_) (fun hlt => ?_)
              · have hk0 : k = n := by omega
                refine lv_iload_n hx hb dX1_count_144 rfl (lv_at hl 1 rfl) ?_
                subst hAe
                refine W.widen (k := 0) (n := 0) (by decide) (by decide) ?_
                exact W.iret (v := iI ((mx (fun d => dp L (d + 1)) k : Int))) hx hb hr (fun t ht hW => ⟨⟨_, (0, gl, gz, go, gw, (n : Int), (r : Int) + 1), rfl, ⟨⟨hT, rfl, rfl⟩, Or.inl ⟨by omega, rfl, by rw [hk0, hq9]; rfl⟩⟩, by subst ht; exact hP⟩, hS.F ht⟩) hS.2.2 dX1_count_145
              · have hc := mx_s (fun d => dp L (d + 1)) k
                have hm := mx_le (fun d => dp L (d + 1)) 300 k (fun j hj => by have := dp_le L (j + 1) (j + 1) (Nat.le_refl _); show dp L (j + 1) ≤ 300; omega)
                have hm2 := dp_le L (k + 1) (k + 1) (Nat.le_refl _)
                refine lv_aload_n hx hb dX1_count_123 rfl (lv_at hl 2 rfl) ?_
                refine lv_iload_n hx hb dX1_count_124 rfl (lv_at hl 0 rfl) ?_
                refine ro_z (z := (dp L (k + 1) : Int)) (va_runV (As := [.int (iI ((k : Int)))]) (rest := []) ⟨hx, hb, hml, hown, hts⟩ (n_depthOf l dC dI ad ca 0 gl gz go gw n r L S lo hok hT k (by omega)) (cwV 1 hts (gV wlX1_48 wo_X1_depthOf wz_X1_depthOf wi_2 wcX1_depthOf) rfl rfl rfl (by decide +kernel) ⟨Nat.le_of_ble_eq_true rfl, Nat.le_of_ble_eq_true rfl⟩) (PX_V (q0 := 0) (ci := 1) hP hK hD rfl rfl) rfl rfl hl.1 rfl (lv_room (Nat.le_of_ble_eq_true rfl)) dX1_count_125 ⟨Nat.le_of_ble_eq_true rfl, Nat.le_of_ble_eq_true rfl⟩) hS hP (fun H locs hP hS => ?_)
                refine lv_iload_n hx hb dX1_count_128 rfl (lv_at hl 1 rfl) ?_
                refine r_icmp_le hx hb dX1_count_129 (tgt := 138) (by decide) (by omega) (by omega) (fun hle => ?_) (fun hgt => ?_)
                · refine r_iinc (k := 0) hx hb dX1_count_138 hl rfl (by decide) rfl (fun ls hl => ?_)
                  have hl : lv_has ls 4 [(3, .int (iI ((k : Int) + 1))), (2, .int (iI ((mx (fun d => dp L (d + 1)) k : Int)))), (0, .ref (ad 0)), (1, .int (iI q))] := hl
                  refine lv_goto hx hb dX1_count_141 (tgt := 115) (by decide) ?_
                  have hl : lv_has ls 4 [(3, .int (iI ((k + 1 : Nat) : Int))), (2, .int (iI (mx (fun d => dp L (d + 1)) (k + 1) : Int))), (0, .ref (ad 0)), (1, .int (iI q))] := by
                    rw [show ((k + 1 : Nat) : Int) = (k : Int) + 1 by omega, show (mx (fun d => dp L (d + 1)) (k + 1) : Int) = (mx (fun d => dp L (d + 1)) k : Int) by rw [hc, if_neg (by omega)]]
                    exact hl
                  exact ih (k + 1) ls H locs (by omega) (by omega) hP hD hS hl
                · refine lv_aload_n hx hb dX1_count_132 rfl (lv_at hl 2 rfl) ?_
                  refine lv_iload_n hx hb dX1_count_133 rfl (lv_at hl 0 rfl) ?_
                  refine ro_z (z := (dp L (k + 1) : Int)) (va_runV (As := [.int (iI ((k : Int)))]) (rest := []) ⟨hx, hb, hml, hown, hts⟩ (n_depthOf l dC dI ad ca 0 gl gz go gw n r L S lo hok hT k (by omega)) (cwV 1 hts (gV wlX1_48 wo_X1_depthOf wz_X1_depthOf wi_2 wcX1_depthOf) rfl rfl rfl (by decide +kernel) ⟨Nat.le_of_ble_eq_true rfl, Nat.le_of_ble_eq_true rfl⟩) (PX_V (q0 := 0) (ci := 1) hP hK hD rfl rfl) rfl rfl hl.1 rfl (lv_room (Nat.le_of_ble_eq_true rfl)) dX1_count_134 ⟨Nat.le_of_ble_eq_true rfl, Nat.le_of_ble_eq_true rfl⟩) hS hP (fun H locs hP hS => ?_)
                  refine lv_istore_n hx hb dX1_count_137 rfl hl (by decide) rfl (fun ls hl => ?_)
                  have hl : lv_has ls 4 [(2, .int (iI ((dp L (k + 1) : Int)))), (3, .int (iI ((k : Int)))), (0, .ref (ad 0)), (1, .int (iI q))] := hl
                  refine r_iinc (k := 1) hx hb dX1_count_138 hl rfl (by decide) rfl (fun ls hl => ?_)
                  have hl : lv_has ls 4 [(3, .int (iI ((k : Int) + 1))), (2, .int (iI ((dp L (k + 1) : Int)))), (0, .ref (ad 0)), (1, .int (iI q))] := hl
                  refine lv_goto hx hb dX1_count_141 (tgt := 115) (by decide) ?_
                  have hl : lv_has ls 4 [(3, .int (iI ((k + 1 : Nat) : Int))), (2, .int (iI (mx (fun d => dp L (d + 1)) (k + 1) : Int))), (0, .ref (ad 0)), (1, .int (iI q))] := by
                    rw [show ((k + 1 : Nat) : Int) = (k : Int) + 1 by omega, show (mx (fun d => dp L (d + 1)) (k + 1) : Int) = (dp L (k + 1) : Int) by rw [hc, if_pos (by omega)]]
                    exact hl
                  exact ih (k + 1) ls H locs (by omega) (by omega) hP hD hS hl
          exact loop (n + 1) 0 ls H locs (by omega) (Nat.zero_le n) hP hD hS hl
        · refine lv_tableOut hx hb dX1_count_27 (tgt := 146) (by rw [hq9]; decide) (by decide) ?_
          refine r_iconst hx hb dX1_count_146 ?_
          refine lv_istore_n hx hb dX1_count_147 rfl hl (by decide) rfl (fun ls hl => ?_)
          have hl : lv_has ls 4 [(3, .int (iI 0)), (2, .int (iI 0)), (0, .ref (ad 0)), (1, .int (iI q))] := hl
          have loop : ∀ (N : Nat) (k : Nat) (ls : Array Slot), 64 - k < N → (k ≤ 64) → lv_has ls 4 [(3, .int (iI ((k : Int)))), (2, .int (iI ((cn lo k : Int)))), (0, .ref (ad 0)), (1, .int (iI q))] → W p l e (headSpec wsX1_count { frames := 3, cells := 0, slots := 0, locals := 69 }).room s m ([.ref (ad 0), .int (iI q)]).toArray below meth c H locs (((0 + 0) + 0) + 0) (((0 + 0) + 0) + 0) (MQ below (va_Qi (fun (y : Int32) (u : MU) => MS n L S r lo u ∧ (((0 ≤ q ∧ q ≤ 5) ∧ u.1 = 0 ∧ y = iI (ct L S r n lo q.toNat : Int)) ∨ (¬ (0 ≤ q ∧ q ≤ 5) ∧ u.1 = 1))) (fun u t => va_P (dC, dI) vwCl (wMu ad ca u) t.heap) (inW (wM ad ca er gl gz go gw ((n : Int)) ((r : Int) + 1)))) ([.ref (ad 0), .int (iI q)]).toArray s 0 0 (inW (wM ad ca er gl gz go gw ((n : Int)) ((r : Int) + 1)))) (F0 m 148 ls []) := by
            intro N
            induction N with
            | zero => intro k ls h; exact absurd h (Nat.not_lt_zero _)
            | succ N ih =>
              intro k ls hN hk hl
              refine lv_iload_n hx hb dX1_count_148 rfl (lv_at hl 0 rfl) ?_
              refine r_bipush hx hb dX1_count_149 (by decide +kernel) ?_
              refine r_icmp_ge hx hb dX1_count_151 (tgt := 172) (by decide) (by omega) (by omega) (fun hge => ?_) (fun hlt => ?_)
              · have hk0 : k = 64 := by omega
                refine lv_iload_n hx hb dX1_count_172 rfl (lv_at hl 1 rfl) ?_
                subst hAe
                refine W.widen (k := 0) (n := 0) (by decide) (by decide) ?_
                exact W.iret (v := iI ((cn lo k : Int))) hx hb hr (fun t ht hW => ⟨⟨_, (0, gl, gz, go, gw, (n : Int), (r : Int) + 1), rfl, ⟨⟨hT, rfl, rfl⟩, Or.inl ⟨by omega, rfl, by rw [hk0, hq9]; rfl⟩⟩, by subst ht; exact hP⟩, hS.F ht⟩) hS.2.2 dX1_count_173
              · have ek : ((k : Int)).toNat = k := by omega
                have hc := cn_s lo k
                have hc2 := cn_le lo k
                have h01 := b2_01 (lo k)
                refine lv_aload_n hx hb dX1_count_154 rfl (lv_at hl 2 rfl) ?_
                refine va_get (D := (dC, dI)) (ci := 1) (v := .ref (ad 3)) (C := RX1) (T := TX1) (N := 7) hx hb hts hinTX1 hown hK hP 0 rfl rfl 3 (by decide) fl16 (fun _ h9 => h9) rfl dX1_count_155 ?_
                refine lv_iload_n hx hb dX1_count_158 rfl (lv_at hl 0 rfl) ?_
                refine r_zald hx hb hK hP 3 2 rfl rfl (by omega) (by omega) (by decide) dX1_count_159 ?_
                refine r_topi (b := b2 (lo k)) (by rw [ek]; exact hT.2 k (by omega)) ?_
                refine r_if_eq hx hb dX1_count_160 (tgt := 166) (by decide) (by omega) (fun hz => ?_) (fun hnz => ?_)
                · refine r_iinc (k := 0) hx hb dX1_count_166 hl rfl (by decide) rfl (fun ls hl => ?_)
                  have hl : lv_has ls 4 [(3, .int (iI ((k : Int) + 1))), (2, .int (iI ((cn lo k : Int)))), (0, .ref (ad 0)), (1, .int (iI q))] := hl
                  refine lv_goto hx hb dX1_count_169 (tgt := 148) (by decide) ?_
                  have hl : lv_has ls 4 [(3, .int (iI ((k + 1 : Nat) : Int))), (2, .int (iI (cn lo (k + 1) : Int))), (0, .ref (ad 0)), (1, .int (iI q))] := by
                    rw [show ((k + 1 : Nat) : Int) = (k : Int) + 1 by omega, show (cn lo (k + 1) : Int) = (cn lo k : Int) by omega]
                    exact hl
                  exact ih (k + 1) ls (by omega) (by omega) hl
                · refine r_iinc (k := 1) hx hb dX1_count_163 hl rfl (by decide) rfl (fun ls hl => ?_)
                  have hl : lv_has ls 4 [(2, .int (iI ((cn lo k : Int) + 1))), (3, .int (iI ((k : Int)))), (0, .ref (ad 0)), (1, .int (iI q))] := hl
                  refine r_iinc (k := 1) hx hb dX1_count_166 hl rfl (by decide) rfl (fun ls hl => ?_)
                  have hl : lv_has ls 4 [(3, .int (iI ((k : Int) + 1))), (2, .int (iI ((cn lo k : Int) + 1))), (0, .ref (ad 0)), (1, .int (iI q))] := hl
                  refine lv_goto hx hb dX1_count_169 (tgt := 148) (by decide) ?_
                  have hl : lv_has ls 4 [(3, .int (iI ((k + 1 : Nat) : Int))), (2, .int (iI (cn lo (k + 1) : Int))), (0, .ref (ad 0)), (1, .int (iI q))] := by
                    rw [show ((k + 1 : Nat) : Int) = (k : Int) + 1 by omega, show (cn lo (k + 1) : Int) = (cn lo k : Int) + 1 by omega]
                    exact hl
                  exact ih (k + 1) ls (by omega) (by omega) hl
          exact loop (65) 0 ls (by omega) (by omega) hl
      · exact absurd hk9 (by decide)
    · refine r_iconst hx hb dX1_count_10 ?_
      refine lv_goto hx hb dX1_count_11 (tgt := 15) (by decide) ?_
      refine r_iconst hx hb dX1_count_15 ?_
      refine wc_i (va_runV (As := [.int (iI 1), .int (iI 1)]) (rest := []) ⟨hx, hb, hml, hown, hts⟩ (n_fails1 l dC dI ad ca er gl gz go gw ((n : Int)) ((r : Int) + 1) 1) (cwV 2 hts (gV wlX1_33 wo_X1_fails wz_X1_fails wi_2 wcX1_fails) rfl rfl rfl (by decide +kernel) ⟨Nat.le_of_ble_eq_true rfl, Nat.le_of_ble_eq_true rfl⟩) (PX_V (q0 := 0) (ci := 1) hP hK hD rfl rfl) rfl rfl hl.1 rfl (lv_room (Nat.le_of_ble_eq_true rfl)) dX1_count_16 ⟨Nat.le_of_ble_eq_true rfl, Nat.le_of_ble_eq_true rfl⟩) hS (by rw [hAe]; exact fun q h => inW_same (by rfl) h) (fun r9 u9 H locs h8 hP hS hk9 => ?_)
      have hP : va_P (dC, dI) vwCl (wM ad ca 1 gl gz go gw ((n : Int)) ((r : Int) + 1)) H := hP
      have hD : va_D A (wM ad ca 1 gl gz go gw ((n : Int)) ((r : Int) + 1)) := wD_same hD rfl
      subst h8
      refine r_if_eq hx hb dX1_count_19 (tgt := 24) (by decide) (by omega) (fun hk9 => ?_) (fun hk9 => ?_)
      · exact absurd hk9 (by decide)
      · refine r_iconst hx hb dX1_count_22 ?_
        subst hAe
        refine W.widen (k := 0) (n := 0) (by decide) (by decide) ?_
        exact W.iret (v := iI 0) hx hb hr (fun t ht hW => ⟨⟨_, (1, gl, gz, go, gw, (n : Int), (r : Int) + 1), rfl, ⟨⟨hT, rfl, rfl⟩, Or.inr ⟨by omega, rfl⟩⟩, by subst ht; exact hP⟩, hS.F ht⟩) hS.2.2 dX1_count_23
end
section
/-! the two constructors -/
theorem z_int (n : Nat) : ∀ cA : ClassId, vp_cell cA (n, .inl (fun j => iI ((fun _ => 0) j))) = arrV cA n (fun _ => defaultValue .int) := fun _ => rfl
theorem z_boolean (n : Nat) : ∀ cA : ClassId, vp_cell cA (n, .inl (fun j => iI ((fun _ => 0) j))) = arrV cA n (fun _ => defaultValue .boolean) := fun _ => rfl
theorem z_long (n : Nat) : ∀ cA : ClassId, vp_cell cA (n, .inr (.inl (fun _ => 0))) = arrV cA n (fun _ => defaultValue .long) := fun _ => rfl
set_option maxHeartbeats 1000000 in
set_option maxRecDepth 100000 in
theorem m_init (l : Launch) (dC : Nat → ClassId) (dI : Nat → Nat → Nat) (h0 sz : Nat) : Met l yX0_init wsX0_init { frames := 1, cells := 5, slots := 1501, locals := 21 } (va_Pc [.ref h0] (fun U => U.heap.size = sz ∧ va_P (dC, dI) vwCl [(h0, .inr (0, [.null, .null, .null, .null, .null, .int (iI 0), .int (iI 0), .long 0]))] U.heap ∧ va_K (dC, dI) vwCl [] U ∧ va_D (fun _ => True) [(h0, .inr (0, [.null, .null, .null, .null, .null, .int (iI 0), .int (iI 0), .long 0]))])) (va_Qv (fun (u : (Nat → Nat) × (Nat → ClassId)) => u.1 0 = h0) (fun u t => va_P (dC, dI) vwCl (wX u.1 u.2 (fun _ => 0) (fun _ => 0) (fun _ => 0) (fun _ => 0) (fun _ => 0) 0 99 0) t.heap ∧ va_K (dC, dI) vwCl (yX u.2) t ∧ va_D (va_A [(h0, .inr (0, [.null, .null, .null, .null, .null, .int (iI 0), .int (iI 0), .long 0]))] sz) (wX u.1 u.2 (fun _ => 0) (fun _ => 0) (fun _ => 0) (fun _ => 0) (fun _ => 0) 0 99 0)) (va_A [(h0, .inr (0, [.null, .null, .null, .null, .null, .int (iI 0), .int (iI 0), .long 0]))] sz)) 5 1501 (va_A [(h0, .inr (0, [.null, .null, .null, .null, .null, .int (iI 0), .int (iI 0), .long 0]))] sz) := by
  refine Met.ofW (cc := cX0_init) (maxL := 1) (ret := none) (by decide) rfl ?_
  intro p e s m args below meth c s₁ B hml hv
  obtain ⟨rfl, hsz, hP, hK, hD0⟩ := hv
  have hx := B.exec
  have hb := B.bytes
  have hr := B.returns
  have hts := atoms_spec (ws := wsX0_init) B.pre
  have hown : s.vm.findClass RX0 = some m.cls := findClass_of_methodNamed B.named
  have hlocks := B.notSynchronized
  have hin : meth.name = "<init>" := (name_of_methodNamed B.named B.method).1
  have hw := fun w h => hts w (List.mem_cons_of_mem _ h)
  have hinTX0 : ∀ w ∈ u_ws RX0 TX0 8, w ∈ wsX0_init := wA_u wuX0
  subst hsz
  have hD := hD0.self (sz := s.heap.size)
  generalize hAe : va_A [(h0, .inr (0, [.null, .null, .null, .null, .null, .int (iI 0), .int (iI 0), .long 0]))] s.heap.size = A at hD ⊢
  have hA : ∀ q : Nat, s.heap.size ≤ q → A q := fun q h => by rw [← hAe]; exact Or.inr h
  have hS : va_S A s.heap s.heap [] := va_S.rf
  have hl := lv_entry ([.ref h0]) (n := 1) (Nat.le_of_ble_eq_true rfl)
  rw [lg_entry_eq]
  generalize (lg_sl ([.ref h0]) ++ List.replicate (1 - (lg_sl ([.ref h0])).length) Slot.unset).toArray = ls at hl ⊢
  have hl : lv_has ls 1 [(0, .ref h0)] := hl
  refine lv_aload_n hx hb dX0_init_0 rfl (lv_at hl 0 rfl) ?_
  refine W.objInit hx hb hown (hw _ wlX0_1) (hw _ wo_objectInit) (hw _ wc_obj) rfl (by rw [hml]; exact hl.1) rfl dX0_init_1 (Nat.le_of_ble_eq_true rfl) (Nat.le_of_ble_eq_true rfl) ?_
  refine W.eq (g2 := F0 m 4 ls []) rfl ?_
  refine lv_aload_n hx hb dX0_init_4 rfl (lv_at hl 0 rfl) ?_
  refine r_sipush hx hb dX0_init_5 (by decide +kernel) ?_
  refine va_newa (atype := .int) (ty := .int) (a0 := (300, .inl (fun j => iI ((fun _ => 0) j)))) (N' := 300) hx hb (hw _ wy_int) rfl hK hP hD hS hA (z_int 300) (by decide +kernel) (by decide +kernel) (by decide +kernel) (Nat.le_of_ble_eq_true rfl) (Nat.le_of_ble_eq_true rfl) dX0_init_8 (fun q1 c1 H hK hP hD hS => ?_)
  have hK : va_K (dC, dI) vwCl [(c1, .int)] s := hK
  have hP : va_P (dC, dI) vwCl [(h0, .inr (0, [.null, .null, .null, .null, .null, .int (iI 0), .int (iI 0), .long 0])), (q1, .inl (c1, 300, .inl (fun j => iI ((fun _ => 0) j))))] H := hP
  have hD : va_D A [(h0, .inr (0, [.null, .null, .null, .null, .null, .int (iI 0), .int (iI 0), .long 0])), (q1, .inl (c1, 300, .inl (fun j => iI ((fun _ => 0) j))))] := hD
  refine va_putF (D := (dC, dI)) (ci := 0) (v := .ref q1) (ty := .array .int) (C := RX0) (T := TX0) (N := 8) hx hb hts hinTX0 tyX0 tyX0_ok nmX0 hown hK hP hD hS 0 rfl rfl 0 (by decide) (hw _ wfX0_9) (fun _ h9 => h9) rfl hin rfl (by decide +kernel) rfl rfl (Nat.le_of_ble_eq_true rfl) dX0_init_10 (fun H locs hP hD hS => ?_)
  have hP : va_P (dC, dI) vwCl [(h0, .inr (0, [.ref q1, .null, .null, .null, .null, .int (iI 0), .int (iI 0), .long 0])), (q1, .inl (c1, 300, .inl (fun j => iI ((fun _ => 0) j))))] H := hP
  have hD : va_D A [(h0, .inr (0, [.ref q1, .null, .null, .null, .null, .int (iI 0), .int (iI 0), .long 0])), (q1, .inl (c1, 300, .inl (fun j => iI ((fun _ => 0) j))))] := hD
  refine lv_aload_n hx hb dX0_init_13 rfl (lv_at hl 0 rfl) ?_
  refine r_sipush hx hb dX0_init_14 (by decide +kernel) ?_
  refine va_newa (atype := .int) (ty := .int) (a0 := (300, .inl (fun j => iI ((fun _ => 0) j)))) (N' := 300) hx hb (hw _ wy_int) rfl hK hP hD hS hA (z_int 300) (by decide +kernel) (by decide +kernel) (by decide +kernel) (Nat.le_of_ble_eq_true rfl) (Nat.le_of_ble_eq_true rfl) dX0_init_17 (fun q2 c2 H hK hP hD hS => ?_)
  have hK : va_K (dC, dI) vwCl [(c1, .int), (c2, .int)] s := hK
  have hP : va_P (dC, dI) vwCl [(h0, .inr (0, [.ref q1, .null, .null, .null, .null, .int (iI 0), .int (iI 0), .long 0])), (q1, .inl (c1, 300, .inl (fun j => iI ((fun _ => 0) j)))), (q2, .inl (c2, 300, .inl (fun j => iI ((fun _ => 0) j))))] H := hP
  have hD : va_D A [(h0, .inr (0, [.ref q1, .null, .null, .null, .null, .int (iI 0), .int (iI 0), .long 0])), (q1, .inl (c1, 300, .inl (fun j => iI ((fun _ => 0) j)))), (q2, .inl (c2, 300, .inl (fun j => iI ((fun _ => 0) j))))] := hD
  refine va_putF (D := (dC, dI)) (ci := 0) (v := .ref q2) (ty := .array .int) (C := RX0) (T := TX0) (N := 8) hx hb hts hinTX0 tyX0 tyX0_ok nmX0 hown hK hP hD hS 0 rfl rfl 1 (by decide) (hw _ wfX0_13) (fun _ h9 => h9) rfl hin rfl (by decide +kernel) rfl rfl (Nat.le_of_ble_eq_true rfl) dX0_init_19 (fun H locs hP hD hS => ?_)
  have hP : va_P (dC, dI) vwCl [(h0, .inr (0, [.ref q1, .ref q2, .null, .null, .null, .int (iI 0), .int (iI 0), .long 0])), (q1, .inl (c1, 300, .inl (fun j => iI ((fun _ => 0) j)))), (q2, .inl (c2, 300, .inl (fun j => iI ((fun _ => 0) j))))] H := hP
  have hD : va_D A [(h0, .inr (0, [.ref q1, .ref q2, .null, .null, .null, .int (iI 0), .int (iI 0), .long 0])), (q1, .inl (c1, 300, .inl (fun j => iI ((fun _ => 0) j)))), (q2, .inl (c2, 300, .inl (fun j => iI ((fun _ => 0) j))))] := hD
  refine lv_aload_n hx hb dX0_init_22 rfl (lv_at hl 0 rfl) ?_
  refine r_sipush hx hb dX0_init_23 (by decide +kernel) ?_
  refine va_newa (atype := .int) (ty := .int) (a0 := (300, .inl (fun j => iI ((fun _ => 0) j)))) (N' := 300) hx hb (hw _ wy_int) rfl hK hP hD hS hA (z_int 300) (by decide +kernel) (by decide +kernel) (by decide +kernel) (Nat.le_of_ble_eq_true rfl) (Nat.le_of_ble_eq_true rfl) dX0_init_26 (fun q3 c3 H hK hP hD hS => ?_)
  have hK : va_K (dC, dI) vwCl [(c1, .int), (c2, .int), (c3, .int)] s := hK
  have hP : va_P (dC, dI) vwCl [(h0, .inr (0, [.ref q1, .ref q2, .null, .null, .null, .int (iI 0), .int (iI 0), .long 0])), (q1, .inl (c1, 300, .inl (fun j => iI ((fun _ => 0) j)))), (q2, .inl (c2, 300, .inl (fun j => iI ((fun _ => 0) j)))), (q3, .inl (c3, 300, .inl (fun j => iI ((fun _ => 0) j))))] H := hP
  have hD : va_D A [(h0, .inr (0, [.ref q1, .ref q2, .null, .null, .null, .int (iI 0), .int (iI 0), .long 0])), (q1, .inl (c1, 300, .inl (fun j => iI ((fun _ => 0) j)))), (q2, .inl (c2, 300, .inl (fun j => iI ((fun _ => 0) j)))), (q3, .inl (c3, 300, .inl (fun j => iI ((fun _ => 0) j))))] := hD
  refine va_putF (D := (dC, dI)) (ci := 0) (v := .ref q3) (ty := .array .int) (C := RX0) (T := TX0) (N := 8) hx hb hts hinTX0 tyX0 tyX0_ok nmX0 hown hK hP hD hS 0 rfl rfl 2 (by decide) (hw _ wfX0_16) (fun _ h9 => h9) rfl hin rfl (by decide +kernel) rfl rfl (Nat.le_of_ble_eq_true rfl) dX0_init_28 (fun H locs hP hD hS => ?_)
  have hP : va_P (dC, dI) vwCl [(h0, .inr (0, [.ref q1, .ref q2, .ref q3, .null, .null, .int (iI 0), .int (iI 0), .long 0])), (q1, .inl (c1, 300, .inl (fun j => iI ((fun _ => 0) j)))), (q2, .inl (c2, 300, .inl (fun j => iI ((fun _ => 0) j)))), (q3, .inl (c3, 300, .inl (fun j => iI ((fun _ => 0) j))))] H := hP
  have hD : va_D A [(h0, .inr (0, [.ref q1, .ref q2, .ref q3, .null, .null, .int (iI 0), .int (iI 0), .long 0])), (q1, .inl (c1, 300, .inl (fun j => iI ((fun _ => 0) j)))), (q2, .inl (c2, 300, .inl (fun j => iI ((fun _ => 0) j)))), (q3, .inl (c3, 300, .inl (fun j => iI ((fun _ => 0) j))))] := hD
  refine lv_aload_n hx hb dX0_init_31 rfl (lv_at hl 0 rfl) ?_
  refine r_sipush hx hb dX0_init_32 (by decide +kernel) ?_
  refine va_newa (atype := .long) (ty := .long) (a0 := (300, .inr (.inl (fun _ => 0)))) (N' := 300) hx hb (hw _ wy_long) rfl hK hP hD hS hA (z_long 300) (by decide +kernel) (by decide +kernel) (by decide +kernel) (Nat.le_of_ble_eq_true rfl) (Nat.le_of_ble_eq_true rfl) dX0_init_35 (fun q4 c4 H hK hP hD hS => ?_)
  have hK : va_K (dC, dI) vwCl [(c1, .int), (c2, .int), (c3, .int), (c4, .long)] s := hK
  have hP : va_P (dC, dI) vwCl [(h0, .inr (0, [.ref q1, .ref q2, .ref q3, .null, .null, .int (iI 0), .int (iI 0), .long 0])), (q1, .inl (c1, 300, .inl (fun j => iI ((fun _ => 0) j)))), (q2, .inl (c2, 300, .inl (fun j => iI ((fun _ => 0) j)))), (q3, .inl (c3, 300, .inl (fun j => iI ((fun _ => 0) j)))), (q4, .inl (c4, 300, .inr (.inl (fun _ => 0))))] H := hP
  have hD : va_D A [(h0, .inr (0, [.ref q1, .ref q2, .ref q3, .null, .null, .int (iI 0), .int (iI 0), .long 0])), (q1, .inl (c1, 300, .inl (fun j => iI ((fun _ => 0) j)))), (q2, .inl (c2, 300, .inl (fun j => iI ((fun _ => 0) j)))), (q3, .inl (c3, 300, .inl (fun j => iI ((fun _ => 0) j)))), (q4, .inl (c4, 300, .inr (.inl (fun _ => 0))))] := hD
  refine va_putF (D := (dC, dI)) (ci := 0) (v := .ref q4) (ty := .array .long) (C := RX0) (T := TX0) (N := 8) hx hb hts hinTX0 tyX0 tyX0_ok nmX0 hown hK hP hD hS 0 rfl rfl 3 (by decide) (hw _ wfX0_19) (fun _ h9 => h9) rfl hin rfl (by decide +kernel) rfl rfl (Nat.le_of_ble_eq_true rfl) dX0_init_37 (fun H locs hP hD hS => ?_)
  have hP : va_P (dC, dI) vwCl [(h0, .inr (0, [.ref q1, .ref q2, .ref q3, .ref q4, .null, .int (iI 0), .int (iI 0), .long 0])), (q1, .inl (c1, 300, .inl (fun j => iI ((fun _ => 0) j)))), (q2, .inl (c2, 300, .inl (fun j => iI ((fun _ => 0) j)))), (q3, .inl (c3, 300, .inl (fun j => iI ((fun _ => 0) j)))), (q4, .inl (c4, 300, .inr (.inl (fun _ => 0))))] H := hP
  have hD : va_D A [(h0, .inr (0, [.ref q1, .ref q2, .ref q3, .ref q4, .null, .int (iI 0), .int (iI 0), .long 0])), (q1, .inl (c1, 300, .inl (fun j => iI ((fun _ => 0) j)))), (q2, .inl (c2, 300, .inl (fun j => iI ((fun _ => 0) j)))), (q3, .inl (c3, 300, .inl (fun j => iI ((fun _ => 0) j)))), (q4, .inl (c4, 300, .inr (.inl (fun _ => 0))))] := hD
  refine lv_aload_n hx hb dX0_init_40 rfl (lv_at hl 0 rfl) ?_
  refine r_sipush hx hb dX0_init_41 (by decide +kernel) ?_
  refine va_newa (atype := .int) (ty := .int) (a0 := (301, .inl (fun j => iI ((fun _ => 0) j)))) (N' := 301) hx hb (hw _ wy_int) rfl hK hP hD hS hA (z_int 301) (by decide +kernel) (by decide +kernel) (by decide +kernel) (Nat.le_of_ble_eq_true rfl) (Nat.le_of_ble_eq_true rfl) dX0_init_44 (fun q5 c5 H hK hP hD hS => ?_)
  have hK : va_K (dC, dI) vwCl [(c1, .int), (c2, .int), (c3, .int), (c4, .long), (c5, .int)] s := hK
  have hP : va_P (dC, dI) vwCl [(h0, .inr (0, [.ref q1, .ref q2, .ref q3, .ref q4, .null, .int (iI 0), .int (iI 0), .long 0])), (q1, .inl (c1, 300, .inl (fun j => iI ((fun _ => 0) j)))), (q2, .inl (c2, 300, .inl (fun j => iI ((fun _ => 0) j)))), (q3, .inl (c3, 300, .inl (fun j => iI ((fun _ => 0) j)))), (q4, .inl (c4, 300, .inr (.inl (fun _ => 0)))), (q5, .inl (c5, 301, .inl (fun j => iI ((fun _ => 0) j))))] H := hP
  have hD : va_D A [(h0, .inr (0, [.ref q1, .ref q2, .ref q3, .ref q4, .null, .int (iI 0), .int (iI 0), .long 0])), (q1, .inl (c1, 300, .inl (fun j => iI ((fun _ => 0) j)))), (q2, .inl (c2, 300, .inl (fun j => iI ((fun _ => 0) j)))), (q3, .inl (c3, 300, .inl (fun j => iI ((fun _ => 0) j)))), (q4, .inl (c4, 300, .inr (.inl (fun _ => 0)))), (q5, .inl (c5, 301, .inl (fun j => iI ((fun _ => 0) j))))] := hD
  refine va_putF (D := (dC, dI)) (ci := 0) (v := .ref q5) (ty := .array .int) (C := RX0) (T := TX0) (N := 8) hx hb hts hinTX0 tyX0 tyX0_ok nmX0 hown hK hP hD hS 0 rfl rfl 4 (by decide) (hw _ wfX0_23) (fun _ h9 => h9) rfl hin rfl (by decide +kernel) rfl rfl (Nat.le_of_ble_eq_true rfl) dX0_init_46 (fun H locs hP hD hS => ?_)
  have hP : va_P (dC, dI) vwCl [(h0, .inr (0, [.ref q1, .ref q2, .ref q3, .ref q4, .ref q5, .int (iI 0), .int (iI 0), .long 0])), (q1, .inl (c1, 300, .inl (fun j => iI ((fun _ => 0) j)))), (q2, .inl (c2, 300, .inl (fun j => iI ((fun _ => 0) j)))), (q3, .inl (c3, 300, .inl (fun j => iI ((fun _ => 0) j)))), (q4, .inl (c4, 300, .inr (.inl (fun _ => 0)))), (q5, .inl (c5, 301, .inl (fun j => iI ((fun _ => 0) j))))] H := hP
  have hD : va_D A [(h0, .inr (0, [.ref q1, .ref q2, .ref q3, .ref q4, .ref q5, .int (iI 0), .int (iI 0), .long 0])), (q1, .inl (c1, 300, .inl (fun j => iI ((fun _ => 0) j)))), (q2, .inl (c2, 300, .inl (fun j => iI ((fun _ => 0) j)))), (q3, .inl (c3, 300, .inl (fun j => iI ((fun _ => 0) j)))), (q4, .inl (c4, 300, .inr (.inl (fun _ => 0)))), (q5, .inl (c5, 301, .inl (fun j => iI ((fun _ => 0) j))))] := hD
  obtain ⟨ad, a0, a1, a2, a3, a4, a5⟩ : ∃ ad : Nat → Nat, ad 0 = h0 ∧ ad 1 = q1 ∧ ad 2 = q2 ∧ ad 3 = q3 ∧ ad 4 = q4 ∧ ad 5 = q5 := ⟨fun k => match k with | 0 => h0 | 1 => q1 | 2 => q2 | 3 => q3 | 4 => q4 | _ => q5, rfl, rfl, rfl, rfl, rfl, rfl⟩
  obtain ⟨ca, b1, b2, b3, b4, b5⟩ : ∃ ca : Nat → ClassId, ca 1 = c1 ∧ ca 2 = c2 ∧ ca 3 = c3 ∧ ca 4 = c4 ∧ ca 5 = c5 := ⟨fun k => match k with | 1 => c1 | 2 => c2 | 3 => c3 | 4 => c4 | _ => c5, rfl, rfl, rfl, rfl, rfl⟩
  subst a0 a1 a2 a3 a4 a5 b1 b2 b3 b4 b5
  have hP : va_P (dC, dI) vwCl (wX ad ca (fun _ => 0) (fun _ => 0) (fun _ => 0) (fun _ => 0) (fun _ => 0) 0 0 0) H := hP
  have hD : va_D A (wX ad ca (fun _ => 0) (fun _ => 0) (fun _ => 0) (fun _ => 0) (fun _ => 0) 0 0 0) := hD
  have hK : va_K (dC, dI) vwCl (yX ca) s := hK
  refine lv_aload_n hx hb dX0_init_49 rfl (lv_at hl 0 rfl) ?_
  refine r_bipush hx hb dX0_init_50 (by decide +kernel) ?_
  refine wc_v (va_runV (As := [.int (iI 100)]) (rest := []) ⟨hx, hb, hml, hown, hts⟩ (m_clear l dC dI ad ca (fun _ => 0) (fun _ => 0) (fun _ => 0) (fun _ => 0) (fun _ => 0) 0 0 0 100) (cwV 1 hts (gV wlX0_26 wo_X0_clear wz_X0_clear wi_1 wcX0_clear) rfl rfl rfl (by decide +kernel) ⟨Nat.le_of_ble_eq_true rfl, Nat.le_of_ble_eq_true rfl⟩) (PX_V (q0 := 0) (ci := 0) hP hK hD rfl rfl) rfl rfl hl.1 rfl (lv_room (Nat.le_of_ble_eq_true rfl)) dX0_init_52 ⟨Nat.le_of_ble_eq_true rfl, Nat.le_of_ble_eq_true rfl⟩) hS (wD_in hD) (fun u9 H locs hv9 hP hS hk9 => ?_)
  have hD : va_D A (wX ad ca (fun _ => 0) (fun _ => 0) (fun _ => 0) (fun _ => 0) (fun _ => 0) 0 99 0) := wD_same hD rfl
  refine W.widen (k := 5) (n := 1501) (by decide) (by decide) ?_
  subst hAe
  exact W.vret hx hb hr (fun t ht hW => ⟨⟨(ad, ca), rfl, rfl, by subst ht; exact hP, va_K.moved hW.alike hK, hD⟩, hS.F ht⟩) hS.2.2 dX0_init_55
set_option maxHeartbeats 1000000 in
set_option maxRecDepth 100000 in
theorem n_init (l : Launch) (dC : Nat → ClassId) (dI : Nat → Nat → Nat) (h0 sz : Nat) : Met l yX1_init wsX1_init { frames := 1, cells := 4, slots := 728, locals := 21 } (va_Pc [.ref h0] (fun U => U.heap.size = sz ∧ va_P (dC, dI) vwCl [(h0, .inr (1, [.int (iI 0), .null, .null, .null, .null, .int (iI 0), .int (iI 0)]))] U.heap ∧ va_K (dC, dI) vwCl [] U ∧ va_D (fun _ => True) [(h0, .inr (1, [.int (iI 0), .null, .null, .null, .null, .int (iI 0), .int (iI 0)]))])) (va_Qv (fun (u : (Nat → Nat) × (Nat → ClassId)) => u.1 0 = h0) (fun u t => va_P (dC, dI) vwCl (wM u.1 u.2 0 (fun _ => 0) (fun _ => 0) (fun _ => 0) (fun _ => 0) 0 100) t.heap ∧ va_K (dC, dI) vwCl (yM u.2) t ∧ va_D (va_A [(h0, .inr (1, [.int (iI 0), .null, .null, .null, .null, .int (iI 0), .int (iI 0)]))] sz) (wM u.1 u.2 0 (fun _ => 0) (fun _ => 0) (fun _ => 0) (fun _ => 0) 0 100)) (va_A [(h0, .inr (1, [.int (iI 0), .null, .null, .null, .null, .int (iI 0), .int (iI 0)]))] sz)) 4 728 (va_A [(h0, .inr (1, [.int (iI 0), .null, .null, .null, .null, .int (iI 0), .int (iI 0)]))] sz) := by
  refine Met.ofW (cc := cX1_init) (maxL := 1) (ret := none) (by decide) rfl ?_
  intro p e s m args below meth c s₁ B hml hv
  obtain ⟨rfl, hsz, hP, hK, hD0⟩ := hv
  have hx := B.exec
  have hb := B.bytes
  have hr := B.returns
  have hts := atoms_spec (ws := wsX1_init) B.pre
  have hown : s.vm.findClass RX1 = some m.cls := findClass_of_methodNamed B.named
  have hlocks := B.notSynchronized
  have hin : meth.name = "<init>" := (name_of_methodNamed B.named B.method).1
  have hw := fun w h => hts w (List.mem_cons_of_mem _ h)
  have hinTX1 : ∀ w ∈ u_ws RX1 TX1 7, w ∈ wsX1_init := wA_u wuX1
  subst hsz
  have hD := hD0.self (sz := s.heap.size)
  generalize hAe : va_A [(h0, .inr (1, [.int (iI 0), .null, .null, .null, .null, .int (iI 0), .int (iI 0)]))] s.heap.size = A at hD ⊢
  have hA : ∀ q : Nat, s.heap.size ≤ q → A q := fun q h => by rw [← hAe]; exact Or.inr h
  have hS : va_S A s.heap s.heap [] := va_S.rf
  have hl := lv_entry ([.ref h0]) (n := 1) (Nat.le_of_ble_eq_true rfl)
  rw [lg_entry_eq]
  generalize (lg_sl ([.ref h0]) ++ List.replicate (1 - (lg_sl ([.ref h0])).length) Slot.unset).toArray = ls at hl ⊢
  have hl : lv_has ls 1 [(0, .ref h0)] := hl
  refine lv_aload_n hx hb dX1_init_0 rfl (lv_at hl 0 rfl) ?_
  refine W.objInit hx hb hown (hw _ wlX1_1) (hw _ wo_objectInit) (hw _ wc_obj) rfl (by rw [hml]; exact hl.1) rfl dX1_init_1 (Nat.le_of_ble_eq_true rfl) (Nat.le_of_ble_eq_true rfl) ?_
  refine W.eq (g2 := F0 m 4 ls []) rfl ?_
  refine lv_aload_n hx hb dX1_init_4 rfl (lv_at hl 0 rfl) ?_
  refine r_sipush hx hb dX1_init_5 (by decide +kernel) ?_
  refine va_newa (atype := .int) (ty := .int) (a0 := (300, .inl (fun j => iI ((fun _ => 0) j)))) (N' := 300) hx hb (hw _ wy_int) rfl hK hP hD hS hA (z_int 300) (by decide +kernel) (by decide +kernel) (by decide +kernel) (Nat.le_of_ble_eq_true rfl) (Nat.le_of_ble_eq_true rfl) dX1_init_8 (fun q1 c1 H hK hP hD hS => ?_)
  have hK : va_K (dC, dI) vwCl [(c1, .int)] s := hK
  have hP : va_P (dC, dI) vwCl [(h0, .inr (1, [.int (iI 0), .null, .null, .null, .null, .int (iI 0), .int (iI 0)])), (q1, .inl (c1, 300, .inl (fun j => iI ((fun _ => 0) j))))] H := hP
  have hD : va_D A [(h0, .inr (1, [.int (iI 0), .null, .null, .null, .null, .int (iI 0), .int (iI 0)])), (q1, .inl (c1, 300, .inl (fun j => iI ((fun _ => 0) j))))] := hD
  refine va_putF (D := (dC, dI)) (ci := 1) (v := .ref q1) (ty := .array .int) (C := RX1) (T := TX1) (N := 7) hx hb hts hinTX1 tyX1 tyX1_ok nmX1 hown hK hP hD hS 0 rfl rfl 1 (by decide) (hw _ wfX1_7) (fun _ h9 => h9) rfl hin rfl (by decide +kernel) rfl rfl (Nat.le_of_ble_eq_true rfl) dX1_init_10 (fun H locs hP hD hS => ?_)
  have hP : va_P (dC, dI) vwCl [(h0, .inr (1, [.int (iI 0), .ref q1, .null, .null, .null, .int (iI 0), .int (iI 0)])), (q1, .inl (c1, 300, .inl (fun j => iI ((fun _ => 0) j))))] H := hP
  have hD : va_D A [(h0, .inr (1, [.int (iI 0), .ref q1, .null, .null, .null, .int (iI 0), .int (iI 0)])), (q1, .inl (c1, 300, .inl (fun j => iI ((fun _ => 0) j))))] := hD
  refine lv_aload_n hx hb dX1_init_13 rfl (lv_at hl 0 rfl) ?_
  refine r_sipush hx hb dX1_init_14 (by decide +kernel) ?_
  refine va_newa (atype := .int) (ty := .int) (a0 := (300, .inl (fun j => iI ((fun _ => 0) j)))) (N' := 300) hx hb (hw _ wy_int) rfl hK hP hD hS hA (z_int 300) (by decide +kernel) (by decide +kernel) (by decide +kernel) (Nat.le_of_ble_eq_true rfl) (Nat.le_of_ble_eq_true rfl) dX1_init_17 (fun q2 c2 H hK hP hD hS => ?_)
  have hK : va_K (dC, dI) vwCl [(c1, .int), (c2, .int)] s := hK
  have hP : va_P (dC, dI) vwCl [(h0, .inr (1, [.int (iI 0), .ref q1, .null, .null, .null, .int (iI 0), .int (iI 0)])), (q1, .inl (c1, 300, .inl (fun j => iI ((fun _ => 0) j)))), (q2, .inl (c2, 300, .inl (fun j => iI ((fun _ => 0) j))))] H := hP
  have hD : va_D A [(h0, .inr (1, [.int (iI 0), .ref q1, .null, .null, .null, .int (iI 0), .int (iI 0)])), (q1, .inl (c1, 300, .inl (fun j => iI ((fun _ => 0) j)))), (q2, .inl (c2, 300, .inl (fun j => iI ((fun _ => 0) j))))] := hD
  refine va_putF (D := (dC, dI)) (ci := 1) (v := .ref q2) (ty := .array .int) (C := RX1) (T := TX1) (N := 7) hx hb hts hinTX1 tyX1 tyX1_ok nmX1 hown hK hP hD hS 0 rfl rfl 2 (by decide) (hw _ wfX1_13) (fun _ h9 => h9) rfl hin rfl (by decide +kernel) rfl rfl (Nat.le_of_ble_eq_true rfl) dX1_init_19 (fun H locs hP hD hS => ?_)
  have hP : va_P (dC, dI) vwCl [(h0, .inr (1, [.int (iI 0), .ref q1, .ref q2, .null, .null, .int (iI 0), .int (iI 0)])), (q1, .inl (c1, 300, .inl (fun j => iI ((fun _ => 0) j)))), (q2, .inl (c2, 300, .inl (fun j => iI ((fun _ => 0) j))))] H := hP
  have hD : va_D A [(h0, .inr (1, [.int (iI 0), .ref q1, .ref q2, .null, .null, .int (iI 0), .int (iI 0)])), (q1, .inl (c1, 300, .inl (fun j => iI ((fun _ => 0) j)))), (q2, .inl (c2, 300, .inl (fun j => iI ((fun _ => 0) j))))] := hD
  refine lv_aload_n hx hb dX1_init_22 rfl (lv_at hl 0 rfl) ?_
  refine r_bipush hx hb dX1_init_23 (by decide +kernel) ?_
  refine va_newa (atype := .boolean) (ty := .boolean) (a0 := (64, .inl (fun j => iI ((fun _ => 0) j)))) (N' := 64) hx hb (hw _ wy_boolean) rfl hK hP hD hS hA (z_boolean 64) (by decide +kernel) (by decide +kernel) (by decide +kernel) (Nat.le_of_ble_eq_true rfl) (Nat.le_of_ble_eq_true rfl) dX1_init_25 (fun q3 c3 H hK hP hD hS => ?_)
  have hK : va_K (dC, dI) vwCl [(c1, .int), (c2, .int), (c3, .boolean)] s := hK
  have hP : va_P (dC, dI) vwCl [(h0, .inr (1, [.int (iI 0), .ref q1, .ref q2, .null, .null, .int (iI 0), .int (iI 0)])), (q1, .inl (c1, 300, .inl (fun j => iI ((fun _ => 0) j)))), (q2, .inl (c2, 300, .inl (fun j => iI ((fun _ => 0) j)))), (q3, .inl (c3, 64, .inl (fun j => iI ((fun _ => 0) j))))] H := hP
  have hD : va_D A [(h0, .inr (1, [.int (iI 0), .ref q1, .ref q2, .null, .null, .int (iI 0), .int (iI 0)])), (q1, .inl (c1, 300, .inl (fun j => iI ((fun _ => 0) j)))), (q2, .inl (c2, 300, .inl (fun j => iI ((fun _ => 0) j)))), (q3, .inl (c3, 64, .inl (fun j => iI ((fun _ => 0) j))))] := hD
  refine va_putF (D := (dC, dI)) (ci := 1) (v := .ref q3) (ty := .array .boolean) (C := RX1) (T := TX1) (N := 7) hx hb hts hinTX1 tyX1 tyX1_ok nmX1 hown hK hP hD hS 0 rfl rfl 3 (by decide) (hw _ wfX1_16) (fun _ h9 => h9) rfl hin rfl (by decide +kernel) rfl rfl (Nat.le_of_ble_eq_true rfl) dX1_init_27 (fun H locs hP hD hS => ?_)
  have hP : va_P (dC, dI) vwCl [(h0, .inr (1, [.int (iI 0), .ref q1, .ref q2, .ref q3, .null, .int (iI 0), .int (iI 0)])), (q1, .inl (c1, 300, .inl (fun j => iI ((fun _ => 0) j)))), (q2, .inl (c2, 300, .inl (fun j => iI ((fun _ => 0) j)))), (q3, .inl (c3, 64, .inl (fun j => iI ((fun _ => 0) j))))] H := hP
  have hD : va_D A [(h0, .inr (1, [.int (iI 0), .ref q1, .ref q2, .ref q3, .null, .int (iI 0), .int (iI 0)])), (q1, .inl (c1, 300, .inl (fun j => iI ((fun _ => 0) j)))), (q2, .inl (c2, 300, .inl (fun j => iI ((fun _ => 0) j)))), (q3, .inl (c3, 64, .inl (fun j => iI ((fun _ => 0) j))))] := hD
  refine lv_aload_n hx hb dX1_init_30 rfl (lv_at hl 0 rfl) ?_
  refine r_bipush hx hb dX1_init_31 (by decide +kernel) ?_
  refine va_newa (atype := .boolean) (ty := .boolean) (a0 := (64, .inl (fun j => iI ((fun _ => 0) j)))) (N' := 64) hx hb (hw _ wy_boolean) rfl hK hP hD hS hA (z_boolean 64) (by decide +kernel) (by decide +kernel) (by decide +kernel) (Nat.le_of_ble_eq_true rfl) (Nat.le_of_ble_eq_true rfl) dX1_init_33 (fun q4 c4 H hK hP hD hS => ?_)
  have hK : va_K (dC, dI) vwCl [(c1, .int), (c2, .int), (c3, .boolean), (c4, .boolean)] s := hK
  have hP : va_P (dC, dI) vwCl [(h0, .inr (1, [.int (iI 0), .ref q1, .ref q2, .ref q3, .null, .int (iI 0), .int (iI 0)])), (q1, .inl (c1, 300, .inl (fun j => iI ((fun _ => 0) j)))), (q2, .inl (c2, 300, .inl (fun j => iI ((fun _ => 0) j)))), (q3, .inl (c3, 64, .inl (fun j => iI ((fun _ => 0) j)))), (q4, .inl (c4, 64, .inl (fun j => iI ((fun _ => 0) j))))] H := hP
  have hD : va_D A [(h0, .inr (1, [.int (iI 0), .ref q1, .ref q2, .ref q3, .null, .int (iI 0), .int (iI 0)])), (q1, .inl (c1, 300, .inl (fun j => iI ((fun _ => 0) j)))), (q2, .inl (c2, 300, .inl (fun j => iI ((fun _ => 0) j)))), (q3, .inl (c3, 64, .inl (fun j => iI ((fun _ => 0) j)))), (q4, .inl (c4, 64, .inl (fun j => iI ((fun _ => 0) j))))] := hD
  refine va_putF (D := (dC, dI)) (ci := 1) (v := .ref q4) (ty := .array .boolean) (C := RX1) (T := TX1) (N := 7) hx hb hts hinTX1 tyX1 tyX1_ok nmX1 hown hK hP hD hS 0 rfl rfl 4 (by decide) (hw _ wfX1_20) (fun _ h9 => h9) rfl hin rfl (by decide +kernel) rfl rfl (Nat.le_of_ble_eq_true rfl) dX1_init_35 (fun H locs hP hD hS => ?_)
  have hP : va_P (dC, dI) vwCl [(h0, .inr (1, [.int (iI 0), .ref q1, .ref q2, .ref q3, .ref q4, .int (iI 0), .int (iI 0)])), (q1, .inl (c1, 300, .inl (fun j => iI ((fun _ => 0) j)))), (q2, .inl (c2, 300, .inl (fun j => iI ((fun _ => 0) j)))), (q3, .inl (c3, 64, .inl (fun j => iI ((fun _ => 0) j)))), (q4, .inl (c4, 64, .inl (fun j => iI ((fun _ => 0) j))))] H := hP
  have hD : va_D A [(h0, .inr (1, [.int (iI 0), .ref q1, .ref q2, .ref q3, .ref q4, .int (iI 0), .int (iI 0)])), (q1, .inl (c1, 300, .inl (fun j => iI ((fun _ => 0) j)))), (q2, .inl (c2, 300, .inl (fun j => iI ((fun _ => 0) j)))), (q3, .inl (c3, 64, .inl (fun j => iI ((fun _ => 0) j)))), (q4, .inl (c4, 64, .inl (fun j => iI ((fun _ => 0) j))))] := hD
  obtain ⟨ad, a0, a1, a2, a3, a4⟩ : ∃ ad : Nat → Nat, ad 0 = h0 ∧ ad 1 = q1 ∧ ad 2 = q2 ∧ ad 3 = q3 ∧ ad 4 = q4 := ⟨fun k => match k with | 0 => h0 | 1 => q1 | 2 => q2 | 3 => q3 | _ => q4, rfl, rfl, rfl, rfl, rfl⟩
  obtain ⟨ca, b1, b2, b3, b4⟩ : ∃ ca : Nat → ClassId, ca 1 = c1 ∧ ca 2 = c2 ∧ ca 3 = c3 ∧ ca 4 = c4 := ⟨fun k => match k with | 1 => c1 | 2 => c2 | 3 => c3 | _ => c4, rfl, rfl, rfl, rfl⟩
  subst a0 a1 a2 a3 a4 b1 b2 b3 b4
  have hP : va_P (dC, dI) vwCl (wM ad ca 0 (fun _ => 0) (fun _ => 0) (fun _ => 0) (fun _ => 0) 0 0) H := hP
  have hD : va_D A (wM ad ca 0 (fun _ => 0) (fun _ => 0) (fun _ => 0) (fun _ => 0) 0 0) := hD
  have hK : va_K (dC, dI) vwCl (yM ca) s := hK
  refine lv_aload_n hx hb dX1_init_38 rfl (lv_at hl 0 rfl) ?_
  refine r_bipush hx hb dX1_init_39 (by decide +kernel) ?_
  refine va_put (D := (dC, dI)) (ci := 1) (v := .int (iI 100)) (ty := .int) (C := RX1) (T := TX1) (N := 7) hx hb hts hinTX1 tyX1 tyX1_ok nmX1 hown hK hP hD hS 0 rfl rfl 6 (by decide) (hw _ wfX1_23) (fun _ h9 => h9) rfl (by decide +kernel) rfl rfl (Nat.le_of_ble_eq_true rfl) dX1_init_41 (fun H locs hP hD hS => ?_)
  have hP : va_P (dC, dI) vwCl (wM ad ca 0 (fun _ => 0) (fun _ => 0) (fun _ => 0) (fun _ => 0) 0 100) H := hP
  have hD : va_D A (wM ad ca 0 (fun _ => 0) (fun _ => 0) (fun _ => 0) (fun _ => 0) 0 100) := hD
  refine W.widen (k := 4) (n := 728) (by decide) (by decide) ?_
  subst hAe
  exact W.vret hx hb hr (fun t ht hW => ⟨⟨(ad, ca), rfl, rfl, by subst ht; exact hP, va_K.moved hW.alike hK, hD⟩, hS.F ht⟩) hS.2.2 dX1_init_44
end
section
/-! the law's cells: the class's, and the long array for its answers; worlds side by side -/
abbrev CU : Type := XU × Int × Int × Int64
abbrev wXc (ad : Nat → Nat) (ca : Nat → ClassId) (c : CU) : va_W := wX ad ca c.1.1 c.1.2.1 c.1.2.2.1 c.1.2.2.2.1 c.1.2.2.2.2 c.2.1 c.2.2.1 c.2.2.2
def XS (n : Nat) (L S : Nat → Nat) (r : Nat) (lo : Nat → Bool) (c : CU) : Prop := tXu n L S r lo c.1 c.2.2.2 ∧ c.2.1 = (n : Int) ∧ c.2.2.1 = (r : Int)
abbrev wO (ou : Nat) (co : ClassId) (fo : Nat → Int64) : va_W := [(ou, .inl (co, 1, .inr (.inl fo)))]
abbrev yXo (ca : Nat → ClassId) (co : ClassId) : List (ClassId × FieldType) := [(ca 1, .int), (ca 2, .int), (ca 3, .int), (ca 4, .long), (ca 5, .int), (co, .long)]
def bJ (b : Bool) : Int64 := if b then 1 else 0
theorem inW_left {a b : va_W} {q : Nat} (h : inW a q) : inW (a ++ b) q := by
  obtain ⟨k, e, hk⟩ := h
  exact ⟨k, e, by rw [List.getElem?_append_left (List.getElem?_eq_some_iff.mp hk).1]; exact hk⟩
theorem wjoin {D : va_G} {cl : List vw_C} {A : Nat → Prop} {wc wr w1 : va_W} {H H1 : Heap} (hP : va_P D cl (wc ++ wr) H) (hD : va_D A (wc ++ wr)) (hk : ∀ q : Nat, q < H.size → ¬ inW wc q → H1[q]? = H[q]?) (hP1 : va_P D cl w1 H1) : va_P D cl (w1 ++ wr) H1 := by
  refine hP1.app (fun k q hq => ?_)
  have h1 : (wc ++ wr)[wc.length + k]? = some q := by rw [List.getElem?_append_right (Nat.le_add_right _ _), Nat.add_sub_cancel_left]; exact hq
  have h2 : va_at D cl q H := hP _ q h1
  refine h2.kept (hk q.1 h2.lt (fun h => ?_))
  obtain ⟨j, e, hj⟩ := h
  have hl := (List.getElem?_eq_some_iff.mp hj).1
  have h3 : (wc ++ wr)[j]? = some (q.1, e) := by rw [List.getElem?_append_left hl]; exact hj
  have h4 := hD.1 j (wc.length + k) (q.1, e) q h3 h1 rfl
  omega
end
section
/-! the law's wrappers: a call of the class, its exceptions caught -/
set_option maxHeartbeats 4000000 in
set_option maxRecDepth 100000 in
theorem w_begin (l : Launch) (hl9 : l.stackTraces = false) (dC : Nat → ClassId) (dI : Nat → Nat → Nat) (ad : Nat → Nat) (ca : Nat → ClassId) (gL gB gD : Nat → Int) (gN : Nat → Int64) (gS : Nat → Int) (n r : Nat) (x : Int64) (L S : Nat → Nat) (lo : Nat → Bool) (hok : okS n L S r) (hT : tX n L S r lo gL gB gD gN gS x) (ou : Nat) (co : ClassId) (fo : Nat → Int64) (q : Int) (hq : iR q) : Met l yL_begin wsL_begin { frames := 8, cells := 2, slots := 12, locals := 128 } (PXe (dC, dI) vwCl (yXo ca co) (wX ad ca gL gB gD gN gS ((n : Int)) ((r : Int)) x ++ wO ou co fo) [.ref (ad 0), .int (iI q)]) (va_Qi (fun (y : Int32) (u : CU × (Nat → Int64)) => ((2 ≤ q ∧ q ≤ 1000) ∧ y = iI 0 ∧ XS 0 L S (q - 1).toNat (fun _ => false) u.1) ∨ (¬ (2 ≤ q ∧ q ≤ 1000) ∧ y = iI 1 ∧ XS n L S r lo u.1)) (fun u t => va_P (dC, dI) vwCl (wXc ad ca u.1 ++ wO ou co u.2) t.heap) (inW (wX ad ca gL gB gD gN gS ((n : Int)) ((r : Int)) x ++ wO ou co fo))) 2 12 (inW (wX ad ca gL gB gD gN gS ((n : Int)) ((r : Int)) x ++ wO ou co fo)) := by
  refine va_MetW (cc := cL_begin) (maxL := 3) (ret := (some .int)) (by decide) rfl ?_
  intro p e s m args below meth c s₁ B hml hv
  obtain ⟨rfl, hP, hK, hD0, hE⟩ := hv
  have hx := B.exec
  have hb := B.bytes
  have hr := B.returns
  have hts := atoms_spec (ws := wsL_begin) B.pre
  have hown : s.vm.findClass RL = some m.cls := findClass_of_methodNamed B.named
  have hlocks := B.notSynchronized
  have hw := fun w h => hts w (List.mem_cons_of_mem _ h)
  have hD := wD_own hD0
  obtain ⟨A, hAe⟩ : ∃ A, A = inW (wX ad ca gL gB gD gN gS ((n : Int)) ((r : Int)) x ++ wO ou co fo) := ⟨_, rfl⟩
  rw [← hAe] at hD
  obtain ⟨H, hH⟩ : ∃ H, H = s.heap := ⟨_, rfl⟩
  obtain ⟨locs, hlc⟩ : ∃ L : List Loc, L = [] := ⟨_, rfl⟩
  have hS : va_S A s.heap H locs := by rw [hH, hlc]; exact va_S.rf
  rw [← hH] at hP ⊢
  rw [← hlc]
  have hl := lv_entry ([.ref (ad 0), .int (iI q)]) (n := 3) (Nat.le_of_ble_eq_true rfl)
  rw [lg_entry_eq]
  generalize (lg_sl ([.ref (ad 0), .int (iI q)]) ++ List.replicate (3 - (lg_sl ([.ref (ad 0), .int (iI q)])).length) Slot.unset).toArray = ls at hl ⊢
  have hl : lv_has ls 3 [(0, .ref (ad 0)), (1, .int (iI q))] := hl
  have hTab : c.exceptionTable.toList = tableOf [(0, 5, 8, 13)] := vx_table (x := yL_begin) B (hts (.codeWith yL_begin cL_begin 3 (some .int) [(0, 5, 8, 13)]) List.mem_cons_self)
  refine lv_aload_n hx hb dL_begin_0 rfl (lv_at hl 0 rfl) ?_
  refine lv_iload_n hx hb dL_begin_1 rfl (lv_at hl 1 rfl) ?_
  have hPx := hP.sub (ws' := (wX ad ca gL gB gD gN gS ((n : Int)) ((r : Int)) x)) [0, 1, 2, 3, 4, 5] rfl
  have hDx := hD.sub (ws' := (wX ad ca gL gB gD gN gS ((n : Int)) ((r : Int)) x)) [0, 1, 2, 3, 4, 5] (by decide) rfl
  have hKx := hK.sub (tys' := yX ca) [0, 1, 2, 3, 4] rfl
  refine vw_v (vx_runV (As := [.int (iI q)]) (rest := []) ⟨hx, hb, hml, hown, hts⟩ (m_begin l hl9 dC dI ad ca gL gB gD gN gS n r x q hq) (cwV 1 hts (gV wlL_7 wo_X0_begin wz_X0_begin wi_1 wcX0_begin) rfl rfl rfl (by decide +kernel) ⟨Nat.le_of_ble_eq_true rfl, Nat.le_of_ble_eq_true rfl⟩) (PXe_V (q0 := 0) (ci := 0) hPx hKx hDx hE (fun a h1 h2 => hS.2.1 a h1 (by rw [hAe]; exact h2)) (fun q h => inW_left h) rfl rfl) rfl rfl hl.1 rfl (lv_room (Nat.le_of_ble_eq_true rfl)) dL_begin_2 ⟨Nat.le_of_ble_eq_true rfl, Nat.le_of_ble_eq_true rfl⟩) hS (by rw [hAe]; exact fun q h => inW_left h) (fun E ce q9 H1 locs hPE hS hkp hce hcv hcl => ?_) (fun u9 H1 locs h8 hP1 hS hk9 => ?_)
  · have hP := hP.kept (fun k q hq => hkp q.1 (hP k q hq).lt)
    generalize H1 = H at hP hS hce ⊢
    obtain ⟨rfl, hx9⟩ := hPE
    refine vx_catch (own := RL) (name := eIA) (E := eIA) hown [] ⟨0, 5, 8, 13⟩ [] (by rw [hTab]; rfl) (fun z hz => nomatch hz) (by decide) (by decide) (hw _ wkL_13) (va_Nw.use rfl (hE.2.1 eIA (by simp))) hce hcv hcl ?_
    refine lv_astore_n hx hb dL_begin_8 rfl hl (by decide) rfl (fun ls hl => ?_)
    have hl : lv_has ls 3 [(2, .ref q9), (0, .ref (ad 0)), (1, .int (iI q))] := hl
    refine r_iconst hx hb dL_begin_9 ?_
    subst hAe
    refine W.widen (k := 2) (n := 12) (by decide) (by decide) ?_
    exact W.iret (v := iI 1) hx hb hr (fun t ht hW => ⟨⟨_, (((gL, gB, gD, gN, gS), (n : Int), (r : Int), x), fo), rfl, Or.inr ⟨by omega, rfl, ⟨hT, rfl, rfl⟩⟩, by subst ht; exact hP⟩, hS.F ht⟩) hS.2.2 dL_begin_10
  · have hP := wjoin hP hD hk9 hP1
    generalize H1 = H at hP hS ⊢
    have hP : va_P (dC, dI) vwCl (wX ad ca gL gB gD gN gS 0 (q - 1) 0 ++ wO ou co fo) H := hP
    have hD : va_D A (wX ad ca gL gB gD gN gS 0 (q - 1) 0 ++ wO ou co fo) := wD_same hD rfl
    have hT0 : tX 0 L S (q - 1).toNat (fun _ => false) gL gB gD gN gS 0 := by
      refine ⟨fun d h => absurd h (Nat.not_lt_zero d), fun d h => ?_, fun v hv => bL_0 v⟩
      have hd : d = 0 := by omega
      rw [hd]
      exact hT.2.1 0 (Nat.zero_le n)
    refine lv_goto hx hb dL_begin_5 (tgt := 11) (by decide) ?_
    refine r_iconst hx hb dL_begin_11 ?_
    subst hAe
    refine W.widen (k := 2) (n := 12) (by decide) (by decide) ?_
    exact W.iret (v := iI 0) hx hb hr (fun t ht hW => ⟨⟨_, (((gL, gB, gD, gN, gS), 0, q - 1, 0), fo), rfl, Or.inl ⟨h8, rfl, hT0, rfl, by show q - 1 = ((q - 1).toNat : Int); omega⟩, by subst ht; exact hP⟩, hS.F ht⟩) hS.2.2 dL_begin_12
set_option maxHeartbeats 4000000 in
set_option maxRecDepth 100000 in
theorem w_drop (l : Launch) (hl9 : l.stackTraces = false) (dC : Nat → ClassId) (dI : Nat → Nat → Nat) (ad : Nat → Nat) (ca : Nat → ClassId) (gL gB gD : Nat → Int) (gN : Nat → Int64) (gS : Nat → Int) (n r : Nat) (x : Int64) (L S : Nat → Nat) (lo : Nat → Bool) (hok : okS n L S r) (hT : tX n L S r lo gL gB gD gN gS x) (ou : Nat) (co : ClassId) (fo : Nat → Int64) (q : Int) (hq : iR q) : Met l yL_drop wsL_drop { frames := 8, cells := 2, slots := 12, locals := 128 } (PXe (dC, dI) vwCl (yXo ca co) (wX ad ca gL gB gD gN gS ((n : Int)) ((r : Int)) x ++ wO ou co fo) [.ref (ad 0), .int (iI q)]) (va_Qi (fun (y : Int32) (u : CU × (Nat → Int64)) => ((0 ≤ q ∧ q ≤ (n : Int)) ∧ y = iI 0 ∧ XS (n - q.toNat) L S r lo u.1) ∨ (¬ (0 ≤ q ∧ q ≤ (n : Int)) ∧ y = iI 1 ∧ XS n L S r lo u.1)) (fun u t => va_P (dC, dI) vwCl (wXc ad ca u.1 ++ wO ou co u.2) t.heap) (inW (wX ad ca gL gB gD gN gS ((n : Int)) ((r : Int)) x ++ wO ou co fo))) 2 12 (inW (wX ad ca gL gB gD gN gS ((n : Int)) ((r : Int)) x ++ wO ou co fo)) := by
  refine va_MetW (cc := cL_drop) (maxL := 3) (ret := (some .int)) (by decide) rfl ?_
  intro p e s m args below meth c s₁ B hml hv
  obtain ⟨rfl, hP, hK, hD0, hE⟩ := hv
  have hx := B.exec
  have hb := B.bytes
  have hr := B.returns
  have hts := atoms_spec (ws := wsL_drop) B.pre
  have hown : s.vm.findClass RL = some m.cls := findClass_of_methodNamed B.named
  have hlocks := B.notSynchronized
  have hw := fun w h => hts w (List.mem_cons_of_mem _ h)
  have hD := wD_own hD0
  obtain ⟨A, hAe⟩ : ∃ A, A = inW (wX ad ca gL gB gD gN gS ((n : Int)) ((r : Int)) x ++ wO ou co fo) := ⟨_, rfl⟩
  rw [← hAe] at hD
  obtain ⟨H, hH⟩ : ∃ H, H = s.heap := ⟨_, rfl⟩
  obtain ⟨locs, hlc⟩ : ∃ L : List Loc, L = [] := ⟨_, rfl⟩
  have hS : va_S A s.heap H locs := by rw [hH, hlc]; exact va_S.rf
  rw [← hH] at hP ⊢
  rw [← hlc]
  have hl := lv_entry ([.ref (ad 0), .int (iI q)]) (n := 3) (Nat.le_of_ble_eq_true rfl)
  rw [lg_entry_eq]
  generalize (lg_sl ([.ref (ad 0), .int (iI q)]) ++ List.replicate (3 - (lg_sl ([.ref (ad 0), .int (iI q)])).length) Slot.unset).toArray = ls at hl ⊢
  have hl : lv_has ls 3 [(0, .ref (ad 0)), (1, .int (iI q))] := hl
  have hTab : c.exceptionTable.toList = tableOf [(0, 5, 8, 13)] := vx_table (x := yL_drop) B (hts (.codeWith yL_drop cL_drop 3 (some .int) [(0, 5, 8, 13)]) List.mem_cons_self)
  refine lv_aload_n hx hb dL_drop_0 rfl (lv_at hl 0 rfl) ?_
  refine lv_iload_n hx hb dL_drop_1 rfl (lv_at hl 1 rfl) ?_
  have hPx := hP.sub (ws' := (wX ad ca gL gB gD gN gS ((n : Int)) ((r : Int)) x)) [0, 1, 2, 3, 4, 5] rfl
  have hDx := hD.sub (ws' := (wX ad ca gL gB gD gN gS ((n : Int)) ((r : Int)) x)) [0, 1, 2, 3, 4, 5] (by decide) rfl
  have hKx := hK.sub (tys' := yX ca) [0, 1, 2, 3, 4] rfl
  refine vw_v (vx_runV (As := [.int (iI q)]) (rest := []) ⟨hx, hb, hml, hown, hts⟩ (m_drop l hl9 dC dI ad ca gL gB gD gN gS n r x hok.1 q hq) (cwV 1 hts (gV wlL_21 wo_X0_drop wz_X0_drop wi_1 wcX0_drop) rfl rfl rfl (by decide +kernel) ⟨Nat.le_of_ble_eq_true rfl, Nat.le_of_ble_eq_true rfl⟩) (PXe_V (q0 := 0) (ci := 0) hPx hKx hDx hE (fun a h1 h2 => hS.2.1 a h1 (by rw [hAe]; exact h2)) (fun q h => inW_left h) rfl rfl) rfl rfl hl.1 rfl (lv_room (Nat.le_of_ble_eq_true rfl)) dL_drop_2 ⟨Nat.le_of_ble_eq_true rfl, Nat.le_of_ble_eq_true rfl⟩) hS (by rw [hAe]; exact fun q h => inW_left h) (fun E ce q9 H1 locs hPE hS hkp hce hcv hcl => ?_) (fun u9 H1 locs h8 hP1 hS hk9 => ?_)
  · have hP := hP.kept (fun k q hq => hkp q.1 (hP k q hq).lt)
    generalize H1 = H at hP hS hce ⊢
    obtain ⟨rfl, hx9⟩ := hPE
    refine vx_catch (own := RL) (name := eIA) (E := eIA) hown [] ⟨0, 5, 8, 13⟩ [] (by rw [hTab]; rfl) (fun z hz => nomatch hz) (by decide) (by decide) (hw _ wkL_13) (va_Nw.use rfl (hE.2.1 eIA (by simp))) hce hcv hcl ?_
    refine lv_astore_n hx hb dL_drop_8 rfl hl (by decide) rfl (fun ls hl => ?_)
    have hl : lv_has ls 3 [(2, .ref q9), (0, .ref (ad 0)), (1, .int (iI q))] := hl
    refine r_iconst hx hb dL_drop_9 ?_
    subst hAe
    refine W.widen (k := 2) (n := 12) (by decide) (by decide) ?_
    exact W.iret (v := iI 1) hx hb hr (fun t ht hW => ⟨⟨_, (((gL, gB, gD, gN, gS), (n : Int), (r : Int), x), fo), rfl, Or.inr ⟨by omega, rfl, ⟨hT, rfl, rfl⟩⟩, by subst ht; exact hP⟩, hS.F ht⟩) hS.2.2 dL_drop_10
  · have hP := wjoin hP hD hk9 hP1
    generalize H1 = H at hP hS ⊢
    have hP : va_P (dC, dI) vwCl (wX ad ca gL gB gD gN gS ((n : Int) - q) ((r : Int)) x ++ wO ou co fo) H := hP
    have hD : va_D A (wX ad ca gL gB gD gN gS ((n : Int) - q) ((r : Int)) x ++ wO ou co fo) := wD_same hD rfl
    refine lv_goto hx hb dL_drop_5 (tgt := 11) (by decide) ?_
    refine r_iconst hx hb dL_drop_11 ?_
    subst hAe
    refine W.widen (k := 2) (n := 12) (by decide) (by decide) ?_
    exact W.iret (v := iI 0) hx hb hr (fun t ht hW => ⟨⟨_, (((gL, gB, gD, gN, gS), (n : Int) - q, (r : Int), x), fo), rfl, Or.inl ⟨h8, rfl, tX_drop (Nat.sub_le _ _) hT, by show (n : Int) - q = ((n - q.toNat : Nat) : Int); omega, rfl⟩, by subst ht; exact hP⟩, hS.F ht⟩) hS.2.2 dL_drop_12
set_option maxHeartbeats 4000000 in
set_option maxRecDepth 100000 in
theorem w_dump (l : Launch) (hl9 : l.stackTraces = false) (dC : Nat → ClassId) (dI : Nat → Nat → Nat) (ad : Nat → Nat) (ca : Nat → ClassId) (gL gB gD : Nat → Int) (gN : Nat → Int64) (gS : Nat → Int) (n r : Nat) (x : Int64) (L S : Nat → Nat) (lo : Nat → Bool) (hok : okS n L S r) (hT : tX n L S r lo gL gB gD gN gS x) (ou : Nat) (co : ClassId) (fo : Nat → Int64) (v b : Int) (hv : iR v) (hb0 : iR b) : Met l yL_dump wsL_dump { frames := 8, cells := 2, slots := 12, locals := 128 } (PXe (dC, dI) vwCl (yXo ca co) (wX ad ca gL gB gD gN gS ((n : Int)) ((r : Int)) x ++ wO ou co fo) [.ref (ad 0), .int (iI v), .int (iI b), .ref ou]) (va_Qi (fun (y : Int32) (u : CU × (Nat → Int64)) => ((0 ≤ v ∧ v ≤ 9 ∧ 1 ≤ b ∧ b ≤ 500) ∧ (n < 300 ∧ (sm S n : Int) + b ≤ 64 * (r : Int)) ∧ y = iI 0 ∧ XS (n + 1) (uN L n v.toNat) (uN S n b.toNat) r lo u.1 ∧ u.2 0 = (iI (n : Int)).toInt64) ∨ (¬ (0 ≤ v ∧ v ≤ 9 ∧ 1 ≤ b ∧ b ≤ 500) ∧ y = iI 1 ∧ XS n L S r lo u.1) ∨ ((0 ≤ v ∧ v ≤ 9 ∧ 1 ≤ b ∧ b ≤ 500) ∧ ¬ (n < 300 ∧ (sm S n : Int) + b ≤ 64 * (r : Int)) ∧ y = iI 2 ∧ XS n L S r lo u.1)) (fun u t => va_P (dC, dI) vwCl (wXc ad ca u.1 ++ wO ou co u.2) t.heap) (inW (wX ad ca gL gB gD gN gS ((n : Int)) ((r : Int)) x ++ wO ou co fo))) 2 12 (inW (wX ad ca gL gB gD gN gS ((n : Int)) ((r : Int)) x ++ wO ou co fo)) := by
  refine va_MetW (cc := cL_dump) (maxL := 5) (ret := (some .int)) (by decide) rfl ?_
  intro p e s m args below meth c s₁ B hml hv
  obtain ⟨rfl, hP, hK, hD0, hE⟩ := hv
  have hx := B.exec
  have hb := B.bytes
  have hr := B.returns
  have hts := atoms_spec (ws := wsL_dump) B.pre
  have hown : s.vm.findClass RL = some m.cls := findClass_of_methodNamed B.named
  have hlocks := B.notSynchronized
  have hw := fun w h => hts w (List.mem_cons_of_mem _ h)
  have hD := wD_own hD0
  obtain ⟨A, hAe⟩ : ∃ A, A = inW (wX ad ca gL gB gD gN gS ((n : Int)) ((r : Int)) x ++ wO ou co fo) := ⟨_, rfl⟩
  rw [← hAe] at hD
  obtain ⟨H, hH⟩ : ∃ H, H = s.heap := ⟨_, rfl⟩
  obtain ⟨locs, hlc⟩ : ∃ L : List Loc, L = [] := ⟨_, rfl⟩
  have hS : va_S A s.heap H locs := by rw [hH, hlc]; exact va_S.rf
  rw [← hH] at hP ⊢
  rw [← hlc]
  have hl := lv_entry ([.ref (ad 0), .int (iI v), .int (iI b), .ref ou]) (n := 5) (Nat.le_of_ble_eq_true rfl)
  rw [lg_entry_eq]
  generalize (lg_sl ([.ref (ad 0), .int (iI v), .int (iI b), .ref ou]) ++ List.replicate (5 - (lg_sl ([.ref (ad 0), .int (iI v), .int (iI b), .ref ou])).length) Slot.unset).toArray = ls at hl ⊢
  have hl : lv_has ls 5 [(0, .ref (ad 0)), (1, .int (iI v)), (2, .int (iI b)), (3, .ref ou)] := hl
  have hTab : c.exceptionTable.toList = tableOf [(0, 10, 13, 13), (0, 10, 17, 19)] := vx_table (x := yL_dump) B (hts (.codeWith yL_dump cL_dump 5 (some .int) [(0, 10, 13, 13), (0, 10, 17, 19)]) List.mem_cons_self)
  refine lv_aload_n hx hb dL_dump_0 rfl (lv_at hl 3 rfl) ?_
  refine r_iconst hx hb dL_dump_1 ?_
  refine lv_aload_n hx hb dL_dump_2 rfl (lv_at hl 0 rfl) ?_
  refine lv_iload_n hx hb dL_dump_3 rfl (lv_at hl 1 rfl) ?_
  refine lv_iload_n hx hb dL_dump_4 rfl (lv_at hl 2 rfl) ?_
  have hPx := hP.sub (ws' := (wX ad ca gL gB gD gN gS ((n : Int)) ((r : Int)) x)) [0, 1, 2, 3, 4, 5] rfl
  have hDx := hD.sub (ws' := (wX ad ca gL gB gD gN gS ((n : Int)) ((r : Int)) x)) [0, 1, 2, 3, 4, 5] (by decide) rfl
  have hKx := hK.sub (tys' := yX ca) [0, 1, 2, 3, 4] rfl
  refine vw_i (vx_runV (As := [.int (iI v), .int (iI b)]) (rest := [.int (iI 0), .ref ou]) ⟨hx, hb, hml, hown, hts⟩ (m_dump l hl9 dC dI ad ca gL gB gD gN gS n r x L S lo hok hT v b hv hb0) (cwV 2 hts (gV wlL_15 wo_X0_dump wz_X0_dump wi_1 wcX0_dump) rfl rfl rfl (by decide +kernel) ⟨Nat.le_of_ble_eq_true rfl, Nat.le_of_ble_eq_true rfl⟩) (PXe_V (q0 := 0) (ci := 0) hPx hKx hDx hE (fun a h1 h2 => hS.2.1 a h1 (by rw [hAe]; exact h2)) (fun q h => inW_left h) rfl rfl) rfl rfl hl.1 rfl (lv_room (Nat.le_of_ble_eq_true rfl)) dL_dump_5 ⟨Nat.le_of_ble_eq_true rfl, Nat.le_of_ble_eq_true rfl⟩) hS (by rw [hAe]; exact fun q h => inW_left h) (fun E ce q9 H1 locs hPE hS hkp hce hcv hcl => ?_) (fun r9 u9 H1 locs h8 hP1 hS hk9 => ?_)
  · have hP := hP.kept (fun k q hq => hkp q.1 (hP k q hq).lt)
    generalize H1 = H at hP hS hce ⊢
    rcases hPE with ⟨rfl, hx9⟩ | ⟨rfl, hx9⟩
    · refine vx_catch (own := RL) (name := eIA) (E := eIA) hown [] ⟨0, 10, 13, 13⟩ [⟨0, 10, 17, 19⟩] (by rw [hTab]; rfl) (fun z hz => nomatch hz) (by decide) (by decide) (hw _ wkL_13) (va_Nw.use rfl (hE.2.1 eIA (by simp))) hce hcv hcl ?_
      refine lv_astore hx hb dL_dump_13 hl (by decide) rfl (fun ls hl => ?_)
      have hl : lv_has ls 5 [(4, .ref q9), (0, .ref (ad 0)), (1, .int (iI v)), (2, .int (iI b)), (3, .ref ou)] := hl
      refine r_iconst hx hb dL_dump_15 ?_
      subst hAe
      refine W.widen (k := 2) (n := 12) (by decide) (by decide) ?_
      exact W.iret (v := iI 1) hx hb hr (fun t ht hW => ⟨⟨_, (((gL, gB, gD, gN, gS), (n : Int), (r : Int), x), fo), rfl, Or.inr (Or.inl ⟨hx9, rfl, ⟨hT, rfl, rfl⟩⟩), by subst ht; exact hP⟩, hS.F ht⟩) hS.2.2 dL_dump_16
    · refine vx_catch (own := RL) (name := eIS) (E := eIS) hown [⟨0, 10, 13, 13⟩] ⟨0, 10, 17, 19⟩ [] (by rw [hTab]; rfl) (by
          intro z hz
          rcases List.mem_cons.mp hz with rfl | hz
          · exact Or.inr ⟨by decide, eIA, hw _ wkL_13, hE.2.2.2.2.1⟩
          · cases hz) (by decide) (by decide) (hw _ wkL_19) (va_Nw.use rfl (hE.2.1 eIS (by simp))) hce hcv hcl ?_
      refine lv_astore hx hb dL_dump_17 hl (by decide) rfl (fun ls hl => ?_)
      have hl : lv_has ls 5 [(4, .ref q9), (0, .ref (ad 0)), (1, .int (iI v)), (2, .int (iI b)), (3, .ref ou)] := hl
      refine r_iconst hx hb dL_dump_19 ?_
      subst hAe
      refine W.widen (k := 2) (n := 12) (by decide) (by decide) ?_
      exact W.iret (v := iI 2) hx hb hr (fun t ht hW => ⟨⟨_, (((gL, gB, gD, gN, gS), (n : Int), (r : Int), x), fo), rfl, Or.inr (Or.inr ⟨hx9.1, hx9.2, rfl, ⟨hT, rfl, rfl⟩⟩), by subst ht; exact hP⟩, hS.F ht⟩) hS.2.2 dL_dump_20
  · obtain ⟨⟨h1, h2, h3⟩, rfl, hTn⟩ := h8
    have hP := wjoin hP hD hk9 hP1
    generalize H1 = H at hP hS ⊢
    have hP : va_P (dC, dI) vwCl (wX ad ca u9.1 u9.2.1 u9.2.2.1 u9.2.2.2.1 u9.2.2.2.2 ((n : Int) + 1) ((r : Int)) x ++ wO ou co fo) H := hP
    have hD : va_D A (wX ad ca u9.1 u9.2.1 u9.2.2.1 u9.2.2.2.1 u9.2.2.2.2 ((n : Int) + 1) ((r : Int)) x ++ wO ou co fo) := wD_same hD rfl
    refine lv_i2l hx hb dL_dump_8 rfl ?_
    refine r_last hx hb hK hP hD hS 6 5 rfl rfl (by omega) (by omega) (by decide) dL_dump_9 (fun H locs hP hD hS => ?_)
    have hP : va_P (dC, dI) vwCl (wX ad ca u9.1 u9.2.1 u9.2.2.1 u9.2.2.2.1 u9.2.2.2.2 ((n : Int) + 1) ((r : Int)) x ++ wO ou co (vp_updL fo (0 : Int).toNat ((iI ((n : Int))).toInt64))) H := hP
    have hD : va_D A (wX ad ca u9.1 u9.2.1 u9.2.2.1 u9.2.2.2.1 u9.2.2.2.2 ((n : Int) + 1) ((r : Int)) x ++ wO ou co (vp_updL fo (0 : Int).toNat ((iI ((n : Int))).toInt64))) := hD
    refine lv_goto hx hb dL_dump_10 (tgt := 21) (by decide) ?_
    refine r_iconst hx hb dL_dump_21 ?_
    subst hAe
    refine W.widen (k := 2) (n := 12) (by decide) (by decide) ?_
    exact W.iret (v := iI 0) hx hb hr (fun t ht hW => ⟨⟨_, (((u9.1, u9.2.1, u9.2.2.1, u9.2.2.2.1, u9.2.2.2.2), (n : Int) + 1, (r : Int), x), vp_updL fo (0 : Int).toNat ((iI ((n : Int))).toInt64)), rfl, Or.inl ⟨h1, ⟨h2, h3⟩, rfl, ⟨hTn, rfl, rfl⟩, rfl⟩, by subst ht; exact hP⟩, hS.F ht⟩) hS.2.2 dL_dump_22
set_option maxHeartbeats 4000000 in
set_option maxRecDepth 100000 in
theorem w_chain (l : Launch) (hl9 : l.stackTraces = false) (dC : Nat → ClassId) (dI : Nat → Nat → Nat) (ad : Nat → Nat) (ca : Nat → ClassId) (gL gB gD : Nat → Int) (gN : Nat → Int64) (gS : Nat → Int) (n r : Nat) (x : Int64) (L S : Nat → Nat) (lo : Nat → Bool) (hok : okS n L S r) (hT : tX n L S r lo gL gB gD gN gS x) (ou : Nat) (co : ClassId) (fo : Nat → Int64) (q k : Int) (hq : iR q) (hk0 : iR k) : Met l yL_chain wsL_chain { frames := 8, cells := 2, slots := 12, locals := 128 } (PXe (dC, dI) vwCl (yXo ca co) (wX ad ca gL gB gD gN gS ((n : Int)) ((r : Int)) x ++ wO ou co fo) [.ref (ad 0), .int (iI q), .int (iI k), .ref ou]) (va_Qi (fun (y : Int32) (u : CU × (Nat → Int64)) => XS n L S r lo u.1 ∧ (((0 ≤ q ∧ q < (n : Int)) ∧ 0 ≤ k ∧ y = iI 0 ∧ u.2 0 = (iI ((ch L (q.toNat + 1) k.toNat : Int) - 1)).toInt64) ∨ (¬ (0 ≤ q ∧ q < (n : Int)) ∧ y = iI 1) ∨ ((0 ≤ q ∧ q < (n : Int)) ∧ ¬ 0 ≤ k ∧ y = iI 2))) (fun u t => va_P (dC, dI) vwCl (wXc ad ca u.1 ++ wO ou co u.2) t.heap) (inW (wX ad ca gL gB gD gN gS ((n : Int)) ((r : Int)) x ++ wO ou co fo))) 2 12 (inW (wX ad ca gL gB gD gN gS ((n : Int)) ((r : Int)) x ++ wO ou co fo)) := by
  refine va_MetW (cc := cL_chain) (maxL := 5) (ret := (some .int)) (by decide) rfl ?_
  intro p e s m args below meth c s₁ B hml hv
  obtain ⟨rfl, hP, hK, hD0, hE⟩ := hv
  have hx := B.exec
  have hb := B.bytes
  have hr := B.returns
  have hts := atoms_spec (ws := wsL_chain) B.pre
  have hown : s.vm.findClass RL = some m.cls := findClass_of_methodNamed B.named
  have hlocks := B.notSynchronized
  have hw := fun w h => hts w (List.mem_cons_of_mem _ h)
  have hD := wD_own hD0
  obtain ⟨A, hAe⟩ : ∃ A, A = inW (wX ad ca gL gB gD gN gS ((n : Int)) ((r : Int)) x ++ wO ou co fo) := ⟨_, rfl⟩
  rw [← hAe] at hD
  obtain ⟨H, hH⟩ : ∃ H, H = s.heap := ⟨_, rfl⟩
  obtain ⟨locs, hlc⟩ : ∃ L : List Loc, L = [] := ⟨_, rfl⟩
  have hS : va_S A s.heap H locs := by rw [hH, hlc]; exact va_S.rf
  rw [← hH] at hP ⊢
  rw [← hlc]
  have hl := lv_entry ([.ref (ad 0), .int (iI q), .int (iI k), .ref ou]) (n := 5) (Nat.le_of_ble_eq_true rfl)
  rw [lg_entry_eq]
  generalize (lg_sl ([.ref (ad 0), .int (iI q), .int (iI k), .ref ou]) ++ List.replicate (5 - (lg_sl ([.ref (ad 0), .int (iI q), .int (iI k), .ref ou])).length) Slot.unset).toArray = ls at hl ⊢
  have hl : lv_has ls 5 [(0, .ref (ad 0)), (1, .int (iI q)), (2, .int (iI k)), (3, .ref ou)] := hl
  have hTab : c.exceptionTable.toList = tableOf [(0, 10, 13, 27), (0, 10, 17, 13)] := vx_table (x := yL_chain) B (hts (.codeWith yL_chain cL_chain 5 (some .int) [(0, 10, 13, 27), (0, 10, 17, 13)]) List.mem_cons_self)
  refine lv_aload_n hx hb dL_chain_0 rfl (lv_at hl 3 rfl) ?_
  refine r_iconst hx hb dL_chain_1 ?_
  refine lv_aload_n hx hb dL_chain_2 rfl (lv_at hl 0 rfl) ?_
  refine lv_iload_n hx hb dL_chain_3 rfl (lv_at hl 1 rfl) ?_
  refine lv_iload_n hx hb dL_chain_4 rfl (lv_at hl 2 rfl) ?_
  have hPx := hP.sub (ws' := (wX ad ca gL gB gD gN gS ((n : Int)) ((r : Int)) x)) [0, 1, 2, 3, 4, 5] rfl
  have hDx := hD.sub (ws' := (wX ad ca gL gB gD gN gS ((n : Int)) ((r : Int)) x)) [0, 1, 2, 3, 4, 5] (by decide) rfl
  have hKx := hK.sub (tys' := yX ca) [0, 1, 2, 3, 4] rfl
  refine vr_i (vx_runV (As := [.int (iI q), .int (iI k)]) (rest := [.int (iI 0), .ref ou]) ⟨hx, hb, hml, hown, hts⟩ (m_chain l hl9 dC dI ad ca gL gB gD gN gS n r x L S lo hok hT q k hq hk0) (cwV 2 hts (gV wlL_24 wo_X0_chain wz_X0_chain wi_1 wcX0_chain) rfl rfl rfl (by decide +kernel) ⟨Nat.le_of_ble_eq_true rfl, Nat.le_of_ble_eq_true rfl⟩) (PXe_V (q0 := 0) (ci := 0) hPx hKx hDx hE (fun a h1 h2 => hS.2.1 a h1 (by rw [hAe]; exact h2)) (fun q h => inW_left h) rfl rfl) rfl rfl hl.1 rfl (lv_room (Nat.le_of_ble_eq_true rfl)) dL_chain_5 ⟨Nat.le_of_ble_eq_true rfl, Nat.le_of_ble_eq_true rfl⟩) hS hP (fun E ce q9 H locs hPE hP hS hce hcv hcl => ?_) (fun r9 H locs h8 hP hS => ?_)
  · rcases hPE with ⟨rfl, hx9⟩ | ⟨rfl, hx9⟩
    · refine vx_catch (own := RL) (name := eIX) (E := eIX) hown [] ⟨0, 10, 13, 27⟩ [⟨0, 10, 17, 13⟩] (by rw [hTab]; rfl) (fun z hz => nomatch hz) (by decide) (by decide) (hw _ wkL_27) (va_Nw.use rfl (hE.2.1 eIX (by simp))) hce hcv hcl ?_
      refine lv_astore hx hb dL_chain_13 hl (by decide) rfl (fun ls hl => ?_)
      have hl : lv_has ls 5 [(4, .ref q9), (0, .ref (ad 0)), (1, .int (iI q)), (2, .int (iI k)), (3, .ref ou)] := hl
      refine r_iconst hx hb dL_chain_15 ?_
      subst hAe
      refine W.widen (k := 2) (n := 12) (by decide) (by decide) ?_
      exact W.iret (v := iI 1) hx hb hr (fun t ht hW => ⟨⟨_, (((gL, gB, gD, gN, gS), (n : Int), (r : Int), x), fo), rfl, ⟨⟨hT, rfl, rfl⟩, Or.inr (Or.inl ⟨by omega, rfl⟩)⟩, by subst ht; exact hP⟩, hS.F ht⟩) hS.2.2 dL_chain_16
    · refine vx_catch (own := RL) (name := eIA) (E := eIA) hown [⟨0, 10, 13, 27⟩] ⟨0, 10, 17, 13⟩ [] (by rw [hTab]; rfl) (by
          intro z hz
          rcases List.mem_cons.mp hz with rfl | hz
          · exact Or.inr ⟨by decide, eIX, hw _ wkL_27, hE.2.2.2.2.2⟩
          · cases hz) (by decide) (by decide) (hw _ wkL_13) (va_Nw.use rfl (hE.2.1 eIA (by simp))) hce hcv hcl ?_
      refine lv_astore hx hb dL_chain_17 hl (by decide) rfl (fun ls hl => ?_)
      have hl : lv_has ls 5 [(4, .ref q9), (0, .ref (ad 0)), (1, .int (iI q)), (2, .int (iI k)), (3, .ref ou)] := hl
      refine r_iconst hx hb dL_chain_19 ?_
      subst hAe
      refine W.widen (k := 2) (n := 12) (by decide) (by decide) ?_
      exact W.iret (v := iI 2) hx hb hr (fun t ht hW => ⟨⟨_, (((gL, gB, gD, gN, gS), (n : Int), (r : Int), x), fo), rfl, ⟨⟨hT, rfl, rfl⟩, Or.inr (Or.inr ⟨hx9.1, by omega, rfl⟩)⟩, by subst ht; exact hP⟩, hS.F ht⟩) hS.2.2 dL_chain_20
  · obtain ⟨h1, h2, rfl⟩ := h8
    refine lv_i2l hx hb dL_chain_8 rfl ?_
    refine r_last hx hb hK hP hD hS 6 5 rfl rfl (by omega) (by omega) (by decide) dL_chain_9 (fun H locs hP hD hS => ?_)
    have hP : va_P (dC, dI) vwCl (wX ad ca gL gB gD gN gS ((n : Int)) ((r : Int)) x ++ wO ou co (vp_updL fo (0 : Int).toNat ((iI ((ch L (q.toNat + 1) k.toNat : Int) - 1)).toInt64))) H := hP
    have hD : va_D A (wX ad ca gL gB gD gN gS ((n : Int)) ((r : Int)) x ++ wO ou co (vp_updL fo (0 : Int).toNat ((iI ((ch L (q.toNat + 1) k.toNat : Int) - 1)).toInt64))) := hD
    refine lv_goto hx hb dL_chain_10 (tgt := 21) (by decide) ?_
    refine r_iconst hx hb dL_chain_21 ?_
    subst hAe
    refine W.widen (k := 2) (n := 12) (by decide) (by decide) ?_
    exact W.iret (v := iI 0) hx hb hr (fun t ht hW => ⟨⟨_, (((gL, gB, gD, gN, gS), (n : Int), (r : Int), x), vp_updL fo (0 : Int).toNat ((iI ((ch L (q.toNat + 1) k.toNat : Int) - 1)).toInt64)), rfl, ⟨⟨hT, rfl, rfl⟩, Or.inl ⟨h1, h2, rfl, rfl⟩⟩, by subst ht; exact hP⟩, hS.F ht⟩) hS.2.2 dL_chain_22
set_option maxHeartbeats 4000000 in
set_option maxRecDepth 100000 in
theorem w_depth (l : Launch) (hl9 : l.stackTraces = false) (dC : Nat → ClassId) (dI : Nat → Nat → Nat) (ad : Nat → Nat) (ca : Nat → ClassId) (gL gB gD : Nat → Int) (gN : Nat → Int64) (gS : Nat → Int) (n r : Nat) (x : Int64) (L S : Nat → Nat) (lo : Nat → Bool) (hok : okS n L S r) (hT : tX n L S r lo gL gB gD gN gS x) (ou : Nat) (co : ClassId) (fo : Nat → Int64) (q : Int) (hq : iR q) : Met l yL_depth wsL_depth { frames := 8, cells := 2, slots := 12, locals := 128 } (PXe (dC, dI) vwCl (yXo ca co) (wX ad ca gL gB gD gN gS ((n : Int)) ((r : Int)) x ++ wO ou co fo) [.ref (ad 0), .int (iI q), .ref ou]) (va_Qi (fun (y : Int32) (u : CU × (Nat → Int64)) => XS n L S r lo u.1 ∧ (((0 ≤ q ∧ q < (n : Int)) ∧ y = iI 0 ∧ u.2 0 = (iI (dp L (q.toNat + 1) : Int)).toInt64) ∨ (¬ (0 ≤ q ∧ q < (n : Int)) ∧ y = iI 1))) (fun u t => va_P (dC, dI) vwCl (wXc ad ca u.1 ++ wO ou co u.2) t.heap) (inW (wX ad ca gL gB gD gN gS ((n : Int)) ((r : Int)) x ++ wO ou co fo))) 2 12 (inW (wX ad ca gL gB gD gN gS ((n : Int)) ((r : Int)) x ++ wO ou co fo)) := by
  refine va_MetW (cc := cL_depth) (maxL := 4) (ret := (some .int)) (by decide) rfl ?_
  intro p e s m args below meth c s₁ B hml hv
  obtain ⟨rfl, hP, hK, hD0, hE⟩ := hv
  have hx := B.exec
  have hb := B.bytes
  have hr := B.returns
  have hts := atoms_spec (ws := wsL_depth) B.pre
  have hown : s.vm.findClass RL = some m.cls := findClass_of_methodNamed B.named
  have hlocks := B.notSynchronized
  have hw := fun w h => hts w (List.mem_cons_of_mem _ h)
  have hD := wD_own hD0
  obtain ⟨A, hAe⟩ : ∃ A, A = inW (wX ad ca gL gB gD gN gS ((n : Int)) ((r : Int)) x ++ wO ou co fo) := ⟨_, rfl⟩
  rw [← hAe] at hD
  obtain ⟨H, hH⟩ : ∃ H, H = s.heap := ⟨_, rfl⟩
  obtain ⟨locs, hlc⟩ : ∃ L : List Loc, L = [] := ⟨_, rfl⟩
  have hS : va_S A s.heap H locs := by rw [hH, hlc]; exact va_S.rf
  rw [← hH] at hP ⊢
  rw [← hlc]
  have hl := lv_entry ([.ref (ad 0), .int (iI q), .ref ou]) (n := 4) (Nat.le_of_ble_eq_true rfl)
  rw [lg_entry_eq]
  generalize (lg_sl ([.ref (ad 0), .int (iI q), .ref ou]) ++ List.replicate (4 - (lg_sl ([.ref (ad 0), .int (iI q), .ref ou])).length) Slot.unset).toArray = ls at hl ⊢
  have hl : lv_has ls 4 [(0, .ref (ad 0)), (1, .int (iI q)), (2, .ref ou)] := hl
  have hTab : c.exceptionTable.toList = tableOf [(0, 9, 12, 27)] := vx_table (x := yL_depth) B (hts (.codeWith yL_depth cL_depth 4 (some .int) [(0, 9, 12, 27)]) List.mem_cons_self)
  refine lv_aload_n hx hb dL_depth_0 rfl (lv_at hl 2 rfl) ?_
  refine r_iconst hx hb dL_depth_1 ?_
  refine lv_aload_n hx hb dL_depth_2 rfl (lv_at hl 0 rfl) ?_
  refine lv_iload_n hx hb dL_depth_3 rfl (lv_at hl 1 rfl) ?_
  have hPx := hP.sub (ws' := (wX ad ca gL gB gD gN gS ((n : Int)) ((r : Int)) x)) [0, 1, 2, 3, 4, 5] rfl
  have hDx := hD.sub (ws' := (wX ad ca gL gB gD gN gS ((n : Int)) ((r : Int)) x)) [0, 1, 2, 3, 4, 5] (by decide) rfl
  have hKx := hK.sub (tys' := yX ca) [0, 1, 2, 3, 4] rfl
  refine vr_i (vx_runV (As := [.int (iI q)]) (rest := [.int (iI 0), .ref ou]) ⟨hx, hb, hml, hown, hts⟩ (m_depth l hl9 dC dI ad ca gL gB gD gN gS n r x L S lo hok hT q hq) (cwV 1 hts (gV wlL_29 wo_X0_depth wz_X0_depth wi_1 wcX0_depth) rfl rfl rfl (by decide +kernel) ⟨Nat.le_of_ble_eq_true rfl, Nat.le_of_ble_eq_true rfl⟩) (PXe_V (q0 := 0) (ci := 0) hPx hKx hDx hE (fun a h1 h2 => hS.2.1 a h1 (by rw [hAe]; exact h2)) (fun q h => inW_left h) rfl rfl) rfl rfl hl.1 rfl (lv_room (Nat.le_of_ble_eq_true rfl)) dL_depth_4 ⟨Nat.le_of_ble_eq_true rfl, Nat.le_of_ble_eq_true rfl⟩) hS hP (fun E ce q9 H locs hPE hP hS hce hcv hcl => ?_) (fun r9 H locs h8 hP hS => ?_)
  · obtain ⟨rfl, hx9⟩ := hPE
    refine vx_catch (own := RL) (name := eIX) (E := eIX) hown [] ⟨0, 9, 12, 27⟩ [] (by rw [hTab]; rfl) (fun z hz => nomatch hz) (by decide) (by decide) (hw _ wkL_27) (va_Nw.use rfl (hE.2.1 eIX (by simp))) hce hcv hcl ?_
    refine lv_astore_n hx hb dL_depth_12 rfl hl (by decide) rfl (fun ls hl => ?_)
    have hl : lv_has ls 4 [(3, .ref q9), (0, .ref (ad 0)), (1, .int (iI q)), (2, .ref ou)] := hl
    refine r_iconst hx hb dL_depth_13 ?_
    subst hAe
    refine W.widen (k := 2) (n := 12) (by decide) (by decide) ?_
    exact W.iret (v := iI 1) hx hb hr (fun t ht hW => ⟨⟨_, (((gL, gB, gD, gN, gS), (n : Int), (r : Int), x), fo), rfl, ⟨⟨hT, rfl, rfl⟩, Or.inr ⟨by omega, rfl⟩⟩, by subst ht; exact hP⟩, hS.F ht⟩) hS.2.2 dL_depth_14
  · obtain ⟨h1, rfl⟩ := h8
    refine lv_i2l hx hb dL_depth_7 rfl ?_
    refine r_last hx hb hK hP hD hS 6 5 rfl rfl (by omega) (by omega) (by decide) dL_depth_8 (fun H locs hP hD hS => ?_)
    have hP : va_P (dC, dI) vwCl (wX ad ca gL gB gD gN gS ((n : Int)) ((r : Int)) x ++ wO ou co (vp_updL fo (0 : Int).toNat ((iI ((dp L (q.toNat + 1) : Int))).toInt64))) H := hP
    have hD : va_D A (wX ad ca gL gB gD gN gS ((n : Int)) ((r : Int)) x ++ wO ou co (vp_updL fo (0 : Int).toNat ((iI ((dp L (q.toNat + 1) : Int))).toInt64))) := hD
    refine lv_goto hx hb dL_depth_9 (tgt := 15) (by decide) ?_
    refine r_iconst hx hb dL_depth_15 ?_
    subst hAe
    refine W.widen (k := 2) (n := 12) (by decide) (by decide) ?_
    exact W.iret (v := iI 0) hx hb hr (fun t ht hW => ⟨⟨_, (((gL, gB, gD, gN, gS), (n : Int), (r : Int), x), vp_updL fo (0 : Int).toNat ((iI ((dp L (q.toNat + 1) : Int))).toInt64)), rfl, ⟨⟨hT, rfl, rfl⟩, Or.inl ⟨h1, rfl, rfl⟩⟩, by subst ht; exact hP⟩, hS.F ht⟩) hS.2.2 dL_depth_16
set_option maxHeartbeats 4000000 in
set_option maxRecDepth 100000 in
theorem w_place (l : Launch) (hl9 : l.stackTraces = false) (dC : Nat → ClassId) (dI : Nat → Nat → Nat) (ad : Nat → Nat) (ca : Nat → ClassId) (gL gB gD : Nat → Int) (gN : Nat → Int64) (gS : Nat → Int) (n r : Nat) (x : Int64) (L S : Nat → Nat) (lo : Nat → Bool) (hok : okS n L S r) (hT : tX n L S r lo gL gB gD gN gS x) (ou : Nat) (co : ClassId) (fo : Nat → Int64) (q k : Int) (hq : iR q) (hk0 : iR k) : Met l yL_place wsL_place { frames := 8, cells := 2, slots := 12, locals := 128 } (PXe (dC, dI) vwCl (yXo ca co) (wX ad ca gL gB gD gN gS ((n : Int)) ((r : Int)) x ++ wO ou co fo) [.ref (ad 0), .int (iI q), .int (iI k), .ref ou]) (va_Qi (fun (y : Int32) (u : CU × (Nat → Int64)) => XS n L S r lo u.1 ∧ (((0 ≤ q ∧ q < (n : Int)) ∧ (0 ≤ k ∧ k < (S q.toNat : Int)) ∧ y = iI 0 ∧ u.2 0 = (iI (1000 * (((sm S q.toNat : Int) + k) / (r : Int)) + 1 + ((sm S q.toNat : Int) + k) % (r : Int))).toInt64) ∨ (¬ (0 ≤ q ∧ q < (n : Int)) ∧ y = iI 1) ∨ ((0 ≤ q ∧ q < (n : Int)) ∧ ¬ (0 ≤ k ∧ k < (S q.toNat : Int)) ∧ y = iI 2))) (fun u t => va_P (dC, dI) vwCl (wXc ad ca u.1 ++ wO ou co u.2) t.heap) (inW (wX ad ca gL gB gD gN gS ((n : Int)) ((r : Int)) x ++ wO ou co fo))) 2 12 (inW (wX ad ca gL gB gD gN gS ((n : Int)) ((r : Int)) x ++ wO ou co fo)) := by
  refine va_MetW (cc := cL_place) (maxL := 5) (ret := (some .int)) (by decide) rfl ?_
  intro p e s m args below meth c s₁ B hml hv
  obtain ⟨rfl, hP, hK, hD0, hE⟩ := hv
  have hx := B.exec
  have hb := B.bytes
  have hr := B.returns
  have hts := atoms_spec (ws := wsL_place) B.pre
  have hown : s.vm.findClass RL = some m.cls := findClass_of_methodNamed B.named
  have hlocks := B.notSynchronized
  have hw := fun w h => hts w (List.mem_cons_of_mem _ h)
  have hD := wD_own hD0
  obtain ⟨A, hAe⟩ : ∃ A, A = inW (wX ad ca gL gB gD gN gS ((n : Int)) ((r : Int)) x ++ wO ou co fo) := ⟨_, rfl⟩
  rw [← hAe] at hD
  obtain ⟨H, hH⟩ : ∃ H, H = s.heap := ⟨_, rfl⟩
  obtain ⟨locs, hlc⟩ : ∃ L : List Loc, L = [] := ⟨_, rfl⟩
  have hS : va_S A s.heap H locs := by rw [hH, hlc]; exact va_S.rf
  rw [← hH] at hP ⊢
  rw [← hlc]
  have hl := lv_entry ([.ref (ad 0), .int (iI q), .int (iI k), .ref ou]) (n := 5) (Nat.le_of_ble_eq_true rfl)
  rw [lg_entry_eq]
  generalize (lg_sl ([.ref (ad 0), .int (iI q), .int (iI k), .ref ou]) ++ List.replicate (5 - (lg_sl ([.ref (ad 0), .int (iI q), .int (iI k), .ref ou])).length) Slot.unset).toArray = ls at hl ⊢
  have hl : lv_has ls 5 [(0, .ref (ad 0)), (1, .int (iI q)), (2, .int (iI k)), (3, .ref ou)] := hl
  have hTab : c.exceptionTable.toList = tableOf [(0, 10, 13, 27), (0, 10, 17, 13)] := vx_table (x := yL_place) B (hts (.codeWith yL_place cL_place 5 (some .int) [(0, 10, 13, 27), (0, 10, 17, 13)]) List.mem_cons_self)
  refine lv_aload_n hx hb dL_place_0 rfl (lv_at hl 3 rfl) ?_
  refine r_iconst hx hb dL_place_1 ?_
  refine lv_aload_n hx hb dL_place_2 rfl (lv_at hl 0 rfl) ?_
  refine lv_iload_n hx hb dL_place_3 rfl (lv_at hl 1 rfl) ?_
  refine lv_iload_n hx hb dL_place_4 rfl (lv_at hl 2 rfl) ?_
  have hPx := hP.sub (ws' := (wX ad ca gL gB gD gN gS ((n : Int)) ((r : Int)) x)) [0, 1, 2, 3, 4, 5] rfl
  have hDx := hD.sub (ws' := (wX ad ca gL gB gD gN gS ((n : Int)) ((r : Int)) x)) [0, 1, 2, 3, 4, 5] (by decide) rfl
  have hKx := hK.sub (tys' := yX ca) [0, 1, 2, 3, 4] rfl
  refine vr_i (vx_runV (As := [.int (iI q), .int (iI k)]) (rest := [.int (iI 0), .ref ou]) ⟨hx, hb, hml, hown, hts⟩ (m_place l hl9 dC dI ad ca gL gB gD gN gS n r x L S lo hok hT q k hq hk0) (cwV 2 hts (gV wlL_33 wo_X0_place wz_X0_place wi_1 wcX0_place) rfl rfl rfl (by decide +kernel) ⟨Nat.le_of_ble_eq_true rfl, Nat.le_of_ble_eq_true rfl⟩) (PXe_V (q0 := 0) (ci := 0) hPx hKx hDx hE (fun a h1 h2 => hS.2.1 a h1 (by rw [hAe]; exact h2)) (fun q h => inW_left h) rfl rfl) rfl rfl hl.1 rfl (lv_room (Nat.le_of_ble_eq_true rfl)) dL_place_5 ⟨Nat.le_of_ble_eq_true rfl, Nat.le_of_ble_eq_true rfl⟩) hS hP (fun E ce q9 H locs hPE hP hS hce hcv hcl => ?_) (fun r9 H locs h8 hP hS => ?_)
  · rcases hPE with ⟨rfl, hx9⟩ | ⟨rfl, hx9⟩
    · refine vx_catch (own := RL) (name := eIX) (E := eIX) hown [] ⟨0, 10, 13, 27⟩ [⟨0, 10, 17, 13⟩] (by rw [hTab]; rfl) (fun z hz => nomatch hz) (by decide) (by decide) (hw _ wkL_27) (va_Nw.use rfl (hE.2.1 eIX (by simp))) hce hcv hcl ?_
      refine lv_astore hx hb dL_place_13 hl (by decide) rfl (fun ls hl => ?_)
      have hl : lv_has ls 5 [(4, .ref q9), (0, .ref (ad 0)), (1, .int (iI q)), (2, .int (iI k)), (3, .ref ou)] := hl
      refine r_iconst hx hb dL_place_15 ?_
      subst hAe
      refine W.widen (k := 2) (n := 12) (by decide) (by decide) ?_
      exact W.iret (v := iI 1) hx hb hr (fun t ht hW => ⟨⟨_, (((gL, gB, gD, gN, gS), (n : Int), (r : Int), x), fo), rfl, ⟨⟨hT, rfl, rfl⟩, Or.inr (Or.inl ⟨by omega, rfl⟩)⟩, by subst ht; exact hP⟩, hS.F ht⟩) hS.2.2 dL_place_16
    · refine vx_catch (own := RL) (name := eIA) (E := eIA) hown [⟨0, 10, 13, 27⟩] ⟨0, 10, 17, 13⟩ [] (by rw [hTab]; rfl) (by
          intro z hz
          rcases List.mem_cons.mp hz with rfl | hz
          · exact Or.inr ⟨by decide, eIX, hw _ wkL_27, hE.2.2.2.2.2⟩
          · cases hz) (by decide) (by decide) (hw _ wkL_13) (va_Nw.use rfl (hE.2.1 eIA (by simp))) hce hcv hcl ?_
      refine lv_astore hx hb dL_place_17 hl (by decide) rfl (fun ls hl => ?_)
      have hl : lv_has ls 5 [(4, .ref q9), (0, .ref (ad 0)), (1, .int (iI q)), (2, .int (iI k)), (3, .ref ou)] := hl
      refine r_iconst hx hb dL_place_19 ?_
      subst hAe
      refine W.widen (k := 2) (n := 12) (by decide) (by decide) ?_
      exact W.iret (v := iI 2) hx hb hr (fun t ht hW => ⟨⟨_, (((gL, gB, gD, gN, gS), (n : Int), (r : Int), x), fo), rfl, ⟨⟨hT, rfl, rfl⟩, Or.inr (Or.inr ⟨hx9.1, hx9.2, rfl⟩)⟩, by subst ht; exact hP⟩, hS.F ht⟩) hS.2.2 dL_place_20
  · obtain ⟨h1, h2, rfl⟩ := h8
    refine lv_i2l hx hb dL_place_8 rfl ?_
    refine r_last hx hb hK hP hD hS 6 5 rfl rfl (by omega) (by omega) (by decide) dL_place_9 (fun H locs hP hD hS => ?_)
    have hP : va_P (dC, dI) vwCl (wX ad ca gL gB gD gN gS ((n : Int)) ((r : Int)) x ++ wO ou co (vp_updL fo (0 : Int).toNat ((iI (1000 * (((sm S q.toNat : Int) + k) / (r : Int)) + 1 + ((sm S q.toNat : Int) + k) % (r : Int))).toInt64))) H := hP
    have hD : va_D A (wX ad ca gL gB gD gN gS ((n : Int)) ((r : Int)) x ++ wO ou co (vp_updL fo (0 : Int).toNat ((iI (1000 * (((sm S q.toNat : Int) + k) / (r : Int)) + 1 + ((sm S q.toNat : Int) + k) % (r : Int))).toInt64))) := hD
    refine lv_goto hx hb dL_place_10 (tgt := 21) (by decide) ?_
    refine r_iconst hx hb dL_place_21 ?_
    subst hAe
    refine W.widen (k := 2) (n := 12) (by decide) (by decide) ?_
    exact W.iret (v := iI 0) hx hb hr (fun t ht hW => ⟨⟨_, (((gL, gB, gD, gN, gS), (n : Int), (r : Int), x), vp_updL fo (0 : Int).toNat ((iI (1000 * (((sm S q.toNat : Int) + k) / (r : Int)) + 1 + ((sm S q.toNat : Int) + k) % (r : Int))).toInt64)), rfl, ⟨⟨hT, rfl, rfl⟩, Or.inl ⟨h1, h2, rfl, rfl⟩⟩, by subst ht; exact hP⟩, hS.F ht⟩) hS.2.2 dL_place_22
set_option maxHeartbeats 4000000 in
set_option maxRecDepth 100000 in
theorem w_owner (l : Launch) (hl9 : l.stackTraces = false) (dC : Nat → ClassId) (dI : Nat → Nat → Nat) (ad : Nat → Nat) (ca : Nat → ClassId) (gL gB gD : Nat → Int) (gN : Nat → Int64) (gS : Nat → Int) (n r : Nat) (x : Int64) (L S : Nat → Nat) (lo : Nat → Bool) (hok : okS n L S r) (hT : tX n L S r lo gL gB gD gN gS x) (ou : Nat) (co : ClassId) (fo : Nat → Int64) (v b : Int) (hv : iR v) (hb0 : iR b) : Met l yL_owner wsL_owner { frames := 8, cells := 2, slots := 12, locals := 128 } (PXe (dC, dI) vwCl (yXo ca co) (wX ad ca gL gB gD gN gS ((n : Int)) ((r : Int)) x ++ wO ou co fo) [.ref (ad 0), .int (iI v), .int (iI b), .ref ou]) (va_Qi (fun (y : Int32) (u : CU × (Nat → Int64)) => XS n L S r lo u.1 ∧ ((((0 ≤ v ∧ v < 64) ∧ 0 ≤ b ∧ b ≤ (r : Int)) ∧ y = iI 0 ∧ u.2 0 = (iI (if b = 0 then -1 else (ow S (v * (r : Int) + b - 1).toNat n : Int) - 1)).toInt64) ∨ (¬ ((0 ≤ v ∧ v < 64) ∧ 0 ≤ b ∧ b ≤ (r : Int)) ∧ y = iI 1))) (fun u t => va_P (dC, dI) vwCl (wXc ad ca u.1 ++ wO ou co u.2) t.heap) (inW (wX ad ca gL gB gD gN gS ((n : Int)) ((r : Int)) x ++ wO ou co fo))) 2 12 (inW (wX ad ca gL gB gD gN gS ((n : Int)) ((r : Int)) x ++ wO ou co fo)) := by
  refine va_MetW (cc := cL_owner) (maxL := 5) (ret := (some .int)) (by decide) rfl ?_
  intro p e s m args below meth c s₁ B hml hv
  obtain ⟨rfl, hP, hK, hD0, hE⟩ := hv
  have hx := B.exec
  have hb := B.bytes
  have hr := B.returns
  have hts := atoms_spec (ws := wsL_owner) B.pre
  have hown : s.vm.findClass RL = some m.cls := findClass_of_methodNamed B.named
  have hlocks := B.notSynchronized
  have hw := fun w h => hts w (List.mem_cons_of_mem _ h)
  have hD := wD_own hD0
  obtain ⟨A, hAe⟩ : ∃ A, A = inW (wX ad ca gL gB gD gN gS ((n : Int)) ((r : Int)) x ++ wO ou co fo) := ⟨_, rfl⟩
  rw [← hAe] at hD
  obtain ⟨H, hH⟩ : ∃ H, H = s.heap := ⟨_, rfl⟩
  obtain ⟨locs, hlc⟩ : ∃ L : List Loc, L = [] := ⟨_, rfl⟩
  have hS : va_S A s.heap H locs := by rw [hH, hlc]; exact va_S.rf
  rw [← hH] at hP ⊢
  rw [← hlc]
  have hl := lv_entry ([.ref (ad 0), .int (iI v), .int (iI b), .ref ou]) (n := 5) (Nat.le_of_ble_eq_true rfl)
  rw [lg_entry_eq]
  generalize (lg_sl ([.ref (ad 0), .int (iI v), .int (iI b), .ref ou]) ++ List.replicate (5 - (lg_sl ([.ref (ad 0), .int (iI v), .int (iI b), .ref ou])).length) Slot.unset).toArray = ls at hl ⊢
  have hl : lv_has ls 5 [(0, .ref (ad 0)), (1, .int (iI v)), (2, .int (iI b)), (3, .ref ou)] := hl
  have hTab : c.exceptionTable.toList = tableOf [(0, 10, 13, 13)] := vx_table (x := yL_owner) B (hts (.codeWith yL_owner cL_owner 5 (some .int) [(0, 10, 13, 13)]) List.mem_cons_self)
  refine lv_aload_n hx hb dL_owner_0 rfl (lv_at hl 3 rfl) ?_
  refine r_iconst hx hb dL_owner_1 ?_
  refine lv_aload_n hx hb dL_owner_2 rfl (lv_at hl 0 rfl) ?_
  refine lv_iload_n hx hb dL_owner_3 rfl (lv_at hl 1 rfl) ?_
  refine lv_iload_n hx hb dL_owner_4 rfl (lv_at hl 2 rfl) ?_
  have hPx := hP.sub (ws' := (wX ad ca gL gB gD gN gS ((n : Int)) ((r : Int)) x)) [0, 1, 2, 3, 4, 5] rfl
  have hDx := hD.sub (ws' := (wX ad ca gL gB gD gN gS ((n : Int)) ((r : Int)) x)) [0, 1, 2, 3, 4, 5] (by decide) rfl
  have hKx := hK.sub (tys' := yX ca) [0, 1, 2, 3, 4] rfl
  refine vr_i (vx_runV (As := [.int (iI v), .int (iI b)]) (rest := [.int (iI 0), .ref ou]) ⟨hx, hb, hml, hown, hts⟩ (m_owner l hl9 dC dI ad ca gL gB gD gN gS n r x L S lo hok hT v b hv hb0) (cwV 2 hts (gV wlL_36 wo_X0_owner wz_X0_owner wi_1 wcX0_owner) rfl rfl rfl (by decide +kernel) ⟨Nat.le_of_ble_eq_true rfl, Nat.le_of_ble_eq_true rfl⟩) (PXe_V (q0 := 0) (ci := 0) hPx hKx hDx hE (fun a h1 h2 => hS.2.1 a h1 (by rw [hAe]; exact h2)) (fun q h => inW_left h) rfl rfl) rfl rfl hl.1 rfl (lv_room (Nat.le_of_ble_eq_true rfl)) dL_owner_5 ⟨Nat.le_of_ble_eq_true rfl, Nat.le_of_ble_eq_true rfl⟩) hS hP (fun E ce q9 H locs hPE hP hS hce hcv hcl => ?_) (fun r9 H locs h8 hP hS => ?_)
  · obtain ⟨rfl, hx9⟩ := hPE
    refine vx_catch (own := RL) (name := eIA) (E := eIA) hown [] ⟨0, 10, 13, 13⟩ [] (by rw [hTab]; rfl) (fun z hz => nomatch hz) (by decide) (by decide) (hw _ wkL_13) (va_Nw.use rfl (hE.2.1 eIA (by simp))) hce hcv hcl ?_
    refine lv_astore hx hb dL_owner_13 hl (by decide) rfl (fun ls hl => ?_)
    have hl : lv_has ls 5 [(4, .ref q9), (0, .ref (ad 0)), (1, .int (iI v)), (2, .int (iI b)), (3, .ref ou)] := hl
    refine r_iconst hx hb dL_owner_15 ?_
    subst hAe
    refine W.widen (k := 2) (n := 12) (by decide) (by decide) ?_
    exact W.iret (v := iI 1) hx hb hr (fun t ht hW => ⟨⟨_, (((gL, gB, gD, gN, gS), (n : Int), (r : Int), x), fo), rfl, ⟨⟨hT, rfl, rfl⟩, Or.inr ⟨hx9, rfl⟩⟩, by subst ht; exact hP⟩, hS.F ht⟩) hS.2.2 dL_owner_16
  · obtain ⟨h1, rfl⟩ := h8
    refine lv_i2l hx hb dL_owner_8 rfl ?_
    refine r_last hx hb hK hP hD hS 6 5 rfl rfl (by omega) (by omega) (by decide) dL_owner_9 (fun H locs hP hD hS => ?_)
    have hP : va_P (dC, dI) vwCl (wX ad ca gL gB gD gN gS ((n : Int)) ((r : Int)) x ++ wO ou co (vp_updL fo (0 : Int).toNat ((iI (if b = 0 then -1 else (ow S (v * (r : Int) + b - 1).toNat n : Int) - 1)).toInt64))) H := hP
    have hD : va_D A (wX ad ca gL gB gD gN gS ((n : Int)) ((r : Int)) x ++ wO ou co (vp_updL fo (0 : Int).toNat ((iI (if b = 0 then -1 else (ow S (v * (r : Int) + b - 1).toNat n : Int) - 1)).toInt64))) := hD
    refine lv_goto hx hb dL_owner_10 (tgt := 17) (by decide) ?_
    refine r_iconst hx hb dL_owner_17 ?_
    subst hAe
    refine W.widen (k := 2) (n := 12) (by decide) (by decide) ?_
    exact W.iret (v := iI 0) hx hb hr (fun t ht hW => ⟨⟨_, (((gL, gB, gD, gN, gS), (n : Int), (r : Int), x), vp_updL fo (0 : Int).toNat ((iI (if b = 0 then -1 else (ow S (v * (r : Int) + b - 1).toNat n : Int) - 1)).toInt64)), rfl, ⟨⟨hT, rfl, rfl⟩, Or.inl ⟨h1, rfl, rfl⟩⟩, by subst ht; exact hP⟩, hS.F ht⟩) hS.2.2 dL_owner_18
set_option maxHeartbeats 4000000 in
set_option maxRecDepth 100000 in
theorem w_needs (l : Launch) (hl9 : l.stackTraces = false) (dC : Nat → ClassId) (dI : Nat → Nat → Nat) (ad : Nat → Nat) (ca : Nat → ClassId) (gL gB gD : Nat → Int) (gN : Nat → Int64) (gS : Nat → Int) (n r : Nat) (x : Int64) (L S : Nat → Nat) (lo : Nat → Bool) (hok : okS n L S r) (hT : tX n L S r lo gL gB gD gN gS x) (ou : Nat) (co : ClassId) (fo : Nat → Int64) (q : Int) (hq : iR q) : Met l yL_needs wsL_needs { frames := 8, cells := 2, slots := 12, locals := 128 } (PXe (dC, dI) vwCl (yXo ca co) (wX ad ca gL gB gD gN gS ((n : Int)) ((r : Int)) x ++ wO ou co fo) [.ref (ad 0), .int (iI q), .ref ou]) (va_Qi (fun (y : Int32) (u : CU × (Nat → Int64)) => XS n L S r lo u.1 ∧ (((0 ≤ q ∧ q < (n : Int)) ∧ y = iI 0 ∧ ∀ v, v < 64 → bL (u.2 0) v = nd L S r v (q.toNat + 1)) ∨ (¬ (0 ≤ q ∧ q < (n : Int)) ∧ y = iI 1))) (fun u t => va_P (dC, dI) vwCl (wXc ad ca u.1 ++ wO ou co u.2) t.heap) (inW (wX ad ca gL gB gD gN gS ((n : Int)) ((r : Int)) x ++ wO ou co fo))) 2 12 (inW (wX ad ca gL gB gD gN gS ((n : Int)) ((r : Int)) x ++ wO ou co fo)) := by
  refine va_MetW (cc := cL_needs) (maxL := 4) (ret := (some .int)) (by decide) rfl ?_
  intro p e s m args below meth c s₁ B hml hv
  obtain ⟨rfl, hP, hK, hD0, hE⟩ := hv
  have hx := B.exec
  have hb := B.bytes
  have hr := B.returns
  have hts := atoms_spec (ws := wsL_needs) B.pre
  have hown : s.vm.findClass RL = some m.cls := findClass_of_methodNamed B.named
  have hlocks := B.notSynchronized
  have hw := fun w h => hts w (List.mem_cons_of_mem _ h)
  have hD := wD_own hD0
  obtain ⟨A, hAe⟩ : ∃ A, A = inW (wX ad ca gL gB gD gN gS ((n : Int)) ((r : Int)) x ++ wO ou co fo) := ⟨_, rfl⟩
  rw [← hAe] at hD
  obtain ⟨H, hH⟩ : ∃ H, H = s.heap := ⟨_, rfl⟩
  obtain ⟨locs, hlc⟩ : ∃ L : List Loc, L = [] := ⟨_, rfl⟩
  have hS : va_S A s.heap H locs := by rw [hH, hlc]; exact va_S.rf
  rw [← hH] at hP ⊢
  rw [← hlc]
  have hl := lv_entry ([.ref (ad 0), .int (iI q), .ref ou]) (n := 4) (Nat.le_of_ble_eq_true rfl)
  rw [lg_entry_eq]
  generalize (lg_sl ([.ref (ad 0), .int (iI q), .ref ou]) ++ List.replicate (4 - (lg_sl ([.ref (ad 0), .int (iI q), .ref ou])).length) Slot.unset).toArray = ls at hl ⊢
  have hl : lv_has ls 4 [(0, .ref (ad 0)), (1, .int (iI q)), (2, .ref ou)] := hl
  have hTab : c.exceptionTable.toList = tableOf [(0, 8, 11, 27)] := vx_table (x := yL_needs) B (hts (.codeWith yL_needs cL_needs 4 (some .int) [(0, 8, 11, 27)]) List.mem_cons_self)
  refine lv_aload_n hx hb dL_needs_0 rfl (lv_at hl 2 rfl) ?_
  refine r_iconst hx hb dL_needs_1 ?_
  refine lv_aload_n hx hb dL_needs_2 rfl (lv_at hl 0 rfl) ?_
  refine lv_iload_n hx hb dL_needs_3 rfl (lv_at hl 1 rfl) ?_
  have hPx := hP.sub (ws' := (wX ad ca gL gB gD gN gS ((n : Int)) ((r : Int)) x)) [0, 1, 2, 3, 4, 5] rfl
  have hDx := hD.sub (ws' := (wX ad ca gL gB gD gN gS ((n : Int)) ((r : Int)) x)) [0, 1, 2, 3, 4, 5] (by decide) rfl
  have hKx := hK.sub (tys' := yX ca) [0, 1, 2, 3, 4] rfl
  refine vr_l (vx_runV (As := [.int (iI q)]) (rest := [.int (iI 0), .ref ou]) ⟨hx, hb, hml, hown, hts⟩ (m_needs l hl9 dC dI ad ca gL gB gD gN gS n r x L S lo hok hT q hq) (cwV 1 hts (gV wlL_39 wo_X0_needs wz_X0_needs wi_1 wcX0_needs) rfl rfl rfl (by decide +kernel) ⟨Nat.le_of_ble_eq_true rfl, Nat.le_of_ble_eq_true rfl⟩) (PXe_V (q0 := 0) (ci := 0) hPx hKx hDx hE (fun a h1 h2 => hS.2.1 a h1 (by rw [hAe]; exact h2)) (fun q h => inW_left h) rfl rfl) rfl rfl hl.1 rfl (lv_room (Nat.le_of_ble_eq_true rfl)) dL_needs_4 ⟨Nat.le_of_ble_eq_true rfl, Nat.le_of_ble_eq_true rfl⟩) hS hP (fun E ce q9 H locs hPE hP hS hce hcv hcl => ?_) (fun r9 H locs h8 hP hS => ?_)
  · obtain ⟨rfl, hx9⟩ := hPE
    refine vx_catch (own := RL) (name := eIX) (E := eIX) hown [] ⟨0, 8, 11, 27⟩ [] (by rw [hTab]; rfl) (fun z hz => nomatch hz) (by decide) (by decide) (hw _ wkL_27) (va_Nw.use rfl (hE.2.1 eIX (by simp))) hce hcv hcl ?_
    refine lv_astore_n hx hb dL_needs_11 rfl hl (by decide) rfl (fun ls hl => ?_)
    have hl : lv_has ls 4 [(3, .ref q9), (0, .ref (ad 0)), (1, .int (iI q)), (2, .ref ou)] := hl
    refine r_iconst hx hb dL_needs_12 ?_
    subst hAe
    refine W.widen (k := 2) (n := 12) (by decide) (by decide) ?_
    exact W.iret (v := iI 1) hx hb hr (fun t ht hW => ⟨⟨_, (((gL, gB, gD, gN, gS), (n : Int), (r : Int), x), fo), rfl, ⟨⟨hT, rfl, rfl⟩, Or.inr ⟨by omega, rfl⟩⟩, by subst ht; exact hP⟩, hS.F ht⟩) hS.2.2 dL_needs_13
  · obtain ⟨h1, h2⟩ := h8
    refine r_last hx hb hK hP hD hS 6 5 rfl rfl (by omega) (by omega) (by decide) dL_needs_7 (fun H locs hP hD hS => ?_)
    have hP : va_P (dC, dI) vwCl (wX ad ca gL gB gD gN gS ((n : Int)) ((r : Int)) x ++ wO ou co (vp_updL fo (0 : Int).toNat r9)) H := hP
    have hD : va_D A (wX ad ca gL gB gD gN gS ((n : Int)) ((r : Int)) x ++ wO ou co (vp_updL fo (0 : Int).toNat r9)) := hD
    refine lv_goto hx hb dL_needs_8 (tgt := 14) (by decide) ?_
    refine r_iconst hx hb dL_needs_14 ?_
    subst hAe
    refine W.widen (k := 2) (n := 12) (by decide) (by decide) ?_
    exact W.iret (v := iI 0) hx hb hr (fun t ht hW => ⟨⟨_, (((gL, gB, gD, gN, gS), (n : Int), (r : Int), x), vp_updL fo (0 : Int).toNat r9), rfl, ⟨⟨hT, rfl, rfl⟩, Or.inl ⟨h1, rfl, h2⟩⟩, by subst ht; exact hP⟩, hS.F ht⟩) hS.2.2 dL_needs_15
set_option maxHeartbeats 4000000 in
set_option maxRecDepth 100000 in
theorem w_good (l : Launch) (hl9 : l.stackTraces = false) (dC : Nat → ClassId) (dI : Nat → Nat → Nat) (ad : Nat → Nat) (ca : Nat → ClassId) (gL gB gD : Nat → Int) (gN : Nat → Int64) (gS : Nat → Int) (n r : Nat) (x : Int64) (L S : Nat → Nat) (lo : Nat → Bool) (hok : okS n L S r) (hT : tX n L S r lo gL gB gD gN gS x) (ou : Nat) (co : ClassId) (fo : Nat → Int64) (q : Int) (hq : iR q) : Met l yL_good wsL_good { frames := 8, cells := 2, slots := 12, locals := 128 } (PXe (dC, dI) vwCl (yXo ca co) (wX ad ca gL gB gD gN gS ((n : Int)) ((r : Int)) x ++ wO ou co fo) [.ref (ad 0), .int (iI q), .ref ou]) (va_Qi (fun (y : Int32) (u : CU × (Nat → Int64)) => XS n L S r lo u.1 ∧ (((0 ≤ q ∧ q < (n : Int)) ∧ y = iI 0 ∧ u.2 0 = bJ (gd L S r lo q.toNat)) ∨ (¬ (0 ≤ q ∧ q < (n : Int)) ∧ y = iI 1))) (fun u t => va_P (dC, dI) vwCl (wXc ad ca u.1 ++ wO ou co u.2) t.heap) (inW (wX ad ca gL gB gD gN gS ((n : Int)) ((r : Int)) x ++ wO ou co fo))) 2 12 (inW (wX ad ca gL gB gD gN gS ((n : Int)) ((r : Int)) x ++ wO ou co fo)) := by
  refine va_MetW (cc := cL_good) (maxL := 4) (ret := (some .int)) (by decide) rfl ?_
  intro p e s m args below meth c s₁ B hml hv
  obtain ⟨rfl, hP, hK, hD0, hE⟩ := hv
  have hx := B.exec
  have hb := B.bytes
  have hr := B.returns
  have hts := atoms_spec (ws := wsL_good) B.pre
  have hown : s.vm.findClass RL = some m.cls := findClass_of_methodNamed B.named
  have hlocks := B.notSynchronized
  have hw := fun w h => hts w (List.mem_cons_of_mem _ h)
  have hD := wD_own hD0
  obtain ⟨A, hAe⟩ : ∃ A, A = inW (wX ad ca gL gB gD gN gS ((n : Int)) ((r : Int)) x ++ wO ou co fo) := ⟨_, rfl⟩
  rw [← hAe] at hD
  obtain ⟨H, hH⟩ : ∃ H, H = s.heap := ⟨_, rfl⟩
  obtain ⟨locs, hlc⟩ : ∃ L : List Loc, L = [] := ⟨_, rfl⟩
  have hS : va_S A s.heap H locs := by rw [hH, hlc]; exact va_S.rf
  rw [← hH] at hP ⊢
  rw [← hlc]
  have hl := lv_entry ([.ref (ad 0), .int (iI q), .ref ou]) (n := 4) (Nat.le_of_ble_eq_true rfl)
  rw [lg_entry_eq]
  generalize (lg_sl ([.ref (ad 0), .int (iI q), .ref ou]) ++ List.replicate (4 - (lg_sl ([.ref (ad 0), .int (iI q), .ref ou])).length) Slot.unset).toArray = ls at hl ⊢
  have hl : lv_has ls 4 [(0, .ref (ad 0)), (1, .int (iI q)), (2, .ref ou)] := hl
  have hTab : c.exceptionTable.toList = tableOf [(0, 16, 19, 27)] := vx_table (x := yL_good) B (hts (.codeWith yL_good cL_good 4 (some .int) [(0, 16, 19, 27)]) List.mem_cons_self)
  refine lv_aload_n hx hb dL_good_0 rfl (lv_at hl 2 rfl) ?_
  refine r_iconst hx hb dL_good_1 ?_
  refine lv_aload_n hx hb dL_good_2 rfl (lv_at hl 0 rfl) ?_
  refine lv_iload_n hx hb dL_good_3 rfl (lv_at hl 1 rfl) ?_
  have hPx := hP.sub (ws' := (wX ad ca gL gB gD gN gS ((n : Int)) ((r : Int)) x)) [0, 1, 2, 3, 4, 5] rfl
  have hDx := hD.sub (ws' := (wX ad ca gL gB gD gN gS ((n : Int)) ((r : Int)) x)) [0, 1, 2, 3, 4, 5] (by decide) rfl
  have hKx := hK.sub (tys' := yX ca) [0, 1, 2, 3, 4] rfl
  refine vr_i (vx_runV (As := [.int (iI q)]) (rest := [.int (iI 0), .ref ou]) ⟨hx, hb, hml, hown, hts⟩ (m_good l hl9 dC dI ad ca gL gB gD gN gS n r x L S lo hok hT q hq) (cwV 1 hts (gV wlL_47 wo_X0_good wz_X0_good wi_1 wcX0_good) rfl rfl rfl (by decide +kernel) ⟨Nat.le_of_ble_eq_true rfl, Nat.le_of_ble_eq_true rfl⟩) (PXe_V (q0 := 0) (ci := 0) hPx hKx hDx hE (fun a h1 h2 => hS.2.1 a h1 (by rw [hAe]; exact h2)) (fun q h => inW_left h) rfl rfl) rfl rfl hl.1 rfl (lv_room (Nat.le_of_ble_eq_true rfl)) dL_good_4 ⟨Nat.le_of_ble_eq_true rfl, Nat.le_of_ble_eq_true rfl⟩) hS hP (fun E ce q9 H locs hPE hP hS hce hcv hcl => ?_) (fun r9 H locs h8 hP hS => ?_)
  · obtain ⟨rfl, hx9⟩ := hPE
    refine vx_catch (own := RL) (name := eIX) (E := eIX) hown [] ⟨0, 16, 19, 27⟩ [] (by rw [hTab]; rfl) (fun z hz => nomatch hz) (by decide) (by decide) (hw _ wkL_27) (va_Nw.use rfl (hE.2.1 eIX (by simp))) hce hcv hcl ?_
    refine lv_astore_n hx hb dL_good_19 rfl hl (by decide) rfl (fun ls hl => ?_)
    have hl : lv_has ls 4 [(3, .ref q9), (0, .ref (ad 0)), (1, .int (iI q)), (2, .ref ou)] := hl
    refine r_iconst hx hb dL_good_20 ?_
    subst hAe
    refine W.widen (k := 2) (n := 12) (by decide) (by decide) ?_
    exact W.iret (v := iI 1) hx hb hr (fun t ht hW => ⟨⟨_, (((gL, gB, gD, gN, gS), (n : Int), (r : Int), x), fo), rfl, ⟨⟨hT, rfl, rfl⟩, Or.inr ⟨by omega, rfl⟩⟩, by subst ht; exact hP⟩, hS.F ht⟩) hS.2.2 dL_good_21
  · obtain ⟨h1, rfl⟩ := h8
    have h01 := b2_01 (gd L S r lo q.toNat)
    refine r_if_eq hx hb dL_good_7 (tgt := 14) (by decide) (by omega) (fun hz => ?_) (fun hnz => ?_)
    · refine lv_lconst hx hb dL_good_14 rfl ?_
      refine r_last hx hb hK hP hD hS 6 5 rfl rfl (by omega) (by omega) (by decide) dL_good_15 (fun H locs hP hD hS => ?_)
      have hP : va_P (dC, dI) vwCl (wX ad ca gL gB gD gN gS ((n : Int)) ((r : Int)) x ++ wO ou co (vp_updL fo (0 : Int).toNat (Int64.ofNat 0))) H := hP
      have hD : va_D A (wX ad ca gL gB gD gN gS ((n : Int)) ((r : Int)) x ++ wO ou co (vp_updL fo (0 : Int).toNat (Int64.ofNat 0))) := hD
      refine lv_goto hx hb dL_good_16 (tgt := 22) (by decide) ?_
      refine r_iconst hx hb dL_good_22 ?_
      subst hAe
      refine W.widen (k := 2) (n := 12) (by decide) (by decide) ?_
      exact W.iret (v := iI 0) hx hb hr (fun t ht hW => ⟨⟨_, (((gL, gB, gD, gN, gS), (n : Int), (r : Int), x), vp_updL fo (0 : Int).toNat (Int64.ofNat 0)), rfl, ⟨⟨hT, rfl, rfl⟩, Or.inl ⟨h1, rfl, by rw [b2_0 hz]; rfl⟩⟩, by subst ht; exact hP⟩, hS.F ht⟩) hS.2.2 dL_good_23
    · refine lv_lconst hx hb dL_good_10 rfl ?_
      refine lv_goto hx hb dL_good_11 (tgt := 15) (by decide) ?_
      refine r_last hx hb hK hP hD hS 6 5 rfl rfl (by omega) (by omega) (by decide) dL_good_15 (fun H locs hP hD hS => ?_)
      have hP : va_P (dC, dI) vwCl (wX ad ca gL gB gD gN gS ((n : Int)) ((r : Int)) x ++ wO ou co (vp_updL fo (0 : Int).toNat (Int64.ofNat 1))) H := hP
      have hD : va_D A (wX ad ca gL gB gD gN gS ((n : Int)) ((r : Int)) x ++ wO ou co (vp_updL fo (0 : Int).toNat (Int64.ofNat 1))) := hD
      refine lv_goto hx hb dL_good_16 (tgt := 22) (by decide) ?_
      refine r_iconst hx hb dL_good_22 ?_
      subst hAe
      refine W.widen (k := 2) (n := 12) (by decide) (by decide) ?_
      exact W.iret (v := iI 0) hx hb hr (fun t ht hW => ⟨⟨_, (((gL, gB, gD, gN, gS), (n : Int), (r : Int), x), vp_updL fo (0 : Int).toNat (Int64.ofNat 1)), rfl, ⟨⟨hT, rfl, rfl⟩, Or.inl ⟨h1, rfl, by rw [b2_1 hnz]; rfl⟩⟩, by subst ht; exact hP⟩, hS.F ht⟩) hS.2.2 dL_good_23
set_option maxHeartbeats 4000000 in
set_option maxRecDepth 100000 in
theorem w_latest (l : Launch) (hl9 : l.stackTraces = false) (dC : Nat → ClassId) (dI : Nat → Nat → Nat) (ad : Nat → Nat) (ca : Nat → ClassId) (gL gB gD : Nat → Int) (gN : Nat → Int64) (gS : Nat → Int) (n r : Nat) (x : Int64) (L S : Nat → Nat) (lo : Nat → Bool) (hok : okS n L S r) (hT : tX n L S r lo gL gB gD gN gS x) (ou : Nat) (co : ClassId) (fo : Nat → Int64) (q : Int) (hq : iR q) : Met l yL_latest wsL_latest { frames := 8, cells := 2, slots := 12, locals := 128 } (PXe (dC, dI) vwCl (yXo ca co) (wX ad ca gL gB gD gN gS ((n : Int)) ((r : Int)) x ++ wO ou co fo) [.ref (ad 0), .int (iI q), .ref ou]) (va_Qi (fun (y : Int32) (u : CU × (Nat → Int64)) => XS n L S r lo u.1 ∧ (((0 ≤ q ∧ q < (n : Int)) ∧ y = iI 0 ∧ u.2 0 = (iI ((la (gd L S r lo) (q.toNat + 1) : Int) - 1)).toInt64) ∨ (¬ (0 ≤ q ∧ q < (n : Int)) ∧ y = iI 1))) (fun u t => va_P (dC, dI) vwCl (wXc ad ca u.1 ++ wO ou co u.2) t.heap) (inW (wX ad ca gL gB gD gN gS ((n : Int)) ((r : Int)) x ++ wO ou co fo))) 2 12 (inW (wX ad ca gL gB gD gN gS ((n : Int)) ((r : Int)) x ++ wO ou co fo)) := by
  refine va_MetW (cc := cL_latest) (maxL := 4) (ret := (some .int)) (by decide) rfl ?_
  intro p e s m args below meth c s₁ B hml hv
  obtain ⟨rfl, hP, hK, hD0, hE⟩ := hv
  have hx := B.exec
  have hb := B.bytes
  have hr := B.returns
  have hts := atoms_spec (ws := wsL_latest) B.pre
  have hown : s.vm.findClass RL = some m.cls := findClass_of_methodNamed B.named
  have hlocks := B.notSynchronized
  have hw := fun w h => hts w (List.mem_cons_of_mem _ h)
  have hD := wD_own hD0
  obtain ⟨A, hAe⟩ : ∃ A, A = inW (wX ad ca gL gB gD gN gS ((n : Int)) ((r : Int)) x ++ wO ou co fo) := ⟨_, rfl⟩
  rw [← hAe] at hD
  obtain ⟨H, hH⟩ : ∃ H, H = s.heap := ⟨_, rfl⟩
  obtain ⟨locs, hlc⟩ : ∃ L : List Loc, L = [] := ⟨_, rfl⟩
  have hS : va_S A s.heap H locs := by rw [hH, hlc]; exact va_S.rf
  rw [← hH] at hP ⊢
  rw [← hlc]
  have hl := lv_entry ([.ref (ad 0), .int (iI q), .ref ou]) (n := 4) (Nat.le_of_ble_eq_true rfl)
  rw [lg_entry_eq]
  generalize (lg_sl ([.ref (ad 0), .int (iI q), .ref ou]) ++ List.replicate (4 - (lg_sl ([.ref (ad 0), .int (iI q), .ref ou])).length) Slot.unset).toArray = ls at hl ⊢
  have hl : lv_has ls 4 [(0, .ref (ad 0)), (1, .int (iI q)), (2, .ref ou)] := hl
  have hTab : c.exceptionTable.toList = tableOf [(0, 9, 12, 27)] := vx_table (x := yL_latest) B (hts (.codeWith yL_latest cL_latest 4 (some .int) [(0, 9, 12, 27)]) List.mem_cons_self)
  refine lv_aload_n hx hb dL_latest_0 rfl (lv_at hl 2 rfl) ?_
  refine r_iconst hx hb dL_latest_1 ?_
  refine lv_aload_n hx hb dL_latest_2 rfl (lv_at hl 0 rfl) ?_
  refine lv_iload_n hx hb dL_latest_3 rfl (lv_at hl 1 rfl) ?_
  have hPx := hP.sub (ws' := (wX ad ca gL gB gD gN gS ((n : Int)) ((r : Int)) x)) [0, 1, 2, 3, 4, 5] rfl
  have hDx := hD.sub (ws' := (wX ad ca gL gB gD gN gS ((n : Int)) ((r : Int)) x)) [0, 1, 2, 3, 4, 5] (by decide) rfl
  have hKx := hK.sub (tys' := yX ca) [0, 1, 2, 3, 4] rfl
  refine vr_i (vx_runV (As := [.int (iI q)]) (rest := [.int (iI 0), .ref ou]) ⟨hx, hb, hml, hown, hts⟩ (m_latest l hl9 dC dI ad ca gL gB gD gN gS n r x L S lo hok hT q hq) (cwV 1 hts (gV wlL_51 wo_X0_latest wz_X0_latest wi_1 wcX0_latest) rfl rfl rfl (by decide +kernel) ⟨Nat.le_of_ble_eq_true rfl, Nat.le_of_ble_eq_true rfl⟩) (PXe_V (q0 := 0) (ci := 0) hPx hKx hDx hE (fun a h1 h2 => hS.2.1 a h1 (by rw [hAe]; exact h2)) (fun q h => inW_left h) rfl rfl) rfl rfl hl.1 rfl (lv_room (Nat.le_of_ble_eq_true rfl)) dL_latest_4 ⟨Nat.le_of_ble_eq_true rfl, Nat.le_of_ble_eq_true rfl⟩) hS hP (fun E ce q9 H locs hPE hP hS hce hcv hcl => ?_) (fun r9 H locs h8 hP hS => ?_)
  · obtain ⟨rfl, hx9⟩ := hPE
    refine vx_catch (own := RL) (name := eIX) (E := eIX) hown [] ⟨0, 9, 12, 27⟩ [] (by rw [hTab]; rfl) (fun z hz => nomatch hz) (by decide) (by decide) (hw _ wkL_27) (va_Nw.use rfl (hE.2.1 eIX (by simp))) hce hcv hcl ?_
    refine lv_astore_n hx hb dL_latest_12 rfl hl (by decide) rfl (fun ls hl => ?_)
    have hl : lv_has ls 4 [(3, .ref q9), (0, .ref (ad 0)), (1, .int (iI q)), (2, .ref ou)] := hl
    refine r_iconst hx hb dL_latest_13 ?_
    subst hAe
    refine W.widen (k := 2) (n := 12) (by decide) (by decide) ?_
    exact W.iret (v := iI 1) hx hb hr (fun t ht hW => ⟨⟨_, (((gL, gB, gD, gN, gS), (n : Int), (r : Int), x), fo), rfl, ⟨⟨hT, rfl, rfl⟩, Or.inr ⟨by omega, rfl⟩⟩, by subst ht; exact hP⟩, hS.F ht⟩) hS.2.2 dL_latest_14
  · obtain ⟨h1, rfl⟩ := h8
    refine lv_i2l hx hb dL_latest_7 rfl ?_
    refine r_last hx hb hK hP hD hS 6 5 rfl rfl (by omega) (by omega) (by decide) dL_latest_8 (fun H locs hP hD hS => ?_)
    have hP : va_P (dC, dI) vwCl (wX ad ca gL gB gD gN gS ((n : Int)) ((r : Int)) x ++ wO ou co (vp_updL fo (0 : Int).toNat ((iI ((la (gd L S r lo) (q.toNat + 1) : Int) - 1)).toInt64))) H := hP
    have hD : va_D A (wX ad ca gL gB gD gN gS ((n : Int)) ((r : Int)) x ++ wO ou co (vp_updL fo (0 : Int).toNat ((iI ((la (gd L S r lo) (q.toNat + 1) : Int) - 1)).toInt64))) := hD
    refine lv_goto hx hb dL_latest_9 (tgt := 15) (by decide) ?_
    refine r_iconst hx hb dL_latest_15 ?_
    subst hAe
    refine W.widen (k := 2) (n := 12) (by decide) (by decide) ?_
    exact W.iret (v := iI 0) hx hb hr (fun t ht hW => ⟨⟨_, (((gL, gB, gD, gN, gS), (n : Int), (r : Int), x), vp_updL fo (0 : Int).toNat ((iI ((la (gd L S r lo) (q.toNat + 1) : Int) - 1)).toInt64)), rfl, ⟨⟨hT, rfl, rfl⟩, Or.inl ⟨h1, rfl, rfl⟩⟩, by subst ht; exact hP⟩, hS.F ht⟩) hS.2.2 dL_latest_16
set_option maxHeartbeats 4000000 in
set_option maxRecDepth 100000 in
theorem w_spare (l : Launch) (hl9 : l.stackTraces = false) (dC : Nat → ClassId) (dI : Nat → Nat → Nat) (ad : Nat → Nat) (ca : Nat → ClassId) (gL gB gD : Nat → Int) (gN : Nat → Int64) (gS : Nat → Int) (n r : Nat) (x : Int64) (L S : Nat → Nat) (lo : Nat → Bool) (hok : okS n L S r) (hT : tX n L S r lo gL gB gD gN gS x) (ou : Nat) (co : ClassId) (fo : Nat → Int64) (q : Int) (hq : iR q) : Met l yL_spare wsL_spare { frames := 8, cells := 2, slots := 12, locals := 128 } (PXe (dC, dI) vwCl (yXo ca co) (wX ad ca gL gB gD gN gS ((n : Int)) ((r : Int)) x ++ wO ou co fo) [.ref (ad 0), .int (iI q), .ref ou]) (va_Qi (fun (y : Int32) (u : CU × (Nat → Int64)) => XS n L S r lo u.1 ∧ ((0 ≤ q ∧ y = iI 0 ∧ ∀ v, v < 64 → bL (u.2 0) v = sp L S r n q.toNat v) ∨ (¬ 0 ≤ q ∧ y = iI 1))) (fun u t => va_P (dC, dI) vwCl (wXc ad ca u.1 ++ wO ou co u.2) t.heap) (inW (wX ad ca gL gB gD gN gS ((n : Int)) ((r : Int)) x ++ wO ou co fo))) 2 12 (inW (wX ad ca gL gB gD gN gS ((n : Int)) ((r : Int)) x ++ wO ou co fo)) := by
  refine va_MetW (cc := cL_spare) (maxL := 4) (ret := (some .int)) (by decide) rfl ?_
  intro p e s m args below meth c s₁ B hml hv
  obtain ⟨rfl, hP, hK, hD0, hE⟩ := hv
  have hx := B.exec
  have hb := B.bytes
  have hr := B.returns
  have hts := atoms_spec (ws := wsL_spare) B.pre
  have hown : s.vm.findClass RL = some m.cls := findClass_of_methodNamed B.named
  have hlocks := B.notSynchronized
  have hw := fun w h => hts w (List.mem_cons_of_mem _ h)
  have hD := wD_own hD0
  obtain ⟨A, hAe⟩ : ∃ A, A = inW (wX ad ca gL gB gD gN gS ((n : Int)) ((r : Int)) x ++ wO ou co fo) := ⟨_, rfl⟩
  rw [← hAe] at hD
  obtain ⟨H, hH⟩ : ∃ H, H = s.heap := ⟨_, rfl⟩
  obtain ⟨locs, hlc⟩ : ∃ L : List Loc, L = [] := ⟨_, rfl⟩
  have hS : va_S A s.heap H locs := by rw [hH, hlc]; exact va_S.rf
  rw [← hH] at hP ⊢
  rw [← hlc]
  have hl := lv_entry ([.ref (ad 0), .int (iI q), .ref ou]) (n := 4) (Nat.le_of_ble_eq_true rfl)
  rw [lg_entry_eq]
  generalize (lg_sl ([.ref (ad 0), .int (iI q), .ref ou]) ++ List.replicate (4 - (lg_sl ([.ref (ad 0), .int (iI q), .ref ou])).length) Slot.unset).toArray = ls at hl ⊢
  have hl : lv_has ls 4 [(0, .ref (ad 0)), (1, .int (iI q)), (2, .ref ou)] := hl
  have hTab : c.exceptionTable.toList = tableOf [(0, 8, 11, 13)] := vx_table (x := yL_spare) B (hts (.codeWith yL_spare cL_spare 4 (some .int) [(0, 8, 11, 13)]) List.mem_cons_self)
  refine lv_aload_n hx hb dL_spare_0 rfl (lv_at hl 2 rfl) ?_
  refine r_iconst hx hb dL_spare_1 ?_
  refine lv_aload_n hx hb dL_spare_2 rfl (lv_at hl 0 rfl) ?_
  refine lv_iload_n hx hb dL_spare_3 rfl (lv_at hl 1 rfl) ?_
  have hPx := hP.sub (ws' := (wX ad ca gL gB gD gN gS ((n : Int)) ((r : Int)) x)) [0, 1, 2, 3, 4, 5] rfl
  have hDx := hD.sub (ws' := (wX ad ca gL gB gD gN gS ((n : Int)) ((r : Int)) x)) [0, 1, 2, 3, 4, 5] (by decide) rfl
  have hKx := hK.sub (tys' := yX ca) [0, 1, 2, 3, 4] rfl
  refine vr_l (vx_runV (As := [.int (iI q)]) (rest := [.int (iI 0), .ref ou]) ⟨hx, hb, hml, hown, hts⟩ (m_spare l hl9 dC dI ad ca gL gB gD gN gS n r x L S lo hok hT q hq) (cwV 1 hts (gV wlL_54 wo_X0_spare wz_X0_spare wi_1 wcX0_spare) rfl rfl rfl (by decide +kernel) ⟨Nat.le_of_ble_eq_true rfl, Nat.le_of_ble_eq_true rfl⟩) (PXe_V (q0 := 0) (ci := 0) hPx hKx hDx hE (fun a h1 h2 => hS.2.1 a h1 (by rw [hAe]; exact h2)) (fun q h => inW_left h) rfl rfl) rfl rfl hl.1 rfl (lv_room (Nat.le_of_ble_eq_true rfl)) dL_spare_4 ⟨Nat.le_of_ble_eq_true rfl, Nat.le_of_ble_eq_true rfl⟩) hS hP (fun E ce q9 H locs hPE hP hS hce hcv hcl => ?_) (fun r9 H locs h8 hP hS => ?_)
  · obtain ⟨rfl, hx9⟩ := hPE
    refine vx_catch (own := RL) (name := eIA) (E := eIA) hown [] ⟨0, 8, 11, 13⟩ [] (by rw [hTab]; rfl) (fun z hz => nomatch hz) (by decide) (by decide) (hw _ wkL_13) (va_Nw.use rfl (hE.2.1 eIA (by simp))) hce hcv hcl ?_
    refine lv_astore_n hx hb dL_spare_11 rfl hl (by decide) rfl (fun ls hl => ?_)
    have hl : lv_has ls 4 [(3, .ref q9), (0, .ref (ad 0)), (1, .int (iI q)), (2, .ref ou)] := hl
    refine r_iconst hx hb dL_spare_12 ?_
    subst hAe
    refine W.widen (k := 2) (n := 12) (by decide) (by decide) ?_
    exact W.iret (v := iI 1) hx hb hr (fun t ht hW => ⟨⟨_, (((gL, gB, gD, gN, gS), (n : Int), (r : Int), x), fo), rfl, ⟨⟨hT, rfl, rfl⟩, Or.inr ⟨by omega, rfl⟩⟩, by subst ht; exact hP⟩, hS.F ht⟩) hS.2.2 dL_spare_13
  · obtain ⟨h1, h2⟩ := h8
    refine r_last hx hb hK hP hD hS 6 5 rfl rfl (by omega) (by omega) (by decide) dL_spare_7 (fun H locs hP hD hS => ?_)
    have hP : va_P (dC, dI) vwCl (wX ad ca gL gB gD gN gS ((n : Int)) ((r : Int)) x ++ wO ou co (vp_updL fo (0 : Int).toNat r9)) H := hP
    have hD : va_D A (wX ad ca gL gB gD gN gS ((n : Int)) ((r : Int)) x ++ wO ou co (vp_updL fo (0 : Int).toNat r9)) := hD
    refine lv_goto hx hb dL_spare_8 (tgt := 14) (by decide) ?_
    refine r_iconst hx hb dL_spare_14 ?_
    subst hAe
    refine W.widen (k := 2) (n := 12) (by decide) (by decide) ?_
    exact W.iret (v := iI 0) hx hb hr (fun t ht hW => ⟨⟨_, (((gL, gB, gD, gN, gS), (n : Int), (r : Int), x), vp_updL fo (0 : Int).toNat r9), rfl, ⟨⟨hT, rfl, rfl⟩, Or.inl ⟨h1, rfl, h2⟩⟩, by subst ht; exact hP⟩, hS.F ht⟩) hS.2.2 dL_spare_15
set_option maxHeartbeats 4000000 in
set_option maxRecDepth 100000 in
theorem w_count (l : Launch) (hl9 : l.stackTraces = false) (dC : Nat → ClassId) (dI : Nat → Nat → Nat) (ad : Nat → Nat) (ca : Nat → ClassId) (gL gB gD : Nat → Int) (gN : Nat → Int64) (gS : Nat → Int) (n r : Nat) (x : Int64) (L S : Nat → Nat) (lo : Nat → Bool) (hok : okS n L S r) (hT : tX n L S r lo gL gB gD gN gS x) (ou : Nat) (co : ClassId) (fo : Nat → Int64) (q : Int) (hq : iR q) : Met l yL_count wsL_count { frames := 8, cells := 2, slots := 12, locals := 128 } (PXe (dC, dI) vwCl (yXo ca co) (wX ad ca gL gB gD gN gS ((n : Int)) ((r : Int)) x ++ wO ou co fo) [.ref (ad 0), .int (iI q), .ref ou]) (va_Qi (fun (y : Int32) (u : CU × (Nat → Int64)) => XS n L S r lo u.1 ∧ (((0 ≤ q ∧ q ≤ 5) ∧ y = iI 0 ∧ u.2 0 = (iI (ct L S r n lo q.toNat : Int)).toInt64) ∨ (¬ (0 ≤ q ∧ q ≤ 5) ∧ y = iI 1))) (fun u t => va_P (dC, dI) vwCl (wXc ad ca u.1 ++ wO ou co u.2) t.heap) (inW (wX ad ca gL gB gD gN gS ((n : Int)) ((r : Int)) x ++ wO ou co fo))) 2 12 (inW (wX ad ca gL gB gD gN gS ((n : Int)) ((r : Int)) x ++ wO ou co fo)) := by
  refine va_MetW (cc := cL_count) (maxL := 4) (ret := (some .int)) (by decide) rfl ?_
  intro p e s m args below meth c s₁ B hml hv
  obtain ⟨rfl, hP, hK, hD0, hE⟩ := hv
  have hx := B.exec
  have hb := B.bytes
  have hr := B.returns
  have hts := atoms_spec (ws := wsL_count) B.pre
  have hown : s.vm.findClass RL = some m.cls := findClass_of_methodNamed B.named
  have hlocks := B.notSynchronized
  have hw := fun w h => hts w (List.mem_cons_of_mem _ h)
  have hD := wD_own hD0
  obtain ⟨A, hAe⟩ : ∃ A, A = inW (wX ad ca gL gB gD gN gS ((n : Int)) ((r : Int)) x ++ wO ou co fo) := ⟨_, rfl⟩
  rw [← hAe] at hD
  obtain ⟨H, hH⟩ : ∃ H, H = s.heap := ⟨_, rfl⟩
  obtain ⟨locs, hlc⟩ : ∃ L : List Loc, L = [] := ⟨_, rfl⟩
  have hS : va_S A s.heap H locs := by rw [hH, hlc]; exact va_S.rf
  rw [← hH] at hP ⊢
  rw [← hlc]
  have hl := lv_entry ([.ref (ad 0), .int (iI q), .ref ou]) (n := 4) (Nat.le_of_ble_eq_true rfl)
  rw [lg_entry_eq]
  generalize (lg_sl ([.ref (ad 0), .int (iI q), .ref ou]) ++ List.replicate (4 - (lg_sl ([.ref (ad 0), .int (iI q), .ref ou])).length) Slot.unset).toArray = ls at hl ⊢
  have hl : lv_has ls 4 [(0, .ref (ad 0)), (1, .int (iI q)), (2, .ref ou)] := hl
  have hTab : c.exceptionTable.toList = tableOf [(0, 9, 12, 13)] := vx_table (x := yL_count) B (hts (.codeWith yL_count cL_count 4 (some .int) [(0, 9, 12, 13)]) List.mem_cons_self)
  refine lv_aload_n hx hb dL_count_0 rfl (lv_at hl 2 rfl) ?_
  refine r_iconst hx hb dL_count_1 ?_
  refine lv_aload_n hx hb dL_count_2 rfl (lv_at hl 0 rfl) ?_
  refine lv_iload_n hx hb dL_count_3 rfl (lv_at hl 1 rfl) ?_
  have hPx := hP.sub (ws' := (wX ad ca gL gB gD gN gS ((n : Int)) ((r : Int)) x)) [0, 1, 2, 3, 4, 5] rfl
  have hDx := hD.sub (ws' := (wX ad ca gL gB gD gN gS ((n : Int)) ((r : Int)) x)) [0, 1, 2, 3, 4, 5] (by decide) rfl
  have hKx := hK.sub (tys' := yX ca) [0, 1, 2, 3, 4] rfl
  refine vr_i (vx_runV (As := [.int (iI q)]) (rest := [.int (iI 0), .ref ou]) ⟨hx, hb, hml, hown, hts⟩ (m_count l hl9 dC dI ad ca gL gB gD gN gS n r x L S lo hok hT q hq) (cwV 1 hts (gV wlL_57 wo_X0_count wz_X0_count wi_1 wcX0_count) rfl rfl rfl (by decide +kernel) ⟨Nat.le_of_ble_eq_true rfl, Nat.le_of_ble_eq_true rfl⟩) (PXe_V (q0 := 0) (ci := 0) hPx hKx hDx hE (fun a h1 h2 => hS.2.1 a h1 (by rw [hAe]; exact h2)) (fun q h => inW_left h) rfl rfl) rfl rfl hl.1 rfl (lv_room (Nat.le_of_ble_eq_true rfl)) dL_count_4 ⟨Nat.le_of_ble_eq_true rfl, Nat.le_of_ble_eq_true rfl⟩) hS hP (fun E ce q9 H locs hPE hP hS hce hcv hcl => ?_) (fun r9 H locs h8 hP hS => ?_)
  · obtain ⟨rfl, hx9⟩ := hPE
    refine vx_catch (own := RL) (name := eIA) (E := eIA) hown [] ⟨0, 9, 12, 13⟩ [] (by rw [hTab]; rfl) (fun z hz => nomatch hz) (by decide) (by decide) (hw _ wkL_13) (va_Nw.use rfl (hE.2.1 eIA (by simp))) hce hcv hcl ?_
    refine lv_astore_n hx hb dL_count_12 rfl hl (by decide) rfl (fun ls hl => ?_)
    have hl : lv_has ls 4 [(3, .ref q9), (0, .ref (ad 0)), (1, .int (iI q)), (2, .ref ou)] := hl
    refine r_iconst hx hb dL_count_13 ?_
    subst hAe
    refine W.widen (k := 2) (n := 12) (by decide) (by decide) ?_
    exact W.iret (v := iI 1) hx hb hr (fun t ht hW => ⟨⟨_, (((gL, gB, gD, gN, gS), (n : Int), (r : Int), x), fo), rfl, ⟨⟨hT, rfl, rfl⟩, Or.inr ⟨hx9, rfl⟩⟩, by subst ht; exact hP⟩, hS.F ht⟩) hS.2.2 dL_count_14
  · obtain ⟨h1, rfl⟩ := h8
    refine lv_i2l hx hb dL_count_7 rfl ?_
    refine r_last hx hb hK hP hD hS 6 5 rfl rfl (by omega) (by omega) (by decide) dL_count_8 (fun H locs hP hD hS => ?_)
    have hP : va_P (dC, dI) vwCl (wX ad ca gL gB gD gN gS ((n : Int)) ((r : Int)) x ++ wO ou co (vp_updL fo (0 : Int).toNat ((iI ((ct L S r n lo q.toNat : Int))).toInt64))) H := hP
    have hD : va_D A (wX ad ca gL gB gD gN gS ((n : Int)) ((r : Int)) x ++ wO ou co (vp_updL fo (0 : Int).toNat ((iI ((ct L S r n lo q.toNat : Int))).toInt64))) := hD
    refine lv_goto hx hb dL_count_9 (tgt := 15) (by decide) ?_
    refine r_iconst hx hb dL_count_15 ?_
    subst hAe
    refine W.widen (k := 2) (n := 12) (by decide) (by decide) ?_
    exact W.iret (v := iI 0) hx hb hr (fun t ht hW => ⟨⟨_, (((gL, gB, gD, gN, gS), (n : Int), (r : Int), x), vp_updL fo (0 : Int).toNat ((iI ((ct L S r n lo q.toNat : Int))).toInt64)), rfl, ⟨⟨hT, rfl, rfl⟩, Or.inl ⟨h1, rfl, rfl⟩⟩, by subst ht; exact hP⟩, hS.F ht⟩) hS.2.2 dL_count_16
set_option maxHeartbeats 4000000 in
set_option maxRecDepth 100000 in
theorem w_lose (l : Launch) (hl9 : l.stackTraces = false) (dC : Nat → ClassId) (dI : Nat → Nat → Nat) (ad : Nat → Nat) (ca : Nat → ClassId) (gL gB gD : Nat → Int) (gN : Nat → Int64) (gS : Nat → Int) (n r : Nat) (x : Int64) (L S : Nat → Nat) (lo : Nat → Bool) (hok : okS n L S r) (hT : tX n L S r lo gL gB gD gN gS x) (ou : Nat) (co : ClassId) (fo : Nat → Int64) (v f : Int) (hv : iR v) (hf : f = 0 ∨ f = 1) : Met l yL_lose wsL_lose { frames := 8, cells := 2, slots := 12, locals := 128 } (PXe (dC, dI) vwCl (yXo ca co) (wX ad ca gL gB gD gN gS ((n : Int)) ((r : Int)) x ++ wO ou co fo) [.ref (ad 0), .int (iI v), .int (iI f), .ref ou]) (va_Qi (fun (y : Int32) (u : CU × (Nat → Int64)) => ((0 ≤ v ∧ v < 64) ∧ y = iI 0 ∧ XS n L S r (lsU lo v.toNat (decide (f = 1))) u.1 ∧ u.2 0 = bJ (lo v.toNat)) ∨ (¬ (0 ≤ v ∧ v < 64) ∧ y = iI 1 ∧ XS n L S r lo u.1)) (fun u t => va_P (dC, dI) vwCl (wXc ad ca u.1 ++ wO ou co u.2) t.heap) (inW (wX ad ca gL gB gD gN gS ((n : Int)) ((r : Int)) x ++ wO ou co fo))) 2 12 (inW (wX ad ca gL gB gD gN gS ((n : Int)) ((r : Int)) x ++ wO ou co fo)) := by
  refine va_MetW (cc := cL_lose) (maxL := 5) (ret := (some .int)) (by decide) rfl ?_
  intro p e s m args below meth c s₁ B hml hv
  obtain ⟨rfl, hP, hK, hD0, hE⟩ := hv
  have hx := B.exec
  have hb := B.bytes
  have hr := B.returns
  have hts := atoms_spec (ws := wsL_lose) B.pre
  have hown : s.vm.findClass RL = some m.cls := findClass_of_methodNamed B.named
  have hlocks := B.notSynchronized
  have hw := fun w h => hts w (List.mem_cons_of_mem _ h)
  have hD := wD_own hD0
  obtain ⟨A, hAe⟩ : ∃ A, A = inW (wX ad ca gL gB gD gN gS ((n : Int)) ((r : Int)) x ++ wO ou co fo) := ⟨_, rfl⟩
  rw [← hAe] at hD
  obtain ⟨H, hH⟩ : ∃ H, H = s.heap := ⟨_, rfl⟩
  obtain ⟨locs, hlc⟩ : ∃ L : List Loc, L = [] := ⟨_, rfl⟩
  have hS : va_S A s.heap H locs := by rw [hH, hlc]; exact va_S.rf
  rw [← hH] at hP ⊢
  rw [← hlc]
  have hl := lv_entry ([.ref (ad 0), .int (iI v), .int (iI f), .ref ou]) (n := 5) (Nat.le_of_ble_eq_true rfl)
  rw [lg_entry_eq]
  generalize (lg_sl ([.ref (ad 0), .int (iI v), .int (iI f), .ref ou]) ++ List.replicate (5 - (lg_sl ([.ref (ad 0), .int (iI v), .int (iI f), .ref ou])).length) Slot.unset).toArray = ls at hl ⊢
  have hl : lv_has ls 5 [(0, .ref (ad 0)), (1, .int (iI v)), (2, .int (iI f)), (3, .ref ou)] := hl
  have hTab : c.exceptionTable.toList = tableOf [(0, 17, 20, 13)] := vx_table (x := yL_lose) B (hts (.codeWith yL_lose cL_lose 5 (some .int) [(0, 17, 20, 13)]) List.mem_cons_self)
  refine lv_aload_n hx hb dL_lose_0 rfl (lv_at hl 3 rfl) ?_
  refine r_iconst hx hb dL_lose_1 ?_
  refine lv_aload_n hx hb dL_lose_2 rfl (lv_at hl 0 rfl) ?_
  refine lv_iload_n hx hb dL_lose_3 rfl (lv_at hl 1 rfl) ?_
  refine lv_iload_n hx hb dL_lose_4 rfl (lv_at hl 2 rfl) ?_
  have hPx := hP.sub (ws' := (wX ad ca gL gB gD gN gS ((n : Int)) ((r : Int)) x)) [0, 1, 2, 3, 4, 5] rfl
  have hDx := hD.sub (ws' := (wX ad ca gL gB gD gN gS ((n : Int)) ((r : Int)) x)) [0, 1, 2, 3, 4, 5] (by decide) rfl
  have hKx := hK.sub (tys' := yX ca) [0, 1, 2, 3, 4] rfl
  refine vw_i (vx_runV (As := [.int (iI v), .int (iI f)]) (rest := [.int (iI 0), .ref ou]) ⟨hx, hb, hml, hown, hts⟩ (m_lose l hl9 dC dI ad ca gL gB gD gN gS n r x L S lo hok hT v f hv hf) (cwV 2 hts (gV wlL_43 wo_X0_lose wz_X0_lose wi_1 wcX0_lose) rfl rfl rfl (by decide +kernel) ⟨Nat.le_of_ble_eq_true rfl, Nat.le_of_ble_eq_true rfl⟩) (PXe_V (q0 := 0) (ci := 0) hPx hKx hDx hE (fun a h1 h2 => hS.2.1 a h1 (by rw [hAe]; exact h2)) (fun q h => inW_left h) rfl rfl) rfl rfl hl.1 rfl (lv_room (Nat.le_of_ble_eq_true rfl)) dL_lose_5 ⟨Nat.le_of_ble_eq_true rfl, Nat.le_of_ble_eq_true rfl⟩) hS (by rw [hAe]; exact fun q h => inW_left h) (fun E ce q9 H1 locs hPE hS hkp hce hcv hcl => ?_) (fun r9 u9 H1 locs h8 hP1 hS hk9 => ?_)
  · have hP := hP.kept (fun k q hq => hkp q.1 (hP k q hq).lt)
    generalize H1 = H at hP hS hce ⊢
    obtain ⟨rfl, hx9⟩ := hPE
    refine vx_catch (own := RL) (name := eIA) (E := eIA) hown [] ⟨0, 17, 20, 13⟩ [] (by rw [hTab]; rfl) (fun z hz => nomatch hz) (by decide) (by decide) (hw _ wkL_13) (va_Nw.use rfl (hE.2.1 eIA (by simp))) hce hcv hcl ?_
    refine lv_astore hx hb dL_lose_20 hl (by decide) rfl (fun ls hl => ?_)
    have hl : lv_has ls 5 [(4, .ref q9), (0, .ref (ad 0)), (1, .int (iI v)), (2, .int (iI f)), (3, .ref ou)] := hl
    refine r_iconst hx hb dL_lose_22 ?_
    subst hAe
    refine W.widen (k := 2) (n := 12) (by decide) (by decide) ?_
    exact W.iret (v := iI 1) hx hb hr (fun t ht hW => ⟨⟨_, (((gL, gB, gD, gN, gS), (n : Int), (r : Int), x), fo), rfl, Or.inr ⟨by omega, rfl, ⟨hT, rfl, rfl⟩⟩, by subst ht; exact hP⟩, hS.F ht⟩) hS.2.2 dL_lose_23
  · obtain ⟨h1, rfl, h2⟩ := h8
    have h01 := b2_01 (lo v.toNat)
    have hTn : tX n L S r (lsU lo v.toNat (decide (f = 1))) gL gB gD gN gS u9 := ⟨hT.1, hT.2.1, h2⟩
    have hP := wjoin hP hD hk9 hP1
    generalize H1 = H at hP hS ⊢
    have hP : va_P (dC, dI) vwCl (wX ad ca gL gB gD gN gS ((n : Int)) ((r : Int)) u9 ++ wO ou co fo) H := hP
    have hD : va_D A (wX ad ca gL gB gD gN gS ((n : Int)) ((r : Int)) u9 ++ wO ou co fo) := wD_same hD rfl
    refine r_if_eq hx hb dL_lose_8 (tgt := 15) (by decide) (by omega) (fun hz => ?_) (fun hnz => ?_)
    · refine lv_lconst hx hb dL_lose_15 rfl ?_
      refine r_last hx hb hK hP hD hS 6 5 rfl rfl (by omega) (by omega) (by decide) dL_lose_16 (fun H locs hP hD hS => ?_)
      have hP : va_P (dC, dI) vwCl (wX ad ca gL gB gD gN gS ((n : Int)) ((r : Int)) u9 ++ wO ou co (vp_updL fo (0 : Int).toNat (Int64.ofNat 0))) H := hP
      have hD : va_D A (wX ad ca gL gB gD gN gS ((n : Int)) ((r : Int)) u9 ++ wO ou co (vp_updL fo (0 : Int).toNat (Int64.ofNat 0))) := hD
      refine lv_goto hx hb dL_lose_17 (tgt := 24) (by decide) ?_
      refine r_iconst hx hb dL_lose_24 ?_
      subst hAe
      refine W.widen (k := 2) (n := 12) (by decide) (by decide) ?_
      exact W.iret (v := iI 0) hx hb hr (fun t ht hW => ⟨⟨_, (((gL, gB, gD, gN, gS), (n : Int), (r : Int), u9), vp_updL fo (0 : Int).toNat (Int64.ofNat 0)), rfl, Or.inl ⟨h1, rfl, ⟨hTn, rfl, rfl⟩, by rw [b2_0 hz]; rfl⟩, by subst ht; exact hP⟩, hS.F ht⟩) hS.2.2 dL_lose_25
    · refine lv_lconst hx hb dL_lose_11 rfl ?_
      refine lv_goto hx hb dL_lose_12 (tgt := 16) (by decide) ?_
      refine r_last hx hb hK hP hD hS 6 5 rfl rfl (by omega) (by omega) (by decide) dL_lose_16 (fun H locs hP hD hS => ?_)
      have hP : va_P (dC, dI) vwCl (wX ad ca gL gB gD gN gS ((n : Int)) ((r : Int)) u9 ++ wO ou co (vp_updL fo (0 : Int).toNat (Int64.ofNat 1))) H := hP
      have hD : va_D A (wX ad ca gL gB gD gN gS ((n : Int)) ((r : Int)) u9 ++ wO ou co (vp_updL fo (0 : Int).toNat (Int64.ofNat 1))) := hD
      refine lv_goto hx hb dL_lose_17 (tgt := 24) (by decide) ?_
      refine r_iconst hx hb dL_lose_24 ?_
      subst hAe
      refine W.widen (k := 2) (n := 12) (by decide) (by decide) ?_
      exact W.iret (v := iI 0) hx hb hr (fun t ht hW => ⟨⟨_, (((gL, gB, gD, gN, gS), (n : Int), (r : Int), u9), vp_updL fo (0 : Int).toNat (Int64.ofNat 1)), rfl, Or.inl ⟨h1, rfl, ⟨hTn, rfl, rfl⟩, by rw [b2_1 hnz]; rfl⟩, by subst ht; exact hP⟩, hS.F ht⟩) hS.2.2 dL_lose_25
end
