/-! the law's end (of the skeleton), its loop -/
def R_law : String := "TapeChainsLaw"
def lw_P (b : Addr) (xs : List Int32) (args : Array Value) (s : State) : Prop := args = #[.ref b] ∧ s.IntsAt b xs ∧ xs.length ≤ 1536 ∧ (Jvm.Cond.and given_1 narrow_1).before args s = true
def lw_Q (_ : Array Value) (s : State) (o : Outcome) (t : State) : Prop := o = .returned (some (.int 1)) ∧ Framed s o t [] 1049 10515
def lw_Z (below : List Frame) (a : Array Value) (s : State) : State → Prop := fun t => ∃ o, t.status = .running ∧ Ended t below o ∧ lw_Q a s o t
/-- the law's own end, with 1 on the stack, nothing written that was there before, its room as the claim has it -/
theorem lw_ret {p : Program} {l : Launch} {e : Env} {s : State} {m : MethodId} {below : List Frame} {meth : Method} {c : Code} {b : Nat} (hx : p.tables.exec = Jvm.exec) (hb : c.code = code) (hr : meth.sig.returnType = ret) (hlocks : meth.locks = false) {pc : Nat} {H : Heap} {ls : Array Slot} (hdg : decode code pc = .ok (.ireturn, 1)) : W p l e room_1 s m #[Value.ref b] below meth c H [] 1049 10515 (lw_Z below #[Value.ref b] s) (F0 m pc ls [.int 1]) := by
  intro T hT X
  obtain ⟨fs, hret, hrun, hended, hW, hframe⟩ := X.leave (v := some (.int 1)) (hlocks := hlocks) (fun h => by rw [hr] at h; cases h)
  have hmeth' : T.vm.method? m = some meth := X.method'
  refine ⟨T.setFrames fs, ?_, .returned (some (.int 1)), hrun, hended, rfl, ⟨_, rfl⟩, hW, hframe⟩
  jvm_step X.here [X.here.top, hx, hb, hdg, hmeth', hr, ret, narrow_b1]
  (try refine ⟨rfl, ?_⟩); (try refine ⟨rfl, ?_⟩)
  first | (intro acts; rw [hret _ acts rfl rfl rfl]) | rw [hret _ _ rfl rfl rfl]
  exact Steps.refl _
/-- what holds at the law's entry: the machine, the code, the tables' words (any of lw_tbl by 'hts w (by decide +kernel)'), the script of L ints xs at the cell b, what the Statement gives of the start (any of its parts by flat_of_before) -/
def lw_At (p : Program) (s : State) (m : MethodId) (meth : Method) (c : Code) (b L : Nat) (xs : Nat → Int32) : Prop :=
  p.tables.exec = Jvm.exec ∧ c.code = code ∧ meth.sig.returnType = ret ∧ c.maxLocals = 8 ∧ s.vm.findClass R_law = some m.cls ∧ (∀ w ∈ lw_tbl, w.before #[Value.ref b] s = true) ∧ va_X b L xs s s.heap ∧ b < s.heap.size ∧ meth.locks = false ∧ (Jvm.Cond.and given_1 narrow_1).before #[Value.ref b] s = true
set_option maxHeartbeats 4000000 in
set_option maxRecDepth 100000 in
theorem law_loop {p : Program} {l : Launch} {e : Env} {s : State} {m : MethodId} {below : List Frame} {meth : Method} {c : Code} {b Lz : Nat} {xs : Nat → Int32} {dC : Nat → ClassId} {dI : Nat → Nat → Nat} {ad : Nat → Nat} {ca : Nat → ClassId} {ou : Nat} {co : ClassId} {bd : Nat → Nat} {cb : Nat → ClassId} (C : LC p l s m c b Lz xs dC dI ad ca ou co bd cb) (hr : meth.sig.returnType = ret) (hlocks : meth.locks = false) :
    ∀ (N i n r : Nat) (L S : Nat → Nat) (lo : Nat → Bool) (H : Heap) (locs : List Loc) (ls : Array Slot) (kc ks : Nat), 600 - i < N → i ≤ 512 → kc ≤ 12 + 2 * i → ks ≤ 2245 + 12 * i → LI dC dI ad ca ou co bd cb n r L S lo H → va_S (fun q => s.heap.size ≤ q) s.heap H locs → lv_has ls 8 [(4, .int (iI (3 * (i : Int)))), (3, .ref ou), (2, .ref (bd 0)), (1, .ref (ad 0)), (0, .ref b)] → W p l e room_1 s m #[Value.ref b] below meth c H locs kc ks (lw_Z below #[Value.ref b] s) (F0 m 23 ls []) := by
  intro N
  induction N with
  | zero => intro i n r L S lo H locs ls kc ks h; exact absurd h (Nat.not_lt_zero _)
  | succ N ih =>
    intro i n r L S lo H locs ls kc ks hN hi hkc hks hI hS hl
    obtain ⟨hx, hb, hml, hown, hts, hX, hbl, hL9, hK, hE, hDz, hl9⟩ := id C
    refine lv_iload hx hb dL_law_23 (lv_at hl 0 rfl) ?_
    refine lv_aload_n hx hb dL_law_25 rfl (lv_at hl 4 rfl) ?_
    refine va_slen (A := fun q => s.heap.size ≤ q) hx hb hX hbl (Nat.not_le.mpr hbl) hS dL_law_26 ?_
    refine r_top (w := .int (iI (Lz : Int))) (congrArg Value.int (iI_nI Lz).symm) ?_
    refine r_iconst hx hb dL_law_27 ?_
    refine r_isub hx hb dL_law_28 ?_
    refine r_icmp_gt hx hb dL_law_29 (tgt := 886) (by decide) (by omega) (by omega) (fun hgt => ?_) (fun hle => ?_)
    · refine r_iconst hx hb dL_law_886 ?_
      refine va_forget (fun q hq => hS.2.2 q hq) ?_
      refine W.widen (k := 1049) (n := 10515) (by omega) (by omega) ?_
      exact lw_ret hx hb hr hlocks dL_law_887
    · have cont : ∀ (n r : Nat) (L S : Nat → Nat) (lo : Nat → Bool) (H : Heap) (locs : List Loc) (ls : Array Slot), LI dC dI ad ca ou co bd cb n r L S lo H → va_S (fun q => s.heap.size ≤ q) s.heap H locs → lv_has ls 8 [(4, .int (iI (3 * (i : Int)))), (3, .ref ou), (2, .ref (bd 0)), (1, .ref (ad 0)), (0, .ref b)] → W p l e room_1 s m #[Value.ref b] below meth c H locs (kc + 2) (ks + 12) (lw_Z below #[Value.ref b] s) (F0 m 880 ls []) := by
        intro n r L S lo H locs ls hI hS hl
        refine r_iinc (k := 0) hx hb dL_law_880 hl rfl (by decide) rfl (fun ls hl => ?_)
        refine lv_goto hx hb dL_law_883 (tgt := 23) (by decide) ?_
        have hl : lv_has ls 8 [(4, .int (iI (3 * ((i + 1 : Nat) : Int)))), (3, .ref ou), (2, .ref (bd 0)), (1, .ref (ad 0)), (0, .ref b)] := by
          rw [show 3 * ((i + 1 : Nat) : Int) = 3 * (i : Int) + 3 by omega]
          exact hl
        exact ih (i + 1) n r L S lo H locs ls (kc + 2) (ks + 12) (by omega) (by omega) (by omega) (by omega) hI hS hl
      obtain ⟨z0, hz0, ez0⟩ := iI_of (xs (3 * (i : Int)).toNat)
      refine lv_aload_n hx hb dL_law_32 rfl (lv_at hl 4 rfl) ?_
      refine lv_iload hx hb dL_law_33 (lv_at hl 0 rfl) ?_
      refine r_sld hx hb hX hbl (Nat.not_le.mpr hbl) hS (by omega) (by omega) hL9 ez0 dL_law_35 ?_
      refine r_bipush hx hb dL_law_36 (by decide +kernel) ?_
      refine lv_iand hx hb dL_law_38 ?_
      obtain ⟨a, ha, ea⟩ := pk_andE (iI z0) (m := iI 15) 4 (by decide)
      refine r_top (w := .int (iI (a : Int))) (congrArg Value.int (ea.trans (iI_nI a).symm)) ?_
      have ha : a < 16 := ha
      have hcases : a = 0 ∨ a = 1 ∨ a = 2 ∨ a = 3 ∨ a = 4 ∨ a = 5 ∨ a = 6 ∨ a = 7 ∨ a = 8 ∨ a = 9 ∨ a = 10 ∨ a = 11 ∨ a = 12 ∨ 13 ≤ a := by omega
      rcases hcases with rfl | rfl | rfl | rfl | rfl | rfl | rfl | rfl | rfl | rfl | rfl | rfl | rfl | h13
      · refine lv_tableIn hx hb dL_law_39 (off := 65) (tgt := 104) (by decide) (by decide) (by decide) (by decide) ?_
        exact k_begin C hI hS hl (by omega) (by omega) (by omega) (by omega) cont
      · refine lv_tableIn hx hb dL_law_39 (off := 101) (tgt := 140) (by decide) (by decide) (by decide) (by decide) ?_
        exact k_dump C hI hS hl (by omega) (by omega) (by omega) (by omega) cont
      · refine lv_tableIn hx hb dL_law_39 (off := 169) (tgt := 208) (by decide) (by decide) (by decide) (by decide) ?_
        exact k_drop C hI hS hl (by omega) (by omega) (by omega) (by omega) cont
      · refine lv_tableIn hx hb dL_law_39 (off := 205) (tgt := 244) (by decide) (by decide) (by decide) (by decide) ?_
        exact k_chain C hI hS hl (by omega) (by omega) (by omega) (by omega) cont
      · refine lv_tableIn hx hb dL_law_39 (off := 273) (tgt := 312) (by decide) (by decide) (by decide) (by decide) ?_
        exact k_depth C hI hS hl (by omega) (by omega) (by omega) (by omega) cont
      · refine lv_tableIn hx hb dL_law_39 (off := 329) (tgt := 368) (by decide) (by decide) (by decide) (by decide) ?_
        exact k_place C hI hS hl (by omega) (by omega) (by omega) (by omega) cont
      · refine lv_tableIn hx hb dL_law_39 (off := 397) (tgt := 436) (by decide) (by decide) (by decide) (by decide) ?_
        exact k_owner C hI hS hl (by omega) (by omega) (by omega) (by omega) cont
      · refine lv_tableIn hx hb dL_law_39 (off := 465) (tgt := 504) (by decide) (by decide) (by decide) (by decide) ?_
        exact k_needs C hI hS hl (by omega) (by omega) (by omega) (by omega) cont
      · refine lv_tableIn hx hb dL_law_39 (off := 520) (tgt := 559) (by decide) (by decide) (by decide) (by decide) ?_
        exact k_lose C hI hS hl (by omega) (by omega) (by omega) (by omega) cont
      · refine lv_tableIn hx hb dL_law_39 (off := 611) (tgt := 650) (by decide) (by decide) (by decide) (by decide) ?_
        exact k_good C hI hS hl (by omega) (by omega) (by omega) (by omega) cont
      · refine lv_tableIn hx hb dL_law_39 (off := 674) (tgt := 713) (by decide) (by decide) (by decide) (by decide) ?_
        exact k_latest C hI hS hl (by omega) (by omega) (by omega) (by omega) cont
      · refine lv_tableIn hx hb dL_law_39 (off := 730) (tgt := 769) (by decide) (by decide) (by decide) (by decide) ?_
        exact k_spare C hI hS hl (by omega) (by omega) (by omega) (by omega) cont
      · refine lv_tableIn hx hb dL_law_39 (off := 785) (tgt := 824) (by decide) (by decide) (by decide) (by decide) ?_
        exact k_count C hI hS hl (by omega) (by omega) (by omega) (by omega) cont
      · refine lv_tableOut hx hb dL_law_39 (tgt := 880) (Or.inr (by rw [iI_toInt ⟨by omega, by omega⟩]; omega)) (by decide) ?_
        refine W.widen (k := kc + 2) (n := ks + 12) (by omega) (by omega) ?_
        exact cont n r L S lo H locs ls hI hS hl
