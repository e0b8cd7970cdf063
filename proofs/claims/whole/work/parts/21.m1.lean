/-! the reference: its own helpers -/
set_option maxHeartbeats 4000000 in
set_option maxRecDepth 100000 in
theorem n_thrown (l : Launch) (dC : Nat → ClassId) (dI : Nat → Nat → Nat) (ad : Nat → Nat) (ca : Nat → ClassId) (er : Int) (gl gz go gw : Nat → Int) (n vol : Int) : Met l yX1_thrown wsX1_thrown { frames := 0, cells := 0, slots := 0, locals := 0 } (PX (dC, dI) vwCl (yM ca) (wM ad ca er gl gz go gw n vol) [.ref (ad 0)]) (RQi (fun y => y = iI er)) 0 0 nF := by
  refine Met.ofW (cc := cX1_thrown) (maxL := 1) (ret := (some .int)) (by decide) rfl ?_
  intro p e s m args below meth c s₁ B hml hv
  obtain ⟨rfl, hP, hK, hD0⟩ := hv
  have hx := B.exec
  have hb := B.bytes
  have hr := B.returns
  have hts := atoms_spec (ws := wsX1_thrown) B.pre
  have hown : s.vm.findClass RX1 = some m.cls := findClass_of_methodNamed B.named
  have hlocks := B.notSynchronized
  have hw := fun w h => hts w (List.mem_cons_of_mem _ h)
  have hinTX1 : ∀ w ∈ u_ws RX1 TX1 7, w ∈ wsX1_thrown := wA_u wuX1
  have fl27 := hw _ wfX1_27
  have hD := hD0
  obtain ⟨H, hH⟩ : ∃ H, H = s.heap := ⟨_, rfl⟩
  obtain ⟨locs, hlc⟩ : ∃ L : List Loc, L = [] := ⟨_, rfl⟩
  have hS : va_S nF s.heap H locs := by rw [hH, hlc]; exact va_S.rf
  rw [← hH] at hP ⊢
  rw [← hlc]
  have hl := lv_entry ([.ref (ad 0)]) (n := 1) (Nat.le_of_ble_eq_true rfl)
  rw [lg_entry_eq]
  generalize (lg_sl ([.ref (ad 0)]) ++ List.replicate (1 - (lg_sl ([.ref (ad 0)])).length) Slot.unset).toArray = ls at hl ⊢
  have hl : lv_has ls 1 [(0, .ref (ad 0))] := hl
  refine lv_aload_n hx hb dX1_thrown_0 rfl (lv_at hl 0 rfl) ?_
  refine va_get (D := (dC, dI)) (ci := 1) (v := .int (iI er)) (C := RX1) (T := TX1) (N := 7) hx hb hts hinTX1 hown hK hP 0 rfl rfl 0 (by decide) fl27 (fun _ h9 => h9) rfl dX1_thrown_1 ?_
  exact W.iret (v := iI er) hx hb hr (fun t ht hW => ⟨⟨_, (), rfl, rfl, trivial⟩, hS.F ht⟩) hS.2.2 dX1_thrown_4
set_option maxHeartbeats 4000000 in
set_option maxRecDepth 100000 in
theorem n_fails0 (l : Launch) (dC : Nat → ClassId) (dI : Nat → Nat → Nat) (ad : Nat → Nat) (ca : Nat → ClassId) (er : Int) (gl gz go gw : Nat → Int) (n vol why : Int) : Met l yX1_fails wsX1_fails { frames := 0, cells := 0, slots := 0, locals := 0 } (PX (dC, dI) vwCl (yM ca) (wM ad ca er gl gz go gw n vol) [.ref (ad 0), .int (iI 0), .int (iI why)]) (va_Qi (fun (y : Int32) (_ : Unit) => y = iI 0) (fun _ t => va_P (dC, dI) vwCl (wM ad ca 0 gl gz go gw n vol) t.heap) (inW (wM ad ca er gl gz go gw n vol))) 0 0 (inW (wM ad ca er gl gz go gw n vol)) := by
  refine Met.ofW (cc := cX1_fails) (maxL := 3) (ret := (some .boolean)) (by decide) rfl ?_
  intro p e s m args below meth c s₁ B hml hv
  obtain ⟨rfl, hP, hK, hD0⟩ := hv
  have hx := B.exec
  have hb := B.bytes
  have hr := B.returns
  have hts := atoms_spec (ws := wsX1_fails) B.pre
  have hown : s.vm.findClass RX1 = some m.cls := findClass_of_methodNamed B.named
  have hlocks := B.notSynchronized
  have hw := fun w h => hts w (List.mem_cons_of_mem _ h)
  have hinTX1 : ∀ w ∈ u_ws RX1 TX1 7, w ∈ wsX1_fails := wA_u wuX1
  have fl27 := hw _ wfX1_27
  have hD := wD_own hD0
  obtain ⟨A, hAe⟩ : ∃ A, A = inW (wM ad ca er gl gz go gw n vol) := ⟨_, rfl⟩
  rw [← hAe] at hD
  obtain ⟨H, hH⟩ : ∃ H, H = s.heap := ⟨_, rfl⟩
  obtain ⟨locs, hlc⟩ : ∃ L : List Loc, L = [] := ⟨_, rfl⟩
  have hS : va_S A s.heap H locs := by rw [hH, hlc]; exact va_S.rf
  rw [← hH] at hP ⊢
  rw [← hlc]
  have hl := lv_entry ([.ref (ad 0), .int (iI 0), .int (iI why)]) (n := 3) (Nat.le_of_ble_eq_true rfl)
  rw [lg_entry_eq]
  generalize (lg_sl ([.ref (ad 0), .int (iI 0), .int (iI why)]) ++ List.replicate (3 - (lg_sl ([.ref (ad 0), .int (iI 0), .int (iI why)])).length) Slot.unset).toArray = ls at hl ⊢
  have hl : lv_has ls 3 [(0, .ref (ad 0)), (1, .int (iI 0)), (2, .int (iI why))] := hl
  refine lv_aload_n hx hb dX1_fails_0 rfl (lv_at hl 0 rfl) ?_
  refine lv_iload_n hx hb dX1_fails_1 rfl (lv_at hl 1 rfl) ?_
  refine r_if_eq hx hb dX1_fails_2 (tgt := 9) (by decide) (by omega) (fun hk9 => ?_) (fun hk9 => ?_)
  · refine r_iconst hx hb dX1_fails_9 ?_
    refine va_put (D := (dC, dI)) (ci := 1) (v := .int (iI 0)) (ty := .int) (C := RX1) (T := TX1) (N := 7) hx hb hts hinTX1 tyX1 tyX1_ok nmX1 hown hK hP hD hS 0 rfl rfl 0 (by decide) fl27 (fun _ h9 => h9) rfl (by decide +kernel) rfl rfl (Nat.le_of_ble_eq_true rfl) dX1_fails_10 (fun H locs hP hD hS => ?_)
    have hP : va_P (dC, dI) vwCl (wM ad ca 0 gl gz go gw n vol) H := hP
    have hD : va_D A (wM ad ca 0 gl gz go gw n vol) := hD
    refine lv_iload_n hx hb dX1_fails_13 rfl (lv_at hl 1 rfl) ?_
    subst hAe
    exact W.zret (v := iI 0) hx hb hr rfl (fun t ht hW => ⟨⟨_, (), rfl, rfl, by subst ht; exact hP⟩, hS.F ht⟩) hS.2.2 dX1_fails_14
  · exact absurd hk9 (by decide)
set_option maxHeartbeats 4000000 in
set_option maxRecDepth 100000 in
theorem n_fails1 (l : Launch) (dC : Nat → ClassId) (dI : Nat → Nat → Nat) (ad : Nat → Nat) (ca : Nat → ClassId) (er : Int) (gl gz go gw : Nat → Int) (n vol why : Int) : Met l yX1_fails wsX1_fails { frames := 0, cells := 0, slots := 0, locals := 0 } (PX (dC, dI) vwCl (yM ca) (wM ad ca er gl gz go gw n vol) [.ref (ad 0), .int (iI 1), .int (iI why)]) (va_Qi (fun (y : Int32) (_ : Unit) => y = iI 1) (fun _ t => va_P (dC, dI) vwCl (wM ad ca why gl gz go gw n vol) t.heap) (inW (wM ad ca er gl gz go gw n vol))) 0 0 (inW (wM ad ca er gl gz go gw n vol)) := by
  refine Met.ofW (cc := cX1_fails) (maxL := 3) (ret := (some .boolean)) (by decide) rfl ?_
  intro p e s m args below meth c s₁ B hml hv
  obtain ⟨rfl, hP, hK, hD0⟩ := hv
  have hx := B.exec
  have hb := B.bytes
  have hr := B.returns
  have hts := atoms_spec (ws := wsX1_fails) B.pre
  have hown : s.vm.findClass RX1 = some m.cls := findClass_of_methodNamed B.named
  have hlocks := B.notSynchronized
  have hw := fun w h => hts w (List.mem_cons_of_mem _ h)
  have hinTX1 : ∀ w ∈ u_ws RX1 TX1 7, w ∈ wsX1_fails := wA_u wuX1
  have fl27 := hw _ wfX1_27
  have hD := wD_own hD0
  obtain ⟨A, hAe⟩ : ∃ A, A = inW (wM ad ca er gl gz go gw n vol) := ⟨_, rfl⟩
  rw [← hAe] at hD
  obtain ⟨H, hH⟩ : ∃ H, H = s.heap := ⟨_, rfl⟩
  obtain ⟨locs, hlc⟩ : ∃ L : List Loc, L = [] := ⟨_, rfl⟩
  have hS : va_S A s.heap H locs := by rw [hH, hlc]; exact va_S.rf
  rw [← hH] at hP ⊢
  rw [← hlc]
  have hl := lv_entry ([.ref (ad 0), .int (iI 1), .int (iI why)]) (n := 3) (Nat.le_of_ble_eq_true rfl)
  rw [lg_entry_eq]
  generalize (lg_sl ([.ref (ad 0), .int (iI 1), .int (iI why)]) ++ List.replicate (3 - (lg_sl ([.ref (ad 0), .int (iI 1), .int (iI why)])).length) Slot.unset).toArray = ls at hl ⊢
  have hl : lv_has ls 3 [(0, .ref (ad 0)), (1, .int (iI 1)), (2, .int (iI why))] := hl
  refine lv_aload_n hx hb dX1_fails_0 rfl (lv_at hl 0 rfl) ?_
  refine lv_iload_n hx hb dX1_fails_1 rfl (lv_at hl 1 rfl) ?_
  refine r_if_eq hx hb dX1_fails_2 (tgt := 9) (by decide) (by omega) (fun hk9 => ?_) (fun hk9 => ?_)
  · exact absurd hk9 (by decide)
  · refine lv_iload_n hx hb dX1_fails_5 rfl (lv_at hl 2 rfl) ?_
    refine lv_goto hx hb dX1_fails_6 (tgt := 10) (by decide) ?_
    refine va_put (D := (dC, dI)) (ci := 1) (v := .int (iI why)) (ty := .int) (C := RX1) (T := TX1) (N := 7) hx hb hts hinTX1 tyX1 tyX1_ok nmX1 hown hK hP hD hS 0 rfl rfl 0 (by decide) fl27 (fun _ h9 => h9) rfl (by decide +kernel) rfl rfl (Nat.le_of_ble_eq_true rfl) dX1_fails_10 (fun H locs hP hD hS => ?_)
    have hP : va_P (dC, dI) vwCl (wM ad ca why gl gz go gw n vol) H := hP
    have hD : va_D A (wM ad ca why gl gz go gw n vol) := hD
    refine lv_iload_n hx hb dX1_fails_13 rfl (lv_at hl 1 rfl) ?_
    subst hAe
    exact W.zret (v := iI 1) hx hb hr rfl (fun t ht hW => ⟨⟨_, (), rfl, rfl, by subst ht; exact hP⟩, hS.F ht⟩) hS.2.2 dX1_fails_14
set_option maxHeartbeats 4000000 in
set_option maxRecDepth 100000 in
theorem n_none (l : Launch) (dC : Nat → ClassId) (dI : Nat → Nat → Nat) (ad : Nat → Nat) (ca : Nat → ClassId) (er : Int) (gl gz go gw : Nat → Int) (n : Nat) (vol : Int) (q : Int) (hq : iR q) (hn : n ≤ 300) : Met l yX1_none wsX1_none { frames := 0, cells := 0, slots := 0, locals := 0 } (PX (dC, dI) vwCl (yM ca) (wM ad ca er gl gz go gw ((n : Int)) vol) [.ref (ad 0), .int (iI q)]) (RQi (fun y => y = iI (if 0 ≤ q ∧ q < (n : Int) then 0 else 1))) 0 0 nF := by
  refine Met.ofW (cc := cX1_none) (maxL := 2) (ret := (some .boolean)) (by decide) rfl ?_
  intro p e s m args below meth c s₁ B hml hv
  obtain ⟨rfl, hP, hK, hD0⟩ := hv
  have hx := B.exec
  have hb := B.bytes
  have hr := B.returns
  have hts := atoms_spec (ws := wsX1_none) B.pre
  have hown : s.vm.findClass RX1 = some m.cls := findClass_of_methodNamed B.named
  have hlocks := B.notSynchronized
  have hw := fun w h => hts w (List.mem_cons_of_mem _ h)
  have hinTX1 : ∀ w ∈ u_ws RX1 TX1 7, w ∈ wsX1_none := wA_u wuX1
  have fl30 := hw _ wfX1_30
  have hD := hD0
  obtain ⟨H, hH⟩ : ∃ H, H = s.heap := ⟨_, rfl⟩
  obtain ⟨locs, hlc⟩ : ∃ L : List Loc, L = [] := ⟨_, rfl⟩
  have hS : va_S nF s.heap H locs := by rw [hH, hlc]; exact va_S.rf
  rw [← hH] at hP ⊢
  rw [← hlc]
  have hl := lv_entry ([.ref (ad 0), .int (iI q)]) (n := 2) (Nat.le_of_ble_eq_true rfl)
  rw [lg_entry_eq]
  generalize (lg_sl ([.ref (ad 0), .int (iI q)]) ++ List.replicate (2 - (lg_sl ([.ref (ad 0), .int (iI q)])).length) Slot.unset).toArray = ls at hl ⊢
  have hl : lv_has ls 2 [(0, .ref (ad 0)), (1, .int (iI q))] := hl
  refine lv_iload_n hx hb dX1_none_0 rfl (lv_at hl 1 rfl) ?_
  refine r_if_lt hx hb dX1_none_1 (tgt := 12) (by decide) (by omega) (fun hlt => ?_) (fun hge => ?_)
  · refine r_iconst hx hb dX1_none_12 ?_
    refine lv_goto hx hb dX1_none_13 (tgt := 17) (by decide) ?_
    exact W.zret (v := iI 1) hx hb hr rfl (fun t ht hW => ⟨⟨_, (), rfl, by rw [if_neg (by omega)], trivial⟩, hS.F ht⟩) hS.2.2 dX1_none_17
  · refine lv_iload_n hx hb dX1_none_4 rfl (lv_at hl 1 rfl) ?_
    refine lv_aload_n hx hb dX1_none_5 rfl (lv_at hl 0 rfl) ?_
    refine va_get (D := (dC, dI)) (ci := 1) (v := .int (iI ((n : Int)))) (C := RX1) (T := TX1) (N := 7) hx hb hts hinTX1 hown hK hP 0 rfl rfl 5 (by decide) fl30 (fun _ h9 => h9) rfl dX1_none_6 ?_
    refine r_icmp_lt hx hb dX1_none_9 (tgt := 16) (by decide) (by omega) (by omega) (fun hin => ?_) (fun hout => ?_)
    · refine r_iconst hx hb dX1_none_16 ?_
      exact W.zret (v := iI 0) hx hb hr rfl (fun t ht hW => ⟨⟨_, (), rfl, by rw [if_pos (by omega)], trivial⟩, hS.F ht⟩) hS.2.2 dX1_none_17
    · refine r_iconst hx hb dX1_none_12 ?_
      refine lv_goto hx hb dX1_none_13 (tgt := 17) (by decide) ?_
      exact W.zret (v := iI 1) hx hb hr rfl (fun t ht hW => ⟨⟨_, (), rfl, by rw [if_neg (by omega)], trivial⟩, hS.F ht⟩) hS.2.2 dX1_none_17
set_option maxHeartbeats 4000000 in
set_option maxRecDepth 100000 in
theorem n_before (l : Launch) (dC : Nat → ClassId) (dI : Nat → Nat → Nat) (ad : Nat → Nat) (ca : Nat → ClassId) (er : Int) (gl gz go gw : Nat → Int) (n r : Nat) (L S : Nat → Nat) (lo : Nat → Bool) (hok : okS n L S r) (hT : tM n L S lo gl gz go) (d : Nat) (hd : d ≤ n) : Met l yX1_before wsX1_before { frames := 0, cells := 0, slots := 0, locals := 0 } (PX (dC, dI) vwCl (yM ca) (wM ad ca er gl gz go gw ((n : Int)) ((r : Int) + 1)) [.ref (ad 0), .int (iI ((d : Int)))]) (RQi (fun y => y = iI (sm S d : Int))) 0 0 nF := by
  refine Met.ofW (cc := cX1_before) (maxL := 4) (ret := (some .int)) (by decide) rfl ?_
  intro p e s m args below meth c s₁ B hml hv
  obtain ⟨rfl, hP, hK, hD0⟩ := hv
  have hx := B.exec
  have hb := B.bytes
  have hr := B.returns
  have hts := atoms_spec (ws := wsX1_before) B.pre
  have hown : s.vm.findClass RX1 = some m.cls := findClass_of_methodNamed B.named
  have hlocks := B.notSynchronized
  have hw := fun w h => hts w (List.mem_cons_of_mem _ h)
  have hinTX1 : ∀ w ∈ u_ws RX1 TX1 7, w ∈ wsX1_before := wA_u wuX1
  have fl13 := hw _ wfX1_13
  have hD := hD0
  obtain ⟨H, hH⟩ : ∃ H, H = s.heap := ⟨_, rfl⟩
  obtain ⟨locs, hlc⟩ : ∃ L : List Loc, L = [] := ⟨_, rfl⟩
  have hS : va_S nF s.heap H locs := by rw [hH, hlc]; exact va_S.rf
  rw [← hH] at hP ⊢
  rw [← hlc]
  have hl := lv_entry ([.ref (ad 0), .int (iI ((d : Int)))]) (n := 4) (Nat.le_of_ble_eq_true rfl)
  rw [lg_entry_eq]
  generalize (lg_sl ([.ref (ad 0), .int (iI ((d : Int)))]) ++ List.replicate (4 - (lg_sl ([.ref (ad 0), .int (iI ((d : Int)))])).length) Slot.unset).toArray = ls at hl ⊢
  have hl : lv_has ls 4 [(0, .ref (ad 0)), (1, .int (iI ((d : Int))))] := hl
  obtain ⟨ok1, ok2, ok3, ok4, ok5⟩ := id hok
  refine r_iconst hx hb dX1_before_0 ?_
  refine lv_istore_n hx hb dX1_before_1 rfl hl (by decide) rfl (fun ls hl => ?_)
  have hl : lv_has ls 4 [(2, .int (iI 0)), (0, .ref (ad 0)), (1, .int (iI ((d : Int))))] := hl
  refine r_iconst hx hb dX1_before_2 ?_
  refine lv_istore_n hx hb dX1_before_3 rfl hl (by decide) rfl (fun ls hl => ?_)
  have hl : lv_has ls 4 [(3, .int (iI 0)), (2, .int (iI 0)), (0, .ref (ad 0)), (1, .int (iI ((d : Int))))] := hl
  have loop : ∀ (N : Nat) (k : Nat) (ls : Array Slot), d - k < N → (k ≤ d) → lv_has ls 4 [(3, .int (iI ((k : Int)))), (2, .int (iI ((sm S k : Int)))), (0, .ref (ad 0)), (1, .int (iI ((d : Int))))] → W p l e (headSpec wsX1_before { frames := 0, cells := 0, slots := 0, locals := 0 }).room s m ([.ref (ad 0), .int (iI ((d : Int)))]).toArray below meth c H locs 0 0 (MQ below (RQi (fun y => y = iI (sm S d : Int))) ([.ref (ad 0), .int (iI ((d : Int)))]).toArray s 0 0 nF) (F0 m 4 ls []) := by
    intro N
    induction N with
    | zero => intro k ls h; exact absurd h (Nat.not_lt_zero _)
    | succ N ih =>
      intro k ls hN hk hl
      refine lv_iload_n hx hb dX1_before_4 rfl (lv_at hl 0 rfl) ?_
      refine lv_iload_n hx hb dX1_before_5 rfl (lv_at hl 3 rfl) ?_
      refine r_icmp_ge hx hb dX1_before_6 (tgt := 24) (by decide) (by omega) (by omega) (fun hge => ?_) (fun hlt => ?_)
      · have hk0 : k = d := by omega
        subst hk0
        refine lv_iload_n hx hb dX1_before_24 rfl (lv_at hl 1 rfl) ?_
        exact W.iret (v := iI ((sm S k : Int))) hx hb hr (fun t ht hW => ⟨⟨_, (), rfl, rfl, trivial⟩, hS.F ht⟩) hS.2.2 dX1_before_25
      · have ek : ((k : Int)).toNat = k := by omega
        obtain ⟨-, t2⟩ := hT.1 k (by omega)
        refine lv_iload_n hx hb dX1_before_9 rfl (lv_at hl 1 rfl) ?_
        refine lv_aload_n hx hb dX1_before_10 rfl (lv_at hl 2 rfl) ?_
        refine va_get (D := (dC, dI)) (ci := 1) (v := .ref (ad 2)) (C := RX1) (T := TX1) (N := 7) hx hb hts hinTX1 hown hK hP 0 rfl rfl 2 (by decide) fl13 (fun _ h9 => h9) rfl dX1_before_11 ?_
        refine lv_iload_n hx hb dX1_before_14 rfl (lv_at hl 0 rfl) ?_
        refine r_iald hx hb hK hP 2 1 rfl rfl (by omega) (by omega) (by decide) dX1_before_15 ?_
        refine r_topi (b := (S k : Int)) (by rw [ek]; exact t2) ?_
        refine r_iadd hx hb dX1_before_16 ?_
        refine lv_istore_n hx hb dX1_before_17 rfl hl (by decide) rfl (fun ls hl => ?_)
        have hl : lv_has ls 4 [(2, .int (iI (((sm S k : Int)) + ((S k : Int))))), (3, .int (iI ((k : Int)))), (0, .ref (ad 0)), (1, .int (iI ((d : Int))))] := hl
        refine r_iinc (k := 1) hx hb dX1_before_18 hl rfl (by decide) rfl (fun ls hl => ?_)
        have hl : lv_has ls 4 [(3, .int (iI ((k : Int) + 1))), (2, .int (iI (((sm S k : Int)) + ((S k : Int))))), (0, .ref (ad 0)), (1, .int (iI ((d : Int))))] := hl
        refine lv_goto hx hb dX1_before_21 (tgt := 4) (by decide) ?_
        have hl : lv_has ls 4 [(3, .int (iI ((k + 1 : Nat) : Int))), (2, .int (iI (sm S (k + 1) : Int))), (0, .ref (ad 0)), (1, .int (iI (d : Int)))] := by
          rw [show ((k + 1 : Nat) : Int) = (k : Int) + 1 by omega, show (sm S (k + 1) : Int) = (sm S k : Int) + (S k : Int) from Int.natCast_add _ _]
          exact hl
        exact ih (k + 1) ls (by omega) (by omega) hl
  exact loop (d + 1) 0 ls (by omega) (Nat.zero_le d) hl
set_option maxHeartbeats 4000000 in
set_option maxRecDepth 100000 in
theorem n_base (l : Launch) (dC : Nat → ClassId) (dI : Nat → Nat → Nat) (ad : Nat → Nat) (ca : Nat → ClassId) (er : Int) (gl gz go gw : Nat → Int) (n r : Nat) (L S : Nat → Nat) (lo : Nat → Bool) (hok : okS n L S r) (hT : tM n L S lo gl gz go) (d : Nat) (hd : d < n) : Met l yX1_base wsX1_base { frames := 0, cells := 0, slots := 0, locals := 0 } (PX (dC, dI) vwCl (yM ca) (wM ad ca er gl gz go gw ((n : Int)) ((r : Int) + 1)) [.ref (ad 0), .int (iI ((d : Int)))]) (RQi (fun y => y = iI ((bs L d : Int) - 1))) 0 0 nF := by
  refine Met.ofW (cc := cX1_base) (maxL := 3) (ret := (some .int)) (by decide) rfl ?_
  intro p e s m args below meth c s₁ B hml hv
  obtain ⟨rfl, hP, hK, hD0⟩ := hv
  have hx := B.exec
  have hb := B.bytes
  have hr := B.returns
  have hts := atoms_spec (ws := wsX1_base) B.pre
  have hown : s.vm.findClass RX1 = some m.cls := findClass_of_methodNamed B.named
  have hlocks := B.notSynchronized
  have hw := fun w h => hts w (List.mem_cons_of_mem _ h)
  have hinTX1 : ∀ w ∈ u_ws RX1 TX1 7, w ∈ wsX1_base := wA_u wuX1
  have fl7 := hw _ wfX1_7
  have hD := hD0
  obtain ⟨H, hH⟩ : ∃ H, H = s.heap := ⟨_, rfl⟩
  obtain ⟨locs, hlc⟩ : ∃ L : List Loc, L = [] := ⟨_, rfl⟩
  have hS : va_S nF s.heap H locs := by rw [hH, hlc]; exact va_S.rf
  rw [← hH] at hP ⊢
  rw [← hlc]
  have hl := lv_entry ([.ref (ad 0), .int (iI ((d : Int)))]) (n := 3) (Nat.le_of_ble_eq_true rfl)
  rw [lg_entry_eq]
  generalize (lg_sl ([.ref (ad 0), .int (iI ((d : Int)))]) ++ List.replicate (3 - (lg_sl ([.ref (ad 0), .int (iI ((d : Int)))])).length) Slot.unset).toArray = ls at hl ⊢
  have hl : lv_has ls 3 [(0, .ref (ad 0)), (1, .int (iI ((d : Int))))] := hl
  obtain ⟨ok1, ok2, ok3, ok4, ok5⟩ := id hok
  have ed : ((d : Int)).toNat = d := by omega
  obtain ⟨t1, -⟩ := hT.1 d hd
  have hL9 := (ok4 d hd).1
  refine lv_iload_n hx hb dX1_base_0 rfl (lv_at hl 1 rfl) ?_
  refine r_iconst hx hb dX1_base_1 ?_
  refine r_isub hx hb dX1_base_2 ?_
  refine lv_istore_n hx hb dX1_base_3 rfl hl (by decide) rfl (fun ls hl => ?_)
  have hl : lv_has ls 3 [(2, .int (iI (((d : Int)) - 1))), (0, .ref (ad 0)), (1, .int (iI ((d : Int))))] := hl
  have loop : ∀ (N : Nat) (k : Nat) (ls : Array Slot), k < N → (k ≤ d) → (ba L (L d) k = ba L (L d) d) → lv_has ls 3 [(2, .int (iI ((k : Int) - 1))), (0, .ref (ad 0)), (1, .int (iI ((d : Int))))] → W p l e (headSpec wsX1_base { frames := 0, cells := 0, slots := 0, locals := 0 }).room s m ([.ref (ad 0), .int (iI ((d : Int)))]).toArray below meth c H locs 0 0 (MQ below (RQi (fun y => y = iI ((bs L d : Int) - 1))) ([.ref (ad 0), .int (iI ((d : Int)))]).toArray s 0 0 nF) (F0 m 4 ls []) := by
    intro N
    induction N with
    | zero => intro k ls h; exact absurd h (Nat.not_lt_zero _)
    | succ N ih =>
      intro k ls hN hk hb9 hl
      refine lv_iload_n hx hb dX1_base_4 rfl (lv_at hl 0 rfl) ?_
      refine r_if_lt hx hb dX1_base_5 (tgt := 29) (by decide) (by omega) (fun hlt => ?_) (fun hge => ?_)
      · have hk0 : k = 0 := by omega
        refine lv_iload_n hx hb dX1_base_29 rfl (lv_at hl 0 rfl) ?_
        exact W.iret (v := iI ((k : Int) - 1)) hx hb hr (fun t ht hW => ⟨⟨_, (), rfl, by show iI ((k : Int) - 1) = iI ((ba L (L d) d : Int) - 1); rw [← hb9, hk0]; rfl, trivial⟩, hS.F ht⟩) hS.2.2 dX1_base_30
      · obtain ⟨j, hj⟩ : ∃ j, k = j + 1 := ⟨k - 1, by omega⟩
        have ej : ((k : Int) - 1).toNat = j := by omega
        obtain ⟨t3, -⟩ := hT.1 j (by omega)
        have hLj := (ok4 j (by omega)).1
        have eb : ba L (L d) k = if L j < L d then j + 1 else ba L (L d) j := by rw [hj]; rfl
        refine lv_aload_n hx hb dX1_base_8 rfl (lv_at hl 1 rfl) ?_
        refine va_get (D := (dC, dI)) (ci := 1) (v := .ref (ad 1)) (C := RX1) (T := TX1) (N := 7) hx hb hts hinTX1 hown hK hP 0 rfl rfl 1 (by decide) fl7 (fun _ h9 => h9) rfl dX1_base_9 ?_
        refine lv_iload_n hx hb dX1_base_12 rfl (lv_at hl 0 rfl) ?_
        refine r_iald hx hb hK hP 1 0 rfl rfl (by omega) (by omega) (by decide) dX1_base_13 ?_
        refine r_topi (b := (L j : Int)) (by rw [ej]; exact t3) ?_
        refine lv_aload_n hx hb dX1_base_14 rfl (lv_at hl 1 rfl) ?_
        refine va_get (D := (dC, dI)) (ci := 1) (v := .ref (ad 1)) (C := RX1) (T := TX1) (N := 7) hx hb hts hinTX1 hown hK hP 0 rfl rfl 1 (by decide) fl7 (fun _ h9 => h9) rfl dX1_base_15 ?_
        refine lv_iload_n hx hb dX1_base_18 rfl (lv_at hl 2 rfl) ?_
        refine r_iald hx hb hK hP 1 0 rfl rfl (by omega) (by omega) (by decide) dX1_base_19 ?_
        refine r_topi (b := (L d : Int)) (by rw [ed]; exact t1) ?_
        refine r_icmp_lt hx hb dX1_base_20 (tgt := 29) (by decide) (by omega) (by omega) (fun hlt2 => ?_) (fun hge2 => ?_)
        · refine lv_iload_n hx hb dX1_base_29 rfl (lv_at hl 0 rfl) ?_
          exact W.iret (v := iI ((k : Int) - 1)) hx hb hr (fun t ht hW => ⟨⟨_, (), rfl, by show iI ((k : Int) - 1) = iI ((ba L (L d) d : Int) - 1); rw [← hb9, eb, if_pos (by omega), hj], trivial⟩, hS.F ht⟩) hS.2.2 dX1_base_30
        · refine r_iinc (k := 0) hx hb dX1_base_23 hl rfl (by decide) rfl (fun ls hl => ?_)
          have hl : lv_has ls 3 [(2, .int (iI ((k : Int) - 1 + (-1)))), (0, .ref (ad 0)), (1, .int (iI ((d : Int))))] := hl
          refine lv_goto hx hb dX1_base_26 (tgt := 4) (by decide) ?_
          have hl : lv_has ls 3 [(2, .int (iI ((j : Int) - 1))), (0, .ref (ad 0)), (1, .int (iI (d : Int)))] := by rw [show (j : Int) - 1 = (k : Int) - 1 + (-1) by omega]; exact hl
          exact ih j ls (by omega) (by omega) (by rw [← hb9, eb, if_neg (by omega)]) hl
  exact loop (d + 1) d ls (Nat.lt_succ_self _) (Nat.le_refl d) rfl hl
set_option maxHeartbeats 4000000 in
set_option maxRecDepth 100000 in
theorem n_depthOf (l : Launch) (dC : Nat → ClassId) (dI : Nat → Nat → Nat) (ad : Nat → Nat) (ca : Nat → ClassId) (er : Int) (gl gz go gw : Nat → Int) (n r : Nat) (L S : Nat → Nat) (lo : Nat → Bool) (hok : okS n L S r) (hT : tM n L S lo gl gz go) (d : Nat) (hd : d < n) : Met l yX1_depthOf wsX1_depthOf { frames := 1, cells := 0, slots := 0, locals := 22 } (PX (dC, dI) vwCl (yM ca) (wM ad ca er gl gz go gw ((n : Int)) ((r : Int) + 1)) [.ref (ad 0), .int (iI ((d : Int)))]) (RQi (fun y => y = iI (dp L (d + 1) : Int))) 0 0 nF := by
  refine Met.ofW (cc := cX1_depthOf) (maxL := 4) (ret := (some .int)) (by decide) rfl ?_
  intro p e s m args below meth c s₁ B hml hv
  obtain ⟨rfl, hP, hK, hD0⟩ := hv
  have hx := B.exec
  have hb := B.bytes
  have hr := B.returns
  have hts := atoms_spec (ws := wsX1_depthOf) B.pre
  have hown : s.vm.findClass RX1 = some m.cls := findClass_of_methodNamed B.named
  have hlocks := B.notSynchronized
  have hw := fun w h => hts w (List.mem_cons_of_mem _ h)
  have hinTX1 : ∀ w ∈ u_ws RX1 TX1 7, w ∈ wsX1_depthOf := wA_u wuX1
  have hD := hD0
  obtain ⟨H, hH⟩ : ∃ H, H = s.heap := ⟨_, rfl⟩
  obtain ⟨locs, hlc⟩ : ∃ L : List Loc, L = [] := ⟨_, rfl⟩
  have hS : va_S nF s.heap H locs := by rw [hH, hlc]; exact va_S.rf
  rw [← hH] at hP ⊢
  rw [← hlc]
  have hl := lv_entry ([.ref (ad 0), .int (iI ((d : Int)))]) (n := 4) (Nat.le_of_ble_eq_true rfl)
  rw [lg_entry_eq]
  generalize (lg_sl ([.ref (ad 0), .int (iI ((d : Int)))]) ++ List.replicate (4 - (lg_sl ([.ref (ad 0), .int (iI ((d : Int)))])).length) Slot.unset).toArray = ls at hl ⊢
  have hl : lv_has ls 4 [(0, .ref (ad 0)), (1, .int (iI ((d : Int))))] := hl
  obtain ⟨ok1, ok2, ok3, ok4, ok5⟩ := id hok
  refine r_iconst hx hb dX1_depthOf_0 ?_
  refine lv_istore_n hx hb dX1_depthOf_1 rfl hl (by decide) rfl (fun ls hl => ?_)
  have hl : lv_has ls 4 [(2, .int (iI 0)), (0, .ref (ad 0)), (1, .int (iI ((d : Int))))] := hl
  refine lv_iload_n hx hb dX1_depthOf_2 rfl (lv_at hl 2 rfl) ?_
  refine lv_istore_n hx hb dX1_depthOf_3 rfl hl (by decide) rfl (fun ls hl => ?_)
  have hl : lv_has ls 4 [(3, .int (iI ((d : Int)))), (2, .int (iI 0)), (0, .ref (ad 0)), (1, .int (iI ((d : Int))))] := hl
  have loop : ∀ (N : Nat) (k : Nat) (p9 : Nat) (ls : Array Slot) (H : Heap) (locs : List Loc), p9 < N → (p9 ≤ n) → (k + dp L p9 = dp L (d + 1)) → va_P (dC, dI) vwCl (wM ad ca er gl gz go gw ((n : Int)) ((r : Int) + 1)) H → va_S nF s.heap H locs → lv_has ls 4 [(3, .int (iI ((p9 : Int) - 1))), (2, .int (iI ((k : Int)))), (0, .ref (ad 0)), (1, .int (iI ((d : Int))))] → W p l e (headSpec wsX1_depthOf { frames := 1, cells := 0, slots := 0, locals := 22 }).room s m ([.ref (ad 0), .int (iI ((d : Int)))]).toArray below meth c H locs 0 0 (MQ below (RQi (fun y => y = iI (dp L (d + 1) : Int))) ([.ref (ad 0), .int (iI ((d : Int)))]).toArray s 0 0 nF) (F0 m 4 ls []) := by
    intro N
    induction N with
    | zero => intro k p9 ls H locs h; exact absurd h (Nat.not_lt_zero _)
    | succ N ih =>
      intro k p9 ls H locs hN hp hm hP hS hl
      refine lv_iload_n hx hb dX1_depthOf_4 rfl (lv_at hl 0 rfl) ?_
      refine r_if_lt hx hb dX1_depthOf_5 (tgt := 20) (by decide) (by omega) (fun hlt => ?_) (fun hge => ?_)
      · have hk0 : p9 = 0 := by omega
        subst hk0
        rw [dp_0] at hm
        refine lv_iload_n hx hb dX1_depthOf_20 rfl (lv_at hl 1 rfl) ?_
        exact W.iret (v := iI ((k : Int))) hx hb hr (fun t ht hW => ⟨⟨_, (), rfl, by congr 1; omega, trivial⟩, hS.F ht⟩) hS.2.2 dX1_depthOf_21
      · obtain ⟨j, hj⟩ : ∃ j, p9 = j + 1 := ⟨p9 - 1, by omega⟩
        have hbl := bs_le L j
        have hds := dp_s L j
        rw [hj] at hm
        refine r_iinc (k := 1) hx hb dX1_depthOf_8 hl rfl (by decide) rfl (fun ls hl => ?_)
        have hl : lv_has ls 4 [(2, .int (iI ((k : Int) + 1))), (3, .int (iI ((p9 : Int) - 1))), (0, .ref (ad 0)), (1, .int (iI ((d : Int))))] := hl
        refine lv_aload_n hx hb dX1_depthOf_11 rfl (lv_at hl 2 rfl) ?_
        refine lv_iload_n hx hb dX1_depthOf_12 rfl (lv_at hl 1 rfl) ?_
        refine r_topi (b := (j : Int)) (by omega) ?_
        refine ro_z (z := (bs L j : Int) - 1) (va_runV (As := [.int (iI ((j : Int)))]) (rest := []) ⟨hx, hb, hml, hown, hts⟩ (n_base l dC dI ad ca er gl gz go gw n r L S lo hok hT j (by omega)) (cwV 1 hts (gV wlX1_45 wo_X1_base wz_X1_base wi_2 wcX1_base) rfl rfl rfl (by decide +kernel) ⟨Nat.le_of_ble_eq_true rfl, Nat.le_of_ble_eq_true rfl⟩) (PX_V (q0 := 0) (ci := 1) hP hK hD rfl rfl) rfl rfl hl.1 rfl (lv_room (Nat.le_of_ble_eq_true rfl)) dX1_depthOf_13 ⟨Nat.le_of_ble_eq_true rfl, Nat.le_of_ble_eq_true rfl⟩) hS hP (fun H locs hP hS => ?_)
        refine lv_istore_n hx hb dX1_depthOf_16 rfl hl (by decide) rfl (fun ls hl => ?_)
        have hl : lv_has ls 4 [(3, .int (iI ((bs L j : Int) - 1))), (2, .int (iI ((k : Int) + 1))), (0, .ref (ad 0)), (1, .int (iI ((d : Int))))] := hl
        refine lv_goto hx hb dX1_depthOf_17 (tgt := 4) (by decide) ?_
        have hl : lv_has ls 4 [(3, .int (iI ((bs L j : Int) - 1))), (2, .int (iI ((k + 1 : Nat) : Int))), (0, .ref (ad 0)), (1, .int (iI (d : Int)))] := by
          rw [show ((k + 1 : Nat) : Int) = (k : Int) + 1 by omega]
          exact hl
        exact ih (k + 1) (bs L j) ls H locs (by omega) (by omega) (by omega) hP hS hl
  have hl : lv_has ls 4 [(3, .int (iI (((d + 1 : Nat) : Int) - 1))), (2, .int (iI ((0 : Nat) : Int))), (0, .ref (ad 0)), (1, .int (iI (d : Int)))] := by
    rw [show ((d + 1 : Nat) : Int) - 1 = (d : Int) by omega]
    exact hl
  exact loop (d + 2) 0 (d + 1) ls H locs (Nat.lt_succ_self _) (by omega) (Nat.zero_add _) hP hS hl
set_option maxHeartbeats 4000000 in
set_option maxRecDepth 100000 in
theorem n_written (l : Launch) (dC : Nat → ClassId) (dI : Nat → Nat → Nat) (ad : Nat → Nat) (ca : Nat → ClassId) (er : Int) (gl gz go gw : Nat → Int) (n r : Nat) (L S : Nat → Nat) (lo : Nat → Bool) (hok : okS n L S r) (hT : tM n L S lo gl gz go) : Met l yX1_written wsX1_written { frames := 1, cells := 0, slots := 0, locals := 23 } (PX (dC, dI) vwCl (yM ca) (wM ad ca er gl gz go gw ((n : Int)) ((r : Int) + 1)) [.ref (ad 0)]) (RQi (fun y => y = iI (wr S r n : Int))) 0 0 nF := by
  refine Met.ofW (cc := cX1_written) (maxL := 1) (ret := (some .int)) (by decide) rfl ?_
  intro p e s m args below meth c s₁ B hml hv
  obtain ⟨rfl, hP, hK, hD0⟩ := hv
  have hx := B.exec
  have hb := B.bytes
  have hr := B.returns
  have hts := atoms_spec (ws := wsX1_written) B.pre
  have hown : s.vm.findClass RX1 = some m.cls := findClass_of_methodNamed B.named
  have hlocks := B.notSynchronized
  have hw := fun w h => hts w (List.mem_cons_of_mem _ h)
  have hinTX1 : ∀ w ∈ u_ws RX1 TX1 7, w ∈ wsX1_written := wA_u wuX1
  have fl30 := hw _ wfX1_30
  have fl23 := hw _ wfX1_23
  have hD := hD0
  obtain ⟨H, hH⟩ : ∃ H, H = s.heap := ⟨_, rfl⟩
  obtain ⟨locs, hlc⟩ : ∃ L : List Loc, L = [] := ⟨_, rfl⟩
  have hS : va_S nF s.heap H locs := by rw [hH, hlc]; exact va_S.rf
  rw [← hH] at hP ⊢
  rw [← hlc]
  have hl := lv_entry ([.ref (ad 0)]) (n := 1) (Nat.le_of_ble_eq_true rfl)
  rw [lg_entry_eq]
  generalize (lg_sl ([.ref (ad 0)]) ++ List.replicate (1 - (lg_sl ([.ref (ad 0)])).length) Slot.unset).toArray = ls at hl ⊢
  have hl : lv_has ls 1 [(0, .ref (ad 0))] := hl
  obtain ⟨ok1, ok2, ok3, ok4, ok5⟩ := id hok
  have e9 : ((sm S n : Int) + ((r : Int) + 1) - 2) / (r : Int) = (wr S r n : Int) := by
    unfold wr
    rw [Int.natCast_ediv]
    congr 1
    omega
  refine lv_aload_n hx hb dX1_written_0 rfl (lv_at hl 0 rfl) ?_
  refine lv_aload_n hx hb dX1_written_1 rfl (lv_at hl 0 rfl) ?_
  refine va_get (D := (dC, dI)) (ci := 1) (v := .int (iI ((n : Int)))) (C := RX1) (T := TX1) (N := 7) hx hb hts hinTX1 hown hK hP 0 rfl rfl 5 (by decide) fl30 (fun _ h9 => h9) rfl dX1_written_2 ?_
  refine ro_z (z := (sm S n : Int)) (va_runV (As := [.int (iI ((n : Int)))]) (rest := []) ⟨hx, hb, hml, hown, hts⟩ (n_before l dC dI ad ca er gl gz go gw n r L S lo hok hT n (Nat.le_refl n)) (cwV 1 hts (gV wlX1_37 wo_X1_before wz_X1_before wi_2 wcX1_before) rfl rfl rfl (by decide +kernel) ⟨Nat.le_of_ble_eq_true rfl, Nat.le_of_ble_eq_true rfl⟩) (PX_V (q0 := 0) (ci := 1) hP hK hD rfl rfl) rfl rfl hl.1 rfl (lv_room (Nat.le_of_ble_eq_true rfl)) dX1_written_5 ⟨Nat.le_of_ble_eq_true rfl, Nat.le_of_ble_eq_true rfl⟩) hS hP (fun H locs hP hS => ?_)
  refine lv_aload_n hx hb dX1_written_8 rfl (lv_at hl 0 rfl) ?_
  refine va_get (D := (dC, dI)) (ci := 1) (v := .int (iI ((r : Int) + 1))) (C := RX1) (T := TX1) (N := 7) hx hb hts hinTX1 hown hK hP 0 rfl rfl 6 (by decide) fl23 (fun _ h9 => h9) rfl dX1_written_9 ?_
  refine r_iadd hx hb dX1_written_12 ?_
  refine r_iconst hx hb dX1_written_13 ?_
  refine r_isub hx hb dX1_written_14 ?_
  refine lv_aload_n hx hb dX1_written_15 rfl (lv_at hl 0 rfl) ?_
  refine va_get (D := (dC, dI)) (ci := 1) (v := .int (iI ((r : Int) + 1))) (C := RX1) (T := TX1) (N := 7) hx hb hts hinTX1 hown hK hP 0 rfl rfl 6 (by decide) fl23 (fun _ h9 => h9) rfl dX1_written_16 ?_
  refine r_iconst hx hb dX1_written_19 ?_
  refine r_isub hx hb dX1_written_20 ?_
  refine r_topi (b := (r : Int)) (by omega) ?_
  refine r_idiv hx hb dX1_written_21 (by omega) (by omega) (by omega) (by omega) ?_
  exact W.iret (v := iI (((((sm S n : Int)) + ((r : Int) + 1)) - 2) / ((r : Int)))) hx hb hr (fun t ht hW => ⟨⟨_, (), rfl, by rw [e9], trivial⟩, hS.F ht⟩) hS.2.2 dX1_written_22
set_option maxHeartbeats 4000000 in
set_option maxRecDepth 100000 in
theorem n_nothing (l : Launch) (dC : Nat → ClassId) (dI : Nat → Nat → Nat) (ad : Nat → Nat) (ca : Nat → ClassId) (er : Int) (gl gz go gw : Nat → Int) (n vol : Int) : Met l yX1_nothing wsX1_nothing { frames := 0, cells := 0, slots := 0, locals := 0 } (PX (dC, dI) vwCl (yM ca) (wM ad ca er gl gz go gw n vol) [.ref (ad 0)]) (va_Qv (fun (g9 : Nat → Int) => ∀ v, v < 64 → g9 v = 0) (fun g9 t => va_P (dC, dI) vwCl (wM ad ca er gl gz go g9 n vol) t.heap) (inW (wM ad ca er gl gz go gw n vol))) 0 0 (inW (wM ad ca er gl gz go gw n vol)) := by
  refine Met.ofW (cc := cX1_nothing) (maxL := 2) (ret := none) (by decide) rfl ?_
  intro p e s m args below meth c s₁ B hml hv
  obtain ⟨rfl, hP, hK, hD0⟩ := hv
  have hx := B.exec
  have hb := B.bytes
  have hr := B.returns
  have hts := atoms_spec (ws := wsX1_nothing) B.pre
  have hown : s.vm.findClass RX1 = some m.cls := findClass_of_methodNamed B.named
  have hlocks := B.notSynchronized
  have hw := fun w h => hts w (List.mem_cons_of_mem _ h)
  have hinTX1 : ∀ w ∈ u_ws RX1 TX1 7, w ∈ wsX1_nothing := wA_u wuX1
  have fl20 := hw _ wfX1_20
  have hD := wD_own hD0
  obtain ⟨A, hAe⟩ : ∃ A, A = inW (wM ad ca er gl gz go gw n vol) := ⟨_, rfl⟩
  rw [← hAe] at hD
  obtain ⟨H, hH⟩ : ∃ H, H = s.heap := ⟨_, rfl⟩
  obtain ⟨locs, hlc⟩ : ∃ L : List Loc, L = [] := ⟨_, rfl⟩
  have hS : va_S A s.heap H locs := by rw [hH, hlc]; exact va_S.rf
  rw [← hH] at hP ⊢
  rw [← hlc]
  have hl := lv_entry ([.ref (ad 0)]) (n := 2) (Nat.le_of_ble_eq_true rfl)
  rw [lg_entry_eq]
  generalize (lg_sl ([.ref (ad 0)]) ++ List.replicate (2 - (lg_sl ([.ref (ad 0)])).length) Slot.unset).toArray = ls at hl ⊢
  have hl : lv_has ls 2 [(0, .ref (ad 0))] := hl
  refine r_iconst hx hb dX1_nothing_0 ?_
  refine lv_istore_n hx hb dX1_nothing_1 rfl hl (by decide) rfl (fun ls hl => ?_)
  have hl : lv_has ls 2 [(1, .int (iI 0)), (0, .ref (ad 0))] := hl
  have loop : ∀ (N : Nat) (k : Nat) (g1 : Nat → Int) (ls : Array Slot) (H : Heap) (locs : List Loc), 64 - k < N → (k ≤ 64) → (∀ j, j < k → g1 j = 0) → va_P (dC, dI) vwCl (wM ad ca er gl gz go g1 n vol) H → va_D A (wM ad ca er gl gz go g1 n vol) → va_S A s.heap H locs → lv_has ls 2 [(1, .int (iI ((k : Int)))), (0, .ref (ad 0))] → W p l e (headSpec wsX1_nothing { frames := 0, cells := 0, slots := 0, locals := 0 }).room s m ([.ref (ad 0)]).toArray below meth c H locs 0 0 (MQ below (va_Qv (fun (g9 : Nat → Int) => ∀ v, v < 64 → g9 v = 0) (fun g9 t => va_P (dC, dI) vwCl (wM ad ca er gl gz go g9 n vol) t.heap) (inW (wM ad ca er gl gz go gw n vol))) ([.ref (ad 0)]).toArray s 0 0 (inW (wM ad ca er gl gz go gw n vol))) (F0 m 2 ls []) := by
    intro N
    induction N with
    | zero => intro k g1 ls H locs h; exact absurd h (Nat.not_lt_zero _)
    | succ N ih =>
      intro k g1 ls H locs hN hk h9 hP hD hS hl
      refine lv_iload_n hx hb dX1_nothing_2 rfl (lv_at hl 0 rfl) ?_
      refine r_bipush hx hb dX1_nothing_3 (by decide +kernel) ?_
      refine r_icmp_ge hx hb dX1_nothing_5 (tgt := 21) (by decide) (by omega) (by omega) (fun hge => ?_) (fun hlt => ?_)
      · have hk0 : k = 64 := by omega
        subst hk0
        subst hAe
        exact W.vret hx hb hr (fun t ht hW => ⟨⟨g1, rfl, h9, by subst ht; exact hP⟩, hS.F ht⟩) hS.2.2 dX1_nothing_21
      · refine lv_aload_n hx hb dX1_nothing_8 rfl (lv_at hl 1 rfl) ?_
        refine va_get (D := (dC, dI)) (ci := 1) (v := .ref (ad 4)) (C := RX1) (T := TX1) (N := 7) hx hb hts hinTX1 hown hK hP 0 rfl rfl 4 (by decide) fl20 (fun _ h9 => h9) rfl dX1_nothing_9 ?_
        refine lv_iload_n hx hb dX1_nothing_12 rfl (lv_at hl 0 rfl) ?_
        refine r_iconst hx hb dX1_nothing_13 ?_
        refine r_zast hx hb hK hP hD hS 4 3 rfl rfl (by omega) (by omega) (by decide) (by omega) dX1_nothing_14 (fun H locs hP hD hS => ?_)
        have hP : va_P (dC, dI) vwCl (wM ad ca er gl gz go (uZ g1 ((k : Int)).toNat 0) n vol) H := hP
        have hD : va_D A (wM ad ca er gl gz go (uZ g1 ((k : Int)).toNat 0) n vol) := hD
        refine r_iinc (k := 0) hx hb dX1_nothing_15 hl rfl (by decide) rfl (fun ls hl => ?_)
        have hl : lv_has ls 2 [(1, .int (iI ((k : Int) + 1))), (0, .ref (ad 0))] := hl
        refine lv_goto hx hb dX1_nothing_18 (tgt := 2) (by decide) ?_
        have hl : lv_has ls 2 [(1, .int (iI ((k + 1 : Nat) : Int))), (0, .ref (ad 0))] := by
          rw [show ((k + 1 : Nat) : Int) = (k : Int) + 1 by omega]
          exact hl
        exact ih (k + 1) (uZ g1 ((k : Int)).toNat 0) ls H locs (by omega) (by omega) (uZ_all h9) hP hD hS hl
  exact loop (65) 0 gw ls H locs (by omega) (by omega) (fun j h => absurd h (Nat.not_lt_zero j)) hP hD hS hl
set_option maxHeartbeats 4000000 in
set_option maxRecDepth 100000 in
theorem n_want (l : Launch) (dC : Nat → ClassId) (dI : Nat → Nat → Nat) (ad : Nat → Nat) (ca : Nat → ClassId) (er : Int) (gl gz go gw : Nat → Int) (n r : Nat) (L S : Nat → Nat) (lo : Nat → Bool) (hok : okS n L S r) (hT : tM n L S lo gl gz go) (d : Nat) (hd : d < n) (wa : Nat → Bool) (hwa : ∀ v, v < 64 → gw v = b2 (wa v)) : Met l yX1_want wsX1_want { frames := 1, cells := 0, slots := 0, locals := 23 } (PX (dC, dI) vwCl (yM ca) (wM ad ca er gl gz go gw ((n : Int)) ((r : Int) + 1)) [.ref (ad 0), .int (iI ((d : Int)))]) (va_Qv (fun (g9 : Nat → Int) => ∀ v, v < 64 → g9 v = b2 (wa v || nd L S r v (d + 1))) (fun g9 t => va_P (dC, dI) vwCl (wM ad ca er gl gz go g9 ((n : Int)) ((r : Int) + 1)) t.heap) (inW (wM ad ca er gl gz go gw ((n : Int)) ((r : Int) + 1)))) 0 0 (inW (wM ad ca er gl gz go gw ((n : Int)) ((r : Int) + 1))) := by
  refine Met.ofW (cc := cX1_want) (maxL := 5) (ret := none) (by decide) rfl ?_
  intro p e s m args below meth c s₁ B hml hv
  obtain ⟨rfl, hP, hK, hD0⟩ := hv
  have hx := B.exec
  have hb := B.bytes
  have hr := B.returns
  have hts := atoms_spec (ws := wsX1_want) B.pre
  have hown : s.vm.findClass RX1 = some m.cls := findClass_of_methodNamed B.named
  have hlocks := B.notSynchronized
  have hw := fun w h => hts w (List.mem_cons_of_mem _ h)
  have hinTX1 : ∀ w ∈ u_ws RX1 TX1 7, w ∈ wsX1_want := wA_u wuX1
  have fl23 := hw _ wfX1_23
  have fl13 := hw _ wfX1_13
  have fl20 := hw _ wfX1_20
  have hD := wD_own hD0
  obtain ⟨A, hAe⟩ : ∃ A, A = inW (wM ad ca er gl gz go gw ((n : Int)) ((r : Int) + 1)) := ⟨_, rfl⟩
  rw [← hAe] at hD
  obtain ⟨H, hH⟩ : ∃ H, H = s.heap := ⟨_, rfl⟩
  obtain ⟨locs, hlc⟩ : ∃ L : List Loc, L = [] := ⟨_, rfl⟩
  have hS : va_S A s.heap H locs := by rw [hH, hlc]; exact va_S.rf
  rw [← hH] at hP ⊢
  rw [← hlc]
  have hl := lv_entry ([.ref (ad 0), .int (iI ((d : Int)))]) (n := 5) (Nat.le_of_ble_eq_true rfl)
  rw [lg_entry_eq]
  generalize (lg_sl ([.ref (ad 0), .int (iI ((d : Int)))]) ++ List.replicate (5 - (lg_sl ([.ref (ad 0), .int (iI ((d : Int)))])).length) Slot.unset).toArray = ls at hl ⊢
  have hl : lv_has ls 5 [(0, .ref (ad 0)), (1, .int (iI ((d : Int))))] := hl
  obtain ⟨ok1, ok2, ok3, ok4, ok5⟩ := id hok
  refine lv_iload_n hx hb dX1_want_0 rfl (lv_at hl 1 rfl) ?_
  refine lv_istore_n hx hb dX1_want_1 rfl hl (by decide) rfl (fun ls hl => ?_)
  have hl : lv_has ls 5 [(2, .int (iI ((d : Int)))), (0, .ref (ad 0)), (1, .int (iI ((d : Int))))] := hl
  have loop : ∀ (N : Nat) (p9 : Nat) (g1 : Nat → Int) (w1 : Nat → Bool) (ls : Array Slot) (H : Heap) (locs : List Loc), p9 < N → (p9 ≤ n) → (∀ v, v < 64 → g1 v = b2 (w1 v)) → (∀ v, v < 64 → (w1 v || nd L S r v p9) = (wa v || nd L S r v (d + 1))) → va_P (dC, dI) vwCl (wM ad ca er gl gz go g1 ((n : Int)) ((r : Int) + 1)) H → va_D A (wM ad ca er gl gz go g1 ((n : Int)) ((r : Int) + 1)) → va_S A s.heap H locs → lv_has ls 5 [(2, .int (iI ((p9 : Int) - 1))), (0, .ref (ad 0)), (1, .int (iI ((d : Int))))] → W p l e (headSpec wsX1_want { frames := 1, cells := 0, slots := 0, locals := 23 }).room s m ([.ref (ad 0), .int (iI ((d : Int)))]).toArray below meth c H locs 0 0 (MQ below (va_Qv (fun (g9 : Nat → Int) => ∀ v, v < 64 → g9 v = b2 (wa v || nd L S r v (d + 1))) (fun g9 t => va_P (dC, dI) vwCl (wM ad ca er gl gz go g9 ((n : Int)) ((r : Int) + 1)) t.heap) (inW (wM ad ca er gl gz go gw ((n : Int)) ((r : Int) + 1)))) ([.ref (ad 0), .int (iI ((d : Int)))]).toArray s 0 0 (inW (wM ad ca er gl gz go gw ((n : Int)) ((r : Int) + 1)))) (F0 m 2 ls []) := by
    intro N
    induction N with
    | zero => intro p9 g1 w1 ls H locs h; exact absurd h (Nat.not_lt_zero _)
    | succ N ih =>
      intro p9 g1 w1 ls H locs hN hp h9 hn9 hP hD hS hl
      refine lv_iload_n hx hb dX1_want_2 rfl (lv_at hl 0 rfl) ?_
      refine r_if_lt hx hb dX1_want_3 (tgt := 67) (by decide) (by omega) (fun hlt => ?_) (fun hge => ?_)
      · have hk0 : p9 = 0 := by omega
        subst hk0
        subst hAe
        exact W.vret hx hb hr (fun t ht hW => ⟨⟨g1, rfl, fun v hv => by rw [h9 v hv, ← hn9 v hv, nd_0, Bool.or_false], by subst ht; exact hP⟩, hS.F ht⟩) hS.2.2 dX1_want_67
      · obtain ⟨j, hj⟩ : ∃ j, p9 = j + 1 := ⟨p9 - 1, by omega⟩
        have ej : ((p9 : Int) - 1).toNat = j := by omega
        have hbl := bs_le L j
        obtain ⟨-, t2⟩ := hT.1 j (by omega)
        obtain ⟨-, hs1, hs2⟩ := ok4 j (by omega)
        have hsm : sm S (j + 1) ≤ sm S n := sm_mono (by omega)
        have hsm2 : sm S (j + 1) = sm S j + S j := rfl
        have e1 : (sm S j : Int) / (r : Int) = ((sm S j / r : Nat) : Int) := (Int.natCast_ediv _ _).symm
        have e2 : ((sm S j : Int) + (S j : Int) - 1) / (r : Int) = (((sm S j + S j - 1) / r : Nat) : Int) := by
          rw [Int.natCast_ediv]
          congr 1
          omega
        have v1 : sm S j / r < 64 := vo_lt (by omega)
        have v2 : (sm S j + S j - 1) / r < 64 := vo_lt (by omega)
        have v3 : sm S j / r ≤ (sm S j + S j - 1) / r := Nat.div_le_div_right (by omega)
        refine lv_aload_n hx hb dX1_want_6 rfl (lv_at hl 1 rfl) ?_
        refine lv_iload_n hx hb dX1_want_7 rfl (lv_at hl 0 rfl) ?_
        refine r_topi (b := (j : Int)) (by omega) ?_
        refine ro_z (z := (sm S j : Int)) (va_runV (As := [.int (iI ((j : Int)))]) (rest := []) ⟨hx, hb, hml, hown, hts⟩ (n_before l dC dI ad ca er gl gz go g1 n r L S lo hok hT j (by omega)) (cwV 1 hts (gV wlX1_37 wo_X1_before wz_X1_before wi_2 wcX1_before) rfl rfl rfl (by decide +kernel) ⟨Nat.le_of_ble_eq_true rfl, Nat.le_of_ble_eq_true rfl⟩) (PX_V (q0 := 0) (ci := 1) hP hK hD rfl rfl) rfl rfl hl.1 rfl (lv_room (Nat.le_of_ble_eq_true rfl)) dX1_want_8 ⟨Nat.le_of_ble_eq_true rfl, Nat.le_of_ble_eq_true rfl⟩) hS hP (fun H locs hP hS => ?_)
        refine lv_istore_n hx hb dX1_want_11 rfl hl (by decide) rfl (fun ls hl => ?_)
        have hl : lv_has ls 5 [(3, .int (iI ((sm S j : Int)))), (2, .int (iI ((p9 : Int) - 1))), (0, .ref (ad 0)), (1, .int (iI ((d : Int))))] := hl
        refine lv_iload_n hx hb dX1_want_12 rfl (lv_at hl 0 rfl) ?_
        refine lv_aload_n hx hb dX1_want_13 rfl (lv_at hl 2 rfl) ?_
        refine va_get (D := (dC, dI)) (ci := 1) (v := .int (iI ((r : Int) + 1))) (C := RX1) (T := TX1) (N := 7) hx hb hts hinTX1 hown hK hP 0 rfl rfl 6 (by decide) fl23 (fun _ h9 => h9) rfl dX1_want_14 ?_
        refine r_iconst hx hb dX1_want_17 ?_
        refine r_isub hx hb dX1_want_18 ?_
        refine r_topi (b := (r : Int)) (by omega) ?_
        refine r_idiv hx hb dX1_want_19 (by omega) (by omega) (by omega) (by omega) ?_
        refine r_topi (b := ((sm S j / r : Nat) : Int)) (e1) ?_
        refine lv_istore hx hb dX1_want_20 hl (by decide) rfl (fun ls hl => ?_)
        have hl : lv_has ls 5 [(4, .int (iI (((sm S j / r : Nat) : Int)))), (3, .int (iI ((sm S j : Int)))), (2, .int (iI ((p9 : Int) - 1))), (0, .ref (ad 0)), (1, .int (iI ((d : Int))))] := hl
        have ih0 := ih
        have loop2 : ∀ (N : Nat) (v : Nat) (g2 : Nat → Int) (ls : Array Slot) (H : Heap) (locs : List Loc), 64 - v < N → (sm S j / r ≤ v) → (v ≤ (sm S j + S j - 1) / r + 1) → (∀ j9, j9 < 64 → g2 j9 = b2 (w1 j9 || (decide (sm S j / r ≤ j9) && decide (j9 < v)))) → va_P (dC, dI) vwCl (wM ad ca er gl gz go g2 ((n : Int)) ((r : Int) + 1)) H → va_D A (wM ad ca er gl gz go g2 ((n : Int)) ((r : Int) + 1)) → va_S A s.heap H locs → lv_has ls 5 [(4, .int (iI ((v : Int)))), (3, .int (iI ((sm S j : Int)))), (2, .int (iI ((p9 : Int) - 1))), (0, .ref (ad 0)), (1, .int (iI ((d : Int))))] → W p l e (headSpec wsX1_want { frames := 1, cells := 0, slots := 0, locals := 23 }).room s m ([.ref (ad 0), .int (iI ((d : Int)))]).toArray below meth c H locs 0 0 (MQ below (va_Qv (fun (g9 : Nat → Int) => ∀ v, v < 64 → g9 v = b2 (wa v || nd L S r v (d + 1))) (fun g9 t => va_P (dC, dI) vwCl (wM ad ca er gl gz go g9 ((n : Int)) ((r : Int) + 1)) t.heap) (inW (wM ad ca er gl gz go gw ((n : Int)) ((r : Int) + 1)))) ([.ref (ad 0), .int (iI ((d : Int)))]).toArray s 0 0 (inW (wM ad ca er gl gz go gw ((n : Int)) ((r : Int) + 1)))) (F0 m 22 ls []) := by
          intro N
          induction N with
          | zero => intro v g2 ls H locs h; exact absurd h (Nat.not_lt_zero _)
          | succ N ih =>
            intro v g2 ls H locs hN hv0 hv1 hi9 hP hD hS hl
            refine lv_iload hx hb dX1_want_22 (lv_at hl 0 rfl) ?_
            refine lv_iload_n hx hb dX1_want_24 rfl (lv_at hl 1 rfl) ?_
            refine lv_aload_n hx hb dX1_want_25 rfl (lv_at hl 3 rfl) ?_
            refine va_get (D := (dC, dI)) (ci := 1) (v := .ref (ad 2)) (C := RX1) (T := TX1) (N := 7) hx hb hts hinTX1 hown hK hP 0 rfl rfl 2 (by decide) fl13 (fun _ h9 => h9) rfl dX1_want_26 ?_
            refine lv_iload_n hx hb dX1_want_29 rfl (lv_at hl 2 rfl) ?_
            refine r_iald hx hb hK hP 2 1 rfl rfl (by omega) (by omega) (by decide) dX1_want_30 ?_
            refine r_topi (b := (S j : Int)) (by rw [ej]; exact t2) ?_
            refine r_iadd hx hb dX1_want_31 ?_
            refine r_iconst hx hb dX1_want_32 ?_
            refine r_isub hx hb dX1_want_33 ?_
            refine lv_aload_n hx hb dX1_want_34 rfl (lv_at hl 3 rfl) ?_
            refine va_get (D := (dC, dI)) (ci := 1) (v := .int (iI ((r : Int) + 1))) (C := RX1) (T := TX1) (N := 7) hx hb hts hinTX1 hown hK hP 0 rfl rfl 6 (by decide) fl23 (fun _ h9 => h9) rfl dX1_want_35 ?_
            refine r_iconst hx hb dX1_want_38 ?_
            refine r_isub hx hb dX1_want_39 ?_
            refine r_topi (b := (r : Int)) (by omega) ?_
            refine r_idiv hx hb dX1_want_40 (by omega) (by omega) (by omega) (by omega) ?_
            refine r_topi (b := (((sm S j + S j - 1) / r : Nat) : Int)) (e2) ?_
            refine r_icmp_gt hx hb dX1_want_41 (tgt := 58) (by decide) (by omega) (by omega) (fun hgt => ?_) (fun hle => ?_)
            · have hv9 : v = (sm S j + S j - 1) / r + 1 := by omega
              refine lv_aload_n hx hb dX1_want_58 rfl (lv_at hl 3 rfl) ?_
              refine lv_iload_n hx hb dX1_want_59 rfl (lv_at hl 2 rfl) ?_
              refine r_topi (b := (j : Int)) (by omega) ?_
              refine ro_z (z := (bs L j : Int) - 1) (va_runV (As := [.int (iI ((j : Int)))]) (rest := []) ⟨hx, hb, hml, hown, hts⟩ (n_base l dC dI ad ca er gl gz go g2 n r L S lo hok hT j (by omega)) (cwV 1 hts (gV wlX1_45 wo_X1_base wz_X1_base wi_2 wcX1_base) rfl rfl rfl (by decide +kernel) ⟨Nat.le_of_ble_eq_true rfl, Nat.le_of_ble_eq_true rfl⟩) (PX_V (q0 := 0) (ci := 1) hP hK hD rfl rfl) rfl rfl hl.1 rfl (lv_room (Nat.le_of_ble_eq_true rfl)) dX1_want_60 ⟨Nat.le_of_ble_eq_true rfl, Nat.le_of_ble_eq_true rfl⟩) hS hP (fun H locs hP hS => ?_)
              refine lv_istore_n hx hb dX1_want_63 rfl hl (by decide) rfl (fun ls hl => ?_)
              have hl : lv_has ls 5 [(2, .int (iI ((bs L j : Int) - 1))), (4, .int (iI ((v : Int)))), (3, .int (iI ((sm S j : Int)))), (0, .ref (ad 0)), (1, .int (iI ((d : Int))))] := hl
              refine lv_goto hx hb dX1_want_64 (tgt := 2) (by decide) ?_
              have hl : lv_has ls 5 [(2, .int (iI ((bs L j : Int) - 1))), (0, .ref (ad 0)), (1, .int (iI (d : Int)))] := lv_sub hl [0, 3, 4] rfl
              exact ih0 (bs L j) g2 (fun v => w1 v || onV S r j v) ls H locs (by omega) (by omega) (fun v9 hv8 => by rw [hi9 v9 hv8, hv9]; congr 1; congr 1; unfold onV; congr 1; exact decide_eq_decide.mpr (by omega)) (fun v9 hv8 => by rw [Bool.or_assoc, ← nd_s, ← hj]; exact hn9 v9 hv8) hP hD hS hl
            · refine lv_aload_n hx hb dX1_want_44 rfl (lv_at hl 3 rfl) ?_
              refine va_get (D := (dC, dI)) (ci := 1) (v := .ref (ad 4)) (C := RX1) (T := TX1) (N := 7) hx hb hts hinTX1 hown hK hP 0 rfl rfl 4 (by decide) fl20 (fun _ h9 => h9) rfl dX1_want_45 ?_
              refine lv_iload hx hb dX1_want_48 (lv_at hl 0 rfl) ?_
              refine r_iconst hx hb dX1_want_50 ?_
              refine r_zast hx hb hK hP hD hS 4 3 rfl rfl (by omega) (by omega) (by decide) (by omega) dX1_want_51 (fun H locs hP hD hS => ?_)
              have hP : va_P (dC, dI) vwCl (wM ad ca er gl gz go (uZ g2 ((v : Int)).toNat 1) ((n : Int)) ((r : Int) + 1)) H := hP
              have hD : va_D A (wM ad ca er gl gz go (uZ g2 ((v : Int)).toNat 1) ((n : Int)) ((r : Int) + 1)) := hD
              refine r_iinc (k := 0) hx hb dX1_want_52 hl rfl (by decide) rfl (fun ls hl => ?_)
              have hl : lv_has ls 5 [(4, .int (iI ((v : Int) + 1))), (3, .int (iI ((sm S j : Int)))), (2, .int (iI ((p9 : Int) - 1))), (0, .ref (ad 0)), (1, .int (iI ((d : Int))))] := hl
              refine lv_goto hx hb dX1_want_55 (tgt := 22) (by decide) ?_
              have hl : lv_has ls 5 [(4, .int (iI ((v + 1 : Nat) : Int))), (3, .int (iI (sm S j : Int))), (2, .int (iI ((p9 : Int) - 1))), (0, .ref (ad 0)), (1, .int (iI (d : Int)))] := by
                rw [show ((v + 1 : Nat) : Int) = (v : Int) + 1 by omega]
                exact hl
              exact ih (v + 1) (uZ g2 ((v : Int)).toNat 1) ls H locs (by omega) (by omega) (by omega) (wn_s hi9 hv0) hP hD hS hl
        exact loop2 (65) (sm S j / r) g1 ls H locs (Nat.lt_succ_of_le (Nat.sub_le _ _)) (Nat.le_refl _) (by omega) (fun j9 h8 => by rw [h9 j9 h8]; congr 1; by_cases q9 : sm S j / r ≤ j9 <;> simp [q9] <;> omega) hP hD hS hl
  have hl : lv_has ls 5 [(2, .int (iI (((d + 1 : Nat) : Int) - 1))), (0, .ref (ad 0)), (1, .int (iI (d : Int)))] := by
    rw [show ((d + 1 : Nat) : Int) - 1 = (d : Int) by omega]
    exact hl
  exact loop (d + 2) (d + 1) gw wa ls H locs (Nat.lt_succ_self _) (by omega) hwa (fun v hv => rfl) hP hD hS hl
