/-! the class: more methods that change nothing; Long.bitCount -/
set_option maxHeartbeats 4000000 in
set_option maxRecDepth 100000 in
theorem m_bitsFromTo (l : Launch) (dC : Nat → ClassId) (dI : Nat → Nat → Nat) (a b : Nat) (ha : a < 64) (hb0 : b < 64) : Met l yX0_bitsFromTo wsX0_bitsFromTo { frames := 0, cells := 0, slots := 0, locals := 0 } (PX (dC, dI) vwCl [] [] [.int (iI ((a : Int))), .int (iI ((b : Int)))]) (RQl (fun y => ∀ v, v < 64 → bL y v = (decide (a ≤ v) && decide (v ≤ b)))) 0 0 nF := by
  refine Met.ofW (cc := cX0_bitsFromTo) (maxL := 2) (ret := (some .long)) (by decide) rfl ?_
  intro p e s m args below meth c s₁ B hml hv
  obtain ⟨rfl, hP, hK, hD0⟩ := hv
  have hx := B.exec
  have hb := B.bytes
  have hr := B.returns
  have hts := atoms_spec (ws := wsX0_bitsFromTo) B.pre
  have hown : s.vm.findClass RX0 = some m.cls := findClass_of_methodNamed B.named
  have hlocks := B.notSynchronized
  have hw := fun w h => hts w (List.mem_cons_of_mem _ h)
  have hD := hD0
  obtain ⟨H, hH⟩ : ∃ H, H = s.heap := ⟨_, rfl⟩
  obtain ⟨locs, hlc⟩ : ∃ L : List Loc, L = [] := ⟨_, rfl⟩
  have hS : va_S nF s.heap H locs := by rw [hH, hlc]; exact va_S.rf
  rw [← hH] at hP ⊢
  rw [← hlc]
  have hl := lv_entry ([.int (iI ((a : Int))), .int (iI ((b : Int)))]) (n := 2) (Nat.le_of_ble_eq_true rfl)
  rw [lg_entry_eq]
  generalize (lg_sl ([.int (iI ((a : Int))), .int (iI ((b : Int)))]) ++ List.replicate (2 - (lg_sl ([.int (iI ((a : Int))), .int (iI ((b : Int)))])).length) Slot.unset).toArray = ls at hl ⊢
  have hl : lv_has ls 2 [(0, .int (iI ((a : Int)))), (1, .int (iI ((b : Int))))] := hl
  refine lv_ldc2 hx hb hown (hw _ wjX0_84) dX0_bitsFromTo_0 ?_
  refine lv_iload_n hx hb dX0_bitsFromTo_3 rfl (lv_at hl 0 rfl) ?_
  refine lv_lshl hx hb dX0_bitsFromTo_4 rfl ?_
  refine lv_ldc2 hx hb hown (hw _ wjX0_84) dX0_bitsFromTo_5 ?_
  refine r_bipush hx hb dX0_bitsFromTo_8 (by decide +kernel) ?_
  refine lv_iload_n hx hb dX0_bitsFromTo_10 rfl (lv_at hl 1 rfl) ?_
  refine r_isub hx hb dX0_bitsFromTo_11 ?_
  refine r_topi (b := ((63 - b : Nat) : Int)) (by omega) ?_
  refine lv_lushr hx hb dX0_bitsFromTo_12 rfl ?_
  refine lv_land hx hb dX0_bitsFromTo_13 ?_
  exact W.lret hx hb hr (fun t ht hW => ⟨⟨_, (), rfl, fun v hv => bL_from ha hb0 hv, trivial⟩, hS.F ht⟩) hS.2.2 dX0_bitsFromTo_14
set_option maxHeartbeats 4000000 in
set_option maxRecDepth 100000 in
theorem m_isGood (l : Launch) (dC : Nat → ClassId) (dI : Nat → Nat → Nat) (ad : Nat → Nat) (ca : Nat → ClassId) (gL gB gD : Nat → Int) (gN : Nat → Int64) (gS : Nat → Int) (n r : Nat) (x : Int64) (L S : Nat → Nat) (lo : Nat → Bool) (hok : okS n L S r) (hT : tX n L S r lo gL gB gD gN gS x) (d : Nat) (hd : d < n) : Met l yX0_isGood wsX0_isGood { frames := 0, cells := 0, slots := 0, locals := 0 } (PX (dC, dI) vwCl (yX ca) (wX ad ca gL gB gD gN gS ((n : Int)) ((r : Int)) x) [.ref (ad 0), .int (iI ((d : Int)))]) (RQi (fun y => y = iI (b2 (gd L S r lo d)))) 0 0 nF := by
  refine Met.ofW (cc := cX0_isGood) (maxL := 2) (ret := (some .boolean)) (by decide) rfl ?_
  intro p e s m args below meth c s₁ B hml hv
  obtain ⟨rfl, hP, hK, hD0⟩ := hv
  have hx := B.exec
  have hb := B.bytes
  have hr := B.returns
  have hts := atoms_spec (ws := wsX0_isGood) B.pre
  have hown : s.vm.findClass RX0 = some m.cls := findClass_of_methodNamed B.named
  have hlocks := B.notSynchronized
  have hw := fun w h => hts w (List.mem_cons_of_mem _ h)
  have hinTX0 : ∀ w ∈ u_ws RX0 TX0 8, w ∈ wsX0_isGood := wA_u wuX0
  have fl19 := hw _ wfX0_19
  have fl80 := hw _ wfX0_80
  have hD := hD0
  obtain ⟨H, hH⟩ : ∃ H, H = s.heap := ⟨_, rfl⟩
  obtain ⟨locs, hlc⟩ : ∃ L : List Loc, L = [] := ⟨_, rfl⟩
  have hS : va_S nF s.heap H locs := by rw [hH, hlc]; exact va_S.rf
  rw [← hH] at hP ⊢
  rw [← hlc]
  have hl := lv_entry ([.ref (ad 0), .int (iI ((d : Int)))]) (n := 2) (Nat.le_of_ble_eq_true rfl)
  rw [lg_entry_eq]
  generalize (lg_sl ([.ref (ad 0), .int (iI ((d : Int)))]) ++ List.replicate (2 - (lg_sl ([.ref (ad 0), .int (iI ((d : Int)))])).length) Slot.unset).toArray = ls at hl ⊢
  have hl : lv_has ls 2 [(0, .ref (ad 0)), (1, .int (iI ((d : Int))))] := hl
  obtain ⟨ok1, ok2, ok3, ok4, ok5⟩ := id hok
  have ed : ((d : Int)).toNat = d := by omega
  obtain ⟨-, -, -, t4⟩ := hT.1 d hd
  have hg := gd_iff t4 hT.2.2
  refine lv_aload_n hx hb dX0_isGood_0 rfl (lv_at hl 0 rfl) ?_
  refine va_get (D := (dC, dI)) (ci := 0) (v := .ref (ad 4)) (C := RX0) (T := TX0) (N := 8) hx hb hts hinTX0 hown hK hP 0 rfl rfl 3 (by decide) fl19 (fun _ h9 => h9) rfl dX0_isGood_1 ?_
  refine lv_iload_n hx hb dX0_isGood_4 rfl (lv_at hl 1 rfl) ?_
  refine r_lald hx hb hK hP 4 3 rfl rfl (by omega) (by omega) (by decide) dX0_isGood_5 ?_
  refine lv_aload_n hx hb dX0_isGood_6 rfl (lv_at hl 0 rfl) ?_
  refine va_get (D := (dC, dI)) (ci := 0) (v := .long x) (C := RX0) (T := TX0) (N := 8) hx hb hts hinTX0 hown hK hP 0 rfl rfl 7 (by decide) fl80 (fun _ h9 => h9) rfl dX0_isGood_7 ?_
  refine lv_land hx hb dX0_isGood_10 ?_
  refine lv_lconst hx hb dX0_isGood_11 rfl ?_
  rw [ed]
  refine r_lcmp_ne hx hb dX0_isGood_12 dX0_isGood_13 (tgt := 20) (by decide) (fun hne => ?_) (fun heq => ?_)
  · refine r_iconst hx hb dX0_isGood_20 ?_
    exact W.zret (v := iI 0) hx hb hr rfl (fun t ht hW => ⟨⟨_, (), rfl, by rw [gd_f (fun q => hne (hg.mpr q))], trivial⟩, hS.F ht⟩) hS.2.2 dX0_isGood_21
  · refine r_iconst hx hb dX0_isGood_16 ?_
    refine lv_goto hx hb dX0_isGood_17 (tgt := 21) (by decide) ?_
    exact W.zret (v := iI 1) hx hb hr rfl (fun t ht hW => ⟨⟨_, (), rfl, by rw [gd_t (hg.mp heq)], trivial⟩, hS.F ht⟩) hS.2.2 dX0_isGood_21
set_option maxHeartbeats 4000000 in
set_option maxRecDepth 100000 in
theorem m_goodDumps (l : Launch) (dC : Nat → ClassId) (dI : Nat → Nat → Nat) (ad : Nat → Nat) (ca : Nat → ClassId) (gL gB gD : Nat → Int) (gN : Nat → Int64) (gS : Nat → Int) (n r : Nat) (x : Int64) (L S : Nat → Nat) (lo : Nat → Bool) (hok : okS n L S r) (hT : tX n L S r lo gL gB gD gN gS x) : Met l yX0_goodDumps wsX0_goodDumps { frames := 1, cells := 0, slots := 0, locals := 21 } (PX (dC, dI) vwCl (yX ca) (wX ad ca gL gB gD gN gS ((n : Int)) ((r : Int)) x) [.ref (ad 0)]) (RQi (fun y => y = iI (cn (gd L S r lo) n : Int))) 0 0 nF := by
  refine Met.ofW (cc := cX0_goodDumps) (maxL := 3) (ret := (some .int)) (by decide) rfl ?_
  intro p e s m args below meth c s₁ B hml hv
  obtain ⟨rfl, hP, hK, hD0⟩ := hv
  have hx := B.exec
  have hb := B.bytes
  have hr := B.returns
  have hts := atoms_spec (ws := wsX0_goodDumps) B.pre
  have hown : s.vm.findClass RX0 = some m.cls := findClass_of_methodNamed B.named
  have hlocks := B.notSynchronized
  have hw := fun w h => hts w (List.mem_cons_of_mem _ h)
  have hinTX0 : ∀ w ∈ u_ws RX0 TX0 8, w ∈ wsX0_goodDumps := wA_u wuX0
  have fl41 := hw _ wfX0_41
  have hD := hD0
  obtain ⟨H, hH⟩ : ∃ H, H = s.heap := ⟨_, rfl⟩
  obtain ⟨locs, hlc⟩ : ∃ L : List Loc, L = [] := ⟨_, rfl⟩
  have hS : va_S nF s.heap H locs := by rw [hH, hlc]; exact va_S.rf
  rw [← hH] at hP ⊢
  rw [← hlc]
  have hl := lv_entry ([.ref (ad 0)]) (n := 3) (Nat.le_of_ble_eq_true rfl)
  rw [lg_entry_eq]
  generalize (lg_sl ([.ref (ad 0)]) ++ List.replicate (3 - (lg_sl ([.ref (ad 0)])).length) Slot.unset).toArray = ls at hl ⊢
  have hl : lv_has ls 3 [(0, .ref (ad 0))] := hl
  obtain ⟨ok1, ok2, ok3, ok4, ok5⟩ := id hok
  refine r_iconst hx hb dX0_goodDumps_0 ?_
  refine lv_istore_n hx hb dX0_goodDumps_1 rfl hl (by decide) rfl (fun ls hl => ?_)
  have hl : lv_has ls 3 [(1, .int (iI 0)), (0, .ref (ad 0))] := hl
  refine r_iconst hx hb dX0_goodDumps_2 ?_
  refine lv_istore_n hx hb dX0_goodDumps_3 rfl hl (by decide) rfl (fun ls hl => ?_)
  have hl : lv_has ls 3 [(2, .int (iI 0)), (1, .int (iI 0)), (0, .ref (ad 0))] := hl
  have loop : ∀ (N : Nat) (k : Nat) (ls : Array Slot) (H : Heap) (locs : List Loc), n - k < N → (k ≤ n) → va_P (dC, dI) vwCl (wX ad ca gL gB gD gN gS ((n : Int)) ((r : Int)) x) H → va_S nF s.heap H locs → lv_has ls 3 [(2, .int (iI ((k : Int)))), (1, .int (iI ((cn (gd L S r lo) k : Int)))), (0, .ref (ad 0))] → W p l e (headSpec wsX0_goodDumps { frames := 1, cells := 0, slots := 0, locals := 21 }).room s m ([.ref (ad 0)]).toArray below meth c H locs 0 0 (MQ below (RQi (fun y => y = iI (cn (gd L S r lo) n : Int))) ([.ref (ad 0)]).toArray s 0 0 nF) (F0 m 4 ls []) := by
    intro N
    induction N with
    | zero => intro k ls H locs h; exact absurd h (Nat.not_lt_zero _)
    | succ N ih =>
      intro k ls H locs hN hk hP hS hl
      refine lv_iload_n hx hb dX0_goodDumps_4 rfl (lv_at hl 0 rfl) ?_
      refine lv_aload_n hx hb dX0_goodDumps_5 rfl (lv_at hl 2 rfl) ?_
      refine va_get (D := (dC, dI)) (ci := 0) (v := .int (iI ((n : Int)))) (C := RX0) (T := TX0) (N := 8) hx hb hts hinTX0 hown hK hP 0 rfl rfl 5 (by decide) fl41 (fun _ h9 => h9) rfl dX0_goodDumps_6 ?_
      refine r_icmp_ge hx hb dX0_goodDumps_9 (tgt := 29) (by decide) (by omega) (by omega) (fun hge => ?_) (fun hlt => ?_)
      · have hk0 : k = n := by omega
        subst hk0
        refine lv_iload_n hx hb dX0_goodDumps_29 rfl (lv_at hl 1 rfl) ?_
        exact W.iret (v := iI ((cn (gd L S r lo) k : Int))) hx hb hr (fun t ht hW => ⟨⟨_, (), rfl, rfl, trivial⟩, hS.F ht⟩) hS.2.2 dX0_goodDumps_30
      · have hc := cn_s (gd L S r lo) k
        have hc2 := cn_le (gd L S r lo) k
        have h01 := b2_01 (gd L S r lo k)
        refine lv_aload_n hx hb dX0_goodDumps_12 rfl (lv_at hl 2 rfl) ?_
        refine lv_iload_n hx hb dX0_goodDumps_13 rfl (lv_at hl 0 rfl) ?_
        refine ro_z (z := b2 (gd L S r lo k)) (va_runV (As := [.int (iI ((k : Int)))]) (rest := []) ⟨hx, hb, hml, hown, hts⟩ (m_isGood l dC dI ad ca gL gB gD gN gS n r x L S lo hok hT k (by omega)) (cwV 1 hts (gV wlX0_86 wo_X0_isGood wz_X0_isGood wi_1 wcX0_isGood) rfl rfl rfl (by decide +kernel) ⟨Nat.le_of_ble_eq_true rfl, Nat.le_of_ble_eq_true rfl⟩) (PX_V (q0 := 0) (ci := 0) hP hK hD rfl rfl) rfl rfl hl.1 rfl (lv_room (Nat.le_of_ble_eq_true rfl)) dX0_goodDumps_14 ⟨Nat.le_of_ble_eq_true rfl, Nat.le_of_ble_eq_true rfl⟩) hS hP (fun H locs hP hS => ?_)
        refine r_if_eq hx hb dX0_goodDumps_17 (tgt := 23) (by decide) (by omega) (fun hz => ?_) (fun hnz => ?_)
        · refine r_iinc (k := 0) hx hb dX0_goodDumps_23 hl rfl (by decide) rfl (fun ls hl => ?_)
          have hl : lv_has ls 3 [(2, .int (iI ((k : Int) + 1))), (1, .int (iI ((cn (gd L S r lo) k : Int)))), (0, .ref (ad 0))] := hl
          refine lv_goto hx hb dX0_goodDumps_26 (tgt := 4) (by decide) ?_
          have hl : lv_has ls 3 [(2, .int (iI ((k + 1 : Nat) : Int))), (1, .int (iI (cn (gd L S r lo) (k + 1) : Int))), (0, .ref (ad 0))] := by
            rw [show ((k + 1 : Nat) : Int) = (k : Int) + 1 by omega, show (cn (gd L S r lo) (k + 1) : Int) = (cn (gd L S r lo) k : Int) by omega]
            exact hl
          exact ih (k + 1) ls H locs (by omega) (by omega) hP hS hl
        · refine r_iinc (k := 1) hx hb dX0_goodDumps_20 hl rfl (by decide) rfl (fun ls hl => ?_)
          have hl : lv_has ls 3 [(1, .int (iI ((cn (gd L S r lo) k : Int) + 1))), (2, .int (iI ((k : Int)))), (0, .ref (ad 0))] := hl
          refine r_iinc (k := 1) hx hb dX0_goodDumps_23 hl rfl (by decide) rfl (fun ls hl => ?_)
          have hl : lv_has ls 3 [(2, .int (iI ((k : Int) + 1))), (1, .int (iI ((cn (gd L S r lo) k : Int) + 1))), (0, .ref (ad 0))] := hl
          refine lv_goto hx hb dX0_goodDumps_26 (tgt := 4) (by decide) ?_
          have hl : lv_has ls 3 [(2, .int (iI ((k + 1 : Nat) : Int))), (1, .int (iI (cn (gd L S r lo) (k + 1) : Int))), (0, .ref (ad 0))] := by
            rw [show ((k + 1 : Nat) : Int) = (k : Int) + 1 by omega, show (cn (gd L S r lo) (k + 1) : Int) = (cn (gd L S r lo) k : Int) + 1 by omega]
            exact hl
          exact ih (k + 1) ls H locs (by omega) (by omega) hP hS hl
  exact loop (n + 1) 0 ls H locs (by omega) (Nat.zero_le n) hP hS hl
set_option maxHeartbeats 4000000 in
set_option maxRecDepth 100000 in
theorem m_longestChain (l : Launch) (dC : Nat → ClassId) (dI : Nat → Nat → Nat) (ad : Nat → Nat) (ca : Nat → ClassId) (gL gB gD : Nat → Int) (gN : Nat → Int64) (gS : Nat → Int) (n r : Nat) (x : Int64) (L S : Nat → Nat) (lo : Nat → Bool) (hok : okS n L S r) (hT : tX n L S r lo gL gB gD gN gS x) : Met l yX0_longestChain wsX0_longestChain { frames := 1, cells := 0, slots := 0, locals := 13 } (PX (dC, dI) vwCl (yX ca) (wX ad ca gL gB gD gN gS ((n : Int)) ((r : Int)) x) [.ref (ad 0)]) (RQi (fun y => y = iI (mx (fun d => dp L (d + 1)) n : Int))) 0 0 nF := by
  refine Met.ofW (cc := cX0_longestChain) (maxL := 3) (ret := (some .int)) (by decide) rfl ?_
  intro p e s m args below meth c s₁ B hml hv
  obtain ⟨rfl, hP, hK, hD0⟩ := hv
  have hx := B.exec
  have hb := B.bytes
  have hr := B.returns
  have hts := atoms_spec (ws := wsX0_longestChain) B.pre
  have hown : s.vm.findClass RX0 = some m.cls := findClass_of_methodNamed B.named
  have hlocks := B.notSynchronized
  have hw := fun w h => hts w (List.mem_cons_of_mem _ h)
  have hinTX0 : ∀ w ∈ u_ws RX0 TX0 8, w ∈ wsX0_longestChain := wA_u wuX0
  have fl41 := hw _ wfX0_41
  have fl16 := hw _ wfX0_16
  have hD := hD0
  obtain ⟨H, hH⟩ : ∃ H, H = s.heap := ⟨_, rfl⟩
  obtain ⟨locs, hlc⟩ : ∃ L : List Loc, L = [] := ⟨_, rfl⟩
  have hS : va_S nF s.heap H locs := by rw [hH, hlc]; exact va_S.rf
  rw [← hH] at hP ⊢
  rw [← hlc]
  have hl := lv_entry ([.ref (ad 0)]) (n := 3) (Nat.le_of_ble_eq_true rfl)
  rw [lg_entry_eq]
  generalize (lg_sl ([.ref (ad 0)]) ++ List.replicate (3 - (lg_sl ([.ref (ad 0)])).length) Slot.unset).toArray = ls at hl ⊢
  have hl : lv_has ls 3 [(0, .ref (ad 0))] := hl
  obtain ⟨ok1, ok2, ok3, ok4, ok5⟩ := id hok
  refine r_iconst hx hb dX0_longestChain_0 ?_
  refine lv_istore_n hx hb dX0_longestChain_1 rfl hl (by decide) rfl (fun ls hl => ?_)
  have hl : lv_has ls 3 [(1, .int (iI 0)), (0, .ref (ad 0))] := hl
  refine r_iconst hx hb dX0_longestChain_2 ?_
  refine lv_istore_n hx hb dX0_longestChain_3 rfl hl (by decide) rfl (fun ls hl => ?_)
  have hl : lv_has ls 3 [(2, .int (iI 0)), (1, .int (iI 0)), (0, .ref (ad 0))] := hl
  have loop : ∀ (N : Nat) (k : Nat) (ls : Array Slot), n - k < N → (k ≤ n) → lv_has ls 3 [(2, .int (iI ((k : Int)))), (1, .int (iI ((mx (fun d => dp L (d + 1)) k : Int)))), (0, .ref (ad 0))] → W p l e (headSpec wsX0_longestChain { frames := 1, cells := 0, slots := 0, locals := 13 }).room s m ([.ref (ad 0)]).toArray below meth c H locs 0 0 (MQ below (RQi (fun y => y = iI (mx (fun d => dp L (d + 1)) n : Int))) ([.ref (ad 0)]).toArray s 0 0 nF) (F0 m 4 ls []) := by
    intro N
    induction N with
    | zero => intro k ls h; exact absurd h (Nat.not_lt_zero _)
    | succ N ih =>
      intro k ls hN hk hl
      refine lv_iload_n hx hb dX0_longestChain_4 rfl (lv_at hl 0 rfl) ?_
      refine lv_aload_n hx hb dX0_longestChain_5 rfl (lv_at hl 2 rfl) ?_
      refine va_get (D := (dC, dI)) (ci := 0) (v := .int (iI ((n : Int)))) (C := RX0) (T := TX0) (N := 8) hx hb hts hinTX0 hown hK hP 0 rfl rfl 5 (by decide) fl41 (fun _ h9 => h9) rfl dX0_longestChain_6 ?_
      refine r_icmp_ge hx hb dX0_longestChain_9 (tgt := 29) (by decide) (by omega) (by omega) (fun hge => ?_) (fun hlt => ?_)
      · have hk0 : k = n := by omega
        subst hk0
        refine lv_iload_n hx hb dX0_longestChain_29 rfl (lv_at hl 1 rfl) ?_
        exact W.iret (v := iI ((mx (fun d => dp L (d + 1)) k : Int))) hx hb hr (fun t ht hW => ⟨⟨_, (), rfl, rfl, trivial⟩, hS.F ht⟩) hS.2.2 dX0_longestChain_30
      · have hc := mx_s (fun d => dp L (d + 1)) k
        have hm := mx_le (fun d => dp L (d + 1)) 300 k (fun j hj => by have := dp_le L (j + 1) (j + 1) (Nat.le_refl _); show dp L (j + 1) ≤ 300; omega)
        have hm2 := dp_le L (k + 1) (k + 1) (Nat.le_refl _)
        have ed : ((k : Int)).toNat = k := by omega
        obtain ⟨-, -, t3, -⟩ := hT.1 k (by omega)
        refine lv_iload_n hx hb dX0_longestChain_12 rfl (lv_at hl 1 rfl) ?_
        refine lv_aload_n hx hb dX0_longestChain_13 rfl (lv_at hl 2 rfl) ?_
        refine va_get (D := (dC, dI)) (ci := 0) (v := .ref (ad 3)) (C := RX0) (T := TX0) (N := 8) hx hb hts hinTX0 hown hK hP 0 rfl rfl 2 (by decide) fl16 (fun _ h9 => h9) rfl dX0_longestChain_14 ?_
        refine lv_iload_n hx hb dX0_longestChain_17 rfl (lv_at hl 0 rfl) ?_
        refine r_iald hx hb hK hP 3 2 rfl rfl (by omega) (by omega) (by decide) dX0_longestChain_18 ?_
        refine r_topi (b := (dp L (k + 1) : Int)) (by rw [ed]; exact t3) ?_
        refine va_mmax hx hb (hml.trans hl.1.symm) hown (hw _ wl_max) (hw _ wt_max) (hw _ wi_9) (hw _ wc_max) (Nat.le_of_ble_eq_true rfl) (Nat.le_of_ble_eq_true rfl) (Nat.le_of_ble_eq_true rfl) (Nat.le_of_ble_eq_true rfl) dX0_longestChain_19 ?_
        rw [iI_max ⟨by omega, by omega⟩ ⟨by omega, by omega⟩]
        refine r_topi (b := (mx (fun d => dp L (d + 1)) (k + 1) : Int)) hc.symm ?_
        refine lv_istore_n hx hb dX0_longestChain_22 rfl hl (by decide) rfl (fun ls hl => ?_)
        have hl : lv_has ls 3 [(1, .int (iI ((mx (fun d => dp L (d + 1)) (k + 1) : Int)))), (2, .int (iI ((k : Int)))), (0, .ref (ad 0))] := hl
        refine r_iinc (k := 1) hx hb dX0_longestChain_23 hl rfl (by decide) rfl (fun ls hl => ?_)
        have hl : lv_has ls 3 [(2, .int (iI ((k : Int) + 1))), (1, .int (iI ((mx (fun d => dp L (d + 1)) (k + 1) : Int)))), (0, .ref (ad 0))] := hl
        refine lv_goto hx hb dX0_longestChain_26 (tgt := 4) (by decide) ?_
        have hl : lv_has ls 3 [(2, .int (iI ((k + 1 : Nat) : Int))), (1, .int (iI (mx (fun d => dp L (d + 1)) (k + 1) : Int))), (0, .ref (ad 0))] := by
          rw [show ((k + 1 : Nat) : Int) = (k : Int) + 1 by omega]
          exact hl
        exact ih (k + 1) ls (by omega) (by omega) hl
  exact loop (n + 1) 0 ls (by omega) (Nat.zero_le n) hl
set_option maxHeartbeats 4000000 in
set_option maxRecDepth 100000 in
theorem m_writtenVolumes (l : Launch) (dC : Nat → ClassId) (dI : Nat → Nat → Nat) (ad : Nat → Nat) (ca : Nat → ClassId) (gL gB gD : Nat → Int) (gN : Nat → Int64) (gS : Nat → Int) (n r : Nat) (x : Int64) (L S : Nat → Nat) (lo : Nat → Bool) (hok : okS n L S r) (hT : tX n L S r lo gL gB gD gN gS x) : Met l yX0_writtenVolumes wsX0_writtenVolumes { frames := 1, cells := 0, slots := 0, locals := 21 } (PX (dC, dI) vwCl (yX ca) (wX ad ca gL gB gD gN gS ((n : Int)) ((r : Int)) x) [.ref (ad 0)]) (RQi (fun y => y = iI (wr S r n : Int))) 0 0 nF := by
  refine Met.ofW (cc := cX0_writtenVolumes) (maxL := 2) (ret := (some .int)) (by decide) rfl ?_
  intro p e s m args below meth c s₁ B hml hv
  obtain ⟨rfl, hP, hK, hD0⟩ := hv
  have hx := B.exec
  have hb := B.bytes
  have hr := B.returns
  have hts := atoms_spec (ws := wsX0_writtenVolumes) B.pre
  have hown : s.vm.findClass RX0 = some m.cls := findClass_of_methodNamed B.named
  have hlocks := B.notSynchronized
  have hw := fun w h => hts w (List.mem_cons_of_mem _ h)
  have hinTX0 : ∀ w ∈ u_ws RX0 TX0 8, w ∈ wsX0_writtenVolumes := wA_u wuX0
  have fl23 := hw _ wfX0_23
  have fl41 := hw _ wfX0_41
  have hD := hD0
  obtain ⟨H, hH⟩ : ∃ H, H = s.heap := ⟨_, rfl⟩
  obtain ⟨locs, hlc⟩ : ∃ L : List Loc, L = [] := ⟨_, rfl⟩
  have hS : va_S nF s.heap H locs := by rw [hH, hlc]; exact va_S.rf
  rw [← hH] at hP ⊢
  rw [← hlc]
  have hl := lv_entry ([.ref (ad 0)]) (n := 2) (Nat.le_of_ble_eq_true rfl)
  rw [lg_entry_eq]
  generalize (lg_sl ([.ref (ad 0)]) ++ List.replicate (2 - (lg_sl ([.ref (ad 0)])).length) Slot.unset).toArray = ls at hl ⊢
  have hl : lv_has ls 2 [(0, .ref (ad 0))] := hl
  obtain ⟨ok1, ok2, ok3, ok4, ok5⟩ := id hok
  have ed : ((n : Int)).toNat = n := by omega
  have t5 := hT.2.1 n (Nat.le_refl n)
  refine lv_aload_n hx hb dX0_writtenVolumes_0 rfl (lv_at hl 0 rfl) ?_
  refine va_get (D := (dC, dI)) (ci := 0) (v := .ref (ad 5)) (C := RX0) (T := TX0) (N := 8) hx hb hts hinTX0 hown hK hP 0 rfl rfl 4 (by decide) fl23 (fun _ h9 => h9) rfl dX0_writtenVolumes_1 ?_
  refine lv_aload_n hx hb dX0_writtenVolumes_4 rfl (lv_at hl 0 rfl) ?_
  refine va_get (D := (dC, dI)) (ci := 0) (v := .int (iI ((n : Int)))) (C := RX0) (T := TX0) (N := 8) hx hb hts hinTX0 hown hK hP 0 rfl rfl 5 (by decide) fl41 (fun _ h9 => h9) rfl dX0_writtenVolumes_5 ?_
  refine r_iald hx hb hK hP 5 4 rfl rfl (by omega) (by omega) (by decide) dX0_writtenVolumes_8 ?_
  refine r_topi (b := (sm S n : Int)) (by rw [ed]; exact t5) ?_
  refine lv_istore_n hx hb dX0_writtenVolumes_9 rfl hl (by decide) rfl (fun ls hl => ?_)
  have hl : lv_has ls 2 [(1, .int (iI ((sm S n : Int)))), (0, .ref (ad 0))] := hl
  refine lv_iload_n hx hb dX0_writtenVolumes_10 rfl (lv_at hl 0 rfl) ?_
  refine r_if_ne hx hb dX0_writtenVolumes_11 (tgt := 18) (by decide) (by omega) (fun hne => ?_) (fun heq => ?_)
  · refine lv_aload_n hx hb dX0_writtenVolumes_18 rfl (lv_at hl 1 rfl) ?_
    refine lv_iload_n hx hb dX0_writtenVolumes_19 rfl (lv_at hl 0 rfl) ?_
    refine r_iconst hx hb dX0_writtenVolumes_20 ?_
    refine r_isub hx hb dX0_writtenVolumes_21 ?_
    refine ro_z (z := ((sm S n : Int) - 1) / (r : Int)) (va_runV (As := [.int (iI (((sm S n : Int)) - 1))]) (rest := []) ⟨hx, hb, hml, hown, hts⟩ (m_volumeAt l dC dI ad ca gL gB gD gN gS n r x ((sm S n : Int) - 1) (by omega) (by omega) ok2 ok3) (cwV 1 hts (gV wlX0_68 wo_X0_volumeAt wz_X0_volumeAt wi_1 wcX0_volumeAt) rfl rfl rfl (by decide +kernel) ⟨Nat.le_of_ble_eq_true rfl, Nat.le_of_ble_eq_true rfl⟩) (PX_V (q0 := 0) (ci := 0) hP hK hD rfl rfl) rfl rfl hl.1 rfl (lv_room (Nat.le_of_ble_eq_true rfl)) dX0_writtenVolumes_22 ⟨Nat.le_of_ble_eq_true rfl, Nat.le_of_ble_eq_true rfl⟩) hS hP (fun H locs hP hS => ?_)
    refine r_iconst hx hb dX0_writtenVolumes_25 ?_
    refine r_iadd hx hb dX0_writtenVolumes_26 ?_
    have e9 : ((sm S n : Int) - 1) / (r : Int) + 1 = (wr S r n : Int) := by
      rw [wr_pos ok2 (by omega), show (sm S n : Int) - 1 = ((sm S n - 1 : Nat) : Int) by omega, ← Int.natCast_ediv]
      omega
    exact W.iret (v := iI ((((sm S n : Int) - 1) / (r : Int)) + 1)) hx hb hr (fun t ht hW => ⟨⟨_, (), rfl, by rw [e9], trivial⟩, hS.F ht⟩) hS.2.2 dX0_writtenVolumes_27
  · refine r_iconst hx hb dX0_writtenVolumes_14 ?_
    refine lv_goto hx hb dX0_writtenVolumes_15 (tgt := 27) (by decide) ?_
    exact W.iret (v := iI 0) hx hb hr (fun t ht hW => ⟨⟨_, (), rfl, by rw [wr_zero ok2 (by omega)]; rfl, trivial⟩, hS.F ht⟩) hS.2.2 dX0_writtenVolumes_27
set_option maxHeartbeats 4000000 in
set_option maxRecDepth 100000 in
theorem m_bitCount (l : Launch) (dC : Nat → ClassId) (dI : Nat → Nat → Nat) (x : Int64) : Met l yJ13_bitCount wsJ13_bitCount { frames := 0, cells := 0, slots := 0, locals := 0 } (PX (dC, dI) vwCl [] [] [.long x]) (RQi (fun y => y = iI (cn (bL x) 64 : Int))) 0 0 nF := by
  refine Met.ofW (cc := cJ13_bitCount) (maxL := 2) (ret := (some .int)) (by decide) rfl ?_
  intro p e s m args below meth c s₁ B hml hv
  obtain ⟨rfl, hP, hK, hD0⟩ := hv
  have hx := B.exec
  have hb := B.bytes
  have hr := B.returns
  have hts := atoms_spec (ws := wsJ13_bitCount) B.pre
  have hown : s.vm.findClass RJ13 = some m.cls := findClass_of_methodNamed B.named
  have hlocks := B.notSynchronized
  have hw := fun w h => hts w (List.mem_cons_of_mem _ h)
  have hD := hD0
  obtain ⟨H, hH⟩ : ∃ H, H = s.heap := ⟨_, rfl⟩
  obtain ⟨locs, hlc⟩ : ∃ L : List Loc, L = [] := ⟨_, rfl⟩
  have hS : va_S nF s.heap H locs := by rw [hH, hlc]; exact va_S.rf
  rw [← hH] at hP ⊢
  rw [← hlc]
  have hl := lv_entry ([.long x]) (n := 2) (Nat.le_of_ble_eq_true rfl)
  rw [lg_entry_eq]
  generalize (lg_sl ([.long x]) ++ List.replicate (2 - (lg_sl ([.long x])).length) Slot.unset).toArray = ls at hl ⊢
  have hl : lv_has ls 2 [(0, .long x)] := hl
  refine lv_lload_n hx hb dJ13_bitCount_0 rfl (lv_at hl 0 rfl) ?_
  refine lv_lload_n hx hb dJ13_bitCount_1 rfl (lv_at hl 0 rfl) ?_
  refine r_iconst hx hb dJ13_bitCount_2 ?_
  refine lv_lushr hx hb dJ13_bitCount_3 rfl ?_
  refine lv_ldc2 hx hb hown (hw _ wjJ13_314) dJ13_bitCount_4 ?_
  refine lv_land hx hb dJ13_bitCount_7 ?_
  refine lv_lsub hx hb dJ13_bitCount_8 ?_
  refine r_top (w := .long (pp1 x)) (rfl) ?_
  refine lv_lstore_n hx hb dJ13_bitCount_9 rfl hl (by decide) rfl (fun ls hl => ?_)
  have hl : lv_has ls 2 [(0, .long (pp1 x))] := hl
  refine lv_lload_n hx hb dJ13_bitCount_10 rfl (lv_at hl 0 rfl) ?_
  refine lv_ldc2 hx hb hown (hw _ wjJ13_316) dJ13_bitCount_11 ?_
  refine lv_land hx hb dJ13_bitCount_14 ?_
  refine lv_lload_n hx hb dJ13_bitCount_15 rfl (lv_at hl 0 rfl) ?_
  refine r_iconst hx hb dJ13_bitCount_16 ?_
  refine lv_lushr hx hb dJ13_bitCount_17 rfl ?_
  refine lv_ldc2 hx hb hown (hw _ wjJ13_316) dJ13_bitCount_18 ?_
  refine lv_land hx hb dJ13_bitCount_21 ?_
  refine lv_ladd hx hb dJ13_bitCount_22 ?_
  refine r_top (w := .long (pp2 (pp1 x))) (rfl) ?_
  refine lv_lstore_n hx hb dJ13_bitCount_23 rfl hl (by decide) rfl (fun ls hl => ?_)
  have hl : lv_has ls 2 [(0, .long (pp2 (pp1 x)))] := hl
  refine lv_lload_n hx hb dJ13_bitCount_24 rfl (lv_at hl 0 rfl) ?_
  refine lv_lload_n hx hb dJ13_bitCount_25 rfl (lv_at hl 0 rfl) ?_
  refine r_iconst hx hb dJ13_bitCount_26 ?_
  refine lv_lushr hx hb dJ13_bitCount_27 rfl ?_
  refine lv_ladd hx hb dJ13_bitCount_28 ?_
  refine lv_ldc2 hx hb hown (hw _ wjJ13_318) dJ13_bitCount_29 ?_
  refine lv_land hx hb dJ13_bitCount_32 ?_
  refine r_top (w := .long (pp3 (pp2 (pp1 x)))) (rfl) ?_
  refine lv_lstore_n hx hb dJ13_bitCount_33 rfl hl (by decide) rfl (fun ls hl => ?_)
  have hl : lv_has ls 2 [(0, .long (pp3 (pp2 (pp1 x))))] := hl
  refine lv_lload_n hx hb dJ13_bitCount_34 rfl (lv_at hl 0 rfl) ?_
  refine lv_lload_n hx hb dJ13_bitCount_35 rfl (lv_at hl 0 rfl) ?_
  refine r_bipush hx hb dJ13_bitCount_36 (by decide +kernel) ?_
  refine lv_lushr hx hb dJ13_bitCount_38 rfl ?_
  refine lv_ladd hx hb dJ13_bitCount_39 ?_
  refine r_top (w := .long (pp4 (pp3 (pp2 (pp1 x))))) (rfl) ?_
  refine lv_lstore_n hx hb dJ13_bitCount_40 rfl hl (by decide) rfl (fun ls hl => ?_)
  have hl : lv_has ls 2 [(0, .long (pp4 (pp3 (pp2 (pp1 x)))))] := hl
  refine lv_lload_n hx hb dJ13_bitCount_41 rfl (lv_at hl 0 rfl) ?_
  refine lv_lload_n hx hb dJ13_bitCount_42 rfl (lv_at hl 0 rfl) ?_
  refine r_bipush hx hb dJ13_bitCount_43 (by decide +kernel) ?_
  refine lv_lushr hx hb dJ13_bitCount_45 rfl ?_
  refine lv_ladd hx hb dJ13_bitCount_46 ?_
  refine r_top (w := .long (pp5 (pp4 (pp3 (pp2 (pp1 x)))))) (rfl) ?_
  refine lv_lstore_n hx hb dJ13_bitCount_47 rfl hl (by decide) rfl (fun ls hl => ?_)
  have hl : lv_has ls 2 [(0, .long (pp5 (pp4 (pp3 (pp2 (pp1 x))))))] := hl
  refine lv_lload_n hx hb dJ13_bitCount_48 rfl (lv_at hl 0 rfl) ?_
  refine lv_lload_n hx hb dJ13_bitCount_49 rfl (lv_at hl 0 rfl) ?_
  refine r_bipush hx hb dJ13_bitCount_50 (by decide +kernel) ?_
  refine lv_lushr hx hb dJ13_bitCount_52 rfl ?_
  refine lv_ladd hx hb dJ13_bitCount_53 ?_
  refine r_top (w := .long (pp6 (pp5 (pp4 (pp3 (pp2 (pp1 x))))))) (rfl) ?_
  refine lv_lstore_n hx hb dJ13_bitCount_54 rfl hl (by decide) rfl (fun ls hl => ?_)
  have hl : lv_has ls 2 [(0, .long (pp6 (pp5 (pp4 (pp3 (pp2 (pp1 x)))))))] := hl
  refine lv_lload_n hx hb dJ13_bitCount_55 rfl (lv_at hl 0 rfl) ?_
  refine lv_l2i hx hb dJ13_bitCount_56 rfl ?_
  refine r_bipush hx hb dJ13_bitCount_57 (by decide +kernel) ?_
  refine lv_iand hx hb dJ13_bitCount_59 ?_
  refine r_top (w := .int (iI (cn (bL x) 64 : Int))) (congrArg Value.int (pp_all x)) ?_
  exact W.iret (v := iI ((cn (bL x) 64 : Int))) hx hb hr (fun t ht hW => ⟨⟨_, (), rfl, rfl, trivial⟩, hS.F ht⟩) hS.2.2 dJ13_bitCount_60
