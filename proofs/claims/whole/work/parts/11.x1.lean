/-! the class: leaves that change nothing -/
set_option maxHeartbeats 4000000 in
set_option maxRecDepth 100000 in
theorem m_volumeAt (l : Launch) (dC : Nat → ClassId) (dI : Nat → Nat → Nat) (ad : Nat → Nat) (ca : Nat → ClassId) (gL gB gD : Nat → Int) (gN : Nat → Int64) (gS : Nat → Int) (n r : Nat) (x : Int64) (q : Int) (h0 : 0 ≤ q) (h1 : q < 2147483648) (h2 : 1 ≤ r) (h3 : r ≤ 999) : Met l yX0_volumeAt wsX0_volumeAt { frames := 0, cells := 0, slots := 0, locals := 0 } (PX (dC, dI) vwCl (yX ca) (wX ad ca gL gB gD gN gS ((n : Int)) ((r : Int)) x) [.ref (ad 0), .int (iI q)]) (RQi (fun y => y = iI (q / (r : Int)))) 0 0 nF := by
  refine Met.ofW (cc := cX0_volumeAt) (maxL := 2) (ret := (some .int)) (by decide) rfl ?_
  intro p e s m args below meth c s₁ B hml hv
  obtain ⟨rfl, hP, hK, hD0⟩ := hv
  have hx := B.exec
  have hb := B.bytes
  have hr := B.returns
  have hts := atoms_spec (ws := wsX0_volumeAt) B.pre
  have hown : s.vm.findClass RX0 = some m.cls := findClass_of_methodNamed B.named
  have hlocks := B.notSynchronized
  have hw := fun w h => hts w (List.mem_cons_of_mem _ h)
  have hinTX0 : ∀ w ∈ u_ws RX0 TX0 8, w ∈ wsX0_volumeAt := wA_u wuX0
  have fl50 := hw _ wfX0_50
  have hD := hD0
  obtain ⟨H, hH⟩ : ∃ H, H = s.heap := ⟨_, rfl⟩
  obtain ⟨locs, hlc⟩ : ∃ L : List Loc, L = [] := ⟨_, rfl⟩
  have hS : va_S nF s.heap H locs := by rw [hH, hlc]; exact va_S.rf
  rw [← hH] at hP ⊢
  rw [← hlc]
  have hl := lv_entry ([.ref (ad 0), .int (iI q)]) (n := 2) (Nat.le_of_ble_eq_true rfl)
  rw [lg_entry_eq]
  generalize (lg_sl ([.ref (ad 0), .int (iI q)]) ++ List.replicate (2 - (lg_sl ([.ref (ad 0), .int (iI q)])).length) Slot.unset).toArray = ls at hl ⊢
  have hl : lv_has ls 2 [(0, .ref (ad 0)), (1, .int (iI q))] := hl
  refine lv_iload_n hx hb dX0_volumeAt_0 rfl (lv_at hl 1 rfl) ?_
  refine lv_aload_n hx hb dX0_volumeAt_1 rfl (lv_at hl 0 rfl) ?_
  refine va_get (D := (dC, dI)) (ci := 0) (v := .int (iI ((r : Int)))) (C := RX0) (T := TX0) (N := 8) hx hb hts hinTX0 hown hK hP 0 rfl rfl 6 (by decide) fl50 (fun _ h9 => h9) rfl dX0_volumeAt_2 ?_
  refine r_idiv hx hb dX0_volumeAt_5 (by omega) (by omega) (by omega) (by omega) ?_
  exact W.iret (v := iI (q / ((r : Int)))) hx hb hr (fun t ht hW => ⟨⟨_, (), rfl, rfl, trivial⟩, hS.F ht⟩) hS.2.2 dX0_volumeAt_6
set_option maxHeartbeats 4000000 in
set_option maxRecDepth 100000 in
theorem m_latestBelow (l : Launch) (dC : Nat → ClassId) (dI : Nat → Nat → Nat) (ad : Nat → Nat) (ca : Nat → ClassId) (gL gB gD : Nat → Int) (gN : Nat → Int64) (gS : Nat → Int) (n r : Nat) (x : Int64) (L : Nat → Nat) (v : Nat) (hn : n ≤ 300) (hL : ∀ d, d < n → gL d = (L d : Int) ∧ L d ≤ 9) (hv : v ≤ 9) : Met l yX0_latestBelow wsX0_latestBelow { frames := 0, cells := 0, slots := 0, locals := 0 } (PX (dC, dI) vwCl (yX ca) (wX ad ca gL gB gD gN gS ((n : Int)) ((r : Int)) x) [.ref (ad 0), .int (iI ((v : Int)))]) (RQi (fun y => y = iI ((ba L v n : Int) - 1))) 0 0 nF := by
  refine Met.ofW (cc := cX0_latestBelow) (maxL := 3) (ret := (some .int)) (by decide) rfl ?_
  intro p e s m args below meth c s₁ B hml hv
  obtain ⟨rfl, hP, hK, hD0⟩ := hv
  have hx := B.exec
  have hb := B.bytes
  have hr := B.returns
  have hts := atoms_spec (ws := wsX0_latestBelow) B.pre
  have hown : s.vm.findClass RX0 = some m.cls := findClass_of_methodNamed B.named
  have hlocks := B.notSynchronized
  have hw := fun w h => hts w (List.mem_cons_of_mem _ h)
  have hinTX0 : ∀ w ∈ u_ws RX0 TX0 8, w ∈ wsX0_latestBelow := wA_u wuX0
  have fl41 := hw _ wfX0_41
  have fl9 := hw _ wfX0_9
  have hD := hD0
  obtain ⟨H, hH⟩ : ∃ H, H = s.heap := ⟨_, rfl⟩
  obtain ⟨locs, hlc⟩ : ∃ L : List Loc, L = [] := ⟨_, rfl⟩
  have hS : va_S nF s.heap H locs := by rw [hH, hlc]; exact va_S.rf
  rw [← hH] at hP ⊢
  rw [← hlc]
  have hl := lv_entry ([.ref (ad 0), .int (iI ((v : Int)))]) (n := 3) (Nat.le_of_ble_eq_true rfl)
  rw [lg_entry_eq]
  generalize (lg_sl ([.ref (ad 0), .int (iI ((v : Int)))]) ++ List.replicate (3 - (lg_sl ([.ref (ad 0), .int (iI ((v : Int)))])).length) Slot.unset).toArray = ls at hl ⊢
  have hl : lv_has ls 3 [(0, .ref (ad 0)), (1, .int (iI ((v : Int))))] := hl
  refine lv_aload_n hx hb dX0_latestBelow_0 rfl (lv_at hl 0 rfl) ?_
  refine va_get (D := (dC, dI)) (ci := 0) (v := .int (iI ((n : Int)))) (C := RX0) (T := TX0) (N := 8) hx hb hts hinTX0 hown hK hP 0 rfl rfl 5 (by decide) fl41 (fun _ h9 => h9) rfl dX0_latestBelow_1 ?_
  refine r_iconst hx hb dX0_latestBelow_4 ?_
  refine r_isub hx hb dX0_latestBelow_5 ?_
  refine lv_istore_n hx hb dX0_latestBelow_6 rfl hl (by decide) rfl (fun ls hl => ?_)
  have hl : lv_has ls 3 [(2, .int (iI (((n : Int)) - 1))), (0, .ref (ad 0)), (1, .int (iI ((v : Int))))] := hl
  have loop : ∀ (N : Nat) (k : Nat) (ls : Array Slot), k < N → (k ≤ n) → (ba L v k = ba L v n) → lv_has ls 3 [(2, .int (iI ((k : Int) - 1))), (0, .ref (ad 0)), (1, .int (iI ((v : Int))))] → W p l e (headSpec wsX0_latestBelow { frames := 0, cells := 0, slots := 0, locals := 0 }).room s m ([.ref (ad 0), .int (iI ((v : Int)))]).toArray below meth c H locs 0 0 (MQ below (RQi (fun y => y = iI ((ba L v n : Int) - 1))) ([.ref (ad 0), .int (iI ((v : Int)))]).toArray s 0 0 nF) (F0 m 7 ls []) := by
    intro N
    induction N with
    | zero => intro k ls h; exact absurd h (Nat.not_lt_zero _)
    | succ N ih =>
      intro k ls hN hk hb9 hl
      refine lv_iload_n hx hb dX0_latestBelow_7 rfl (lv_at hl 0 rfl) ?_
      refine r_if_lt hx hb dX0_latestBelow_8 (tgt := 29) (by decide) (by omega) (fun hlt => ?_) (fun hge => ?_)
      · have hk0 : k = 0 := by omega
        subst hk0
        refine r_iconst hx hb dX0_latestBelow_29 ?_
        exact W.iret (v := iI ((-1))) hx hb hr (fun t ht hW => ⟨⟨_, (), rfl, by rw [← hb9]; rfl, trivial⟩, hS.F ht⟩) hS.2.2 dX0_latestBelow_30
      · obtain ⟨j, hj⟩ : ∃ j, k = j + 1 := ⟨k - 1, by omega⟩
        have ej : ((k : Int) - 1).toNat = j := by omega
        have hlk := hL j (by omega)
        have eb : ba L v k = if L j < v then j + 1 else ba L v j := by rw [hj]; rfl
        refine lv_aload_n hx hb dX0_latestBelow_11 rfl (lv_at hl 1 rfl) ?_
        refine va_get (D := (dC, dI)) (ci := 0) (v := .ref (ad 1)) (C := RX0) (T := TX0) (N := 8) hx hb hts hinTX0 hown hK hP 0 rfl rfl 0 (by decide) fl9 (fun _ h9 => h9) rfl dX0_latestBelow_12 ?_
        refine lv_iload_n hx hb dX0_latestBelow_15 rfl (lv_at hl 0 rfl) ?_
        refine r_iald hx hb hK hP 1 0 rfl rfl (by omega) (by omega) (by decide) dX0_latestBelow_16 ?_
        refine r_topi (b := (L j : Int)) (by rw [ej]; exact hlk.1) ?_
        refine lv_iload_n hx hb dX0_latestBelow_17 rfl (lv_at hl 2 rfl) ?_
        refine r_icmp_ge hx hb dX0_latestBelow_18 (tgt := 23) (by decide) (by omega) (by omega) (fun hge2 => ?_) (fun hlt2 => ?_)
        · refine r_iinc (k := 0) hx hb dX0_latestBelow_23 hl rfl (by decide) rfl (fun ls hl => ?_)
          have hl : lv_has ls 3 [(2, .int (iI ((k : Int) - 1 + (-1)))), (0, .ref (ad 0)), (1, .int (iI ((v : Int))))] := hl
          refine lv_goto hx hb dX0_latestBelow_26 (tgt := 7) (by decide) ?_
          have hl : lv_has ls 3 [(2, .int (iI ((j : Int) - 1))), (0, .ref (ad 0)), (1, .int (iI (v : Int)))] := by rw [show (j : Int) - 1 = (k : Int) - 1 + (-1) by omega]; exact hl
          exact ih j ls (by omega) (by omega) (by rw [← hb9, eb, if_neg (by omega)]) hl
        · refine lv_iload_n hx hb dX0_latestBelow_21 rfl (lv_at hl 0 rfl) ?_
          exact W.iret (v := iI ((k : Int) - 1)) hx hb hr (fun t ht hW => ⟨⟨_, (), rfl, by rw [← hb9, eb, if_pos (by omega)]; congr 1; omega, trivial⟩, hS.F ht⟩) hS.2.2 dX0_latestBelow_22
  exact loop (n + 1) n ls (Nat.lt_succ_self _) (Nat.le_refl n) rfl hl
set_option maxHeartbeats 4000000 in
set_option maxRecDepth 100000 in
theorem m_dumpAt (l : Launch) (dC : Nat → ClassId) (dI : Nat → Nat → Nat) (ad : Nat → Nat) (ca : Nat → ClassId) (gL gB gD : Nat → Int) (gN : Nat → Int64) (gS : Nat → Int) (n r : Nat) (x : Int64) (S : Nat → Nat) (q : Nat) (hn : n ≤ 300) (hq : q < 1000000) (hs : sm S n < 1000000) (hS9 : ∀ d, d ≤ n → gS d = (sm S d : Int)) : Met l yX0_dumpAt wsX0_dumpAt { frames := 0, cells := 0, slots := 0, locals := 0 } (PX (dC, dI) vwCl (yX ca) (wX ad ca gL gB gD gN gS ((n : Int)) ((r : Int)) x) [.ref (ad 0), .int (iI ((q : Int)))]) (RQi (fun y => y = iI ((ow S q n : Int) - 1))) 0 0 nF := by
  refine Met.ofW (cc := cX0_dumpAt) (maxL := 3) (ret := (some .int)) (by decide) rfl ?_
  intro p e s m args below meth c s₁ B hml hv
  obtain ⟨rfl, hP, hK, hD0⟩ := hv
  have hx := B.exec
  have hb := B.bytes
  have hr := B.returns
  have hts := atoms_spec (ws := wsX0_dumpAt) B.pre
  have hown : s.vm.findClass RX0 = some m.cls := findClass_of_methodNamed B.named
  have hlocks := B.notSynchronized
  have hw := fun w h => hts w (List.mem_cons_of_mem _ h)
  have hinTX0 : ∀ w ∈ u_ws RX0 TX0 8, w ∈ wsX0_dumpAt := wA_u wuX0
  have fl41 := hw _ wfX0_41
  have fl23 := hw _ wfX0_23
  have hD := hD0
  obtain ⟨H, hH⟩ : ∃ H, H = s.heap := ⟨_, rfl⟩
  obtain ⟨locs, hlc⟩ : ∃ L : List Loc, L = [] := ⟨_, rfl⟩
  have hS : va_S nF s.heap H locs := by rw [hH, hlc]; exact va_S.rf
  rw [← hH] at hP ⊢
  rw [← hlc]
  have hl := lv_entry ([.ref (ad 0), .int (iI ((q : Int)))]) (n := 3) (Nat.le_of_ble_eq_true rfl)
  rw [lg_entry_eq]
  generalize (lg_sl ([.ref (ad 0), .int (iI ((q : Int)))]) ++ List.replicate (3 - (lg_sl ([.ref (ad 0), .int (iI ((q : Int)))])).length) Slot.unset).toArray = ls at hl ⊢
  have hl : lv_has ls 3 [(0, .ref (ad 0)), (1, .int (iI ((q : Int))))] := hl
  refine r_iconst hx hb dX0_dumpAt_0 ?_
  refine lv_istore_n hx hb dX0_dumpAt_1 rfl hl (by decide) rfl (fun ls hl => ?_)
  have hl : lv_has ls 3 [(2, .int (iI 0)), (0, .ref (ad 0)), (1, .int (iI ((q : Int))))] := hl
  have loop : ∀ (N : Nat) (k : Nat) (ls : Array Slot), n - k < N → (k ≤ n) → (ow S q k = 0) → lv_has ls 3 [(2, .int (iI ((k : Int)))), (0, .ref (ad 0)), (1, .int (iI ((q : Int))))] → W p l e (headSpec wsX0_dumpAt { frames := 0, cells := 0, slots := 0, locals := 0 }).room s m ([.ref (ad 0), .int (iI ((q : Int)))]).toArray below meth c H locs 0 0 (MQ below (RQi (fun y => y = iI ((ow S q n : Int) - 1))) ([.ref (ad 0), .int (iI ((q : Int)))]).toArray s 0 0 nF) (F0 m 2 ls []) := by
    intro N
    induction N with
    | zero => intro k ls h; exact absurd h (Nat.not_lt_zero _)
    | succ N ih =>
      intro k ls hN hk h0 hl
      refine lv_iload_n hx hb dX0_dumpAt_2 rfl (lv_at hl 0 rfl) ?_
      refine lv_aload_n hx hb dX0_dumpAt_3 rfl (lv_at hl 1 rfl) ?_
      refine va_get (D := (dC, dI)) (ci := 0) (v := .int (iI ((n : Int)))) (C := RX0) (T := TX0) (N := 8) hx hb hts hinTX0 hown hK hP 0 rfl rfl 5 (by decide) fl41 (fun _ h9 => h9) rfl dX0_dumpAt_4 ?_
      refine r_icmp_ge hx hb dX0_dumpAt_7 (tgt := 30) (by decide) (by omega) (by omega) (fun hge => ?_) (fun hlt => ?_)
      · have hk0 : k = n := by omega
        subst hk0
        refine r_iconst hx hb dX0_dumpAt_30 ?_
        exact W.iret (v := iI ((-1))) hx hb hr (fun t ht hW => ⟨⟨_, (), rfl, by rw [h0]; rfl, trivial⟩, hS.F ht⟩) hS.2.2 dX0_dumpAt_31
      · have ej : ((k : Int) + 1).toNat = k + 1 := by omega
        have hs2 := hS9 (k + 1) (by omega)
        have hs3 : sm S (k + 1) ≤ sm S n := sm_mono (by omega)
        refine lv_iload_n hx hb dX0_dumpAt_10 rfl (lv_at hl 2 rfl) ?_
        refine lv_aload_n hx hb dX0_dumpAt_11 rfl (lv_at hl 1 rfl) ?_
        refine va_get (D := (dC, dI)) (ci := 0) (v := .ref (ad 5)) (C := RX0) (T := TX0) (N := 8) hx hb hts hinTX0 hown hK hP 0 rfl rfl 4 (by decide) fl23 (fun _ h9 => h9) rfl dX0_dumpAt_12 ?_
        refine lv_iload_n hx hb dX0_dumpAt_15 rfl (lv_at hl 0 rfl) ?_
        refine r_iconst hx hb dX0_dumpAt_16 ?_
        refine r_iadd hx hb dX0_dumpAt_17 ?_
        refine r_iald hx hb hK hP 5 4 rfl rfl (by omega) (by omega) (by decide) dX0_dumpAt_18 ?_
        refine r_topi (b := (sm S (k + 1) : Int)) (by rw [ej]; exact hs2) ?_
        refine r_icmp_ge hx hb dX0_dumpAt_19 (tgt := 24) (by decide) (by omega) (by omega) (fun hge2 => ?_) (fun hlt2 => ?_)
        · refine r_iinc (k := 0) hx hb dX0_dumpAt_24 hl rfl (by decide) rfl (fun ls hl => ?_)
          have hl : lv_has ls 3 [(2, .int (iI ((k : Int) + 1))), (0, .ref (ad 0)), (1, .int (iI ((q : Int))))] := hl
          refine lv_goto hx hb dX0_dumpAt_27 (tgt := 2) (by decide) ?_
          have hl : lv_has ls 3 [(2, .int (iI ((k + 1 : Nat) : Int))), (0, .ref (ad 0)), (1, .int (iI (q : Int)))] := by rw [show ((k + 1 : Nat) : Int) = (k : Int) + 1 by omega]; exact hl
          exact ih (k + 1) ls (by omega) (by omega) (ow_miss h0 (by omega)) hl
        · refine lv_iload_n hx hb dX0_dumpAt_22 rfl (lv_at hl 0 rfl) ?_
          exact W.iret (v := iI ((k : Int))) hx hb hr (fun t ht hW => ⟨⟨_, (), rfl, by rw [ow_keep (k := k + 1) (by rw [ow_hit h0 (by omega)]; omega) n (by omega), ow_hit h0 (by omega)]; congr 1; omega, trivial⟩, hS.F ht⟩) hS.2.2 dX0_dumpAt_23
  exact loop (n + 1) 0 ls (by omega) (Nat.zero_le n) rfl hl
