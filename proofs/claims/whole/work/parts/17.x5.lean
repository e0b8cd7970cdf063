/-! the class: needs, good, latest, lose, spare, count -/
set_option maxHeartbeats 4000000 in
set_option maxRecDepth 100000 in
theorem m_needs (l : Launch) (hl9 : l.stackTraces = false) (dC : Nat → ClassId) (dI : Nat → Nat → Nat) (ad : Nat → Nat) (ca : Nat → ClassId) (gL gB gD : Nat → Int) (gN : Nat → Int64) (gS : Nat → Int) (n r : Nat) (x : Int64) (L S : Nat → Nat) (lo : Nat → Bool) (hok : okS n L S r) (hT : tX n L S r lo gL gB gD gN gS x) (q : Int) (hq : iR q) : vx_Met l yX0_needs wsX0_needs { frames := 7, cells := 1, slots := 6, locals := 103 } (PXe (dC, dI) vwCl (yX ca) (wX ad ca gL gB gD gN gS ((n : Int)) ((r : Int)) x) [.ref (ad 0), .int (iI q)]) (RQl (fun y => (0 ≤ q ∧ q < (n : Int)) ∧ ∀ v, v < 64 → bL y v = nd L S r v (q.toNat + 1))) (xcE (fun E => E = eIX ∧ (q < 0 ∨ (n : Int) ≤ q))) 1 6 nF := by
  refine vx_ofW (cc := cX0_needs) (maxL := 2) (ret := (some .long)) (by decide) rfl ?_
  intro p e s m args below meth c s₁ B hml hEx hv
  obtain ⟨rfl, hP, hK, hD0, hE⟩ := hv
  have hx := B.exec
  have hb := B.bytes
  have hr := B.returns
  have hts := atoms_spec (ws := wsX0_needs) B.pre
  have hown : s.vm.findClass RX0 = some m.cls := findClass_of_methodNamed B.named
  have hlocks := B.notSynchronized
  have hw := fun w h => hts w (List.mem_cons_of_mem _ h)
  have hinTX0 : ∀ w ∈ u_ws RX0 TX0 8, w ∈ wsX0_needs := wA_u wuX0
  have fl19 := hw _ wfX0_19
  have hD := hD0
  obtain ⟨H, hH⟩ : ∃ H, H = s.heap := ⟨_, rfl⟩
  obtain ⟨locs, hlc⟩ : ∃ L : List Loc, L = [] := ⟨_, rfl⟩
  have hS : va_S nF s.heap H locs := by rw [hH, hlc]; exact va_S.rf
  rw [← hH] at hP ⊢
  rw [← hlc]
  have hl := lv_entry ([.ref (ad 0), .int (iI q)]) (n := 2) (Nat.le_of_ble_eq_true rfl)
  rw [lg_entry_eq]
  generalize (lg_sl ([.ref (ad 0), .int (iI q)]) ++ List.replicate (2 - (lg_sl ([.ref (ad 0), .int (iI q)])).length) Slot.unset).toArray = ls at hl ⊢
  have hl : lv_has ls 2 [(0, .ref (ad 0)), (1, .int (iI q))] := hl
  obtain ⟨ok1, ok2, ok3, ok4, ok5⟩ := id hok
  refine lv_aload_n hx hb dX0_needs_0 rfl (lv_at hl 0 rfl) ?_
  refine lv_iload_n hx hb dX0_needs_1 rfl (lv_at hl 1 rfl) ?_
  refine vc_v (vx_runV (As := [.int (iI q)]) (rest := []) ⟨hx, hb, hml, hown, hts⟩ (m_checkDump l hl9 dC dI ad ca gL gB gD gN gS n r x q hq ok1) (cwV 1 hts (gV wlX0_61 wo_X0_checkDump wz_X0_checkDump wi_1 wcX0_checkDump) rfl rfl rfl (by decide +kernel) ⟨Nat.le_of_ble_eq_true rfl, Nat.le_of_ble_eq_true rfl⟩) (PXe_V (q0 := 0) (ci := 0) hP hK hD hE (fun a h _ => hS.2.1 a h (fun z => z)) (fun _ h => h) rfl rfl) rfl rfl hl.1 rfl (lv_room (Nat.le_of_ble_eq_true rfl)) dX0_needs_2 ⟨Nat.le_of_ble_eq_true rfl, Nat.le_of_ble_eq_true rfl⟩) hS hP (fun E ce q9 H locs hPE hS hce hcv hcl => ?_) (fun H locs hc hP hS => ?_)
  · exact vx_out (E := E) (fun x hx => (hEx x hx).elim) hlocks hce hcv hcl (fun t ht ha => ⟨(), trivial, hPE, hS.F ht⟩) (fun z hz => (hS.2.2 z hz).elim) (by decide) (by decide)
  obtain ⟨-, -, -, t4⟩ := hT.1 q.toNat (by omega)
  refine lv_aload_n hx hb dX0_needs_5 rfl (lv_at hl 0 rfl) ?_
  refine va_get (D := (dC, dI)) (ci := 0) (v := .ref (ad 4)) (C := RX0) (T := TX0) (N := 8) hx hb hts hinTX0 hown hK hP 0 rfl rfl 3 (by decide) fl19 (fun _ h9 => h9) rfl dX0_needs_6 ?_
  refine lv_iload_n hx hb dX0_needs_9 rfl (lv_at hl 1 rfl) ?_
  refine r_lald hx hb hK hP 4 3 rfl rfl (by omega) (by omega) (by decide) dX0_needs_10 ?_
  refine vx_ret ?_
  refine W.widen (k := 1) (n := 6) (by decide) (by decide) ?_
  exact W.lret hx hb hr (fun t ht hW => ⟨⟨_, (), rfl, ⟨hc, t4⟩, trivial⟩, hS.F ht⟩) hS.2.2 dX0_needs_11
set_option maxHeartbeats 4000000 in
set_option maxRecDepth 100000 in
theorem m_good (l : Launch) (hl9 : l.stackTraces = false) (dC : Nat → ClassId) (dI : Nat → Nat → Nat) (ad : Nat → Nat) (ca : Nat → ClassId) (gL gB gD : Nat → Int) (gN : Nat → Int64) (gS : Nat → Int) (n r : Nat) (x : Int64) (L S : Nat → Nat) (lo : Nat → Bool) (hok : okS n L S r) (hT : tX n L S r lo gL gB gD gN gS x) (q : Int) (hq : iR q) : vx_Met l yX0_good wsX0_good { frames := 7, cells := 1, slots := 6, locals := 103 } (PXe (dC, dI) vwCl (yX ca) (wX ad ca gL gB gD gN gS ((n : Int)) ((r : Int)) x) [.ref (ad 0), .int (iI q)]) (RQi (fun y => (0 ≤ q ∧ q < (n : Int)) ∧ y = iI (b2 (gd L S r lo q.toNat)))) (xcE (fun E => E = eIX ∧ (q < 0 ∨ (n : Int) ≤ q))) 1 6 nF := by
  refine vx_ofW (cc := cX0_good) (maxL := 2) (ret := (some .boolean)) (by decide) rfl ?_
  intro p e s m args below meth c s₁ B hml hEx hv
  obtain ⟨rfl, hP, hK, hD0, hE⟩ := hv
  have hx := B.exec
  have hb := B.bytes
  have hr := B.returns
  have hts := atoms_spec (ws := wsX0_good) B.pre
  have hown : s.vm.findClass RX0 = some m.cls := findClass_of_methodNamed B.named
  have hlocks := B.notSynchronized
  have hw := fun w h => hts w (List.mem_cons_of_mem _ h)
  have hinTX0 : ∀ w ∈ u_ws RX0 TX0 8, w ∈ wsX0_good := wA_u wuX0
  have hD := hD0
  obtain ⟨H, hH⟩ : ∃ H, H = s.heap := ⟨_, rfl⟩
  obtain ⟨locs, hlc⟩ : ∃ L : List Loc, L = [] := ⟨_, rfl⟩
  have hS : va_S nF s.heap H locs := by rw [hH, hlc]; exact va_S.rf
  rw [← hH] at hP ⊢
  rw [← hlc]
  have hl := lv_entry ([.ref (ad 0), .int (iI q)]) (n := 2) (Nat.le_of_ble_eq_true rfl)
  rw [lg_entry_eq]
  generalize (lg_sl ([.ref (ad 0), .int (iI q)]) ++ List.replicate (2 - (lg_sl ([.ref (ad 0), .int (iI q)])).length) Slot.unset).toArray = ls at hl ⊢
  have hl : lv_has ls 2 [(0, .ref (ad 0)), (1, .int (iI q))] := hl
  obtain ⟨ok1, ok2, ok3, ok4, ok5⟩ := id hok
  refine lv_aload_n hx hb dX0_good_0 rfl (lv_at hl 0 rfl) ?_
  refine lv_iload_n hx hb dX0_good_1 rfl (lv_at hl 1 rfl) ?_
  refine vc_v (vx_runV (As := [.int (iI q)]) (rest := []) ⟨hx, hb, hml, hown, hts⟩ (m_checkDump l hl9 dC dI ad ca gL gB gD gN gS n r x q hq ok1) (cwV 1 hts (gV wlX0_61 wo_X0_checkDump wz_X0_checkDump wi_1 wcX0_checkDump) rfl rfl rfl (by decide +kernel) ⟨Nat.le_of_ble_eq_true rfl, Nat.le_of_ble_eq_true rfl⟩) (PXe_V (q0 := 0) (ci := 0) hP hK hD hE (fun a h _ => hS.2.1 a h (fun z => z)) (fun _ h => h) rfl rfl) rfl rfl hl.1 rfl (lv_room (Nat.le_of_ble_eq_true rfl)) dX0_good_2 ⟨Nat.le_of_ble_eq_true rfl, Nat.le_of_ble_eq_true rfl⟩) hS hP (fun E ce q9 H locs hPE hS hce hcv hcl => ?_) (fun H locs hc hP hS => ?_)
  · exact vx_out (E := E) (fun x hx => (hEx x hx).elim) hlocks hce hcv hcl (fun t ht ha => ⟨(), trivial, hPE, hS.F ht⟩) (fun z hz => (hS.2.2 z hz).elim) (by decide) (by decide)
  have hl : lv_has ls 2 [(0, .ref (ad 0)), (1, .int (iI ((q.toNat : Int))))] := by
    rw [Int.toNat_of_nonneg hc.1]
    exact hl
  refine lv_aload_n hx hb dX0_good_5 rfl (lv_at hl 0 rfl) ?_
  refine lv_iload_n hx hb dX0_good_6 rfl (lv_at hl 1 rfl) ?_
  refine ro_z (z := b2 (gd L S r lo q.toNat)) (va_runV (As := [.int (iI ((q.toNat : Int)))]) (rest := []) ⟨hx, hb, hml, hown, hts⟩ (m_isGood l dC dI ad ca gL gB gD gN gS n r x L S lo hok hT q.toNat (by omega)) (cwV 1 hts (gV wlX0_86 wo_X0_isGood wz_X0_isGood wi_1 wcX0_isGood) rfl rfl rfl (by decide +kernel) ⟨Nat.le_of_ble_eq_true rfl, Nat.le_of_ble_eq_true rfl⟩) (PX_V (q0 := 0) (ci := 0) hP hK hD rfl rfl) rfl rfl hl.1 rfl (lv_room (Nat.le_of_ble_eq_true rfl)) dX0_good_7 ⟨Nat.le_of_ble_eq_true rfl, Nat.le_of_ble_eq_true rfl⟩) hS hP (fun H locs hP hS => ?_)
  refine vx_ret ?_
  refine W.widen (k := 1) (n := 6) (by decide) (by decide) ?_
  exact W.zret (v := iI (b2 (gd L S r lo q.toNat))) hx hb hr (by rcases b2_r (gd L S r lo q.toNat) with h | h <;> rw [h] <;> rfl) (fun t ht hW => ⟨⟨_, (), rfl, ⟨hc, rfl⟩, trivial⟩, hS.F ht⟩) hS.2.2 dX0_good_10
set_option maxHeartbeats 4000000 in
set_option maxRecDepth 100000 in
theorem m_latest (l : Launch) (hl9 : l.stackTraces = false) (dC : Nat → ClassId) (dI : Nat → Nat → Nat) (ad : Nat → Nat) (ca : Nat → ClassId) (gL gB gD : Nat → Int) (gN : Nat → Int64) (gS : Nat → Int) (n r : Nat) (x : Int64) (L S : Nat → Nat) (lo : Nat → Bool) (hok : okS n L S r) (hT : tX n L S r lo gL gB gD gN gS x) (q : Int) (hq : iR q) : vx_Met l yX0_latest wsX0_latest { frames := 7, cells := 1, slots := 6, locals := 103 } (PXe (dC, dI) vwCl (yX ca) (wX ad ca gL gB gD gN gS ((n : Int)) ((r : Int)) x) [.ref (ad 0), .int (iI q)]) (RQi (fun y => (0 ≤ q ∧ q < (n : Int)) ∧ y = iI ((la (gd L S r lo) (q.toNat + 1) : Int) - 1))) (xcE (fun E => E = eIX ∧ (q < 0 ∨ (n : Int) ≤ q))) 1 6 nF := by
  refine vx_ofW (cc := cX0_latest) (maxL := 3) (ret := (some .int)) (by decide) rfl ?_
  intro p e s m args below meth c s₁ B hml hEx hv
  obtain ⟨rfl, hP, hK, hD0, hE⟩ := hv
  have hx := B.exec
  have hb := B.bytes
  have hr := B.returns
  have hts := atoms_spec (ws := wsX0_latest) B.pre
  have hown : s.vm.findClass RX0 = some m.cls := findClass_of_methodNamed B.named
  have hlocks := B.notSynchronized
  have hw := fun w h => hts w (List.mem_cons_of_mem _ h)
  have hinTX0 : ∀ w ∈ u_ws RX0 TX0 8, w ∈ wsX0_latest := wA_u wuX0
  have hD := hD0
  obtain ⟨H, hH⟩ : ∃ H, H = s.heap := ⟨_, rfl⟩
  obtain ⟨locs, hlc⟩ : ∃ L : List Loc, L = [] := ⟨_, rfl⟩
  have hS : va_S nF s.heap H locs := by rw [hH, hlc]; exact va_S.rf
  rw [← hH] at hP ⊢
  rw [← hlc]
  have hl := lv_entry ([.ref (ad 0), .int (iI q)]) (n := 3) (Nat.le_of_ble_eq_true rfl)
  rw [lg_entry_eq]
  generalize (lg_sl ([.ref (ad 0), .int (iI q)]) ++ List.replicate (3 - (lg_sl ([.ref (ad 0), .int (iI q)])).length) Slot.unset).toArray = ls at hl ⊢
  have hl : lv_has ls 3 [(0, .ref (ad 0)), (1, .int (iI q))] := hl
  obtain ⟨ok1, ok2, ok3, ok4, ok5⟩ := id hok
  refine lv_aload_n hx hb dX0_latest_0 rfl (lv_at hl 0 rfl) ?_
  refine lv_iload_n hx hb dX0_latest_1 rfl (lv_at hl 1 rfl) ?_
  refine vc_v (vx_runV (As := [.int (iI q)]) (rest := []) ⟨hx, hb, hml, hown, hts⟩ (m_checkDump l hl9 dC dI ad ca gL gB gD gN gS n r x q hq ok1) (cwV 1 hts (gV wlX0_61 wo_X0_checkDump wz_X0_checkDump wi_1 wcX0_checkDump) rfl rfl rfl (by decide +kernel) ⟨Nat.le_of_ble_eq_true rfl, Nat.le_of_ble_eq_true rfl⟩) (PXe_V (q0 := 0) (ci := 0) hP hK hD hE (fun a h _ => hS.2.1 a h (fun z => z)) (fun _ h => h) rfl rfl) rfl rfl hl.1 rfl (lv_room (Nat.le_of_ble_eq_true rfl)) dX0_latest_2 ⟨Nat.le_of_ble_eq_true rfl, Nat.le_of_ble_eq_true rfl⟩) hS hP (fun E ce q9 H locs hPE hS hce hcv hcl => ?_) (fun H locs hc hP hS => ?_)
  · exact vx_out (E := E) (fun x hx => (hEx x hx).elim) hlocks hce hcv hcl (fun t ht ha => ⟨(), trivial, hPE, hS.F ht⟩) (fun z hz => (hS.2.2 z hz).elim) (by decide) (by decide)
  refine lv_iload_n hx hb dX0_latest_5 rfl (lv_at hl 1 rfl) ?_
  refine lv_istore_n hx hb dX0_latest_6 rfl hl (by decide) rfl (fun ls hl => ?_)
  have hl : lv_has ls 3 [(2, .int (iI q)), (0, .ref (ad 0)), (1, .int (iI q))] := hl
  have loop : ∀ (N : Nat) (k : Nat) (ls : Array Slot) (H : Heap) (locs : List Loc), k < N → (k ≤ n) → (la (gd L S r lo) k = la (gd L S r lo) (q.toNat + 1)) → va_P (dC, dI) vwCl (wX ad ca gL gB gD gN gS ((n : Int)) ((r : Int)) x) H → va_S nF s.heap H locs → lv_has ls 3 [(2, .int (iI ((k : Int) - 1))), (0, .ref (ad 0)), (1, .int (iI q))] → W p l e (headSpec wsX0_latest { frames := 7, cells := 1, slots := 6, locals := 103 }).room s m ([.ref (ad 0), .int (iI q)]).toArray below meth c H locs (0 + 1) (0 + 6) (vx_MQ below (RQi (fun y => (0 ≤ q ∧ q < (n : Int)) ∧ y = iI ((la (gd L S r lo) (q.toNat + 1) : Int) - 1))) (xcE (fun E => E = eIX ∧ (q < 0 ∨ (n : Int) ≤ q))) ([.ref (ad 0), .int (iI q)]).toArray s 1 6 nF) (F0 m 7 ls []) := by
    intro N
    induction N with
    | zero => intro k ls H locs h; exact absurd h (Nat.not_lt_zero _)
    | succ N ih =>
      intro k ls H locs hN hk hb9 hP hS hl
      refine lv_iload_n hx hb dX0_latest_7 rfl (lv_at hl 0 rfl) ?_
      refine r_if_lt hx hb dX0_latest_8 (tgt := 27) (by decide) (by omega) (fun hlt => ?_) (fun hge => ?_)
      · have hk0 : k = 0 := by omega
        subst hk0
        refine r_iconst hx hb dX0_latest_27 ?_
        refine vx_ret ?_
        refine W.widen (k := 1) (n := 6) (by decide) (by decide) ?_
        exact W.iret (v := iI ((-1))) hx hb hr (fun t ht hW => ⟨⟨_, (), rfl, ⟨hc, by rw [← hb9]; rfl⟩, trivial⟩, hS.F ht⟩) hS.2.2 dX0_latest_28
      · obtain ⟨j, hj⟩ : ∃ j, k = j + 1 := ⟨k - 1, by omega⟩
        have eb : la (gd L S r lo) k = if gd L S r lo j then j + 1 else la (gd L S r lo) j := by rw [hj]; rfl
        have h01 := b2_r (gd L S r lo j)
        refine lv_aload_n hx hb dX0_latest_11 rfl (lv_at hl 1 rfl) ?_
        refine lv_iload_n hx hb dX0_latest_12 rfl (lv_at hl 0 rfl) ?_
        refine r_topi (b := (j : Int)) (by omega) ?_
        refine ro_z (z := b2 (gd L S r lo j)) (va_runV (As := [.int (iI ((j : Int)))]) (rest := []) ⟨hx, hb, hml, hown, hts⟩ (m_isGood l dC dI ad ca gL gB gD gN gS n r x L S lo hok hT j (by omega)) (cwV 1 hts (gV wlX0_86 wo_X0_isGood wz_X0_isGood wi_1 wcX0_isGood) rfl rfl rfl (by decide +kernel) ⟨Nat.le_of_ble_eq_true rfl, Nat.le_of_ble_eq_true rfl⟩) (PX_V (q0 := 0) (ci := 0) hP hK hD rfl rfl) rfl rfl hl.1 rfl (lv_room (Nat.le_of_ble_eq_true rfl)) dX0_latest_13 ⟨Nat.le_of_ble_eq_true rfl, Nat.le_of_ble_eq_true rfl⟩) hS hP (fun H locs hP hS => ?_)
        refine r_if_eq hx hb dX0_latest_16 (tgt := 21) (by decide) (by omega) (fun hz => ?_) (fun hnz => ?_)
        · have hgf : ¬ gd L S r lo j = true := fun q9 => by rw [q9] at hz; exact absurd hz (by decide)
          refine r_iinc (k := 0) hx hb dX0_latest_21 hl rfl (by decide) rfl (fun ls hl => ?_)
          have hl : lv_has ls 3 [(2, .int (iI ((k : Int) - 1 + (-1)))), (0, .ref (ad 0)), (1, .int (iI q))] := hl
          refine lv_goto hx hb dX0_latest_24 (tgt := 7) (by decide) ?_
          have hl : lv_has ls 3 [(2, .int (iI ((j : Int) - 1))), (0, .ref (ad 0)), (1, .int (iI q))] := by rw [show (j : Int) - 1 = (k : Int) - 1 + (-1) by omega]; exact hl
          exact ih j ls H locs (by omega) (by omega) (by rw [← hb9, eb, if_neg hgf]) hP hS hl
        · have hgt : gd L S r lo j = true := by
            cases q9 : gd L S r lo j with
            | true => rfl
            | false => rw [q9] at hnz; exact absurd rfl hnz
          refine lv_iload_n hx hb dX0_latest_19 rfl (lv_at hl 0 rfl) ?_
          refine vx_ret ?_
          refine W.widen (k := 1) (n := 6) (by decide) (by decide) ?_
          exact W.iret (v := iI ((k : Int) - 1)) hx hb hr (fun t ht hW => ⟨⟨_, (), rfl, ⟨hc, by rw [← hb9, eb, if_pos hgt]; congr 1; omega⟩, trivial⟩, hS.F ht⟩) hS.2.2 dX0_latest_20
  have hl : lv_has ls 3 [(2, .int (iI (((q.toNat + 1 : Nat) : Int) - 1))), (0, .ref (ad 0)), (1, .int (iI q))] := by
    rw [show ((q.toNat + 1 : Nat) : Int) - 1 = q by omega]
    exact hl
  exact loop (q.toNat + 2) (q.toNat + 1) ls H locs (Nat.lt_succ_self _) (by omega) rfl hP hS hl
set_option maxHeartbeats 4000000 in
set_option maxRecDepth 100000 in
theorem m_lose (l : Launch) (hl9 : l.stackTraces = false) (dC : Nat → ClassId) (dI : Nat → Nat → Nat) (ad : Nat → Nat) (ca : Nat → ClassId) (gL gB gD : Nat → Int) (gN : Nat → Int64) (gS : Nat → Int) (n r : Nat) (x : Int64) (L S : Nat → Nat) (lo : Nat → Bool) (hok : okS n L S r) (hT : tX n L S r lo gL gB gD gN gS x) (v f : Int) (hv : iR v) (hf : f = 0 ∨ f = 1) : vx_Met l yX0_lose wsX0_lose { frames := 7, cells := 1, slots := 6, locals := 103 } (PXe (dC, dI) vwCl (yX ca) (wX ad ca gL gB gD gN gS ((n : Int)) ((r : Int)) x) [.ref (ad 0), .int (iI v), .int (iI f)]) (va_Qi (fun (y : Int32) (x9 : Int64) => (0 ≤ v ∧ v < 64) ∧ y = iI (b2 (lo v.toNat)) ∧ ∀ w, w < 64 → bL x9 w = lsU lo v.toNat (decide (f = 1)) w) (fun x9 t => va_P (dC, dI) vwCl (wX ad ca gL gB gD gN gS ((n : Int)) ((r : Int)) x9) t.heap) (inW (wX ad ca gL gB gD gN gS ((n : Int)) ((r : Int)) x))) (xcE (fun E => E = eIA ∧ (v < 0 ∨ 64 ≤ v))) 1 6 (inW (wX ad ca gL gB gD gN gS ((n : Int)) ((r : Int)) x)) := by
  refine vx_ofW (cc := cX0_lose) (maxL := 6) (ret := (some .boolean)) (by decide) rfl ?_
  intro p e s m args below meth c s₁ B hml hEx hv
  obtain ⟨rfl, hP, hK, hD0, hE⟩ := hv
  have hx := B.exec
  have hb := B.bytes
  have hr := B.returns
  have hts := atoms_spec (ws := wsX0_lose) B.pre
  have hown : s.vm.findClass RX0 = some m.cls := findClass_of_methodNamed B.named
  have hlocks := B.notSynchronized
  have hw := fun w h => hts w (List.mem_cons_of_mem _ h)
  have hinTX0 : ∀ w ∈ u_ws RX0 TX0 8, w ∈ wsX0_lose := wA_u wuX0
  have fl80 := hw _ wfX0_80
  have hD := hD0
  obtain ⟨H, hH⟩ : ∃ H, H = s.heap := ⟨_, rfl⟩
  obtain ⟨locs, hlc⟩ : ∃ L : List Loc, L = [] := ⟨_, rfl⟩
  have hS : va_S nF s.heap H locs := by rw [hH, hlc]; exact va_S.rf
  rw [← hH] at hP ⊢
  rw [← hlc]
  have hl := lv_entry ([.ref (ad 0), .int (iI v), .int (iI f)]) (n := 6) (Nat.le_of_ble_eq_true rfl)
  rw [lg_entry_eq]
  generalize (lg_sl ([.ref (ad 0), .int (iI v), .int (iI f)]) ++ List.replicate (6 - (lg_sl ([.ref (ad 0), .int (iI v), .int (iI f)])).length) Slot.unset).toArray = ls at hl ⊢
  have hl : lv_has ls 6 [(0, .ref (ad 0)), (1, .int (iI v)), (2, .int (iI f))] := hl
  obtain ⟨ok1, ok2, ok3, ok4, ok5⟩ := id hok
  refine lv_aload_n hx hb dX0_lose_0 rfl (lv_at hl 0 rfl) ?_
  refine lv_iload_n hx hb dX0_lose_1 rfl (lv_at hl 1 rfl) ?_
  refine vc_v (vx_runV (As := [.int (iI v)]) (rest := []) ⟨hx, hb, hml, hown, hts⟩ (m_checkVolume l hl9 dC dI ad ca gL gB gD gN gS n r x v hv) (cwV 1 hts (gV wlX0_72 wo_X0_checkVolume wz_X0_checkVolume wi_1 wcX0_checkVolume) rfl rfl rfl (by decide +kernel) ⟨Nat.le_of_ble_eq_true rfl, Nat.le_of_ble_eq_true rfl⟩) (PXe_V (q0 := 0) (ci := 0) hP hK hD hE (fun a h _ => hS.2.1 a h (fun z => z)) (fun _ h => h) rfl rfl) rfl rfl hl.1 rfl (lv_room (Nat.le_of_ble_eq_true rfl)) dX0_lose_2 ⟨Nat.le_of_ble_eq_true rfl, Nat.le_of_ble_eq_true rfl⟩) hS hP (fun E ce q9 H locs hPE hS hce hcv hcl => ?_) (fun H locs hc hP hS => ?_)
  · exact vx_out (E := E) (fun x hx => (hEx x hx).elim) hlocks hce hcv hcl (fun t ht ha => ⟨(), trivial, hPE, hS.F ht⟩) (fun z hz => (hS.2.2 z hz).elim) (by decide) (by decide)
  have hl : lv_has ls 6 [(0, .ref (ad 0)), (1, .int (iI ((v.toNat : Int)))), (2, .int (iI f))] := by
    rw [Int.toNat_of_nonneg hc.1]
    exact hl
  have hD := wD_own hD0
  obtain ⟨A, hAe⟩ : ∃ A, A = inW (wX ad ca gL gB gD gN gS ((n : Int)) ((r : Int)) x) := ⟨_, rfl⟩
  rw [← hAe] at hD
  have hS : va_S A s.heap H locs := vS_up hS
  have hg := ls_get (v := v.toNat) (by omega) hT.2.2
  refine lv_lconst hx hb dX0_lose_5 rfl ?_
  refine lv_iload_n hx hb dX0_lose_6 rfl (lv_at hl 1 rfl) ?_
  refine lv_lshl hx hb dX0_lose_7 rfl ?_
  refine lv_lstore_n hx hb dX0_lose_8 rfl hl (by decide) rfl (fun ls hl => ?_)
  have hl : lv_has ls 6 [(3, .long ((Int64.ofNat 1) <<< ((iI ((v.toNat : Int))).toInt64 &&& 63))), (0, .ref (ad 0)), (1, .int (iI ((v.toNat : Int)))), (2, .int (iI f))] := hl
  refine lv_aload_n hx hb dX0_lose_9 rfl (lv_at hl 1 rfl) ?_
  refine va_get (D := (dC, dI)) (ci := 0) (v := .long x) (C := RX0) (T := TX0) (N := 8) hx hb hts hinTX0 hown hK hP 0 rfl rfl 7 (by decide) fl80 (fun _ h9 => h9) rfl dX0_lose_10 ?_
  refine lv_lload_n hx hb dX0_lose_13 rfl (lv_at hl 0 rfl) ?_
  refine lv_land hx hb dX0_lose_14 ?_
  refine lv_lconst hx hb dX0_lose_15 rfl ?_
  refine r_lcmp_eq hx hb dX0_lose_16 dX0_lose_17 (tgt := 24) (by decide) (fun heq => ?_) (fun hne => ?_)
  · have hb2 : b2 (lo v.toNat) = 0 := by rw [hg.mp heq]; rfl
    refine r_iconst hx hb dX0_lose_24 ?_
    refine lv_istore hx hb dX0_lose_25 hl (by decide) rfl (fun ls hl => ?_)
    have hl : lv_has ls 6 [(5, .int (iI 0)), (3, .long ((Int64.ofNat 1) <<< ((iI ((v.toNat : Int))).toInt64 &&& 63))), (0, .ref (ad 0)), (1, .int (iI ((v.toNat : Int)))), (2, .int (iI f))] := hl
    refine lv_aload_n hx hb dX0_lose_27 rfl (lv_at hl 2 rfl) ?_
    refine lv_iload_n hx hb dX0_lose_28 rfl (lv_at hl 4 rfl) ?_
    refine r_if_eq hx hb dX0_lose_29 (tgt := 41) (by decide) (by omega) (fun hf0 => ?_) (fun hf1 => ?_)
    · refine lv_aload_n hx hb dX0_lose_41 rfl (lv_at hl 2 rfl) ?_
      refine va_get (D := (dC, dI)) (ci := 0) (v := .long x) (C := RX0) (T := TX0) (N := 8) hx hb hts hinTX0 hown hK hP 0 rfl rfl 7 (by decide) fl80 (fun _ h9 => h9) rfl dX0_lose_42 ?_
      refine lv_lload_n hx hb dX0_lose_45 rfl (lv_at hl 1 rfl) ?_
      refine lv_ldc2 hx hb hown (hw _ wjX0_84) dX0_lose_46 ?_
      refine lv_lxor hx hb dX0_lose_49 ?_
      refine lv_land hx hb dX0_lose_50 ?_
      refine va_put (D := (dC, dI)) (ci := 0) (v := .long (x &&& (((Int64.ofNat 1) <<< ((iI ((v.toNat : Int))).toInt64 &&& 63)) ^^^ ((-1))))) (ty := .long) (C := RX0) (T := TX0) (N := 8) hx hb hts hinTX0 tyX0 tyX0_ok nmX0 hown hK hP hD hS 0 rfl rfl 7 (by decide) fl80 (fun _ h9 => h9) rfl (by decide +kernel) rfl rfl (Nat.le_of_ble_eq_true rfl) dX0_lose_51 (fun H locs hP hD hS => ?_)
      have hP : va_P (dC, dI) vwCl (wX ad ca gL gB gD gN gS ((n : Int)) ((r : Int)) (x &&& (((Int64.ofNat 1) <<< ((iI ((v.toNat : Int))).toInt64 &&& 63)) ^^^ ((-1))))) H := hP
      have hD : va_D A (wX ad ca gL gB gD gN gS ((n : Int)) ((r : Int)) (x &&& (((Int64.ofNat 1) <<< ((iI ((v.toNat : Int))).toInt64 &&& 63)) ^^^ ((-1))))) := hD
      refine lv_iload hx hb dX0_lose_54 (lv_at hl 0 rfl) ?_
      subst hAe
      refine vx_ret ?_
      refine W.widen (k := 1) (n := 6) (by decide) (by decide) ?_
      exact W.zret (v := iI 0) hx hb hr rfl (fun t ht hW => ⟨⟨_, (x &&& (((Int64.ofNat 1) <<< ((iI ((v.toNat : Int))).toInt64 &&& 63)) ^^^ ((-1)))), rfl, ⟨hc, by rw [hb2], by rw [decide_eq_false (by omega)]; exact ls_off (by omega) hT.2.2⟩, by subst ht; exact hP⟩, hS.F ht⟩) hS.2.2 dX0_lose_56
    · refine lv_aload_n hx hb dX0_lose_32 rfl (lv_at hl 2 rfl) ?_
      refine va_get (D := (dC, dI)) (ci := 0) (v := .long x) (C := RX0) (T := TX0) (N := 8) hx hb hts hinTX0 hown hK hP 0 rfl rfl 7 (by decide) fl80 (fun _ h9 => h9) rfl dX0_lose_33 ?_
      refine lv_lload_n hx hb dX0_lose_36 rfl (lv_at hl 1 rfl) ?_
      refine lv_lor hx hb dX0_lose_37 ?_
      refine lv_goto hx hb dX0_lose_38 (tgt := 51) (by decide) ?_
      refine va_put (D := (dC, dI)) (ci := 0) (v := .long (x ||| ((Int64.ofNat 1) <<< ((iI ((v.toNat : Int))).toInt64 &&& 63)))) (ty := .long) (C := RX0) (T := TX0) (N := 8) hx hb hts hinTX0 tyX0 tyX0_ok nmX0 hown hK hP hD hS 0 rfl rfl 7 (by decide) fl80 (fun _ h9 => h9) rfl (by decide +kernel) rfl rfl (Nat.le_of_ble_eq_true rfl) dX0_lose_51 (fun H locs hP hD hS => ?_)
      have hP : va_P (dC, dI) vwCl (wX ad ca gL gB gD gN gS ((n : Int)) ((r : Int)) (x ||| ((Int64.ofNat 1) <<< ((iI ((v.toNat : Int))).toInt64 &&& 63)))) H := hP
      have hD : va_D A (wX ad ca gL gB gD gN gS ((n : Int)) ((r : Int)) (x ||| ((Int64.ofNat 1) <<< ((iI ((v.toNat : Int))).toInt64 &&& 63)))) := hD
      refine lv_iload hx hb dX0_lose_54 (lv_at hl 0 rfl) ?_
      subst hAe
      refine vx_ret ?_
      refine W.widen (k := 1) (n := 6) (by decide) (by decide) ?_
      exact W.zret (v := iI 0) hx hb hr rfl (fun t ht hW => ⟨⟨_, (x ||| ((Int64.ofNat 1) <<< ((iI ((v.toNat : Int))).toInt64 &&& 63))), rfl, ⟨hc, by rw [hb2], by rw [decide_eq_true (by omega)]; exact ls_on (by omega) hT.2.2⟩, by subst ht; exact hP⟩, hS.F ht⟩) hS.2.2 dX0_lose_56
  · have hb2 : b2 (lo v.toNat) = 1 := by
      cases q9 : lo v.toNat with
      | true => rfl
      | false => exact absurd (hg.mpr q9) hne
    refine r_iconst hx hb dX0_lose_20 ?_
    refine lv_goto hx hb dX0_lose_21 (tgt := 25) (by decide) ?_
    refine lv_istore hx hb dX0_lose_25 hl (by decide) rfl (fun ls hl => ?_)
    have hl : lv_has ls 6 [(5, .int (iI 1)), (3, .long ((Int64.ofNat 1) <<< ((iI ((v.toNat : Int))).toInt64 &&& 63))), (0, .ref (ad 0)), (1, .int (iI ((v.toNat : Int)))), (2, .int (iI f))] := hl
    refine lv_aload_n hx hb dX0_lose_27 rfl (lv_at hl 2 rfl) ?_
    refine lv_iload_n hx hb dX0_lose_28 rfl (lv_at hl 4 rfl) ?_
    refine r_if_eq hx hb dX0_lose_29 (tgt := 41) (by decide) (by omega) (fun hf0 => ?_) (fun hf1 => ?_)
    · refine lv_aload_n hx hb dX0_lose_41 rfl (lv_at hl 2 rfl) ?_
      refine va_get (D := (dC, dI)) (ci := 0) (v := .long x) (C := RX0) (T := TX0) (N := 8) hx hb hts hinTX0 hown hK hP 0 rfl rfl 7 (by decide) fl80 (fun _ h9 => h9) rfl dX0_lose_42 ?_
      refine lv_lload_n hx hb dX0_lose_45 rfl (lv_at hl 1 rfl) ?_
      refine lv_ldc2 hx hb hown (hw _ wjX0_84) dX0_lose_46 ?_
      refine lv_lxor hx hb dX0_lose_49 ?_
      refine lv_land hx hb dX0_lose_50 ?_
      refine va_put (D := (dC, dI)) (ci := 0) (v := .long (x &&& (((Int64.ofNat 1) <<< ((iI ((v.toNat : Int))).toInt64 &&& 63)) ^^^ ((-1))))) (ty := .long) (C := RX0) (T := TX0) (N := 8) hx hb hts hinTX0 tyX0 tyX0_ok nmX0 hown hK hP hD hS 0 rfl rfl 7 (by decide) fl80 (fun _ h9 => h9) rfl (by decide +kernel) rfl rfl (Nat.le_of_ble_eq_true rfl) dX0_lose_51 (fun H locs hP hD hS => ?_)
      have hP : va_P (dC, dI) vwCl (wX ad ca gL gB gD gN gS ((n : Int)) ((r : Int)) (x &&& (((Int64.ofNat 1) <<< ((iI ((v.toNat : Int))).toInt64 &&& 63)) ^^^ ((-1))))) H := hP
      have hD : va_D A (wX ad ca gL gB gD gN gS ((n : Int)) ((r : Int)) (x &&& (((Int64.ofNat 1) <<< ((iI ((v.toNat : Int))).toInt64 &&& 63)) ^^^ ((-1))))) := hD
      refine lv_iload hx hb dX0_lose_54 (lv_at hl 0 rfl) ?_
      subst hAe
      refine vx_ret ?_
      refine W.widen (k := 1) (n := 6) (by decide) (by decide) ?_
      exact W.zret (v := iI 1) hx hb hr rfl (fun t ht hW => ⟨⟨_, (x &&& (((Int64.ofNat 1) <<< ((iI ((v.toNat : Int))).toInt64 &&& 63)) ^^^ ((-1)))), rfl, ⟨hc, by rw [hb2], by rw [decide_eq_false (by omega)]; exact ls_off (by omega) hT.2.2⟩, by subst ht; exact hP⟩, hS.F ht⟩) hS.2.2 dX0_lose_56
    · refine lv_aload_n hx hb dX0_lose_32 rfl (lv_at hl 2 rfl) ?_
      refine va_get (D := (dC, dI)) (ci := 0) (v := .long x) (C := RX0) (T := TX0) (N := 8) hx hb hts hinTX0 hown hK hP 0 rfl rfl 7 (by decide) fl80 (fun _ h9 => h9) rfl dX0_lose_33 ?_
      refine lv_lload_n hx hb dX0_lose_36 rfl (lv_at hl 1 rfl) ?_
      refine lv_lor hx hb dX0_lose_37 ?_
      refine lv_goto hx hb dX0_lose_38 (tgt := 51) (by decide) ?_
      refine va_put (D := (dC, dI)) (ci := 0) (v := .long (x ||| ((Int64.ofNat 1) <<< ((iI ((v.toNat : Int))).toInt64 &&& 63)))) (ty := .long) (C := RX0) (T := TX0) (N := 8) hx hb hts hinTX0 tyX0 tyX0_ok nmX0 hown hK hP hD hS 0 rfl rfl 7 (by decide) fl80 (fun _ h9 => h9) rfl (by decide +kernel) rfl rfl (Nat.le_of_ble_eq_true rfl) dX0_lose_51 (fun H locs hP hD hS => ?_)
      have hP : va_P (dC, dI) vwCl (wX ad ca gL gB gD gN gS ((n : Int)) ((r : Int)) (x ||| ((Int64.ofNat 1) <<< ((iI ((v.toNat : Int))).toInt64 &&& 63)))) H := hP
      have hD : va_D A (wX ad ca gL gB gD gN gS ((n : Int)) ((r : Int)) (x ||| ((Int64.ofNat 1) <<< ((iI ((v.toNat : Int))).toInt64 &&& 63)))) := hD
      refine lv_iload hx hb dX0_lose_54 (lv_at hl 0 rfl) ?_
      subst hAe
      refine vx_ret ?_
      refine W.widen (k := 1) (n := 6) (by decide) (by decide) ?_
      exact W.zret (v := iI 1) hx hb hr rfl (fun t ht hW => ⟨⟨_, (x ||| ((Int64.ofNat 1) <<< ((iI ((v.toNat : Int))).toInt64 &&& 63))), rfl, ⟨hc, by rw [hb2], by rw [decide_eq_true (by omega)]; exact ls_on (by omega) hT.2.2⟩, by subst ht; exact hP⟩, hS.F ht⟩) hS.2.2 dX0_lose_56
set_option maxHeartbeats 4000000 in
set_option maxRecDepth 100000 in
theorem m_spare (l : Launch) (hl9 : l.stackTraces = false) (dC : Nat → ClassId) (dI : Nat → Nat → Nat) (ad : Nat → Nat) (ca : Nat → ClassId) (gL gB gD : Nat → Int) (gN : Nat → Int64) (gS : Nat → Int) (n r : Nat) (x : Int64) (L S : Nat → Nat) (lo : Nat → Bool) (hok : okS n L S r) (hT : tX n L S r lo gL gB gD gN gS x) (q : Int) (hq : iR q) : vx_Met l yX0_spare wsX0_spare { frames := 6, cells := 1, slots := 6, locals := 82 } (PXe (dC, dI) vwCl (yX ca) (wX ad ca gL gB gD gN gS ((n : Int)) ((r : Int)) x) [.ref (ad 0), .int (iI q)]) (RQl (fun y => 0 ≤ q ∧ ∀ v, v < 64 → bL y v = sp L S r n q.toNat v)) (xcE (fun E => E = eIA ∧ q < 0)) 1 6 nF := by
  refine vx_ofW (cc := cX0_spare) (maxL := 6) (ret := (some .long)) (by decide) rfl ?_
  intro p e s m args below meth c s₁ B hml hEx hv
  obtain ⟨rfl, hP, hK, hD0, hE⟩ := hv
  have hx := B.exec
  have hb := B.bytes
  have hr := B.returns
  have hts := atoms_spec (ws := wsX0_spare) B.pre
  have hown : s.vm.findClass RX0 = some m.cls := findClass_of_methodNamed B.named
  have hlocks := B.notSynchronized
  have hw := fun w h => hts w (List.mem_cons_of_mem _ h)
  have hinTX0 : ∀ w ∈ u_ws RX0 TX0 8, w ∈ wsX0_spare := wA_u wuX0
  have fl41 := hw _ wfX0_41
  have fl19 := hw _ wfX0_19
  have hD := hD0
  obtain ⟨H, hH⟩ : ∃ H, H = s.heap := ⟨_, rfl⟩
  obtain ⟨locs, hlc⟩ : ∃ L : List Loc, L = [] := ⟨_, rfl⟩
  have hS : va_S nF s.heap H locs := by rw [hH, hlc]; exact va_S.rf
  rw [← hH] at hP ⊢
  rw [← hlc]
  have hl := lv_entry ([.ref (ad 0), .int (iI q)]) (n := 6) (Nat.le_of_ble_eq_true rfl)
  rw [lg_entry_eq]
  generalize (lg_sl ([.ref (ad 0), .int (iI q)]) ++ List.replicate (6 - (lg_sl ([.ref (ad 0), .int (iI q)])).length) Slot.unset).toArray = ls at hl ⊢
  have hl : lv_has ls 6 [(0, .ref (ad 0)), (1, .int (iI q))] := hl
  obtain ⟨ok1, ok2, ok3, ok4, ok5⟩ := id hok
  have hwr := wr_le (S := S) (n := n) ok2 ok5
  refine lv_iload_n hx hb dX0_spare_0 rfl (lv_at hl 1 rfl) ?_
  refine r_if_ge hx hb dX0_spare_1 (tgt := 14) (by decide) (by omega) (fun hge => ?_) (fun hlt => ?_)
  · refine lv_aload_n hx hb dX0_spare_14 rfl (lv_at hl 0 rfl) ?_
    refine ro_z (z := (wr S r n : Int)) (va_runV (As := []) (rest := []) ⟨hx, hb, hml, hown, hts⟩ (m_writtenVolumes l dC dI ad ca gL gB gD gN gS n r x L S lo hok hT) (cwV 0 hts (gV wlX0_92 wo_X0_writtenVolumes wz_X0_writtenVolumes wi_1 wcX0_writtenVolumes) rfl rfl rfl (by decide +kernel) ⟨Nat.le_of_ble_eq_true rfl, Nat.le_of_ble_eq_true rfl⟩) (PX_V (q0 := 0) (ci := 0) hP hK hD rfl rfl) rfl rfl hl.1 rfl (lv_room (Nat.le_of_ble_eq_true rfl)) dX0_spare_15 ⟨Nat.le_of_ble_eq_true rfl, Nat.le_of_ble_eq_true rfl⟩) hS hP (fun H locs hP hS => ?_)
    refine lv_istore_n hx hb dX0_spare_18 rfl hl (by decide) rfl (fun ls hl => ?_)
    have hl : lv_has ls 6 [(2, .int (iI ((wr S r n : Int)))), (0, .ref (ad 0)), (1, .int (iI q))] := hl
    refine lv_iload_n hx hb dX0_spare_19 rfl (lv_at hl 0 rfl) ?_
    refine r_if_ne hx hb dX0_spare_20 (tgt := 27) (by decide) (by omega) (fun hne => ?_) (fun heq => ?_)
    · refine r_iconst hx hb dX0_spare_27 ?_
      refine lv_iload_n hx hb dX0_spare_28 rfl (lv_at hl 0 rfl) ?_
      refine r_iconst hx hb dX0_spare_29 ?_
      refine r_isub hx hb dX0_spare_30 ?_
      refine r_topi (b := ((wr S r n - 1 : Nat) : Int)) (by omega) ?_
      refine ro_l (va_runS (As := [.int (iI 0), .int (iI (((wr S r n - 1 : Nat) : Int)))]) (rest := []) ⟨hx, hb, hml, hown, hts⟩ (m_bitsFromTo l dC dI 0 (wr S r n - 1) (by omega) (by omega)) (va_cwS 2 hts (gSt wlX0_96 wt_X0_bitsFromTo wi_1 wcX0_bitsFromTo) rfl rfl rfl (by decide +kernel) ⟨Nat.le_of_ble_eq_true rfl, Nat.le_of_ble_eq_true rfl⟩) (PX_S0 hK) rfl rfl hl.1 rfl (lv_room (Nat.le_of_ble_eq_true rfl)) dX0_spare_31 ⟨Nat.le_of_ble_eq_true rfl, Nat.le_of_ble_eq_true rfl⟩) hS hP (fun own H locs hown9 hP hS => ?_)
      have hy0 : ∀ v, v < 64 → bL own v = decide (v < wr S r n) := fun v hv => by
        rw [hown9 v hv, decide_eq_true (Nat.zero_le v), Bool.true_and]
        exact decide_eq_decide.mpr (by omega)
      refine lv_lstore_n hx hb dX0_spare_34 rfl hl (by decide) rfl (fun ls hl => ?_)
      have hl : lv_has ls 6 [(3, .long own), (2, .int (iI ((wr S r n : Int)))), (0, .ref (ad 0)), (1, .int (iI q))] := hl
      refine r_iconst hx hb dX0_spare_35 ?_
      refine lv_aload_n hx hb dX0_spare_36 rfl (lv_at hl 2 rfl) ?_
      refine va_get (D := (dC, dI)) (ci := 0) (v := .int (iI ((n : Int)))) (C := RX0) (T := TX0) (N := 8) hx hb hts hinTX0 hown hK hP 0 rfl rfl 5 (by decide) fl41 (fun _ h9 => h9) rfl dX0_spare_37 ?_
      refine lv_iload_n hx hb dX0_spare_40 rfl (lv_at hl 3 rfl) ?_
      refine r_isub hx hb dX0_spare_41 ?_
      refine va_mmax hx hb (hml.trans hl.1.symm) hown (hw _ wl_max) (hw _ wt_max) (hw _ wi_9) (hw _ wc_max) (Nat.le_of_ble_eq_true rfl) (Nat.le_of_ble_eq_true rfl) (Nat.le_of_ble_eq_true rfl) (Nat.le_of_ble_eq_true rfl) dX0_spare_42 ?_
      rw [iI_max ⟨by omega, by omega⟩ ⟨by omega, by omega⟩]
      refine r_topi (b := ((n - q.toNat : Nat) : Int)) (by split <;> omega) ?_
      refine lv_istore hx hb dX0_spare_45 hl (by decide) rfl (fun ls hl => ?_)
      have hl : lv_has ls 6 [(5, .int (iI (((n - q.toNat : Nat) : Int)))), (3, .long own), (2, .int (iI ((wr S r n : Int)))), (0, .ref (ad 0)), (1, .int (iI q))] := hl
      have loop : ∀ (N : Nat) (d : Nat) (y : Int64) (ls : Array Slot), n - d < N → (n ≤ d + q.toNat) → (d ≤ n) → (∀ v, v < 64 → bL y v = (decide (v < wr S r n) && noH (spP L S r n q.toNat v) d)) → lv_has ls 6 [(5, .int (iI ((d : Int)))), (3, .long y), (2, .int (iI ((wr S r n : Int)))), (0, .ref (ad 0)), (1, .int (iI q))] → W p l e (headSpec wsX0_spare { frames := 6, cells := 1, slots := 6, locals := 82 }).room s m ([.ref (ad 0), .int (iI q)]).toArray below meth c H locs 0 0 (vx_MQ below (RQl (fun y => 0 ≤ q ∧ ∀ v, v < 64 → bL y v = sp L S r n q.toNat v)) (xcE (fun E => E = eIA ∧ q < 0)) ([.ref (ad 0), .int (iI q)]).toArray s 1 6 nF) (F0 m 47 ls []) := by
        intro N
        induction N with
        | zero => intro d y ls h; exact absurd h (Nat.not_lt_zero _)
        | succ N ih =>
          intro d y ls hN hd hdn hy hl
          refine lv_iload hx hb dX0_spare_47 (lv_at hl 0 rfl) ?_
          refine lv_aload_n hx hb dX0_spare_49 rfl (lv_at hl 3 rfl) ?_
          refine va_get (D := (dC, dI)) (ci := 0) (v := .int (iI ((n : Int)))) (C := RX0) (T := TX0) (N := 8) hx hb hts hinTX0 hown hK hP 0 rfl rfl 5 (by decide) fl41 (fun _ h9 => h9) rfl dX0_spare_50 ?_
          refine r_icmp_ge hx hb dX0_spare_53 (tgt := 76) (by decide) (by omega) (by omega) (fun hge2 => ?_) (fun hlt2 => ?_)
          · have hd0 : d = n := by omega
            subst hd0
            refine lv_lload_n hx hb dX0_spare_76 rfl (lv_at hl 1 rfl) ?_
            refine vx_ret ?_
            refine W.widen (k := 1) (n := 6) (by decide) (by decide) ?_
            exact W.lret hx hb hr (fun t ht hW => ⟨⟨_, (), rfl, ⟨hge, hy⟩, trivial⟩, hS.F ht⟩) hS.2.2 dX0_spare_77
          · obtain ⟨-, -, -, t4⟩ := hT.1 d (by omega)
            have ed : ((d : Int)).toNat = d := by omega
            refine lv_lload_n hx hb dX0_spare_56 rfl (lv_at hl 1 rfl) ?_
            refine lv_aload_n hx hb dX0_spare_57 rfl (lv_at hl 3 rfl) ?_
            refine va_get (D := (dC, dI)) (ci := 0) (v := .ref (ad 4)) (C := RX0) (T := TX0) (N := 8) hx hb hts hinTX0 hown hK hP 0 rfl rfl 3 (by decide) fl19 (fun _ h9 => h9) rfl dX0_spare_58 ?_
            refine lv_iload hx hb dX0_spare_61 (lv_at hl 0 rfl) ?_
            refine r_lald hx hb hK hP 4 3 rfl rfl (by omega) (by omega) (by decide) dX0_spare_63 ?_
            refine r_top (w := .long (gN d)) (by rw [ed]) ?_
            refine lv_ldc2 hx hb hown (hw _ wjX0_84) dX0_spare_64 ?_
            refine lv_lxor hx hb dX0_spare_67 ?_
            refine lv_land hx hb dX0_spare_68 ?_
            refine lv_lstore_n hx hb dX0_spare_69 rfl hl (by decide) rfl (fun ls hl => ?_)
            have hl : lv_has ls 6 [(3, .long (y &&& ((gN d) ^^^ ((-1))))), (5, .int (iI ((d : Int)))), (2, .int (iI ((wr S r n : Int)))), (0, .ref (ad 0)), (1, .int (iI q))] := hl
            refine r_iinc (k := 1) hx hb dX0_spare_70 hl rfl (by decide) rfl (fun ls hl => ?_)
            have hl : lv_has ls 6 [(5, .int (iI ((d : Int) + 1))), (3, .long (y &&& ((gN d) ^^^ ((-1))))), (2, .int (iI ((wr S r n : Int)))), (0, .ref (ad 0)), (1, .int (iI q))] := hl
            refine lv_goto hx hb dX0_spare_73 (tgt := 47) (by decide) ?_
            have hl : lv_has ls 6 [(5, .int (iI ((d + 1 : Nat) : Int))), (3, .long (y &&& ((gN d) ^^^ ((-1))))), (2, .int (iI (wr S r n : Int))), (0, .ref (ad 0)), (1, .int (iI q))] := by
              rw [show ((d + 1 : Nat) : Int) = (d : Int) + 1 by omega]
              exact hl
            exact ih (d + 1) (y &&& ((gN d) ^^^ ((-1)))) ls (by omega) (by omega) (by omega) (fun v hv => by rw [bL_and, bL_not _ hv, hy v hv, t4 v hv, spP_s (by omega), Bool.and_assoc]) hl
      exact loop (n + 1) (n - q.toNat) own ls (by omega) (by omega) (by omega) (fun v hv => by rw [spP_1, Bool.and_true]; exact hy0 v hv) hl
    · refine lv_lconst hx hb dX0_spare_23 rfl ?_
      refine lv_goto hx hb dX0_spare_24 (tgt := 34) (by decide) ?_
      have hy0 : ∀ v, v < 64 → bL (Int64.ofNat 0) v = decide (v < wr S r n) := fun v hv => by
        rw [decide_eq_false (by omega)]
        exact bL_0 v
      refine lv_lstore_n hx hb dX0_spare_34 rfl hl (by decide) rfl (fun ls hl => ?_)
      have hl : lv_has ls 6 [(3, .long (Int64.ofNat 0)), (2, .int (iI ((wr S r n : Int)))), (0, .ref (ad 0)), (1, .int (iI q))] := hl
      refine r_iconst hx hb dX0_spare_35 ?_
      refine lv_aload_n hx hb dX0_spare_36 rfl (lv_at hl 2 rfl) ?_
      refine va_get (D := (dC, dI)) (ci := 0) (v := .int (iI ((n : Int)))) (C := RX0) (T := TX0) (N := 8) hx hb hts hinTX0 hown hK hP 0 rfl rfl 5 (by decide) fl41 (fun _ h9 => h9) rfl dX0_spare_37 ?_
      refine lv_iload_n hx hb dX0_spare_40 rfl (lv_at hl 3 rfl) ?_
      refine r_isub hx hb dX0_spare_41 ?_
      refine va_mmax hx hb (hml.trans hl.1.symm) hown (hw _ wl_max) (hw _ wt_max) (hw _ wi_9) (hw _ wc_max) (Nat.le_of_ble_eq_true rfl) (Nat.le_of_ble_eq_true rfl) (Nat.le_of_ble_eq_true rfl) (Nat.le_of_ble_eq_true rfl) dX0_spare_42 ?_
      rw [iI_max ⟨by omega, by omega⟩ ⟨by omega, by omega⟩]
      refine r_topi (b := ((n - q.toNat : Nat) : Int)) (by split <;> omega) ?_
      refine lv_istore hx hb dX0_spare_45 hl (by decide) rfl (fun ls hl => ?_)
      have hl : lv_has ls 6 [(5, .int (iI (((n - q.toNat : Nat) : Int)))), (3, .long (Int64.ofNat 0)), (2, .int (iI ((wr S r n : Int)))), (0, .ref (ad 0)), (1, .int (iI q))] := hl
      have loop : ∀ (N : Nat) (d : Nat) (y : Int64) (ls : Array Slot), n - d < N → (n ≤ d + q.toNat) → (d ≤ n) → (∀ v, v < 64 → bL y v = (decide (v < wr S r n) && noH (spP L S r n q.toNat v) d)) → lv_has ls 6 [(5, .int (iI ((d : Int)))), (3, .long y), (2, .int (iI ((wr S r n : Int)))), (0, .ref (ad 0)), (1, .int (iI q))] → W p l e (headSpec wsX0_spare { frames := 6, cells := 1, slots := 6, locals := 82 }).room s m ([.ref (ad 0), .int (iI q)]).toArray below meth c H locs 0 0 (vx_MQ below (RQl (fun y => 0 ≤ q ∧ ∀ v, v < 64 → bL y v = sp L S r n q.toNat v)) (xcE (fun E => E = eIA ∧ q < 0)) ([.ref (ad 0), .int (iI q)]).toArray s 1 6 nF) (F0 m 47 ls []) := by
        intro N
        induction N with
        | zero => intro d y ls h; exact absurd h (Nat.not_lt_zero _)
        | succ N ih =>
          intro d y ls hN hd hdn hy hl
          refine lv_iload hx hb dX0_spare_47 (lv_at hl 0 rfl) ?_
          refine lv_aload_n hx hb dX0_spare_49 rfl (lv_at hl 3 rfl) ?_
          refine va_get (D := (dC, dI)) (ci := 0) (v := .int (iI ((n : Int)))) (C := RX0) (T := TX0) (N := 8) hx hb hts hinTX0 hown hK hP 0 rfl rfl 5 (by decide) fl41 (fun _ h9 => h9) rfl dX0_spare_50 ?_
          refine r_icmp_ge hx hb dX0_spare_53 (tgt := 76) (by decide) (by omega) (by omega) (fun hge2 => ?_) (fun hlt2 => ?_)
          · have hd0 : d = n := by omega
            subst hd0
            refine lv_lload_n hx hb dX0_spare_76 rfl (lv_at hl 1 rfl) ?_
            refine vx_ret ?_
            refine W.widen (k := 1) (n := 6) (by decide) (by decide) ?_
            exact W.lret hx hb hr (fun t ht hW => ⟨⟨_, (), rfl, ⟨hge, hy⟩, trivial⟩, hS.F ht⟩) hS.2.2 dX0_spare_77
          · obtain ⟨-, -, -, t4⟩ := hT.1 d (by omega)
            have ed : ((d : Int)).toNat = d := by omega
            refine lv_lload_n hx hb dX0_spare_56 rfl (lv_at hl 1 rfl) ?_
            refine lv_aload_n hx hb dX0_spare_57 rfl (lv_at hl 3 rfl) ?_
            refine va_get (D := (dC, dI)) (ci := 0) (v := .ref (ad 4)) (C := RX0) (T := TX0) (N := 8) hx hb hts hinTX0 hown hK hP 0 rfl rfl 3 (by decide) fl19 (fun _ h9 => h9) rfl dX0_spare_58 ?_
            refine lv_iload hx hb dX0_spare_61 (lv_at hl 0 rfl) ?_
            refine r_lald hx hb hK hP 4 3 rfl rfl (by omega) (by omega) (by decide) dX0_spare_63 ?_
            refine r_top (w := .long (gN d)) (by rw [ed]) ?_
            refine lv_ldc2 hx hb hown (hw _ wjX0_84) dX0_spare_64 ?_
            refine lv_lxor hx hb dX0_spare_67 ?_
            refine lv_land hx hb dX0_spare_68 ?_
            refine lv_lstore_n hx hb dX0_spare_69 rfl hl (by decide) rfl (fun ls hl => ?_)
            have hl : lv_has ls 6 [(3, .long (y &&& ((gN d) ^^^ ((-1))))), (5, .int (iI ((d : Int)))), (2, .int (iI ((wr S r n : Int)))), (0, .ref (ad 0)), (1, .int (iI q))] := hl
            refine r_iinc (k := 1) hx hb dX0_spare_70 hl rfl (by decide) rfl (fun ls hl => ?_)
            have hl : lv_has ls 6 [(5, .int (iI ((d : Int) + 1))), (3, .long (y &&& ((gN d) ^^^ ((-1))))), (2, .int (iI ((wr S r n : Int)))), (0, .ref (ad 0)), (1, .int (iI q))] := hl
            refine lv_goto hx hb dX0_spare_73 (tgt := 47) (by decide) ?_
            have hl : lv_has ls 6 [(5, .int (iI ((d + 1 : Nat) : Int))), (3, .long (y &&& ((gN d) ^^^ ((-1))))), (2, .int (iI (wr S r n : Int))), (0, .ref (ad 0)), (1, .int (iI q))] := by
              rw [show ((d + 1 : Nat) : Int) = (d : Int) + 1 by omega]
              exact hl
            exact ih (d + 1) (y &&& ((gN d) ^^^ ((-1)))) ls (by omega) (by omega) (by omega) (fun v hv => by rw [bL_and, bL_not _ hv, hy v hv, t4 v hv, spP_s (by omega), Bool.and_assoc]) hl
      exact loop (n + 1) (n - q.toNat) (Int64.ofNat 0) ls (by omega) (by omega) (by omega) (fun v hv => by rw [spP_1, Bool.and_true]; exact hy0 v hv) hl
  · obtain ⟨sa, hsa⟩ := hE.2.2.2.1 (90, "n is below 0") (List.mem_of_getElem? (i := 11) rfl)
    exact vx_throwS (own := RX0) (cls := eIA) (names := eN) hx hb hl9 hown (by decide +kernel) (by decide +kernel) (hw _ wkX0_30) (hw _ wi_6) hsa (hat_34 hE hw) (by decide +kernel) (exE_none hE).1.1 (exE_none hE).1.2 hS (hl.1.trans hml.symm) dX0_spare_4 dX0_spare_7 dX0_spare_8 dX0_spare_10 dX0_spare_13 (fun x hx => (hEx x hx).elim) (Nat.le_of_ble_eq_true rfl) (Nat.le_of_ble_eq_true rfl) (Nat.le_of_ble_eq_true rfl) (Nat.le_of_ble_eq_true rfl) hlocks (fun t ha hsz hk => ⟨(), trivial, ⟨rfl, hlt⟩, Nat.le_trans hS.1 hsz, fun q h1 h2 => (hk q (Nat.lt_of_lt_of_le h1 hS.1)).trans (hS.2.1 q h1 h2)⟩) (fun z hz => (hS.2.2 z hz).elim) (by decide) (by decide)
set_option maxHeartbeats 4000000 in
set_option maxRecDepth 100000 in
theorem m_count (l : Launch) (hl9 : l.stackTraces = false) (dC : Nat → ClassId) (dI : Nat → Nat → Nat) (ad : Nat → Nat) (ca : Nat → ClassId) (gL gB gD : Nat → Int) (gN : Nat → Int64) (gS : Nat → Int) (n r : Nat) (x : Int64) (L S : Nat → Nat) (lo : Nat → Bool) (hok : okS n L S r) (hT : tX n L S r lo gL gB gD gN gS x) (q : Int) (hq : iR q) : vx_Met l yX0_count wsX0_count { frames := 6, cells := 1, slots := 6, locals := 82 } (PXe (dC, dI) vwCl (yX ca) (wX ad ca gL gB gD gN gS ((n : Int)) ((r : Int)) x) [.ref (ad 0), .int (iI q)]) (RQi (fun y => (0 ≤ q ∧ q ≤ 5) ∧ y = iI (ct L S r n lo q.toNat : Int))) (xcE (fun E => E = eIA ∧ ¬ (0 ≤ q ∧ q ≤ 5))) 1 6 nF := by
  refine vx_ofW (cc := cX0_count) (maxL := 2) (ret := (some .int)) (by decide) rfl ?_
  intro p e s m args below meth c s₁ B hml hEx hv
  obtain ⟨rfl, hP, hK, hD0, hE⟩ := hv
  have hx := B.exec
  have hb := B.bytes
  have hr := B.returns
  have hts := atoms_spec (ws := wsX0_count) B.pre
  have hown : s.vm.findClass RX0 = some m.cls := findClass_of_methodNamed B.named
  have hlocks := B.notSynchronized
  have hw := fun w h => hts w (List.mem_cons_of_mem _ h)
  have hinTX0 : ∀ w ∈ u_ws RX0 TX0 8, w ∈ wsX0_count := wA_u wuX0
  have fl41 := hw _ wfX0_41
  have fl23 := hw _ wfX0_23
  have fl80 := hw _ wfX0_80
  have hD := hD0
  obtain ⟨H, hH⟩ : ∃ H, H = s.heap := ⟨_, rfl⟩
  obtain ⟨locs, hlc⟩ : ∃ L : List Loc, L = [] := ⟨_, rfl⟩
  have hS : va_S nF s.heap H locs := by rw [hH, hlc]; exact va_S.rf
  rw [← hH] at hP ⊢
  rw [← hlc]
  have hl := lv_entry ([.ref (ad 0), .int (iI q)]) (n := 2) (Nat.le_of_ble_eq_true rfl)
  rw [lg_entry_eq]
  generalize (lg_sl ([.ref (ad 0), .int (iI q)]) ++ List.replicate (2 - (lg_sl ([.ref (ad 0), .int (iI q)])).length) Slot.unset).toArray = ls at hl ⊢
  have hl : lv_has ls 2 [(0, .ref (ad 0)), (1, .int (iI q))] := hl
  obtain ⟨ok1, ok2, ok3, ok4, ok5⟩ := id hok
  have hwr := wr_le (S := S) (n := n) ok2 ok5
  have t5 := hT.2.1 n (Nat.le_refl n)
  have en : ((n : Int)).toNat = n := by omega
  refine lv_iload_n hx hb dX0_count_0 rfl (lv_at hl 1 rfl) ?_
  have hcases : (q < 0 ∨ 5 < q) ∨ q = 0 ∨ q = 1 ∨ q = 2 ∨ q = 3 ∨ q = 4 ∨ q = 5 := by omega
  rcases hcases with ho | rfl | rfl | rfl | rfl | rfl | rfl
  · refine lv_tableOut hx hb dX0_count_1 (tgt := 83) (by rw [iI_toInt hq]; exact ho) (by decide) ?_
    obtain ⟨sa, hsa⟩ := hE.2.2.2.1 (117, "what is 0 to 5") (List.mem_of_getElem? (i := 12) rfl)
    exact vx_throwS (own := RX0) (cls := eIA) (names := eN) hx hb hl9 hown (by decide +kernel) (by decide +kernel) (hw _ wkX0_30) (hw _ wi_6) hsa (hat_34 hE hw) (by decide +kernel) (exE_none hE).1.1 (exE_none hE).1.2 hS (hl.1.trans hml.symm) dX0_count_83 dX0_count_86 dX0_count_87 dX0_count_89 dX0_count_92 (fun x hx => (hEx x hx).elim) (Nat.le_of_ble_eq_true rfl) (Nat.le_of_ble_eq_true rfl) (Nat.le_of_ble_eq_true rfl) (Nat.le_of_ble_eq_true rfl) hlocks (fun t ha hsz hk => ⟨(), trivial, ⟨rfl, by omega⟩, Nat.le_trans hS.1 hsz, fun q h1 h2 => (hk q (Nat.lt_of_lt_of_le h1 hS.1)).trans (hS.2.1 q h1 h2)⟩) (fun z hz => (hS.2.2 z hz).elim) (by decide) (by decide)
  · refine lv_tableIn hx hb dX0_count_1 (off := 39) (tgt := 40) (by decide) (by decide) (by decide) (by decide) ?_
    refine lv_aload_n hx hb dX0_count_40 rfl (lv_at hl 0 rfl) ?_
    refine va_get (D := (dC, dI)) (ci := 0) (v := .int (iI ((n : Int)))) (C := RX0) (T := TX0) (N := 8) hx hb hts hinTX0 hown hK hP 0 rfl rfl 5 (by decide) fl41 (fun _ h9 => h9) rfl dX0_count_41 ?_
    refine vx_ret ?_
    refine W.widen (k := 1) (n := 6) (by decide) (by decide) ?_
    exact W.iret (v := iI ((n : Int))) hx hb hr (fun t ht hW => ⟨⟨_, (), rfl, ⟨by omega, rfl⟩, trivial⟩, hS.F ht⟩) hS.2.2 dX0_count_44
  · refine lv_tableIn hx hb dX0_count_1 (off := 44) (tgt := 45) (by decide) (by decide) (by decide) (by decide) ?_
    refine lv_aload_n hx hb dX0_count_45 rfl (lv_at hl 0 rfl) ?_
    refine ro_z (z := (wr S r n : Int)) (va_runV (As := []) (rest := []) ⟨hx, hb, hml, hown, hts⟩ (m_writtenVolumes l dC dI ad ca gL gB gD gN gS n r x L S lo hok hT) (cwV 0 hts (gV wlX0_92 wo_X0_writtenVolumes wz_X0_writtenVolumes wi_1 wcX0_writtenVolumes) rfl rfl rfl (by decide +kernel) ⟨Nat.le_of_ble_eq_true rfl, Nat.le_of_ble_eq_true rfl⟩) (PX_V (q0 := 0) (ci := 0) hP hK hD rfl rfl) rfl rfl hl.1 rfl (lv_room (Nat.le_of_ble_eq_true rfl)) dX0_count_46 ⟨Nat.le_of_ble_eq_true rfl, Nat.le_of_ble_eq_true rfl⟩) hS hP (fun H locs hP hS => ?_)
    refine vx_ret ?_
    refine W.widen (k := 1) (n := 6) (by decide) (by decide) ?_
    exact W.iret (v := iI ((wr S r n : Int))) hx hb hr (fun t ht hW => ⟨⟨_, (), rfl, ⟨by omega, rfl⟩, trivial⟩, hS.F ht⟩) hS.2.2 dX0_count_49
  · refine lv_tableIn hx hb dX0_count_1 (off := 49) (tgt := 50) (by decide) (by decide) (by decide) (by decide) ?_
    refine lv_aload_n hx hb dX0_count_50 rfl (lv_at hl 0 rfl) ?_
    refine va_get (D := (dC, dI)) (ci := 0) (v := .ref (ad 5)) (C := RX0) (T := TX0) (N := 8) hx hb hts hinTX0 hown hK hP 0 rfl rfl 4 (by decide) fl23 (fun _ h9 => h9) rfl dX0_count_51 ?_
    refine lv_aload_n hx hb dX0_count_54 rfl (lv_at hl 0 rfl) ?_
    refine va_get (D := (dC, dI)) (ci := 0) (v := .int (iI ((n : Int)))) (C := RX0) (T := TX0) (N := 8) hx hb hts hinTX0 hown hK hP 0 rfl rfl 5 (by decide) fl41 (fun _ h9 => h9) rfl dX0_count_55 ?_
    refine r_iald hx hb hK hP 5 4 rfl rfl (by omega) (by omega) (by decide) dX0_count_58 ?_
    refine r_topi (b := (sm S n : Int)) (by rw [en]; exact t5) ?_
    refine lv_aload_n hx hb dX0_count_59 rfl (lv_at hl 0 rfl) ?_
    refine ro_z (z := (wr S r n : Int)) (va_runV (As := []) (rest := [.int (iI ((sm S n : Int)))]) ⟨hx, hb, hml, hown, hts⟩ (m_writtenVolumes l dC dI ad ca gL gB gD gN gS n r x L S lo hok hT) (cwV 0 hts (gV wlX0_92 wo_X0_writtenVolumes wz_X0_writtenVolumes wi_1 wcX0_writtenVolumes) rfl rfl rfl (by decide +kernel) ⟨Nat.le_of_ble_eq_true rfl, Nat.le_of_ble_eq_true rfl⟩) (PX_V (q0 := 0) (ci := 0) hP hK hD rfl rfl) rfl rfl hl.1 rfl (lv_room (Nat.le_of_ble_eq_true rfl)) dX0_count_60 ⟨Nat.le_of_ble_eq_true rfl, Nat.le_of_ble_eq_true rfl⟩) hS hP (fun H locs hP hS => ?_)
    refine r_iadd hx hb dX0_count_63 ?_
    refine vx_ret ?_
    refine W.widen (k := 1) (n := 6) (by decide) (by decide) ?_
    exact W.iret (v := iI (((sm S n : Int)) + ((wr S r n : Int)))) hx hb hr (fun t ht hW => ⟨⟨_, (), rfl, ⟨by omega, by rw [show (ct L S r n lo (2 : Int).toNat : Int) = (sm S n : Int) + (wr S r n : Int) from Int.natCast_add _ _]⟩, trivial⟩, hS.F ht⟩) hS.2.2 dX0_count_64
  · refine lv_tableIn hx hb dX0_count_1 (off := 64) (tgt := 65) (by decide) (by decide) (by decide) (by decide) ?_
    refine lv_aload_n hx hb dX0_count_65 rfl (lv_at hl 0 rfl) ?_
    refine ro_z (z := (cn (gd L S r lo) n : Int)) (va_runV (As := []) (rest := []) ⟨hx, hb, hml, hown, hts⟩ (m_goodDumps l dC dI ad ca gL gB gD gN gS n r x L S lo hok hT) (cwV 0 hts (gV wlX0_105 wo_X0_goodDumps wz_X0_goodDumps wi_1 wcX0_goodDumps) rfl rfl rfl (by decide +kernel) ⟨Nat.le_of_ble_eq_true rfl, Nat.le_of_ble_eq_true rfl⟩) (PX_V (q0 := 0) (ci := 0) hP hK hD rfl rfl) rfl rfl hl.1 rfl (lv_room (Nat.le_of_ble_eq_true rfl)) dX0_count_66 ⟨Nat.le_of_ble_eq_true rfl, Nat.le_of_ble_eq_true rfl⟩) hS hP (fun H locs hP hS => ?_)
    refine vx_ret ?_
    refine W.widen (k := 1) (n := 6) (by decide) (by decide) ?_
    exact W.iret (v := iI ((cn (gd L S r lo) n : Int))) hx hb hr (fun t ht hW => ⟨⟨_, (), rfl, ⟨by omega, rfl⟩, trivial⟩, hS.F ht⟩) hS.2.2 dX0_count_69
  · refine lv_tableIn hx hb dX0_count_1 (off := 69) (tgt := 70) (by decide) (by decide) (by decide) (by decide) ?_
    refine lv_aload_n hx hb dX0_count_70 rfl (lv_at hl 0 rfl) ?_
    refine ro_z (z := (mx (fun d => dp L (d + 1)) n : Int)) (va_runV (As := []) (rest := []) ⟨hx, hb, hml, hown, hts⟩ (m_longestChain l dC dI ad ca gL gB gD gN gS n r x L S lo hok hT) (cwV 0 hts (gV wlX0_108 wo_X0_longestChain wz_X0_longestChain wi_1 wcX0_longestChain) rfl rfl rfl (by decide +kernel) ⟨Nat.le_of_ble_eq_true rfl, Nat.le_of_ble_eq_true rfl⟩) (PX_V (q0 := 0) (ci := 0) hP hK hD rfl rfl) rfl rfl hl.1 rfl (lv_room (Nat.le_of_ble_eq_true rfl)) dX0_count_71 ⟨Nat.le_of_ble_eq_true rfl, Nat.le_of_ble_eq_true rfl⟩) hS hP (fun H locs hP hS => ?_)
    refine vx_ret ?_
    refine W.widen (k := 1) (n := 6) (by decide) (by decide) ?_
    exact W.iret (v := iI ((mx (fun d => dp L (d + 1)) n : Int))) hx hb hr (fun t ht hW => ⟨⟨_, (), rfl, ⟨by omega, rfl⟩, trivial⟩, hS.F ht⟩) hS.2.2 dX0_count_74
  · refine lv_tableIn hx hb dX0_count_1 (off := 74) (tgt := 75) (by decide) (by decide) (by decide) (by decide) ?_
    refine lv_aload_n hx hb dX0_count_75 rfl (lv_at hl 0 rfl) ?_
    refine va_get (D := (dC, dI)) (ci := 0) (v := .long x) (C := RX0) (T := TX0) (N := 8) hx hb hts hinTX0 hown hK hP 0 rfl rfl 7 (by decide) fl80 (fun _ h9 => h9) rfl dX0_count_76 ?_
    refine ro_z (z := (cn (bL x) 64 : Int)) (va_runS (As := [.long x]) (rest := []) ⟨hx, hb, hml, hown, hts⟩ (m_bitCount l dC dI x) (va_cwS 1 hts (gSt wlX0_111 wt_J13_bitCount wi_10 wcJ13_bitCount) rfl rfl rfl (by decide +kernel) ⟨Nat.le_of_ble_eq_true rfl, Nat.le_of_ble_eq_true rfl⟩) (PX_S0 hK) rfl rfl hl.1 rfl (lv_room (Nat.le_of_ble_eq_true rfl)) dX0_count_79 ⟨Nat.le_of_ble_eq_true rfl, Nat.le_of_ble_eq_true rfl⟩) hS hP (fun H locs hP hS => ?_)
    refine vx_ret ?_
    refine W.widen (k := 1) (n := 6) (by decide) (by decide) ?_
    exact W.iret (v := iI ((cn (bL x) 64 : Int))) hx hb hr (fun t ht hW => ⟨⟨_, (), rfl, ⟨by omega, by rw [cn_congr (P' := lo) (fun v hv => hT.2.2 v hv)]; rfl⟩, trivial⟩, hS.F ht⟩) hS.2.2 dX0_count_82
