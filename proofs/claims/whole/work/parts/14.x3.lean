/-! the class: checks, clear, append -/
set_option maxHeartbeats 4000000 in
set_option maxRecDepth 100000 in
theorem m_checkDump (l : Launch) (hl9 : l.stackTraces = false) (dC : Nat → ClassId) (dI : Nat → Nat → Nat) (ad : Nat → Nat) (ca : Nat → ClassId) (gL gB gD : Nat → Int) (gN : Nat → Int64) (gS : Nat → Int) (n r : Nat) (x : Int64) (q : Int) (hq : iR q) (hn : n ≤ 300) : vx_Met l yX0_checkDump wsX0_checkDump { frames := 6, cells := 1, slots := 6, locals := 82 } (PXe (dC, dI) vwCl (yX ca) (wX ad ca gL gB gD gN gS ((n : Int)) ((r : Int)) x) [.ref (ad 0), .int (iI q)]) (va_Qv (fun (_ : Unit) => 0 ≤ q ∧ q < (n : Int)) (fun _ _ => True) nF) (xcE (fun E => E = eIX ∧ (q < 0 ∨ (n : Int) ≤ q))) 1 6 nF := by
  refine vx_ofW (cc := cX0_checkDump) (maxL := 2) (ret := none) (by decide) rfl ?_
  intro p e s m args below meth c s₁ B hml hEx hv
  obtain ⟨rfl, hP, hK, hD0, hE⟩ := hv
  have hx := B.exec
  have hb := B.bytes
  have hr := B.returns
  have hts := atoms_spec (ws := wsX0_checkDump) B.pre
  have hown : s.vm.findClass RX0 = some m.cls := findClass_of_methodNamed B.named
  have hlocks := B.notSynchronized
  have hw := fun w h => hts w (List.mem_cons_of_mem _ h)
  have hinTX0 : ∀ w ∈ u_ws RX0 TX0 8, w ∈ wsX0_checkDump := wA_u wuX0
  have fl41 := hw _ wfX0_41
  have hD := hD0
  obtain ⟨H, hH⟩ : ∃ H, H = s.heap := ⟨_, rfl⟩
  obtain ⟨locs, hlc⟩ : ∃ L : List Loc, L = [] := ⟨_, rfl⟩
  have hS : va_S nF s.heap H locs := by rw [hH, hlc]; exact va_S.rf
  rw [← hH] at hP ⊢
  rw [← hlc]
  have hl := lv_entry ([.ref (ad 0), .int (iI q)]) (n := 2) (Nat.le_of_ble_eq_true rfl)
  rw [lg_entry_eq]
  generalize (lg_sl ([.ref (ad 0), .int (iI q)]) ++ List.replicate (2 - (lg_sl ([.ref (ad 0), .int (iI q)])).length) Slot.unset).toArray = ls at hl ⊢
  have hl : lv_has ls 2 [(0, .ref (ad 0)), (1, .int (iI q))] := hl
  refine lv_iload_n hx hb dX0_checkDump_0 rfl (lv_at hl 1 rfl) ?_
  refine r_if_lt hx hb dX0_checkDump_1 (tgt := 12) (by decide) (by omega) (fun hlt => ?_) (fun hge => ?_)
  · obtain ⟨sa, hsa⟩ := hE.2.2.2.1 (121, "there is no such dump") (List.mem_of_getElem? (i := 6) rfl)
    exact vx_throwS (own := RX0) (cls := eIX) (names := eN) hx hb hl9 hown (by decide +kernel) (by decide +kernel) (hw _ wkX0_119) (hw _ wi_8) hsa (hat_123 hE hw) (by decide +kernel) (exE_none hE).1.1 (exE_none hE).1.2 hS (hl.1.trans hml.symm) dX0_checkDump_12 dX0_checkDump_15 dX0_checkDump_16 dX0_checkDump_18 dX0_checkDump_21 (fun x hx => (hEx x hx).elim) (Nat.le_of_ble_eq_true rfl) (Nat.le_of_ble_eq_true rfl) (Nat.le_of_ble_eq_true rfl) (Nat.le_of_ble_eq_true rfl) hlocks (fun t ha hsz hk => ⟨(), trivial, ⟨rfl, Or.inl hlt⟩, Nat.le_trans hS.1 hsz, fun q h1 h2 => (hk q (Nat.lt_of_lt_of_le h1 hS.1)).trans (hS.2.1 q h1 h2)⟩) (fun z hz => (hS.2.2 z hz).elim) (by decide) (by decide)
  · refine lv_iload_n hx hb dX0_checkDump_4 rfl (lv_at hl 1 rfl) ?_
    refine lv_aload_n hx hb dX0_checkDump_5 rfl (lv_at hl 0 rfl) ?_
    refine va_get (D := (dC, dI)) (ci := 0) (v := .int (iI ((n : Int)))) (C := RX0) (T := TX0) (N := 8) hx hb hts hinTX0 hown hK hP 0 rfl rfl 5 (by decide) fl41 (fun _ h9 => h9) rfl dX0_checkDump_6 ?_
    refine r_icmp_lt hx hb dX0_checkDump_9 (tgt := 22) (by decide) (by omega) (by omega) (fun hin => ?_) (fun hout => ?_)
    · refine vx_ret ?_
      refine W.widen (k := 1) (n := 6) (by decide) (by decide) ?_
      exact W.vret hx hb hr (fun t ht hW => ⟨⟨(), rfl, ⟨hge, hin⟩, trivial⟩, hS.F ht⟩) hS.2.2 dX0_checkDump_22
    · obtain ⟨sa, hsa⟩ := hE.2.2.2.1 (121, "there is no such dump") (List.mem_of_getElem? (i := 6) rfl)
      exact vx_throwS (own := RX0) (cls := eIX) (names := eN) hx hb hl9 hown (by decide +kernel) (by decide +kernel) (hw _ wkX0_119) (hw _ wi_8) hsa (hat_123 hE hw) (by decide +kernel) (exE_none hE).1.1 (exE_none hE).1.2 hS (hl.1.trans hml.symm) dX0_checkDump_12 dX0_checkDump_15 dX0_checkDump_16 dX0_checkDump_18 dX0_checkDump_21 (fun x hx => (hEx x hx).elim) (Nat.le_of_ble_eq_true rfl) (Nat.le_of_ble_eq_true rfl) (Nat.le_of_ble_eq_true rfl) (Nat.le_of_ble_eq_true rfl) hlocks (fun t ha hsz hk => ⟨(), trivial, ⟨rfl, Or.inr hout⟩, Nat.le_trans hS.1 hsz, fun q h1 h2 => (hk q (Nat.lt_of_lt_of_le h1 hS.1)).trans (hS.2.1 q h1 h2)⟩) (fun z hz => (hS.2.2 z hz).elim) (by decide) (by decide)
set_option maxHeartbeats 4000000 in
set_option maxRecDepth 100000 in
theorem m_checkVolume (l : Launch) (hl9 : l.stackTraces = false) (dC : Nat → ClassId) (dI : Nat → Nat → Nat) (ad : Nat → Nat) (ca : Nat → ClassId) (gL gB gD : Nat → Int) (gN : Nat → Int64) (gS : Nat → Int) (n r : Nat) (x : Int64) (q : Int) (hq : iR q) : vx_Met l yX0_checkVolume wsX0_checkVolume { frames := 6, cells := 1, slots := 6, locals := 82 } (PXe (dC, dI) vwCl (yX ca) (wX ad ca gL gB gD gN gS ((n : Int)) ((r : Int)) x) [.ref (ad 0), .int (iI q)]) (va_Qv (fun (_ : Unit) => 0 ≤ q ∧ q < 64) (fun _ _ => True) nF) (xcE (fun E => E = eIA ∧ (q < 0 ∨ 64 ≤ q))) 1 6 nF := by
  refine vx_ofW (cc := cX0_checkVolume) (maxL := 2) (ret := none) (by decide) rfl ?_
  intro p e s m args below meth c s₁ B hml hEx hv
  obtain ⟨rfl, hP, hK, hD0, hE⟩ := hv
  have hx := B.exec
  have hb := B.bytes
  have hr := B.returns
  have hts := atoms_spec (ws := wsX0_checkVolume) B.pre
  have hown : s.vm.findClass RX0 = some m.cls := findClass_of_methodNamed B.named
  have hlocks := B.notSynchronized
  have hw := fun w h => hts w (List.mem_cons_of_mem _ h)
  have hinTX0 : ∀ w ∈ u_ws RX0 TX0 8, w ∈ wsX0_checkVolume := wA_u wuX0
  have hD := hD0
  obtain ⟨H, hH⟩ : ∃ H, H = s.heap := ⟨_, rfl⟩
  obtain ⟨locs, hlc⟩ : ∃ L : List Loc, L = [] := ⟨_, rfl⟩
  have hS : va_S nF s.heap H locs := by rw [hH, hlc]; exact va_S.rf
  rw [← hH] at hP ⊢
  rw [← hlc]
  have hl := lv_entry ([.ref (ad 0), .int (iI q)]) (n := 2) (Nat.le_of_ble_eq_true rfl)
  rw [lg_entry_eq]
  generalize (lg_sl ([.ref (ad 0), .int (iI q)]) ++ List.replicate (2 - (lg_sl ([.ref (ad 0), .int (iI q)])).length) Slot.unset).toArray = ls at hl ⊢
  have hl : lv_has ls 2 [(0, .ref (ad 0)), (1, .int (iI q))] := hl
  refine lv_iload_n hx hb dX0_checkVolume_0 rfl (lv_at hl 1 rfl) ?_
  refine r_if_lt hx hb dX0_checkVolume_1 (tgt := 10) (by decide) (by omega) (fun hlt => ?_) (fun hge => ?_)
  · obtain ⟨sa, hsa⟩ := hE.2.2.2.1 (124, "there is no such volume") (List.mem_of_getElem? (i := 9) rfl)
    exact vx_throwS (own := RX0) (cls := eIA) (names := eN) hx hb hl9 hown (by decide +kernel) (by decide +kernel) (hw _ wkX0_30) (hw _ wi_6) hsa (hat_34 hE hw) (by decide +kernel) (exE_none hE).1.1 (exE_none hE).1.2 hS (hl.1.trans hml.symm) dX0_checkVolume_10 dX0_checkVolume_13 dX0_checkVolume_14 dX0_checkVolume_16 dX0_checkVolume_19 (fun x hx => (hEx x hx).elim) (Nat.le_of_ble_eq_true rfl) (Nat.le_of_ble_eq_true rfl) (Nat.le_of_ble_eq_true rfl) (Nat.le_of_ble_eq_true rfl) hlocks (fun t ha hsz hk => ⟨(), trivial, ⟨rfl, Or.inl hlt⟩, Nat.le_trans hS.1 hsz, fun q h1 h2 => (hk q (Nat.lt_of_lt_of_le h1 hS.1)).trans (hS.2.1 q h1 h2)⟩) (fun z hz => (hS.2.2 z hz).elim) (by decide) (by decide)
  · refine lv_iload_n hx hb dX0_checkVolume_4 rfl (lv_at hl 1 rfl) ?_
    refine r_bipush hx hb dX0_checkVolume_5 (by decide +kernel) ?_
    refine r_icmp_lt hx hb dX0_checkVolume_7 (tgt := 20) (by decide) (by omega) (by omega) (fun hin => ?_) (fun hout => ?_)
    · refine vx_ret ?_
      refine W.widen (k := 1) (n := 6) (by decide) (by decide) ?_
      exact W.vret hx hb hr (fun t ht hW => ⟨⟨(), rfl, ⟨hge, hin⟩, trivial⟩, hS.F ht⟩) hS.2.2 dX0_checkVolume_20
    · obtain ⟨sa, hsa⟩ := hE.2.2.2.1 (124, "there is no such volume") (List.mem_of_getElem? (i := 9) rfl)
      exact vx_throwS (own := RX0) (cls := eIA) (names := eN) hx hb hl9 hown (by decide +kernel) (by decide +kernel) (hw _ wkX0_30) (hw _ wi_6) hsa (hat_34 hE hw) (by decide +kernel) (exE_none hE).1.1 (exE_none hE).1.2 hS (hl.1.trans hml.symm) dX0_checkVolume_10 dX0_checkVolume_13 dX0_checkVolume_14 dX0_checkVolume_16 dX0_checkVolume_19 (fun x hx => (hEx x hx).elim) (Nat.le_of_ble_eq_true rfl) (Nat.le_of_ble_eq_true rfl) (Nat.le_of_ble_eq_true rfl) (Nat.le_of_ble_eq_true rfl) hlocks (fun t ha hsz hk => ⟨(), trivial, ⟨rfl, Or.inr hout⟩, Nat.le_trans hS.1 hsz, fun q h1 h2 => (hk q (Nat.lt_of_lt_of_le h1 hS.1)).trans (hS.2.1 q h1 h2)⟩) (fun z hz => (hS.2.2 z hz).elim) (by decide) (by decide)
set_option maxHeartbeats 4000000 in
set_option maxRecDepth 100000 in
theorem m_clear (l : Launch) (dC : Nat → ClassId) (dI : Nat → Nat → Nat) (ad : Nat → Nat) (ca : Nat → ClassId) (gL gB gD : Nat → Int) (gN : Nat → Int64) (gS : Nat → Int) (n r : Int) (x : Int64) (b : Int) : Met l yX0_clear wsX0_clear { frames := 0, cells := 0, slots := 0, locals := 0 } (PX (dC, dI) vwCl (yX ca) (wX ad ca gL gB gD gN gS n r x) [.ref (ad 0), .int (iI b)]) (va_Qv (fun (_ : Unit) => True) (fun _ t => va_P (dC, dI) vwCl (wX ad ca gL gB gD gN gS 0 (b - 1) 0) t.heap) (inW (wX ad ca gL gB gD gN gS n r x))) 0 0 (inW (wX ad ca gL gB gD gN gS n r x)) := by
  refine Met.ofW (cc := cX0_clear) (maxL := 2) (ret := none) (by decide) rfl ?_
  intro p e s m args below meth c s₁ B hml hv
  obtain ⟨rfl, hP, hK, hD0⟩ := hv
  have hx := B.exec
  have hb := B.bytes
  have hr := B.returns
  have hts := atoms_spec (ws := wsX0_clear) B.pre
  have hown : s.vm.findClass RX0 = some m.cls := findClass_of_methodNamed B.named
  have hlocks := B.notSynchronized
  have hw := fun w h => hts w (List.mem_cons_of_mem _ h)
  have hinTX0 : ∀ w ∈ u_ws RX0 TX0 8, w ∈ wsX0_clear := wA_u wuX0
  have fl41 := hw _ wfX0_41
  have fl50 := hw _ wfX0_50
  have fl80 := hw _ wfX0_80
  have hD := wD_own hD0
  obtain ⟨A, hAe⟩ : ∃ A, A = inW (wX ad ca gL gB gD gN gS n r x) := ⟨_, rfl⟩
  rw [← hAe] at hD
  obtain ⟨H, hH⟩ : ∃ H, H = s.heap := ⟨_, rfl⟩
  obtain ⟨locs, hlc⟩ : ∃ L : List Loc, L = [] := ⟨_, rfl⟩
  have hS : va_S A s.heap H locs := by rw [hH, hlc]; exact va_S.rf
  rw [← hH] at hP ⊢
  rw [← hlc]
  have hl := lv_entry ([.ref (ad 0), .int (iI b)]) (n := 2) (Nat.le_of_ble_eq_true rfl)
  rw [lg_entry_eq]
  generalize (lg_sl ([.ref (ad 0), .int (iI b)]) ++ List.replicate (2 - (lg_sl ([.ref (ad 0), .int (iI b)])).length) Slot.unset).toArray = ls at hl ⊢
  have hl : lv_has ls 2 [(0, .ref (ad 0)), (1, .int (iI b))] := hl
  refine lv_aload_n hx hb dX0_clear_0 rfl (lv_at hl 0 rfl) ?_
  refine r_iconst hx hb dX0_clear_1 ?_
  refine va_put (D := (dC, dI)) (ci := 0) (v := .int (iI 0)) (ty := .int) (C := RX0) (T := TX0) (N := 8) hx hb hts hinTX0 tyX0 tyX0_ok nmX0 hown hK hP hD hS 0 rfl rfl 5 (by decide) fl41 (fun _ h9 => h9) rfl (by decide +kernel) rfl rfl (Nat.le_of_ble_eq_true rfl) dX0_clear_2 (fun H locs hP hD hS => ?_)
  have hP : va_P (dC, dI) vwCl (wX ad ca gL gB gD gN gS 0 r x) H := hP
  have hD : va_D A (wX ad ca gL gB gD gN gS 0 r x) := hD
  refine lv_aload_n hx hb dX0_clear_5 rfl (lv_at hl 0 rfl) ?_
  refine lv_iload_n hx hb dX0_clear_6 rfl (lv_at hl 1 rfl) ?_
  refine r_iconst hx hb dX0_clear_7 ?_
  refine r_isub hx hb dX0_clear_8 ?_
  refine va_put (D := (dC, dI)) (ci := 0) (v := .int (iI (b - 1))) (ty := .int) (C := RX0) (T := TX0) (N := 8) hx hb hts hinTX0 tyX0 tyX0_ok nmX0 hown hK hP hD hS 0 rfl rfl 6 (by decide) fl50 (fun _ h9 => h9) rfl (by decide +kernel) rfl rfl (Nat.le_of_ble_eq_true rfl) dX0_clear_9 (fun H locs hP hD hS => ?_)
  have hP : va_P (dC, dI) vwCl (wX ad ca gL gB gD gN gS 0 (b - 1) x) H := hP
  have hD : va_D A (wX ad ca gL gB gD gN gS 0 (b - 1) x) := hD
  refine lv_aload_n hx hb dX0_clear_12 rfl (lv_at hl 0 rfl) ?_
  refine lv_lconst hx hb dX0_clear_13 rfl ?_
  refine va_put (D := (dC, dI)) (ci := 0) (v := .long (Int64.ofNat 0)) (ty := .long) (C := RX0) (T := TX0) (N := 8) hx hb hts hinTX0 tyX0 tyX0_ok nmX0 hown hK hP hD hS 0 rfl rfl 7 (by decide) fl80 (fun _ h9 => h9) rfl (by decide +kernel) rfl rfl (Nat.le_of_ble_eq_true rfl) dX0_clear_14 (fun H locs hP hD hS => ?_)
  have hP : va_P (dC, dI) vwCl (wX ad ca gL gB gD gN gS 0 (b - 1) (Int64.ofNat 0)) H := hP
  have hD : va_D A (wX ad ca gL gB gD gN gS 0 (b - 1) (Int64.ofNat 0)) := hD
  subst hAe
  exact W.vret hx hb hr (fun t ht hW => ⟨⟨(), rfl, trivial, by subst ht; exact hP⟩, hS.F ht⟩) hS.2.2 dX0_clear_17
set_option maxHeartbeats 4000000 in
set_option maxRecDepth 100000 in
theorem m_append (l : Launch) (dC : Nat → ClassId) (dI : Nat → Nat → Nat) (ad : Nat → Nat) (ca : Nat → ClassId) (gL gB gD : Nat → Int) (gN : Nat → Int64) (gS : Nat → Int) (n r : Nat) (x : Int64) (L S : Nat → Nat) (lo : Nat → Bool) (hok : okS n L S r) (hT : tX n L S r lo gL gB gD gN gS x) (v b : Nat) (hv : v ≤ 9) (hn : n < 300) (h1 : 1 ≤ b) (h2 : b ≤ 500) (hs : sm S n + b ≤ 64 * r) : Met l yX0_append wsX0_append { frames := 1, cells := 0, slots := 0, locals := 22 } (PX (dC, dI) vwCl (yX ca) (wX ad ca gL gB gD gN gS ((n : Int)) ((r : Int)) x) [.ref (ad 0), .int (iI ((v : Int))), .int (iI ((b : Int)))]) (va_Qi (fun (y : Int32) (u : XU) => y = iI (n : Int) ∧ tXu (n + 1) (uN L n v) (uN S n b) r lo u x) (fun u t => va_P (dC, dI) vwCl (wXu ad ca u ((n : Int) + 1) (r : Int) x) t.heap) (inW (wX ad ca gL gB gD gN gS ((n : Int)) ((r : Int)) x))) 0 0 (inW (wX ad ca gL gB gD gN gS ((n : Int)) ((r : Int)) x)) := by
  refine Met.ofW (cc := cX0_append) (maxL := 8) (ret := (some .int)) (by decide) rfl ?_
  intro p e s m args below meth c s₁ B hml hv
  obtain ⟨rfl, hP, hK, hD0⟩ := hv
  have hx := B.exec
  have hb := B.bytes
  have hr := B.returns
  have hts := atoms_spec (ws := wsX0_append) B.pre
  have hown : s.vm.findClass RX0 = some m.cls := findClass_of_methodNamed B.named
  have hlocks := B.notSynchronized
  have hw := fun w h => hts w (List.mem_cons_of_mem _ h)
  have hinTX0 : ∀ w ∈ u_ws RX0 TX0 8, w ∈ wsX0_append := wA_u wuX0
  have fl41 := hw _ wfX0_41
  have fl23 := hw _ wfX0_23
  have fl9 := hw _ wfX0_9
  have fl13 := hw _ wfX0_13
  have fl16 := hw _ wfX0_16
  have fl19 := hw _ wfX0_19
  have hD := wD_own hD0
  obtain ⟨A, hAe⟩ : ∃ A, A = inW (wX ad ca gL gB gD gN gS ((n : Int)) ((r : Int)) x) := ⟨_, rfl⟩
  rw [← hAe] at hD
  obtain ⟨H, hH⟩ : ∃ H, H = s.heap := ⟨_, rfl⟩
  obtain ⟨locs, hlc⟩ : ∃ L : List Loc, L = [] := ⟨_, rfl⟩
  have hS : va_S A s.heap H locs := by rw [hH, hlc]; exact va_S.rf
  rw [← hH] at hP ⊢
  rw [← hlc]
  have hl := lv_entry ([.ref (ad 0), .int (iI ((v : Int))), .int (iI ((b : Int)))]) (n := 8) (Nat.le_of_ble_eq_true rfl)
  rw [lg_entry_eq]
  generalize (lg_sl ([.ref (ad 0), .int (iI ((v : Int))), .int (iI ((b : Int)))]) ++ List.replicate (8 - (lg_sl ([.ref (ad 0), .int (iI ((v : Int))), .int (iI ((b : Int)))])).length) Slot.unset).toArray = ls at hl ⊢
  have hl : lv_has ls 8 [(0, .ref (ad 0)), (1, .int (iI ((v : Int)))), (2, .int (iI ((b : Int))))] := hl
  obtain ⟨ok1, ok2, ok3, ok4, ok5⟩ := id hok
  have en : ((n : Int)).toNat = n := by omega
  have en1 : ((n : Int) + 1).toNat = n + 1 := by omega
  have t5 := hT.2.1 n (Nat.le_refl n)
  have hba := ba_le L v n
  have e1 : (sm S n : Int) / (r : Int) = ((sm S n / r : Nat) : Int) := (Int.natCast_ediv _ _).symm
  have e2 : ((sm S n : Int) + (b : Int) - 1) / (r : Int) = (((sm S n + b - 1) / r : Nat) : Int) := by
    rw [Int.natCast_ediv]
    congr 1
    omega
  have v1 : sm S n / r < 64 := vo_lt (by omega)
  have v2 : (sm S n + b - 1) / r < 64 := vo_lt (by omega)
  refine lv_aload_n hx hb dX0_append_0 rfl (lv_at hl 0 rfl) ?_
  refine va_get (D := (dC, dI)) (ci := 0) (v := .int (iI ((n : Int)))) (C := RX0) (T := TX0) (N := 8) hx hb hts hinTX0 hown hK hP 0 rfl rfl 5 (by decide) fl41 (fun _ h9 => h9) rfl dX0_append_1 ?_
  refine lv_istore_n hx hb dX0_append_4 rfl hl (by decide) rfl (fun ls hl => ?_)
  have hl : lv_has ls 8 [(3, .int (iI ((n : Int)))), (0, .ref (ad 0)), (1, .int (iI ((v : Int)))), (2, .int (iI ((b : Int))))] := hl
  refine lv_aload_n hx hb dX0_append_5 rfl (lv_at hl 1 rfl) ?_
  refine lv_iload_n hx hb dX0_append_6 rfl (lv_at hl 2 rfl) ?_
  refine ro_z (z := (ba L v n : Int) - 1) (va_runV (As := [.int (iI ((v : Int)))]) (rest := []) ⟨hx, hb, hml, hown, hts⟩ (m_latestBelow l dC dI ad ca gL gB gD gN gS n r x L v (by omega) (fun d hd => ⟨(hT.1 d hd).1, (ok4 d hd).1⟩) hv) (cwV 1 hts (gV wlX0_126 wo_X0_latestBelow wz_X0_latestBelow wi_1 wcX0_latestBelow) rfl rfl rfl (by decide +kernel) ⟨Nat.le_of_ble_eq_true rfl, Nat.le_of_ble_eq_true rfl⟩) (PX_V (q0 := 0) (ci := 0) hP hK hD rfl rfl) rfl rfl hl.1 rfl (lv_room (Nat.le_of_ble_eq_true rfl)) dX0_append_7 ⟨Nat.le_of_ble_eq_true rfl, Nat.le_of_ble_eq_true rfl⟩) hS hP (fun H locs hP hS => ?_)
  refine lv_istore hx hb dX0_append_10 hl (by decide) rfl (fun ls hl => ?_)
  have hl : lv_has ls 8 [(4, .int (iI ((ba L v n : Int) - 1))), (3, .int (iI ((n : Int)))), (0, .ref (ad 0)), (1, .int (iI ((v : Int)))), (2, .int (iI ((b : Int))))] := hl
  refine lv_aload_n hx hb dX0_append_12 rfl (lv_at hl 2 rfl) ?_
  refine va_get (D := (dC, dI)) (ci := 0) (v := .ref (ad 5)) (C := RX0) (T := TX0) (N := 8) hx hb hts hinTX0 hown hK hP 0 rfl rfl 4 (by decide) fl23 (fun _ h9 => h9) rfl dX0_append_13 ?_
  refine lv_iload_n hx hb dX0_append_16 rfl (lv_at hl 1 rfl) ?_
  refine r_iald hx hb hK hP 5 4 rfl rfl (by omega) (by omega) (by decide) dX0_append_17 ?_
  refine r_topi (b := (sm S n : Int)) (by rw [en]; exact t5) ?_
  refine lv_iload_n hx hb dX0_append_18 rfl (lv_at hl 4 rfl) ?_
  refine r_iadd hx hb dX0_append_19 ?_
  refine lv_istore hx hb dX0_append_20 hl (by decide) rfl (fun ls hl => ?_)
  have hl : lv_has ls 8 [(5, .int (iI (((sm S n : Int)) + ((b : Int))))), (4, .int (iI ((ba L v n : Int) - 1))), (3, .int (iI ((n : Int)))), (0, .ref (ad 0)), (1, .int (iI ((v : Int)))), (2, .int (iI ((b : Int))))] := hl
  refine lv_aload_n hx hb dX0_append_22 rfl (lv_at hl 3 rfl) ?_
  refine lv_aload_n hx hb dX0_append_23 rfl (lv_at hl 3 rfl) ?_
  refine va_get (D := (dC, dI)) (ci := 0) (v := .ref (ad 5)) (C := RX0) (T := TX0) (N := 8) hx hb hts hinTX0 hown hK hP 0 rfl rfl 4 (by decide) fl23 (fun _ h9 => h9) rfl dX0_append_24 ?_
  refine lv_iload_n hx hb dX0_append_27 rfl (lv_at hl 2 rfl) ?_
  refine r_iald hx hb hK hP 5 4 rfl rfl (by omega) (by omega) (by decide) dX0_append_28 ?_
  refine r_topi (b := (sm S n : Int)) (by rw [en]; exact t5) ?_
  refine ro_z (z := (sm S n : Int) / (r : Int)) (va_runV (As := [.int (iI ((sm S n : Int)))]) (rest := []) ⟨hx, hb, hml, hown, hts⟩ (m_volumeAt l dC dI ad ca gL gB gD gN gS n r x (sm S n : Int) (by omega) (by omega) ok2 ok3) (cwV 1 hts (gV wlX0_68 wo_X0_volumeAt wz_X0_volumeAt wi_1 wcX0_volumeAt) rfl rfl rfl (by decide +kernel) ⟨Nat.le_of_ble_eq_true rfl, Nat.le_of_ble_eq_true rfl⟩) (PX_V (q0 := 0) (ci := 0) hP hK hD rfl rfl) rfl rfl hl.1 rfl (lv_room (Nat.le_of_ble_eq_true rfl)) dX0_append_29 ⟨Nat.le_of_ble_eq_true rfl, Nat.le_of_ble_eq_true rfl⟩) hS hP (fun H locs hP hS => ?_)
  refine r_topi (b := ((sm S n / r : Nat) : Int)) (e1) ?_
  refine lv_aload_n hx hb dX0_append_32 rfl (lv_at hl 3 rfl) ?_
  refine lv_iload hx hb dX0_append_33 (lv_at hl 0 rfl) ?_
  refine r_iconst hx hb dX0_append_35 ?_
  refine r_isub hx hb dX0_append_36 ?_
  refine ro_z (z := ((sm S n : Int) + (b : Int) - 1) / (r : Int)) (va_runV (As := [.int (iI ((((sm S n : Int)) + ((b : Int))) - 1))]) (rest := [.int (iI (((sm S n / r : Nat) : Int)))]) ⟨hx, hb, hml, hown, hts⟩ (m_volumeAt l dC dI ad ca gL gB gD gN gS n r x ((sm S n : Int) + (b : Int) - 1) (by omega) (by omega) ok2 ok3) (cwV 1 hts (gV wlX0_68 wo_X0_volumeAt wz_X0_volumeAt wi_1 wcX0_volumeAt) rfl rfl rfl (by decide +kernel) ⟨Nat.le_of_ble_eq_true rfl, Nat.le_of_ble_eq_true rfl⟩) (PX_V (q0 := 0) (ci := 0) hP hK hD rfl rfl) rfl rfl hl.1 rfl (lv_room (Nat.le_of_ble_eq_true rfl)) dX0_append_37 ⟨Nat.le_of_ble_eq_true rfl, Nat.le_of_ble_eq_true rfl⟩) hS hP (fun H locs hP hS => ?_)
  refine r_topi (b := (((sm S n + b - 1) / r : Nat) : Int)) (e2) ?_
  refine ro_l (va_runS (As := [.int (iI (((sm S n / r : Nat) : Int))), .int (iI ((((sm S n + b - 1) / r : Nat) : Int)))]) (rest := []) ⟨hx, hb, hml, hown, hts⟩ (m_bitsFromTo l dC dI (sm S n / r) ((sm S n + b - 1) / r) v1 v2) (va_cwS 2 hts (gSt wlX0_96 wt_X0_bitsFromTo wi_1 wcX0_bitsFromTo) rfl rfl rfl (by decide +kernel) ⟨Nat.le_of_ble_eq_true rfl, Nat.le_of_ble_eq_true rfl⟩) (PX_S0 hK) rfl rfl hl.1 rfl (lv_room (Nat.le_of_ble_eq_true rfl)) dX0_append_40 ⟨Nat.le_of_ble_eq_true rfl, Nat.le_of_ble_eq_true rfl⟩) hS hP (fun own H locs hown9 hP hS => ?_)
  refine lv_lstore hx hb dX0_append_43 hl (by decide) rfl (fun ls hl => ?_)
  have hl : lv_has ls 8 [(6, .long own), (5, .int (iI (((sm S n : Int)) + ((b : Int))))), (4, .int (iI ((ba L v n : Int) - 1))), (3, .int (iI ((n : Int)))), (0, .ref (ad 0)), (1, .int (iI ((v : Int)))), (2, .int (iI ((b : Int))))] := hl
  refine lv_aload_n hx hb dX0_append_45 rfl (lv_at hl 4 rfl) ?_
  refine va_get (D := (dC, dI)) (ci := 0) (v := .ref (ad 1)) (C := RX0) (T := TX0) (N := 8) hx hb hts hinTX0 hown hK hP 0 rfl rfl 0 (by decide) fl9 (fun _ h9 => h9) rfl dX0_append_46 ?_
  refine lv_iload_n hx hb dX0_append_49 rfl (lv_at hl 3 rfl) ?_
  refine lv_iload_n hx hb dX0_append_50 rfl (lv_at hl 5 rfl) ?_
  refine r_iast hx hb hK hP hD hS 1 0 rfl rfl (by omega) (by omega) (by decide) dX0_append_51 (fun H locs hP hD hS => ?_)
  have hP : va_P (dC, dI) vwCl (wX ad ca (uZ gL ((n : Int)).toNat ((v : Int))) gB gD gN gS ((n : Int)) ((r : Int)) x) H := hP
  have hD : va_D A (wX ad ca (uZ gL ((n : Int)).toNat ((v : Int))) gB gD gN gS ((n : Int)) ((r : Int)) x) := hD
  refine lv_aload_n hx hb dX0_append_52 rfl (lv_at hl 4 rfl) ?_
  refine va_get (D := (dC, dI)) (ci := 0) (v := .ref (ad 2)) (C := RX0) (T := TX0) (N := 8) hx hb hts hinTX0 hown hK hP 0 rfl rfl 1 (by decide) fl13 (fun _ h9 => h9) rfl dX0_append_53 ?_
  refine lv_iload_n hx hb dX0_append_56 rfl (lv_at hl 3 rfl) ?_
  refine lv_iload hx hb dX0_append_57 (lv_at hl 2 rfl) ?_
  refine r_iast hx hb hK hP hD hS 2 1 rfl rfl (by omega) (by omega) (by decide) dX0_append_59 (fun H locs hP hD hS => ?_)
  have hP : va_P (dC, dI) vwCl (wX ad ca (uZ gL ((n : Int)).toNat ((v : Int))) (uZ gB ((n : Int)).toNat ((ba L v n : Int) - 1)) gD gN gS ((n : Int)) ((r : Int)) x) H := hP
  have hD : va_D A (wX ad ca (uZ gL ((n : Int)).toNat ((v : Int))) (uZ gB ((n : Int)).toNat ((ba L v n : Int) - 1)) gD gN gS ((n : Int)) ((r : Int)) x) := hD
  refine lv_aload_n hx hb dX0_append_60 rfl (lv_at hl 4 rfl) ?_
  refine va_get (D := (dC, dI)) (ci := 0) (v := .ref (ad 3)) (C := RX0) (T := TX0) (N := 8) hx hb hts hinTX0 hown hK hP 0 rfl rfl 2 (by decide) fl16 (fun _ h9 => h9) rfl dX0_append_61 ?_
  refine lv_iload_n hx hb dX0_append_64 rfl (lv_at hl 3 rfl) ?_
  refine lv_iload hx hb dX0_append_65 (lv_at hl 2 rfl) ?_
  refine r_iconst hx hb dX0_append_67 ?_
  refine r_icmp_ne hx hb dX0_append_68 (tgt := 75) (by decide) (by omega) (by omega) (fun hne => ?_) (fun heq => ?_)
  · obtain ⟨j, hj⟩ : ∃ j, ba L v n = j + 1 := ⟨ba L v n - 1, by omega⟩
    have ej : ((ba L v n : Int) - 1).toNat = j := by omega
    obtain ⟨-, -, t3, t4⟩ := hT.1 j (by omega)
    have hdp := dp_le L (j + 1) (j + 1) (Nat.le_refl _)
    refine lv_aload_n hx hb dX0_append_75 rfl (lv_at hl 4 rfl) ?_
    refine va_get (D := (dC, dI)) (ci := 0) (v := .ref (ad 3)) (C := RX0) (T := TX0) (N := 8) hx hb hts hinTX0 hown hK hP 0 rfl rfl 2 (by decide) fl16 (fun _ h9 => h9) rfl dX0_append_76 ?_
    refine lv_iload hx hb dX0_append_79 (lv_at hl 2 rfl) ?_
    refine r_iald hx hb hK hP 3 2 rfl rfl (by omega) (by omega) (by decide) dX0_append_81 ?_
    refine r_topi (b := (dp L (j + 1) : Int)) (by rw [ej]; exact t3) ?_
    refine r_iconst hx hb dX0_append_82 ?_
    refine r_iadd hx hb dX0_append_83 ?_
    refine r_iast hx hb hK hP hD hS 3 2 rfl rfl (by omega) (by omega) (by decide) dX0_append_84 (fun H locs hP hD hS => ?_)
    have hP : va_P (dC, dI) vwCl (wX ad ca (uZ gL ((n : Int)).toNat ((v : Int))) (uZ gB ((n : Int)).toNat ((ba L v n : Int) - 1)) (uZ gD ((n : Int)).toNat (((dp L (j + 1) : Int)) + 1)) gN gS ((n : Int)) ((r : Int)) x) H := hP
    have hD : va_D A (wX ad ca (uZ gL ((n : Int)).toNat ((v : Int))) (uZ gB ((n : Int)).toNat ((ba L v n : Int) - 1)) (uZ gD ((n : Int)).toNat (((dp L (j + 1) : Int)) + 1)) gN gS ((n : Int)) ((r : Int)) x) := hD
    refine lv_aload_n hx hb dX0_append_85 rfl (lv_at hl 4 rfl) ?_
    refine va_get (D := (dC, dI)) (ci := 0) (v := .ref (ad 4)) (C := RX0) (T := TX0) (N := 8) hx hb hts hinTX0 hown hK hP 0 rfl rfl 3 (by decide) fl19 (fun _ h9 => h9) rfl dX0_append_86 ?_
    refine lv_iload_n hx hb dX0_append_89 rfl (lv_at hl 3 rfl) ?_
    refine lv_iload hx hb dX0_append_90 (lv_at hl 2 rfl) ?_
    refine r_iconst hx hb dX0_append_92 ?_
    refine r_icmp_ne hx hb dX0_append_93 (tgt := 101) (by decide) (by omega) (by omega) (fun hne2 => ?_) (fun heq2 => ?_)
    · refine lv_lload hx hb dX0_append_101 (lv_at hl 0 rfl) ?_
      refine lv_aload_n hx hb dX0_append_103 rfl (lv_at hl 4 rfl) ?_
      refine va_get (D := (dC, dI)) (ci := 0) (v := .ref (ad 4)) (C := RX0) (T := TX0) (N := 8) hx hb hts hinTX0 hown hK hP 0 rfl rfl 3 (by decide) fl19 (fun _ h9 => h9) rfl dX0_append_104 ?_
      refine lv_iload hx hb dX0_append_107 (lv_at hl 2 rfl) ?_
      refine r_lald hx hb hK hP 4 3 rfl rfl (by omega) (by omega) (by decide) dX0_append_109 ?_
      refine lv_lor hx hb dX0_append_110 ?_
      refine r_last hx hb hK hP hD hS 4 3 rfl rfl (by omega) (by omega) (by decide) dX0_append_111 (fun H locs hP hD hS => ?_)
      have hP : va_P (dC, dI) vwCl (wX ad ca (uZ gL ((n : Int)).toNat ((v : Int))) (uZ gB ((n : Int)).toNat ((ba L v n : Int) - 1)) (uZ gD ((n : Int)).toNat (((dp L (j + 1) : Int)) + 1)) (vp_updL gN ((n : Int)).toNat (own ||| (gN ((ba L v n : Int) - 1).toNat))) gS ((n : Int)) ((r : Int)) x) H := hP
      have hD : va_D A (wX ad ca (uZ gL ((n : Int)).toNat ((v : Int))) (uZ gB ((n : Int)).toNat ((ba L v n : Int) - 1)) (uZ gD ((n : Int)).toNat (((dp L (j + 1) : Int)) + 1)) (vp_updL gN ((n : Int)).toNat (own ||| (gN ((ba L v n : Int) - 1).toNat))) gS ((n : Int)) ((r : Int)) x) := hD
      refine lv_aload_n hx hb dX0_append_112 rfl (lv_at hl 4 rfl) ?_
      refine va_get (D := (dC, dI)) (ci := 0) (v := .ref (ad 5)) (C := RX0) (T := TX0) (N := 8) hx hb hts hinTX0 hown hK hP 0 rfl rfl 4 (by decide) fl23 (fun _ h9 => h9) rfl dX0_append_113 ?_
      refine lv_iload_n hx hb dX0_append_116 rfl (lv_at hl 3 rfl) ?_
      refine r_iconst hx hb dX0_append_117 ?_
      refine r_iadd hx hb dX0_append_118 ?_
      refine lv_iload hx hb dX0_append_119 (lv_at hl 1 rfl) ?_
      refine r_iast hx hb hK hP hD hS 5 4 rfl rfl (by omega) (by omega) (by decide) dX0_append_121 (fun H locs hP hD hS => ?_)
      have hP : va_P (dC, dI) vwCl (wX ad ca (uZ gL ((n : Int)).toNat ((v : Int))) (uZ gB ((n : Int)).toNat ((ba L v n : Int) - 1)) (uZ gD ((n : Int)).toNat (((dp L (j + 1) : Int)) + 1)) (vp_updL gN ((n : Int)).toNat (own ||| (gN ((ba L v n : Int) - 1).toNat))) (uZ gS (((n : Int)) + 1).toNat (((sm S n : Int)) + ((b : Int)))) ((n : Int)) ((r : Int)) x) H := hP
      have hD : va_D A (wX ad ca (uZ gL ((n : Int)).toNat ((v : Int))) (uZ gB ((n : Int)).toNat ((ba L v n : Int) - 1)) (uZ gD ((n : Int)).toNat (((dp L (j + 1) : Int)) + 1)) (vp_updL gN ((n : Int)).toNat (own ||| (gN ((ba L v n : Int) - 1).toNat))) (uZ gS (((n : Int)) + 1).toNat (((sm S n : Int)) + ((b : Int)))) ((n : Int)) ((r : Int)) x) := hD
      refine lv_aload_n hx hb dX0_append_122 rfl (lv_at hl 4 rfl) ?_
      refine lv_dup hx hb dX0_append_123 rfl ?_
      refine va_get (D := (dC, dI)) (ci := 0) (v := .int (iI ((n : Int)))) (C := RX0) (T := TX0) (N := 8) hx hb hts hinTX0 hown hK hP 0 rfl rfl 5 (by decide) fl41 (fun _ h9 => h9) rfl dX0_append_124 ?_
      refine r_iconst hx hb dX0_append_127 ?_
      refine r_iadd hx hb dX0_append_128 ?_
      refine va_put (D := (dC, dI)) (ci := 0) (v := .int (iI (((n : Int)) + 1))) (ty := .int) (C := RX0) (T := TX0) (N := 8) hx hb hts hinTX0 tyX0 tyX0_ok nmX0 hown hK hP hD hS 0 rfl rfl 5 (by decide) fl41 (fun _ h9 => h9) rfl (by decide +kernel) rfl rfl (Nat.le_of_ble_eq_true rfl) dX0_append_129 (fun H locs hP hD hS => ?_)
      have hP : va_P (dC, dI) vwCl (wX ad ca (uZ gL ((n : Int)).toNat ((v : Int))) (uZ gB ((n : Int)).toNat ((ba L v n : Int) - 1)) (uZ gD ((n : Int)).toNat (((dp L (j + 1) : Int)) + 1)) (vp_updL gN ((n : Int)).toNat (own ||| (gN ((ba L v n : Int) - 1).toNat))) (uZ gS (((n : Int)) + 1).toNat (((sm S n : Int)) + ((b : Int)))) (((n : Int)) + 1) ((r : Int)) x) H := hP
      have hD : va_D A (wX ad ca (uZ gL ((n : Int)).toNat ((v : Int))) (uZ gB ((n : Int)).toNat ((ba L v n : Int) - 1)) (uZ gD ((n : Int)).toNat (((dp L (j + 1) : Int)) + 1)) (vp_updL gN ((n : Int)).toNat (own ||| (gN ((ba L v n : Int) - 1).toNat))) (uZ gS (((n : Int)) + 1).toNat (((sm S n : Int)) + ((b : Int)))) (((n : Int)) + 1) ((r : Int)) x) := hD
      refine lv_iload_n hx hb dX0_append_132 rfl (lv_at hl 3 rfl) ?_
      have hTn : tXu (n + 1) (uN L n v) (uN S n b) r lo (uZ gL ((n : Int)).toNat ((v : Int)), uZ gB ((n : Int)).toNat ((ba L v n : Int) - 1), uZ gD ((n : Int)).toNat (((dp L (j + 1) : Int)) + 1), vp_updL gN ((n : Int)).toNat (own ||| (gN ((ba L v n : Int) - 1).toNat)), uZ gS (((n : Int)) + 1).toNat (((sm S n : Int)) + ((b : Int)))) x := by
        rw [en, en1]
        refine tX_push hT rfl ?_ (fun v9 hv9 => ?_) (by omega)
        · rw [hj]
        · rw [ej, bL_or, hown9 v9 hv9, onV_push, t4 v9 hv9, hj]
      subst hAe
      exact W.iret (v := iI ((n : Int))) hx hb hr (fun t ht hW => ⟨⟨_, (uZ gL ((n : Int)).toNat ((v : Int)), uZ gB ((n : Int)).toNat ((ba L v n : Int) - 1), uZ gD ((n : Int)).toNat (((dp L (j + 1) : Int)) + 1), vp_updL gN ((n : Int)).toNat (own ||| (gN ((ba L v n : Int) - 1).toNat)), uZ gS (((n : Int)) + 1).toNat (((sm S n : Int)) + ((b : Int)))), rfl, ⟨rfl, hTn⟩, by subst ht; exact hP⟩, hS.F ht⟩) hS.2.2 dX0_append_133
    · exact (hne (by omega)).elim
  · refine r_iconst hx hb dX0_append_71 ?_
    refine lv_goto hx hb dX0_append_72 (tgt := 84) (by decide) ?_
    refine r_iast hx hb hK hP hD hS 3 2 rfl rfl (by omega) (by omega) (by decide) dX0_append_84 (fun H locs hP hD hS => ?_)
    have hP : va_P (dC, dI) vwCl (wX ad ca (uZ gL ((n : Int)).toNat ((v : Int))) (uZ gB ((n : Int)).toNat ((ba L v n : Int) - 1)) (uZ gD ((n : Int)).toNat 1) gN gS ((n : Int)) ((r : Int)) x) H := hP
    have hD : va_D A (wX ad ca (uZ gL ((n : Int)).toNat ((v : Int))) (uZ gB ((n : Int)).toNat ((ba L v n : Int) - 1)) (uZ gD ((n : Int)).toNat 1) gN gS ((n : Int)) ((r : Int)) x) := hD
    refine lv_aload_n hx hb dX0_append_85 rfl (lv_at hl 4 rfl) ?_
    refine va_get (D := (dC, dI)) (ci := 0) (v := .ref (ad 4)) (C := RX0) (T := TX0) (N := 8) hx hb hts hinTX0 hown hK hP 0 rfl rfl 3 (by decide) fl19 (fun _ h9 => h9) rfl dX0_append_86 ?_
    refine lv_iload_n hx hb dX0_append_89 rfl (lv_at hl 3 rfl) ?_
    refine lv_iload hx hb dX0_append_90 (lv_at hl 2 rfl) ?_
    refine r_iconst hx hb dX0_append_92 ?_
    refine r_icmp_ne hx hb dX0_append_93 (tgt := 101) (by decide) (by omega) (by omega) (fun hne2 => ?_) (fun heq2 => ?_)
    · exact (hne2 (by omega)).elim
    · refine lv_lload hx hb dX0_append_96 (lv_at hl 0 rfl) ?_
      refine lv_goto hx hb dX0_append_98 (tgt := 111) (by decide) ?_
      refine r_last hx hb hK hP hD hS 4 3 rfl rfl (by omega) (by omega) (by decide) dX0_append_111 (fun H locs hP hD hS => ?_)
      have hP : va_P (dC, dI) vwCl (wX ad ca (uZ gL ((n : Int)).toNat ((v : Int))) (uZ gB ((n : Int)).toNat ((ba L v n : Int) - 1)) (uZ gD ((n : Int)).toNat 1) (vp_updL gN ((n : Int)).toNat own) gS ((n : Int)) ((r : Int)) x) H := hP
      have hD : va_D A (wX ad ca (uZ gL ((n : Int)).toNat ((v : Int))) (uZ gB ((n : Int)).toNat ((ba L v n : Int) - 1)) (uZ gD ((n : Int)).toNat 1) (vp_updL gN ((n : Int)).toNat own) gS ((n : Int)) ((r : Int)) x) := hD
      refine lv_aload_n hx hb dX0_append_112 rfl (lv_at hl 4 rfl) ?_
      refine va_get (D := (dC, dI)) (ci := 0) (v := .ref (ad 5)) (C := RX0) (T := TX0) (N := 8) hx hb hts hinTX0 hown hK hP 0 rfl rfl 4 (by decide) fl23 (fun _ h9 => h9) rfl dX0_append_113 ?_
      refine lv_iload_n hx hb dX0_append_116 rfl (lv_at hl 3 rfl) ?_
      refine r_iconst hx hb dX0_append_117 ?_
      refine r_iadd hx hb dX0_append_118 ?_
      refine lv_iload hx hb dX0_append_119 (lv_at hl 1 rfl) ?_
      refine r_iast hx hb hK hP hD hS 5 4 rfl rfl (by omega) (by omega) (by decide) dX0_append_121 (fun H locs hP hD hS => ?_)
      have hP : va_P (dC, dI) vwCl (wX ad ca (uZ gL ((n : Int)).toNat ((v : Int))) (uZ gB ((n : Int)).toNat ((ba L v n : Int) - 1)) (uZ gD ((n : Int)).toNat 1) (vp_updL gN ((n : Int)).toNat own) (uZ gS (((n : Int)) + 1).toNat (((sm S n : Int)) + ((b : Int)))) ((n : Int)) ((r : Int)) x) H := hP
      have hD : va_D A (wX ad ca (uZ gL ((n : Int)).toNat ((v : Int))) (uZ gB ((n : Int)).toNat ((ba L v n : Int) - 1)) (uZ gD ((n : Int)).toNat 1) (vp_updL gN ((n : Int)).toNat own) (uZ gS (((n : Int)) + 1).toNat (((sm S n : Int)) + ((b : Int)))) ((n : Int)) ((r : Int)) x) := hD
      refine lv_aload_n hx hb dX0_append_122 rfl (lv_at hl 4 rfl) ?_
      refine lv_dup hx hb dX0_append_123 rfl ?_
      refine va_get (D := (dC, dI)) (ci := 0) (v := .int (iI ((n : Int)))) (C := RX0) (T := TX0) (N := 8) hx hb hts hinTX0 hown hK hP 0 rfl rfl 5 (by decide) fl41 (fun _ h9 => h9) rfl dX0_append_124 ?_
      refine r_iconst hx hb dX0_append_127 ?_
      refine r_iadd hx hb dX0_append_128 ?_
      refine va_put (D := (dC, dI)) (ci := 0) (v := .int (iI (((n : Int)) + 1))) (ty := .int) (C := RX0) (T := TX0) (N := 8) hx hb hts hinTX0 tyX0 tyX0_ok nmX0 hown hK hP hD hS 0 rfl rfl 5 (by decide) fl41 (fun _ h9 => h9) rfl (by decide +kernel) rfl rfl (Nat.le_of_ble_eq_true rfl) dX0_append_129 (fun H locs hP hD hS => ?_)
      have hP : va_P (dC, dI) vwCl (wX ad ca (uZ gL ((n : Int)).toNat ((v : Int))) (uZ gB ((n : Int)).toNat ((ba L v n : Int) - 1)) (uZ gD ((n : Int)).toNat 1) (vp_updL gN ((n : Int)).toNat own) (uZ gS (((n : Int)) + 1).toNat (((sm S n : Int)) + ((b : Int)))) (((n : Int)) + 1) ((r : Int)) x) H := hP
      have hD : va_D A (wX ad ca (uZ gL ((n : Int)).toNat ((v : Int))) (uZ gB ((n : Int)).toNat ((ba L v n : Int) - 1)) (uZ gD ((n : Int)).toNat 1) (vp_updL gN ((n : Int)).toNat own) (uZ gS (((n : Int)) + 1).toNat (((sm S n : Int)) + ((b : Int)))) (((n : Int)) + 1) ((r : Int)) x) := hD
      refine lv_iload_n hx hb dX0_append_132 rfl (lv_at hl 3 rfl) ?_
      have hTn : tXu (n + 1) (uN L n v) (uN S n b) r lo (uZ gL ((n : Int)).toNat ((v : Int)), uZ gB ((n : Int)).toNat ((ba L v n : Int) - 1), uZ gD ((n : Int)).toNat 1, vp_updL gN ((n : Int)).toNat own, uZ gS (((n : Int)) + 1).toNat (((sm S n : Int)) + ((b : Int)))) x := by
        have h0 : ba L v n = 0 := by omega
        rw [en, en1]
        refine tX_push hT rfl ?_ (fun v9 hv9 => ?_) (by omega)
        · rw [h0, dp_0]; rfl
        · rw [hown9 v9 hv9, onV_push, h0, nd_0, Bool.or_false]
      subst hAe
      exact W.iret (v := iI ((n : Int))) hx hb hr (fun t ht hW => ⟨⟨_, (uZ gL ((n : Int)).toNat ((v : Int)), uZ gB ((n : Int)).toNat ((ba L v n : Int) - 1), uZ gD ((n : Int)).toNat 1, vp_updL gN ((n : Int)).toNat own, uZ gS (((n : Int)) + 1).toNat (((sm S n : Int)) + ((b : Int)))), rfl, ⟨rfl, hTn⟩, by subst ht; exact hP⟩, hS.F ht⟩) hS.2.2 dX0_append_133
