/-! the reference: isGood, needs, lose, good, latest, spare, count -/
set_option maxHeartbeats 4000000 in
set_option maxRecDepth 100000 in
theorem n_isGood (l : Launch) (dC : Nat → ClassId) (dI : Nat → Nat → Nat) (ad : Nat → Nat) (ca : Nat → ClassId) (er : Int) (gl gz go gw : Nat → Int) (n r : Nat) (L S : Nat → Nat) (lo : Nat → Bool) (hok : okS n L S r) (hT : tM n L S lo gl gz go) (d : Nat) (hd : d < n) : Met l yX1_isGood wsX1_isGood { frames := 2, cells := 0, slots := 0, locals := 47 } (PX (dC, dI) vwCl (yM ca) (wM ad ca er gl gz go gw ((n : Int)) ((r : Int) + 1)) [.ref (ad 0), .int (iI ((d : Int)))]) (va_Qi (fun (y : Int32) (_ : Nat → Int) => y = iI (b2 (gd L S r lo d))) (fun g9 t => va_P (dC, dI) vwCl (wM ad ca er gl gz go g9 ((n : Int)) ((r : Int) + 1)) t.heap) (inW (wM ad ca er gl gz go gw ((n : Int)) ((r : Int) + 1)))) 0 0 (inW (wM ad ca er gl gz go gw ((n : Int)) ((r : Int) + 1))) := by
  refine Met.ofW (cc := cX1_isGood) (maxL := 3) (ret := (some .boolean)) (by decide) rfl ?_
  intro p e s m args below meth c s₁ B hml hv
  obtain ⟨rfl, hP, hK, hD0⟩ := hv
  have hx := B.exec
  have hb := B.bytes
  have hr := B.returns
  have hts := atoms_spec (ws := wsX1_isGood) B.pre
  have hown : s.vm.findClass RX1 = some m.cls := findClass_of_methodNamed B.named
  have hlocks := B.notSynchronized
  have hw := fun w h => hts w (List.mem_cons_of_mem _ h)
  have hinTX1 : ∀ w ∈ u_ws RX1 TX1 7, w ∈ wsX1_isGood := wA_u wuX1
  have fl20 := hw _ wfX1_20
  have fl16 := hw _ wfX1_16
  have hD := wD_own hD0
  obtain ⟨A, hAe⟩ : ∃ A, A = inW (wM ad ca er gl gz go gw ((n : Int)) ((r : Int) + 1)) := ⟨_, rfl⟩
  rw [← hAe] at hD
  obtain ⟨H, hH⟩ : ∃ H, H = s.heap := ⟨_, rfl⟩
  obtain ⟨locs, hlc⟩ : ∃ L : List Loc, L = [] := ⟨_, rfl⟩
  have hS : va_S A s.heap H locs := by rw [hH, hlc]; exact va_S.rf
  rw [← hH] at hP ⊢
  rw [← hlc]
  have hl := lv_entry ([.ref (ad 0), .int (iI ((d : Int)))]) (n := 3) (Nat.le_of_ble_eq_true rfl)
  rw [lg_entry_eq]
  generalize (lg_sl ([.ref (ad 0), .int (iI ((d : Int)))]) ++ List.replicate (3 - (lg_sl ([.ref (ad 0), .int (iI ((d : Int)))])).length) Slot.unset).toArray = ls at hl ⊢
  have hl : lv_has ls 3 [(0, .ref (ad 0)), (1, .int (iI ((d : Int))))] := hl
  obtain ⟨ok1, ok2, ok3, ok4, ok5⟩ := id hok
  refine lv_aload_n hx hb dX1_isGood_0 rfl (lv_at hl 0 rfl) ?_
  refine wc_v (va_runV (As := []) (rest := []) ⟨hx, hb, hml, hown, hts⟩ (n_nothing l dC dI ad ca er gl gz go gw ((n : Int)) ((r : Int) + 1)) (cwV 0 hts (gV wlX1_51 wo_X1_nothing wz_X1_nothing wi_2 wcX1_nothing) rfl rfl rfl (by decide +kernel) ⟨Nat.le_of_ble_eq_true rfl, Nat.le_of_ble_eq_true rfl⟩) (PX_V (q0 := 0) (ci := 1) hP hK hD rfl rfl) rfl rfl hl.1 rfl (lv_room (Nat.le_of_ble_eq_true rfl)) dX1_isGood_1 ⟨Nat.le_of_ble_eq_true rfl, Nat.le_of_ble_eq_true rfl⟩) hS (by rw [hAe]; exact fun q h => inW_same (by rfl) h) (fun z9 H locs hz9 hP hS hk9 => ?_)
  have hP : va_P (dC, dI) vwCl (wM ad ca er gl gz go z9 ((n : Int)) ((r : Int) + 1)) H := hP
  have hD : va_D A (wM ad ca er gl gz go z9 ((n : Int)) ((r : Int) + 1)) := wD_same hD rfl
  refine lv_aload_n hx hb dX1_isGood_4 rfl (lv_at hl 0 rfl) ?_
  refine lv_iload_n hx hb dX1_isGood_5 rfl (lv_at hl 1 rfl) ?_
  refine wc_v (va_runV (As := [.int (iI ((d : Int)))]) (rest := []) ⟨hx, hb, hml, hown, hts⟩ (n_want l dC dI ad ca er gl gz go z9 n r L S lo hok hT d (by omega) (fun _ => false) (fun v hv => hz9 v hv)) (cwV 1 hts (gV wlX1_54 wo_X1_want wz_X1_want wi_2 wcX1_want) rfl rfl rfl (by decide +kernel) ⟨Nat.le_of_ble_eq_true rfl, Nat.le_of_ble_eq_true rfl⟩) (PX_V (q0 := 0) (ci := 1) hP hK hD rfl rfl) rfl rfl hl.1 rfl (lv_room (Nat.le_of_ble_eq_true rfl)) dX1_isGood_6 ⟨Nat.le_of_ble_eq_true rfl, Nat.le_of_ble_eq_true rfl⟩) hS (by rw [hAe]; exact fun q h => inW_same (by rfl) h) (fun k9 H locs hw9 hP hS hk9 => ?_)
  have hP : va_P (dC, dI) vwCl (wM ad ca er gl gz go k9 ((n : Int)) ((r : Int) + 1)) H := hP
  have hD : va_D A (wM ad ca er gl gz go k9 ((n : Int)) ((r : Int) + 1)) := wD_same hD rfl
  have hw8 : ∀ v, v < 64 → k9 v = b2 (nd L S r v (d + 1)) := fun v hv => by rw [hw9 v hv, Bool.false_or]
  refine r_iconst hx hb dX1_isGood_9 ?_
  refine lv_istore_n hx hb dX1_isGood_10 rfl hl (by decide) rfl (fun ls hl => ?_)
  have hl : lv_has ls 3 [(2, .int (iI 0)), (0, .ref (ad 0)), (1, .int (iI ((d : Int))))] := hl
  have loop : ∀ (N : Nat) (k : Nat) (ls : Array Slot), 64 - k < N → (k ≤ 64) → (noH (fun v => nd L S r v (d + 1) && lo v) k = true) → lv_has ls 3 [(2, .int (iI ((k : Int)))), (0, .ref (ad 0)), (1, .int (iI ((d : Int))))] → W p l e (headSpec wsX1_isGood { frames := 2, cells := 0, slots := 0, locals := 47 }).room s m ([.ref (ad 0), .int (iI ((d : Int)))]).toArray below meth c H locs ((0 + 0) + 0) ((0 + 0) + 0) (MQ below (va_Qi (fun (y : Int32) (_ : Nat → Int) => y = iI (b2 (gd L S r lo d))) (fun g9 t => va_P (dC, dI) vwCl (wM ad ca er gl gz go g9 ((n : Int)) ((r : Int) + 1)) t.heap) (inW (wM ad ca er gl gz go gw ((n : Int)) ((r : Int) + 1)))) ([.ref (ad 0), .int (iI ((d : Int)))]).toArray s 0 0 (inW (wM ad ca er gl gz go gw ((n : Int)) ((r : Int) + 1)))) (F0 m 11 ls []) := by
    intro N
    induction N with
    | zero => intro k ls h; exact absurd h (Nat.not_lt_zero _)
    | succ N ih =>
      intro k ls hN hk h9 hl
      refine lv_iload_n hx hb dX1_isGood_11 rfl (lv_at hl 0 rfl) ?_
      refine r_bipush hx hb dX1_isGood_12 (by decide +kernel) ?_
      refine r_icmp_ge hx hb dX1_isGood_14 (tgt := 43) (by decide) (by omega) (by omega) (fun hge => ?_) (fun hlt => ?_)
      · have hk0 : k = 64 := by omega
        subst hk0
        have hgt : gd L S r lo d = true := h9
        refine r_iconst hx hb dX1_isGood_43 ?_
        subst hAe
        refine W.widen (k := 0) (n := 0) (by decide) (by decide) ?_
        exact W.zret (v := iI 1) hx hb hr rfl (fun t ht hW => ⟨⟨_, k9, rfl, by rw [gd_t hgt], by subst ht; exact hP⟩, hS.F ht⟩) hS.2.2 dX1_isGood_44
      · have ek : ((k : Int)).toNat = k := by omega
        have h01 := b2_01 (nd L S r k (d + 1))
        have h02 := b2_01 (lo k)
        have hs9 : noH (fun v => nd L S r v (d + 1) && lo v) (k + 1) = (noH (fun v => nd L S r v (d + 1) && lo v) k && !(nd L S r k (d + 1) && lo k)) := rfl
        refine lv_aload_n hx hb dX1_isGood_17 rfl (lv_at hl 1 rfl) ?_
        refine va_get (D := (dC, dI)) (ci := 1) (v := .ref (ad 4)) (C := RX1) (T := TX1) (N := 7) hx hb hts hinTX1 hown hK hP 0 rfl rfl 4 (by decide) fl20 (fun _ h9 => h9) rfl dX1_isGood_18 ?_
        refine lv_iload_n hx hb dX1_isGood_21 rfl (lv_at hl 0 rfl) ?_
        refine r_zald hx hb hK hP 4 3 rfl rfl (by omega) (by omega) (by decide) dX1_isGood_22 ?_
        refine r_topi (b := b2 (nd L S r k (d + 1))) (by rw [ek]; exact hw8 k (by omega)) ?_
        refine r_if_eq hx hb dX1_isGood_23 (tgt := 37) (by decide) (by omega) (fun hz => ?_) (fun hnz => ?_)
        · refine r_iinc (k := 0) hx hb dX1_isGood_37 hl rfl (by decide) rfl (fun ls hl => ?_)
          have hl : lv_has ls 3 [(2, .int (iI ((k : Int) + 1))), (0, .ref (ad 0)), (1, .int (iI ((d : Int))))] := hl
          refine lv_goto hx hb dX1_isGood_40 (tgt := 11) (by decide) ?_
          have hl : lv_has ls 3 [(2, .int (iI ((k + 1 : Nat) : Int))), (0, .ref (ad 0)), (1, .int (iI (d : Int)))] := by
            rw [show ((k + 1 : Nat) : Int) = (k : Int) + 1 by omega]
            exact hl
          exact ih (k + 1) ls (by omega) (by omega) (by rw [hs9, h9, b2_0 hz, Bool.false_and]; rfl) hl
        · refine lv_aload_n hx hb dX1_isGood_26 rfl (lv_at hl 1 rfl) ?_
          refine va_get (D := (dC, dI)) (ci := 1) (v := .ref (ad 3)) (C := RX1) (T := TX1) (N := 7) hx hb hts hinTX1 hown hK hP 0 rfl rfl 3 (by decide) fl16 (fun _ h9 => h9) rfl dX1_isGood_27 ?_
          refine lv_iload_n hx hb dX1_isGood_30 rfl (lv_at hl 0 rfl) ?_
          refine r_zald hx hb hK hP 3 2 rfl rfl (by omega) (by omega) (by decide) dX1_isGood_31 ?_
          refine r_topi (b := b2 (lo k)) (by rw [ek]; exact hT.2 k (by omega)) ?_
          refine r_if_eq hx hb dX1_isGood_32 (tgt := 37) (by decide) (by omega) (fun hz2 => ?_) (fun hnz2 => ?_)
          · refine r_iinc (k := 0) hx hb dX1_isGood_37 hl rfl (by decide) rfl (fun ls hl => ?_)
            have hl : lv_has ls 3 [(2, .int (iI ((k : Int) + 1))), (0, .ref (ad 0)), (1, .int (iI ((d : Int))))] := hl
            refine lv_goto hx hb dX1_isGood_40 (tgt := 11) (by decide) ?_
            have hl : lv_has ls 3 [(2, .int (iI ((k + 1 : Nat) : Int))), (0, .ref (ad 0)), (1, .int (iI (d : Int)))] := by
              rw [show ((k + 1 : Nat) : Int) = (k : Int) + 1 by omega]
              exact hl
            exact ih (k + 1) ls (by omega) (by omega) (by rw [hs9, h9, b2_0 hz2, Bool.and_false]; rfl) hl
          · refine r_iconst hx hb dX1_isGood_35 ?_
            have hgf : ¬ gd L S r lo d = true := fun q9 => by
              have q8 := (noH_t.mp q9) k (by omega)
              rw [b2_1 hnz, b2_1 hnz2] at q8
              exact absurd q8 (by decide)
            subst hAe
            refine W.widen (k := 0) (n := 0) (by decide) (by decide) ?_
            exact W.zret (v := iI 0) hx hb hr rfl (fun t ht hW => ⟨⟨_, k9, rfl, by rw [gd_f hgf], by subst ht; exact hP⟩, hS.F ht⟩) hS.2.2 dX1_isGood_36
  exact loop (65) 0 ls (by omega) (by omega) rfl hl
set_option maxHeartbeats 4000000 in
set_option maxRecDepth 100000 in
theorem n_needs (l : Launch) (dC : Nat → ClassId) (dI : Nat → Nat → Nat) (ad : Nat → Nat) (ca : Nat → ClassId) (er : Int) (gl gz go gw : Nat → Int) (n r : Nat) (L S : Nat → Nat) (lo : Nat → Bool) (hok : okS n L S r) (hT : tM n L S lo gl gz go) (q : Int) (hq : iR q) : Met l yX1_needs wsX1_needs { frames := 2, cells := 0, slots := 0, locals := 47 } (PX (dC, dI) vwCl (yM ca) (wM ad ca er gl gz go gw ((n : Int)) ((r : Int) + 1)) [.ref (ad 0), .int (iI q)]) (va_Ql (fun (y : Int64) (u : MU) => MS n L S r lo u ∧ (((0 ≤ q ∧ q < (n : Int)) ∧ u.1 = 0 ∧ ∀ v, v < 64 → bL y v = nd L S r v (q.toNat + 1)) ∨ (¬ (0 ≤ q ∧ q < (n : Int)) ∧ u.1 = 1))) (fun u t => va_P (dC, dI) vwCl (wMu ad ca u) t.heap) (inW (wM ad ca er gl gz go gw ((n : Int)) ((r : Int) + 1)))) 0 0 (inW (wM ad ca er gl gz go gw ((n : Int)) ((r : Int) + 1))) := by
  refine Met.ofW (cc := cX1_needs) (maxL := 5) (ret := (some .long)) (by decide) rfl ?_
  intro p e s m args below meth c s₁ B hml hv
  obtain ⟨rfl, hP, hK, hD0⟩ := hv
  have hx := B.exec
  have hb := B.bytes
  have hr := B.returns
  have hts := atoms_spec (ws := wsX1_needs) B.pre
  have hown : s.vm.findClass RX1 = some m.cls := findClass_of_methodNamed B.named
  have hlocks := B.notSynchronized
  have hw := fun w h => hts w (List.mem_cons_of_mem _ h)
  have hinTX1 : ∀ w ∈ u_ws RX1 TX1 7, w ∈ wsX1_needs := wA_u wuX1
  have fl20 := hw _ wfX1_20
  have hD := wD_own hD0
  obtain ⟨A, hAe⟩ : ∃ A, A = inW (wM ad ca er gl gz go gw ((n : Int)) ((r : Int) + 1)) := ⟨_, rfl⟩
  rw [← hAe] at hD
  obtain ⟨H, hH⟩ : ∃ H, H = s.heap := ⟨_, rfl⟩
  obtain ⟨locs, hlc⟩ : ∃ L : List Loc, L = [] := ⟨_, rfl⟩
  have hS : va_S A s.heap H locs := by rw [hH, hlc]; exact va_S.rf
  rw [← hH] at hP ⊢
  rw [← hlc]
  have hl := lv_entry ([.ref (ad 0), .int (iI q)]) (n := 5) (Nat.le_of_ble_eq_true rfl)
  rw [lg_entry_eq]
  generalize (lg_sl ([.ref (ad 0), .int (iI q)]) ++ List.replicate (5 - (lg_sl ([.ref (ad 0), .int (iI q)])).length) Slot.unset).toArray = ls at hl ⊢
  have hl : lv_has ls 5 [(0, .ref (ad 0)), (1, .int (iI q))] := hl
  obtain ⟨ok1, ok2, ok3, ok4, ok5⟩ := id hok
  refine lv_aload_n hx hb dX1_needs_0 rfl (lv_at hl 0 rfl) ?_
  refine lv_aload_n hx hb dX1_needs_1 rfl (lv_at hl 0 rfl) ?_
  refine lv_iload_n hx hb dX1_needs_2 rfl (lv_at hl 1 rfl) ?_
  refine ro_z (z := if 0 ≤ q ∧ q < (n : Int) then 0 else 1) (va_runV (As := [.int (iI q)]) (rest := [.ref (ad 0)]) ⟨hx, hb, hml, hown, hts⟩ (n_none l dC dI ad ca er gl gz go gw n ((r : Int) + 1) q hq ok1) (cwV 1 hts (gV wlX1_41 wo_X1_none wz_X1_none wi_2 wcX1_none) rfl rfl rfl (by decide +kernel) ⟨Nat.le_of_ble_eq_true rfl, Nat.le_of_ble_eq_true rfl⟩) (PX_V (q0 := 0) (ci := 1) hP hK hD rfl rfl) rfl rfl hl.1 rfl (lv_room (Nat.le_of_ble_eq_true rfl)) dX1_needs_3 ⟨Nat.le_of_ble_eq_true rfl, Nat.le_of_ble_eq_true rfl⟩) hS hP (fun H locs hP hS => ?_)
  by_cases hc : 0 ≤ q ∧ q < (n : Int)
  · refine r_topi (b := 0) (if_pos hc) ?_
    refine r_iconst hx hb dX1_needs_6 ?_
    refine wc_i (va_runV (As := [.int (iI 0), .int (iI 1)]) (rest := []) ⟨hx, hb, hml, hown, hts⟩ (n_fails0 l dC dI ad ca er gl gz go gw ((n : Int)) ((r : Int) + 1) 1) (cwV 2 hts (gV wlX1_33 wo_X1_fails wz_X1_fails wi_2 wcX1_fails) rfl rfl rfl (by decide +kernel) ⟨Nat.le_of_ble_eq_true rfl, Nat.le_of_ble_eq_true rfl⟩) (PX_V (q0 := 0) (ci := 1) hP hK hD rfl rfl) rfl rfl hl.1 rfl (lv_room (Nat.le_of_ble_eq_true rfl)) dX1_needs_7 ⟨Nat.le_of_ble_eq_true rfl, Nat.le_of_ble_eq_true rfl⟩) hS (by rw [hAe]; exact fun q h => inW_same (by rfl) h) (fun r9 u9 H locs h8 hP hS hk9 => ?_)
    have hP : va_P (dC, dI) vwCl (wM ad ca 0 gl gz go gw ((n : Int)) ((r : Int) + 1)) H := hP
    have hD : va_D A (wM ad ca 0 gl gz go gw ((n : Int)) ((r : Int) + 1)) := wD_same hD rfl
    subst h8
    refine r_if_eq hx hb dX1_needs_10 (tgt := 15) (by decide) (by omega) (fun hk9 => ?_) (fun hk9 => ?_)
    · refine lv_aload_n hx hb dX1_needs_15 rfl (lv_at hl 0 rfl) ?_
      refine wc_v (va_runV (As := []) (rest := []) ⟨hx, hb, hml, hown, hts⟩ (n_nothing l dC dI ad ca 0 gl gz go gw ((n : Int)) ((r : Int) + 1)) (cwV 0 hts (gV wlX1_51 wo_X1_nothing wz_X1_nothing wi_2 wcX1_nothing) rfl rfl rfl (by decide +kernel) ⟨Nat.le_of_ble_eq_true rfl, Nat.le_of_ble_eq_true rfl⟩) (PX_V (q0 := 0) (ci := 1) hP hK hD rfl rfl) rfl rfl hl.1 rfl (lv_room (Nat.le_of_ble_eq_true rfl)) dX1_needs_16 ⟨Nat.le_of_ble_eq_true rfl, Nat.le_of_ble_eq_true rfl⟩) hS (by rw [hAe]; exact fun q h => inW_same (by rfl) h) (fun z9 H locs hz9 hP hS hk9 => ?_)
      have hP : va_P (dC, dI) vwCl (wM ad ca 0 gl gz go z9 ((n : Int)) ((r : Int) + 1)) H := hP
      have hD : va_D A (wM ad ca 0 gl gz go z9 ((n : Int)) ((r : Int) + 1)) := wD_same hD rfl
      refine lv_aload_n hx hb dX1_needs_19 rfl (lv_at hl 0 rfl) ?_
      refine lv_iload_n hx hb dX1_needs_20 rfl (lv_at hl 1 rfl) ?_
      refine r_topi (b := (q.toNat : Int)) (by omega) ?_
      refine wc_v (va_runV (As := [.int (iI ((q.toNat : Int)))]) (rest := []) ⟨hx, hb, hml, hown, hts⟩ (n_want l dC dI ad ca 0 gl gz go z9 n r L S lo hok hT q.toNat (by omega) (fun _ => false) (fun v hv => hz9 v hv)) (cwV 1 hts (gV wlX1_54 wo_X1_want wz_X1_want wi_2 wcX1_want) rfl rfl rfl (by decide +kernel) ⟨Nat.le_of_ble_eq_true rfl, Nat.le_of_ble_eq_true rfl⟩) (PX_V (q0 := 0) (ci := 1) hP hK hD rfl rfl) rfl rfl hl.1 rfl (lv_room (Nat.le_of_ble_eq_true rfl)) dX1_needs_21 ⟨Nat.le_of_ble_eq_true rfl, Nat.le_of_ble_eq_true rfl⟩) hS (by rw [hAe]; exact fun q h => inW_same (by rfl) h) (fun k9 H locs hw9 hP hS hk9 => ?_)
      have hP : va_P (dC, dI) vwCl (wM ad ca 0 gl gz go k9 ((n : Int)) ((r : Int) + 1)) H := hP
      have hD : va_D A (wM ad ca 0 gl gz go k9 ((n : Int)) ((r : Int) + 1)) := wD_same hD rfl
      have hw8 : ∀ v, v < 64 → k9 v = b2 (nd L S r v (q.toNat + 1)) := fun v hv => by rw [hw9 v hv, Bool.false_or]
      refine lv_lconst hx hb dX1_needs_24 rfl ?_
      refine lv_lstore_n hx hb dX1_needs_25 rfl hl (by decide) rfl (fun ls hl => ?_)
      have hl : lv_has ls 5 [(2, .long (Int64.ofNat 0)), (0, .ref (ad 0)), (1, .int (iI q))] := hl
      refine r_iconst hx hb dX1_needs_26 ?_
      refine lv_istore hx hb dX1_needs_27 hl (by decide) rfl (fun ls hl => ?_)
      have hl : lv_has ls 5 [(4, .int (iI 0)), (2, .long (Int64.ofNat 0)), (0, .ref (ad 0)), (1, .int (iI q))] := hl
      have loop : ∀ (N : Nat) (k : Nat) (y : Int64) (ls : Array Slot), 64 - k < N → (k ≤ 64) → (∀ j, j < 64 → bL y j = (decide (j < k) && nd L S r j (q.toNat + 1))) → lv_has ls 5 [(4, .int (iI ((k : Int)))), (2, .long y), (0, .ref (ad 0)), (1, .int (iI q))] → W p l e (headSpec wsX1_needs { frames := 2, cells := 0, slots := 0, locals := 47 }).room s m ([.ref (ad 0), .int (iI q)]).toArray below meth c H locs (((0 + 0) + 0) + 0) (((0 + 0) + 0) + 0) (MQ below (va_Ql (fun (y : Int64) (u : MU) => MS n L S r lo u ∧ (((0 ≤ q ∧ q < (n : Int)) ∧ u.1 = 0 ∧ ∀ v, v < 64 → bL y v = nd L S r v (q.toNat + 1)) ∨ (¬ (0 ≤ q ∧ q < (n : Int)) ∧ u.1 = 1))) (fun u t => va_P (dC, dI) vwCl (wMu ad ca u) t.heap) (inW (wM ad ca er gl gz go gw ((n : Int)) ((r : Int) + 1)))) ([.ref (ad 0), .int (iI q)]).toArray s 0 0 (inW (wM ad ca er gl gz go gw ((n : Int)) ((r : Int) + 1)))) (F0 m 29 ls []) := by
        intro N
        induction N with
        | zero => intro k y ls h; exact absurd h (Nat.not_lt_zero _)
        | succ N ih =>
          intro k y ls hN hk hy hl
          refine lv_iload hx hb dX1_needs_29 (lv_at hl 0 rfl) ?_
          refine r_bipush hx hb dX1_needs_31 (by decide +kernel) ?_
          refine r_icmp_ge hx hb dX1_needs_33 (tgt := 59) (by decide) (by omega) (by omega) (fun hge => ?_) (fun hlt => ?_)
          · have hk0 : k = 64 := by omega
            subst hk0
            refine lv_lload_n hx hb dX1_needs_59 rfl (lv_at hl 1 rfl) ?_
            subst hAe
            refine W.widen (k := 0) (n := 0) (by decide) (by decide) ?_
            exact W.lret hx hb hr (fun t ht hW => ⟨⟨_, (0, gl, gz, go, k9, (n : Int), (r : Int) + 1), rfl, ⟨⟨hT, rfl, rfl⟩, Or.inl ⟨hc, rfl, fun v hv => by rw [hy v hv, decide_eq_true hv, Bool.true_and]⟩⟩, by subst ht; exact hP⟩, hS.F ht⟩) hS.2.2 dX1_needs_60
          · have ek : ((k : Int)).toNat = k := by omega
            have h01 := b2_01 (nd L S r k (q.toNat + 1))
            refine lv_aload_n hx hb dX1_needs_36 rfl (lv_at hl 2 rfl) ?_
            refine va_get (D := (dC, dI)) (ci := 1) (v := .ref (ad 4)) (C := RX1) (T := TX1) (N := 7) hx hb hts hinTX1 hown hK hP 0 rfl rfl 4 (by decide) fl20 (fun _ h9 => h9) rfl dX1_needs_37 ?_
            refine lv_iload hx hb dX1_needs_40 (lv_at hl 0 rfl) ?_
            refine r_zald hx hb hK hP 4 3 rfl rfl (by omega) (by omega) (by decide) dX1_needs_42 ?_
            refine r_topi (b := b2 (nd L S r k (q.toNat + 1))) (by rw [ek]; exact hw8 k (by omega)) ?_
            refine r_if_eq hx hb dX1_needs_43 (tgt := 53) (by decide) (by omega) (fun hz => ?_) (fun hnz => ?_)
            · refine r_iinc (k := 0) hx hb dX1_needs_53 hl rfl (by decide) rfl (fun ls hl => ?_)
              have hl : lv_has ls 5 [(4, .int (iI ((k : Int) + 1))), (2, .long y), (0, .ref (ad 0)), (1, .int (iI q))] := hl
              refine lv_goto hx hb dX1_needs_56 (tgt := 29) (by decide) ?_
              have hl : lv_has ls 5 [(4, .int (iI ((k + 1 : Nat) : Int))), (2, .long (y)), (0, .ref (ad 0)), (1, .int (iI q))] := by
                rw [show ((k + 1 : Nat) : Int) = (k : Int) + 1 by omega]
                exact hl
              exact ih (k + 1) y ls (by omega) (by omega) (st_off (P := fun v => nd L S r v (q.toNat + 1)) hy (b2_0 hz)) hl
            · refine lv_lload_n hx hb dX1_needs_46 rfl (lv_at hl 1 rfl) ?_
              refine lv_lconst hx hb dX1_needs_47 rfl ?_
              refine lv_iload hx hb dX1_needs_48 (lv_at hl 0 rfl) ?_
              refine lv_lshl hx hb dX1_needs_50 rfl ?_
              refine lv_lor hx hb dX1_needs_51 ?_
              refine lv_lstore_n hx hb dX1_needs_52 rfl hl (by decide) rfl (fun ls hl => ?_)
              have hl : lv_has ls 5 [(2, .long (y ||| ((Int64.ofNat 1) <<< ((iI ((k : Int))).toInt64 &&& 63)))), (4, .int (iI ((k : Int)))), (0, .ref (ad 0)), (1, .int (iI q))] := hl
              refine r_iinc (k := 1) hx hb dX1_needs_53 hl rfl (by decide) rfl (fun ls hl => ?_)
              have hl : lv_has ls 5 [(4, .int (iI ((k : Int) + 1))), (2, .long (y ||| ((Int64.ofNat 1) <<< ((iI ((k : Int))).toInt64 &&& 63)))), (0, .ref (ad 0)), (1, .int (iI q))] := hl
              refine lv_goto hx hb dX1_needs_56 (tgt := 29) (by decide) ?_
              have hl : lv_has ls 5 [(4, .int (iI ((k + 1 : Nat) : Int))), (2, .long (y ||| ((Int64.ofNat 1) <<< ((iI ((k : Int))).toInt64 &&& 63)))), (0, .ref (ad 0)), (1, .int (iI q))] := by
                rw [show ((k + 1 : Nat) : Int) = (k : Int) + 1 by omega]
                exact hl
              exact ih (k + 1) (y ||| ((Int64.ofNat 1) <<< ((iI ((k : Int))).toInt64 &&& 63))) ls (by omega) (by omega) (st_on (P := fun v => nd L S r v (q.toNat + 1)) hy (by omega) (b2_1 hnz)) hl
      exact loop (65) 0 (Int64.ofNat 0) ls (by omega) (by omega) (fun j hj => bL_0 j) hl
    · exact absurd hk9 (by decide)
  · refine r_topi (b := 1) (if_neg hc) ?_
    refine r_iconst hx hb dX1_needs_6 ?_
    refine wc_i (va_runV (As := [.int (iI 1), .int (iI 1)]) (rest := []) ⟨hx, hb, hml, hown, hts⟩ (n_fails1 l dC dI ad ca er gl gz go gw ((n : Int)) ((r : Int) + 1) 1) (cwV 2 hts (gV wlX1_33 wo_X1_fails wz_X1_fails wi_2 wcX1_fails) rfl rfl rfl (by decide +kernel) ⟨Nat.le_of_ble_eq_true rfl, Nat.le_of_ble_eq_true rfl⟩) (PX_V (q0 := 0) (ci := 1) hP hK hD rfl rfl) rfl rfl hl.1 rfl (lv_room (Nat.le_of_ble_eq_true rfl)) dX1_needs_7 ⟨Nat.le_of_ble_eq_true rfl, Nat.le_of_ble_eq_true rfl⟩) hS (by rw [hAe]; exact fun q h => inW_same (by rfl) h) (fun r9 u9 H locs h8 hP hS hk9 => ?_)
    have hP : va_P (dC, dI) vwCl (wM ad ca 1 gl gz go gw ((n : Int)) ((r : Int) + 1)) H := hP
    have hD : va_D A (wM ad ca 1 gl gz go gw ((n : Int)) ((r : Int) + 1)) := wD_same hD rfl
    subst h8
    refine r_if_eq hx hb dX1_needs_10 (tgt := 15) (by decide) (by omega) (fun hk9 => ?_) (fun hk9 => ?_)
    · exact absurd hk9 (by decide)
    · refine lv_lconst hx hb dX1_needs_13 rfl ?_
      subst hAe
      refine W.widen (k := 0) (n := 0) (by decide) (by decide) ?_
      exact W.lret hx hb hr (fun t ht hW => ⟨⟨_, (1, gl, gz, go, gw, (n : Int), (r : Int) + 1), rfl, ⟨⟨hT, rfl, rfl⟩, Or.inr ⟨hc, rfl⟩⟩, by subst ht; exact hP⟩, hS.F ht⟩) hS.2.2 dX1_needs_14
set_option maxHeartbeats 4000000 in
set_option maxRecDepth 100000 in
theorem n_lose (l : Launch) (dC : Nat → ClassId) (dI : Nat → Nat → Nat) (ad : Nat → Nat) (ca : Nat → ClassId) (er : Int) (gl gz go gw : Nat → Int) (n r : Nat) (L S : Nat → Nat) (lo : Nat → Bool) (hok : okS n L S r) (hT : tM n L S lo gl gz go) (v f : Int) (hv : iR v) (hf : f = 0 ∨ f = 1) : Met l yX1_lose wsX1_lose { frames := 1, cells := 0, slots := 0, locals := 22 } (PX (dC, dI) vwCl (yM ca) (wM ad ca er gl gz go gw ((n : Int)) ((r : Int) + 1)) [.ref (ad 0), .int (iI v), .int (iI f)]) (va_Qi (fun (y : Int32) (u : MU) => ((0 ≤ v ∧ v < 64) ∧ u.1 = 0 ∧ y = iI (b2 (lo v.toNat)) ∧ MS n L S r (lsU lo v.toNat (decide (f = 1))) u) ∨ (¬ (0 ≤ v ∧ v < 64) ∧ u.1 = 1 ∧ MS n L S r lo u)) (fun u t => va_P (dC, dI) vwCl (wMu ad ca u) t.heap) (inW (wM ad ca er gl gz go gw ((n : Int)) ((r : Int) + 1)))) 0 0 (inW (wM ad ca er gl gz go gw ((n : Int)) ((r : Int) + 1))) := by
  refine Met.ofW (cc := cX1_lose) (maxL := 4) (ret := (some .boolean)) (by decide) rfl ?_
  intro p e s m args below meth c s₁ B hml hv
  obtain ⟨rfl, hP, hK, hD0⟩ := hv
  have hx := B.exec
  have hb := B.bytes
  have hr := B.returns
  have hts := atoms_spec (ws := wsX1_lose) B.pre
  have hown : s.vm.findClass RX1 = some m.cls := findClass_of_methodNamed B.named
  have hlocks := B.notSynchronized
  have hw := fun w h => hts w (List.mem_cons_of_mem _ h)
  have hinTX1 : ∀ w ∈ u_ws RX1 TX1 7, w ∈ wsX1_lose := wA_u wuX1
  have fl16 := hw _ wfX1_16
  have hD := wD_own hD0
  obtain ⟨A, hAe⟩ : ∃ A, A = inW (wM ad ca er gl gz go gw ((n : Int)) ((r : Int) + 1)) := ⟨_, rfl⟩
  rw [← hAe] at hD
  obtain ⟨H, hH⟩ : ∃ H, H = s.heap := ⟨_, rfl⟩
  obtain ⟨locs, hlc⟩ : ∃ L : List Loc, L = [] := ⟨_, rfl⟩
  have hS : va_S A s.heap H locs := by rw [hH, hlc]; exact va_S.rf
  rw [← hH] at hP ⊢
  rw [← hlc]
  have hl := lv_entry ([.ref (ad 0), .int (iI v), .int (iI f)]) (n := 4) (Nat.le_of_ble_eq_true rfl)
  rw [lg_entry_eq]
  generalize (lg_sl ([.ref (ad 0), .int (iI v), .int (iI f)]) ++ List.replicate (4 - (lg_sl ([.ref (ad 0), .int (iI v), .int (iI f)])).length) Slot.unset).toArray = ls at hl ⊢
  have hl : lv_has ls 4 [(0, .ref (ad 0)), (1, .int (iI v)), (2, .int (iI f))] := hl
  obtain ⟨ok1, ok2, ok3, ok4, ok5⟩ := id hok
  refine lv_aload_n hx hb dX1_lose_0 rfl (lv_at hl 0 rfl) ?_
  refine lv_iload_n hx hb dX1_lose_1 rfl (lv_at hl 1 rfl) ?_
  refine r_if_lt hx hb dX1_lose_2 (tgt := 11) (by decide) (by omega) (fun h1t => ?_) (fun h1f => ?_)
  · refine r_iconst hx hb dX1_lose_11 ?_
    refine lv_goto hx hb dX1_lose_12 (tgt := 16) (by decide) ?_
    refine r_iconst hx hb dX1_lose_16 ?_
    refine wc_i (va_runV (As := [.int (iI 1), .int (iI 1)]) (rest := []) ⟨hx, hb, hml, hown, hts⟩ (n_fails1 l dC dI ad ca er gl gz go gw ((n : Int)) ((r : Int) + 1) 1) (cwV 2 hts (gV wlX1_33 wo_X1_fails wz_X1_fails wi_2 wcX1_fails) rfl rfl rfl (by decide +kernel) ⟨Nat.le_of_ble_eq_true rfl, Nat.le_of_ble_eq_true rfl⟩) (PX_V (q0 := 0) (ci := 1) hP hK hD rfl rfl) rfl rfl hl.1 rfl (lv_room (Nat.le_of_ble_eq_true rfl)) dX1_lose_17 ⟨Nat.le_of_ble_eq_true rfl, Nat.le_of_ble_eq_true rfl⟩) hS (by rw [hAe]; exact fun q h => inW_same (by rfl) h) (fun r9 u9 H locs h8 hP hS hk9 => ?_)
    have hP : va_P (dC, dI) vwCl (wM ad ca 1 gl gz go gw ((n : Int)) ((r : Int) + 1)) H := hP
    have hD : va_D A (wM ad ca 1 gl gz go gw ((n : Int)) ((r : Int) + 1)) := wD_same hD rfl
    subst h8
    refine r_if_eq hx hb dX1_lose_20 (tgt := 25) (by decide) (by omega) (fun hk9 => ?_) (fun hk9 => ?_)
    · exact absurd hk9 (by decide)
    · refine r_iconst hx hb dX1_lose_23 ?_
      subst hAe
      refine W.widen (k := 0) (n := 0) (by decide) (by decide) ?_
      exact W.zret (v := iI 0) hx hb hr rfl (fun t ht hW => ⟨⟨_, (1, gl, gz, go, gw, (n : Int), (r : Int) + 1), rfl, Or.inr ⟨by omega, rfl, ⟨hT, rfl, rfl⟩⟩, by subst ht; exact hP⟩, hS.F ht⟩) hS.2.2 dX1_lose_24
  · refine lv_iload_n hx hb dX1_lose_5 rfl (lv_at hl 1 rfl) ?_
    refine r_bipush hx hb dX1_lose_6 (by decide +kernel) ?_
    refine r_icmp_lt hx hb dX1_lose_8 (tgt := 15) (by decide) (by omega) (by omega) (fun h2t => ?_) (fun h2f => ?_)
    · refine r_iconst hx hb dX1_lose_15 ?_
      refine r_iconst hx hb dX1_lose_16 ?_
      refine wc_i (va_runV (As := [.int (iI 0), .int (iI 1)]) (rest := []) ⟨hx, hb, hml, hown, hts⟩ (n_fails0 l dC dI ad ca er gl gz go gw ((n : Int)) ((r : Int) + 1) 1) (cwV 2 hts (gV wlX1_33 wo_X1_fails wz_X1_fails wi_2 wcX1_fails) rfl rfl rfl (by decide +kernel) ⟨Nat.le_of_ble_eq_true rfl, Nat.le_of_ble_eq_true rfl⟩) (PX_V (q0 := 0) (ci := 1) hP hK hD rfl rfl) rfl rfl hl.1 rfl (lv_room (Nat.le_of_ble_eq_true rfl)) dX1_lose_17 ⟨Nat.le_of_ble_eq_true rfl, Nat.le_of_ble_eq_true rfl⟩) hS (by rw [hAe]; exact fun q h => inW_same (by rfl) h) (fun r9 u9 H locs h8 hP hS hk9 => ?_)
      have hP : va_P (dC, dI) vwCl (wM ad ca 0 gl gz go gw ((n : Int)) ((r : Int) + 1)) H := hP
      have hD : va_D A (wM ad ca 0 gl gz go gw ((n : Int)) ((r : Int) + 1)) := wD_same hD rfl
      subst h8
      refine r_if_eq hx hb dX1_lose_20 (tgt := 25) (by decide) (by omega) (fun hk9 => ?_) (fun hk9 => ?_)
      · have hl9 := hT.2 v.toNat (by omega)
        have h01 := b2_01 (lo v.toNat)
        refine lv_aload_n hx hb dX1_lose_25 rfl (lv_at hl 0 rfl) ?_
        refine va_get (D := (dC, dI)) (ci := 1) (v := .ref (ad 3)) (C := RX1) (T := TX1) (N := 7) hx hb hts hinTX1 hown hK hP 0 rfl rfl 3 (by decide) fl16 (fun _ h9 => h9) rfl dX1_lose_26 ?_
        refine lv_iload_n hx hb dX1_lose_29 rfl (lv_at hl 1 rfl) ?_
        refine r_zald hx hb hK hP 3 2 rfl rfl (by omega) (by omega) (by decide) dX1_lose_30 ?_
        refine r_topi (b := b2 (lo v.toNat)) (hl9) ?_
        refine lv_istore_n hx hb dX1_lose_31 rfl hl (by decide) rfl (fun ls hl => ?_)
        have hl : lv_has ls 4 [(3, .int (iI (b2 (lo v.toNat)))), (0, .ref (ad 0)), (1, .int (iI v)), (2, .int (iI f))] := hl
        refine lv_aload_n hx hb dX1_lose_32 rfl (lv_at hl 1 rfl) ?_
        refine va_get (D := (dC, dI)) (ci := 1) (v := .ref (ad 3)) (C := RX1) (T := TX1) (N := 7) hx hb hts hinTX1 hown hK hP 0 rfl rfl 3 (by decide) fl16 (fun _ h9 => h9) rfl dX1_lose_33 ?_
        refine lv_iload_n hx hb dX1_lose_36 rfl (lv_at hl 2 rfl) ?_
        refine lv_iload_n hx hb dX1_lose_37 rfl (lv_at hl 3 rfl) ?_
        refine r_zast hx hb hK hP hD hS 3 2 rfl rfl (by omega) (by omega) (by decide) (by omega) dX1_lose_38 (fun H locs hP hD hS => ?_)
        have hP : va_P (dC, dI) vwCl (wM ad ca 0 gl gz (uZ go (v).toNat f) gw ((n : Int)) ((r : Int) + 1)) H := hP
        have hD : va_D A (wM ad ca 0 gl gz (uZ go (v).toNat f) gw ((n : Int)) ((r : Int) + 1)) := hD
        refine lv_iload_n hx hb dX1_lose_39 rfl (lv_at hl 0 rfl) ?_
        have hgo : ∀ w, w < 64 → (uZ go (v).toNat f) w = b2 (lsU lo v.toNat (decide (f = 1)) w) := fun w hw9 => by
          by_cases e : w = v.toNat
          · rw [e, uZ_s]
            unfold lsU
            rw [if_pos rfl]
            rcases hf with h | h <;> rw [h] <;> rfl
          · rw [uZ_n e, hT.2 w hw9]
            unfold lsU
            rw [if_neg e]
        subst hAe
        refine W.widen (k := 0) (n := 0) (by decide) (by decide) ?_
        exact W.zret (v := iI (b2 (lo v.toNat))) hx hb hr (by rcases b2_r (lo v.toNat) with h | h <;> rw [h] <;> rfl) (fun t ht hW => ⟨⟨_, (0, gl, gz, uZ go (v).toNat f, gw, (n : Int), (r : Int) + 1), rfl, Or.inl ⟨by omega, rfl, rfl, ⟨hT.1, hgo⟩, rfl, rfl⟩, by subst ht; exact hP⟩, hS.F ht⟩) hS.2.2 dX1_lose_40
      · exact absurd hk9 (by decide)
    · refine r_iconst hx hb dX1_lose_11 ?_
      refine lv_goto hx hb dX1_lose_12 (tgt := 16) (by decide) ?_
      refine r_iconst hx hb dX1_lose_16 ?_
      refine wc_i (va_runV (As := [.int (iI 1), .int (iI 1)]) (rest := []) ⟨hx, hb, hml, hown, hts⟩ (n_fails1 l dC dI ad ca er gl gz go gw ((n : Int)) ((r : Int) + 1) 1) (cwV 2 hts (gV wlX1_33 wo_X1_fails wz_X1_fails wi_2 wcX1_fails) rfl rfl rfl (by decide +kernel) ⟨Nat.le_of_ble_eq_true rfl, Nat.le_of_ble_eq_true rfl⟩) (PX_V (q0 := 0) (ci := 1) hP hK hD rfl rfl) rfl rfl hl.1 rfl (lv_room (Nat.le_of_ble_eq_true rfl)) dX1_lose_17 ⟨Nat.le_of_ble_eq_true rfl, Nat.le_of_ble_eq_true rfl⟩) hS (by rw [hAe]; exact fun q h => inW_same (by rfl) h) (fun r9 u9 H locs h8 hP hS hk9 => ?_)
      have hP : va_P (dC, dI) vwCl (wM ad ca 1 gl gz go gw ((n : Int)) ((r : Int) + 1)) H := hP
      have hD : va_D A (wM ad ca 1 gl gz go gw ((n : Int)) ((r : Int) + 1)) := wD_same hD rfl
      subst h8
      refine r_if_eq hx hb dX1_lose_20 (tgt := 25) (by decide) (by omega) (fun hk9 => ?_) (fun hk9 => ?_)
      · exact absurd hk9 (by decide)
      · refine r_iconst hx hb dX1_lose_23 ?_
        subst hAe
        refine W.widen (k := 0) (n := 0) (by decide) (by decide) ?_
        exact W.zret (v := iI 0) hx hb hr rfl (fun t ht hW => ⟨⟨_, (1, gl, gz, go, gw, (n : Int), (r : Int) + 1), rfl, Or.inr ⟨by omega, rfl, ⟨hT, rfl, rfl⟩⟩, by subst ht; exact hP⟩, hS.F ht⟩) hS.2.2 dX1_lose_24
set_option maxHeartbeats 4000000 in
set_option maxRecDepth 100000 in
theorem n_good (l : Launch) (dC : Nat → ClassId) (dI : Nat → Nat → Nat) (ad : Nat → Nat) (ca : Nat → ClassId) (er : Int) (gl gz go gw : Nat → Int) (n r : Nat) (L S : Nat → Nat) (lo : Nat → Bool) (hok : okS n L S r) (hT : tM n L S lo gl gz go) (q : Int) (hq : iR q) : Met l yX1_good wsX1_good { frames := 3, cells := 0, slots := 0, locals := 69 } (PX (dC, dI) vwCl (yM ca) (wM ad ca er gl gz go gw ((n : Int)) ((r : Int) + 1)) [.ref (ad 0), .int (iI q)]) (va_Qi (fun (y : Int32) (u : MU) => MS n L S r lo u ∧ (((0 ≤ q ∧ q < (n : Int)) ∧ u.1 = 0 ∧ y = iI (b2 (gd L S r lo q.toNat))) ∨ (¬ (0 ≤ q ∧ q < (n : Int)) ∧ u.1 = 1))) (fun u t => va_P (dC, dI) vwCl (wMu ad ca u) t.heap) (inW (wM ad ca er gl gz go gw ((n : Int)) ((r : Int) + 1)))) 0 0 (inW (wM ad ca er gl gz go gw ((n : Int)) ((r : Int) + 1))) := by
  refine Met.ofW (cc := cX1_good) (maxL := 2) (ret := (some .boolean)) (by decide) rfl ?_
  intro p e s m args below meth c s₁ B hml hv
  obtain ⟨rfl, hP, hK, hD0⟩ := hv
  have hx := B.exec
  have hb := B.bytes
  have hr := B.returns
  have hts := atoms_spec (ws := wsX1_good) B.pre
  have hown : s.vm.findClass RX1 = some m.cls := findClass_of_methodNamed B.named
  have hlocks := B.notSynchronized
  have hw := fun w h => hts w (List.mem_cons_of_mem _ h)
  have hinTX1 : ∀ w ∈ u_ws RX1 TX1 7, w ∈ wsX1_good := wA_u wuX1
  have hD := wD_own hD0
  obtain ⟨A, hAe⟩ : ∃ A, A = inW (wM ad ca er gl gz go gw ((n : Int)) ((r : Int) + 1)) := ⟨_, rfl⟩
  rw [← hAe] at hD
  obtain ⟨H, hH⟩ : ∃ H, H = s.heap := ⟨_, rfl⟩
  obtain ⟨locs, hlc⟩ : ∃ L : List Loc, L = [] := ⟨_, rfl⟩
  have hS : va_S A s.heap H locs := by rw [hH, hlc]; exact va_S.rf
  rw [← hH] at hP ⊢
  rw [← hlc]
  have hl := lv_entry ([.ref (ad 0), .int (iI q)]) (n := 2) (Nat.le_of_ble_eq_true rfl)
  rw [lg_entry_eq]
  generalize (lg_sl ([.ref (ad 0), .int (iI q)]) ++ List.replicate (2 - (lg_sl ([.ref (ad 0), .int (iI q)])).length) Slot.unset).toArray = ls at hl ⊢
  have hl : lv_has ls 2 [(0, .ref (ad 0)), (1, .int (iI q))] := hl
  obtain ⟨ok1, ok2, ok3, ok4, ok5⟩ := id hok
  refine lv_aload_n hx hb dX1_good_0 rfl (lv_at hl 0 rfl) ?_
  refine lv_aload_n hx hb dX1_good_1 rfl (lv_at hl 0 rfl) ?_
  refine lv_iload_n hx hb dX1_good_2 rfl (lv_at hl 1 rfl) ?_
  refine ro_z (z := if 0 ≤ q ∧ q < (n : Int) then 0 else 1) (va_runV (As := [.int (iI q)]) (rest := [.ref (ad 0)]) ⟨hx, hb, hml, hown, hts⟩ (n_none l dC dI ad ca er gl gz go gw n ((r : Int) + 1) q hq ok1) (cwV 1 hts (gV wlX1_41 wo_X1_none wz_X1_none wi_2 wcX1_none) rfl rfl rfl (by decide +kernel) ⟨Nat.le_of_ble_eq_true rfl, Nat.le_of_ble_eq_true rfl⟩) (PX_V (q0 := 0) (ci := 1) hP hK hD rfl rfl) rfl rfl hl.1 rfl (lv_room (Nat.le_of_ble_eq_true rfl)) dX1_good_3 ⟨Nat.le_of_ble_eq_true rfl, Nat.le_of_ble_eq_true rfl⟩) hS hP (fun H locs hP hS => ?_)
  by_cases hc : 0 ≤ q ∧ q < (n : Int)
  · refine r_topi (b := 0) (if_pos hc) ?_
    refine r_iconst hx hb dX1_good_6 ?_
    refine wc_i (va_runV (As := [.int (iI 0), .int (iI 1)]) (rest := []) ⟨hx, hb, hml, hown, hts⟩ (n_fails0 l dC dI ad ca er gl gz go gw ((n : Int)) ((r : Int) + 1) 1) (cwV 2 hts (gV wlX1_33 wo_X1_fails wz_X1_fails wi_2 wcX1_fails) rfl rfl rfl (by decide +kernel) ⟨Nat.le_of_ble_eq_true rfl, Nat.le_of_ble_eq_true rfl⟩) (PX_V (q0 := 0) (ci := 1) hP hK hD rfl rfl) rfl rfl hl.1 rfl (lv_room (Nat.le_of_ble_eq_true rfl)) dX1_good_7 ⟨Nat.le_of_ble_eq_true rfl, Nat.le_of_ble_eq_true rfl⟩) hS (by rw [hAe]; exact fun q h => inW_same (by rfl) h) (fun r9 u9 H locs h8 hP hS hk9 => ?_)
    have hP : va_P (dC, dI) vwCl (wM ad ca 0 gl gz go gw ((n : Int)) ((r : Int) + 1)) H := hP
    have hD : va_D A (wM ad ca 0 gl gz go gw ((n : Int)) ((r : Int) + 1)) := wD_same hD rfl
    subst h8
    refine r_if_ne hx hb dX1_good_10 (tgt := 25) (by decide) (by omega) (fun hk9 => ?_) (fun hk9 => ?_)
    · exact absurd hk9 (by decide)
    · refine lv_aload_n hx hb dX1_good_13 rfl (lv_at hl 0 rfl) ?_
      refine lv_iload_n hx hb dX1_good_14 rfl (lv_at hl 1 rfl) ?_
      refine r_topi (b := (q.toNat : Int)) (by omega) ?_
      refine wc_i (va_runV (As := [.int (iI ((q.toNat : Int)))]) (rest := []) ⟨hx, hb, hml, hown, hts⟩ (n_isGood l dC dI ad ca 0 gl gz go gw n r L S lo hok hT q.toNat (by omega)) (cwV 1 hts (gV wlX1_58 wo_X1_isGood wz_X1_isGood wi_2 wcX1_isGood) rfl rfl rfl (by decide +kernel) ⟨Nat.le_of_ble_eq_true rfl, Nat.le_of_ble_eq_true rfl⟩) (PX_V (q0 := 0) (ci := 1) hP hK hD rfl rfl) rfl rfl hl.1 rfl (lv_room (Nat.le_of_ble_eq_true rfl)) dX1_good_15 ⟨Nat.le_of_ble_eq_true rfl, Nat.le_of_ble_eq_true rfl⟩) hS (by rw [hAe]; exact fun q h => inW_same (by rfl) h) (fun r9 k9 H locs h8 hP hS hk9 => ?_)
      have hP : va_P (dC, dI) vwCl (wM ad ca 0 gl gz go k9 ((n : Int)) ((r : Int) + 1)) H := hP
      have hD : va_D A (wM ad ca 0 gl gz go k9 ((n : Int)) ((r : Int) + 1)) := wD_same hD rfl
      subst h8
      have h01 := b2_01 (gd L S r lo q.toNat)
      refine r_if_eq hx hb dX1_good_18 (tgt := 25) (by decide) (by omega) (fun hz => ?_) (fun hnz => ?_)
      · refine r_iconst hx hb dX1_good_25 ?_
        subst hAe
        refine W.widen (k := 0) (n := 0) (by decide) (by decide) ?_
        exact W.zret (v := iI 0) hx hb hr rfl (fun t ht hW => ⟨⟨_, (0, gl, gz, go, k9, (n : Int), (r : Int) + 1), rfl, ⟨⟨hT, rfl, rfl⟩, Or.inl ⟨hc, rfl, by rw [hz]⟩⟩, by subst ht; exact hP⟩, hS.F ht⟩) hS.2.2 dX1_good_26
      · refine r_iconst hx hb dX1_good_21 ?_
        refine lv_goto hx hb dX1_good_22 (tgt := 26) (by decide) ?_
        subst hAe
        refine W.widen (k := 0) (n := 0) (by decide) (by decide) ?_
        exact W.zret (v := iI 1) hx hb hr rfl (fun t ht hW => ⟨⟨_, (0, gl, gz, go, k9, (n : Int), (r : Int) + 1), rfl, ⟨⟨hT, rfl, rfl⟩, Or.inl ⟨hc, rfl, by rw [b2_1 hnz]; rfl⟩⟩, by subst ht; exact hP⟩, hS.F ht⟩) hS.2.2 dX1_good_26
  · refine r_topi (b := 1) (if_neg hc) ?_
    refine r_iconst hx hb dX1_good_6 ?_
    refine wc_i (va_runV (As := [.int (iI 1), .int (iI 1)]) (rest := []) ⟨hx, hb, hml, hown, hts⟩ (n_fails1 l dC dI ad ca er gl gz go gw ((n : Int)) ((r : Int) + 1) 1) (cwV 2 hts (gV wlX1_33 wo_X1_fails wz_X1_fails wi_2 wcX1_fails) rfl rfl rfl (by decide +kernel) ⟨Nat.le_of_ble_eq_true rfl, Nat.le_of_ble_eq_true rfl⟩) (PX_V (q0 := 0) (ci := 1) hP hK hD rfl rfl) rfl rfl hl.1 rfl (lv_room (Nat.le_of_ble_eq_true rfl)) dX1_good_7 ⟨Nat.le_of_ble_eq_true rfl, Nat.le_of_ble_eq_true rfl⟩) hS (by rw [hAe]; exact fun q h => inW_same (by rfl) h) (fun r9 u9 H locs h8 hP hS hk9 => ?_)
    have hP : va_P (dC, dI) vwCl (wM ad ca 1 gl gz go gw ((n : Int)) ((r : Int) + 1)) H := hP
    have hD : va_D A (wM ad ca 1 gl gz go gw ((n : Int)) ((r : Int) + 1)) := wD_same hD rfl
    subst h8
    refine r_if_ne hx hb dX1_good_10 (tgt := 25) (by decide) (by omega) (fun hk9 => ?_) (fun hk9 => ?_)
    · refine r_iconst hx hb dX1_good_25 ?_
      subst hAe
      refine W.widen (k := 0) (n := 0) (by decide) (by decide) ?_
      exact W.zret (v := iI 0) hx hb hr rfl (fun t ht hW => ⟨⟨_, (1, gl, gz, go, gw, (n : Int), (r : Int) + 1), rfl, ⟨⟨hT, rfl, rfl⟩, Or.inr ⟨hc, rfl⟩⟩, by subst ht; exact hP⟩, hS.F ht⟩) hS.2.2 dX1_good_26
    · exact absurd hk9 (by decide)
set_option maxHeartbeats 4000000 in
set_option maxRecDepth 100000 in
theorem n_latest (l : Launch) (dC : Nat → ClassId) (dI : Nat → Nat → Nat) (ad : Nat → Nat) (ca : Nat → ClassId) (er : Int) (gl gz go gw : Nat → Int) (n r : Nat) (L S : Nat → Nat) (lo : Nat → Bool) (hok : okS n L S r) (hT : tM n L S lo gl gz go) (q : Int) (hq : iR q) : Met l yX1_latest wsX1_latest { frames := 3, cells := 0, slots := 0, locals := 69 } (PX (dC, dI) vwCl (yM ca) (wM ad ca er gl gz go gw ((n : Int)) ((r : Int) + 1)) [.ref (ad 0), .int (iI q)]) (va_Qi (fun (y : Int32) (u : MU) => MS n L S r lo u ∧ (((0 ≤ q ∧ q < (n : Int)) ∧ u.1 = 0 ∧ y = iI ((la (gd L S r lo) (q.toNat + 1) : Int) - 1)) ∨ (¬ (0 ≤ q ∧ q < (n : Int)) ∧ u.1 = 1))) (fun u t => va_P (dC, dI) vwCl (wMu ad ca u) t.heap) (inW (wM ad ca er gl gz go gw ((n : Int)) ((r : Int) + 1)))) 0 0 (inW (wM ad ca er gl gz go gw ((n : Int)) ((r : Int) + 1))) := by
  refine Met.ofW (cc := cX1_latest) (maxL := 3) (ret := (some .int)) (by decide) rfl ?_
  intro p e s m args below meth c s₁ B hml hv
  obtain ⟨rfl, hP, hK, hD0⟩ := hv
  have hx := B.exec
  have hb := B.bytes
  have hr := B.returns
  have hts := atoms_spec (ws := wsX1_latest) B.pre
  have hown : s.vm.findClass RX1 = some m.cls := findClass_of_methodNamed B.named
  have hlocks := B.notSynchronized
  have hw := fun w h => hts w (List.mem_cons_of_mem _ h)
  have hinTX1 : ∀ w ∈ u_ws RX1 TX1 7, w ∈ wsX1_latest := wA_u wuX1
  have hD := wD_own hD0
  obtain ⟨A, hAe⟩ : ∃ A, A = inW (wM ad ca er gl gz go gw ((n : Int)) ((r : Int) + 1)) := ⟨_, rfl⟩
  rw [← hAe] at hD
  obtain ⟨H, hH⟩ : ∃ H, H = s.heap := ⟨_, rfl⟩
  obtain ⟨locs, hlc⟩ : ∃ L : List Loc, L = [] := ⟨_, rfl⟩
  have hS : va_S A s.heap H locs := by rw [hH, hlc]; exact va_S.rf
  rw [← hH] at hP ⊢
  rw [← hlc]
  have hl := lv_entry ([.ref (ad 0), .int (iI q)]) (n := 3) (Nat.le_of_ble_eq_true rfl)
  rw [lg_entry_eq]
  generalize (lg_sl ([.ref (ad 0), .int (iI q)]) ++ List.replicate (3 - (lg_sl ([.ref (ad 0), .int (iI q)])).length) Slot.unset).toArray = ls at hl ⊢
  have hl : lv_has ls 3 [(0, .ref (ad 0)), (1, .int (iI q))] := hl
  obtain ⟨ok1, ok2, ok3, ok4, ok5⟩ := id hok
  refine lv_aload_n hx hb dX1_latest_0 rfl (lv_at hl 0 rfl) ?_
  refine lv_aload_n hx hb dX1_latest_1 rfl (lv_at hl 0 rfl) ?_
  refine lv_iload_n hx hb dX1_latest_2 rfl (lv_at hl 1 rfl) ?_
  refine ro_z (z := if 0 ≤ q ∧ q < (n : Int) then 0 else 1) (va_runV (As := [.int (iI q)]) (rest := [.ref (ad 0)]) ⟨hx, hb, hml, hown, hts⟩ (n_none l dC dI ad ca er gl gz go gw n ((r : Int) + 1) q hq ok1) (cwV 1 hts (gV wlX1_41 wo_X1_none wz_X1_none wi_2 wcX1_none) rfl rfl rfl (by decide +kernel) ⟨Nat.le_of_ble_eq_true rfl, Nat.le_of_ble_eq_true rfl⟩) (PX_V (q0 := 0) (ci := 1) hP hK hD rfl rfl) rfl rfl hl.1 rfl (lv_room (Nat.le_of_ble_eq_true rfl)) dX1_latest_3 ⟨Nat.le_of_ble_eq_true rfl, Nat.le_of_ble_eq_true rfl⟩) hS hP (fun H locs hP hS => ?_)
  by_cases hc : 0 ≤ q ∧ q < (n : Int)
  · refine r_topi (b := 0) (if_pos hc) ?_
    refine r_iconst hx hb dX1_latest_6 ?_
    refine wc_i (va_runV (As := [.int (iI 0), .int (iI 1)]) (rest := []) ⟨hx, hb, hml, hown, hts⟩ (n_fails0 l dC dI ad ca er gl gz go gw ((n : Int)) ((r : Int) + 1) 1) (cwV 2 hts (gV wlX1_33 wo_X1_fails wz_X1_fails wi_2 wcX1_fails) rfl rfl rfl (by decide +kernel) ⟨Nat.le_of_ble_eq_true rfl, Nat.le_of_ble_eq_true rfl⟩) (PX_V (q0 := 0) (ci := 1) hP hK hD rfl rfl) rfl rfl hl.1 rfl (lv_room (Nat.le_of_ble_eq_true rfl)) dX1_latest_7 ⟨Nat.le_of_ble_eq_true rfl, Nat.le_of_ble_eq_true rfl⟩) hS (by rw [hAe]; exact fun q h => inW_same (by rfl) h) (fun r9 u9 H locs h8 hP hS hk9 => ?_)
    have hP : va_P (dC, dI) vwCl (wM ad ca 0 gl gz go gw ((n : Int)) ((r : Int) + 1)) H := hP
    have hD : va_D A (wM ad ca 0 gl gz go gw ((n : Int)) ((r : Int) + 1)) := wD_same hD rfl
    subst h8
    refine r_if_eq hx hb dX1_latest_10 (tgt := 15) (by decide) (by omega) (fun hk9 => ?_) (fun hk9 => ?_)
    · refine lv_iload_n hx hb dX1_latest_15 rfl (lv_at hl 1 rfl) ?_
      refine lv_istore_n hx hb dX1_latest_16 rfl hl (by decide) rfl (fun ls hl => ?_)
      have hl : lv_has ls 3 [(2, .int (iI q)), (0, .ref (ad 0)), (1, .int (iI q))] := hl
      have loop : ∀ (N : Nat) (k : Nat) (g1 : Nat → Int) (ls : Array Slot) (H : Heap) (locs : List Loc), k < N → (k ≤ n) → (la (gd L S r lo) k = la (gd L S r lo) (q.toNat + 1)) → va_P (dC, dI) vwCl (wM ad ca 0 gl gz go g1 ((n : Int)) ((r : Int) + 1)) H → va_D A (wM ad ca 0 gl gz go g1 ((n : Int)) ((r : Int) + 1)) → va_S A s.heap H locs → lv_has ls 3 [(2, .int (iI ((k : Int) - 1))), (0, .ref (ad 0)), (1, .int (iI q))] → W p l e (headSpec wsX1_latest { frames := 3, cells := 0, slots := 0, locals := 69 }).room s m ([.ref (ad 0), .int (iI q)]).toArray below meth c H locs (0 + 0) (0 + 0) (MQ below (va_Qi (fun (y : Int32) (u : MU) => MS n L S r lo u ∧ (((0 ≤ q ∧ q < (n : Int)) ∧ u.1 = 0 ∧ y = iI ((la (gd L S r lo) (q.toNat + 1) : Int) - 1)) ∨ (¬ (0 ≤ q ∧ q < (n : Int)) ∧ u.1 = 1))) (fun u t => va_P (dC, dI) vwCl (wMu ad ca u) t.heap) (inW (wM ad ca er gl gz go gw ((n : Int)) ((r : Int) + 1)))) ([.ref (ad 0), .int (iI q)]).toArray s 0 0 (inW (wM ad ca er gl gz go gw ((n : Int)) ((r : Int) + 1)))) (F0 m 17 ls []) := by
        intro N
        induction N with
        | zero => intro k g1 ls H locs h; exact absurd h (Nat.not_lt_zero _)
        | succ N ih =>
          intro k g1 ls H locs hN hk hb9 hP hD hS hl
          refine lv_iload_n hx hb dX1_latest_17 rfl (lv_at hl 0 rfl) ?_
          refine r_if_lt hx hb dX1_latest_18 (tgt := 35) (by decide) (by omega) (fun hlt => ?_) (fun hge => ?_)
          · have hk0 : k = 0 := by omega
            refine lv_iload_n hx hb dX1_latest_35 rfl (lv_at hl 0 rfl) ?_
            subst hAe
            refine W.widen (k := 0) (n := 0) (by decide) (by decide) ?_
            exact W.iret (v := iI ((k : Int) - 1)) hx hb hr (fun t ht hW => ⟨⟨_, (0, gl, gz, go, g1, (n : Int), (r : Int) + 1), rfl, ⟨⟨hT, rfl, rfl⟩, Or.inl ⟨hc, rfl, by rw [← hb9, hk0]; rfl⟩⟩, by subst ht; exact hP⟩, hS.F ht⟩) hS.2.2 dX1_latest_36
          · obtain ⟨j, hj⟩ : ∃ j, k = j + 1 := ⟨k - 1, by omega⟩
            have eb : la (gd L S r lo) k = if gd L S r lo j then j + 1 else la (gd L S r lo) j := by rw [hj]; rfl
            have h01 := b2_01 (gd L S r lo j)
            refine lv_aload_n hx hb dX1_latest_21 rfl (lv_at hl 1 rfl) ?_
            refine lv_iload_n hx hb dX1_latest_22 rfl (lv_at hl 0 rfl) ?_
            refine r_topi (b := (j : Int)) (by omega) ?_
            refine wc_i (va_runV (As := [.int (iI ((j : Int)))]) (rest := []) ⟨hx, hb, hml, hown, hts⟩ (n_isGood l dC dI ad ca 0 gl gz go g1 n r L S lo hok hT j (by omega)) (cwV 1 hts (gV wlX1_58 wo_X1_isGood wz_X1_isGood wi_2 wcX1_isGood) rfl rfl rfl (by decide +kernel) ⟨Nat.le_of_ble_eq_true rfl, Nat.le_of_ble_eq_true rfl⟩) (PX_V (q0 := 0) (ci := 1) hP hK hD rfl rfl) rfl rfl hl.1 rfl (lv_room (Nat.le_of_ble_eq_true rfl)) dX1_latest_23 ⟨Nat.le_of_ble_eq_true rfl, Nat.le_of_ble_eq_true rfl⟩) hS (by rw [hAe]; exact fun q h => inW_same (by rfl) h) (fun r9 k9 H locs h8 hP hS hk9 => ?_)
            have hP : va_P (dC, dI) vwCl (wM ad ca 0 gl gz go k9 ((n : Int)) ((r : Int) + 1)) H := hP
            have hD : va_D A (wM ad ca 0 gl gz go k9 ((n : Int)) ((r : Int) + 1)) := wD_same hD rfl
            subst h8
            refine r_if_ne hx hb dX1_latest_26 (tgt := 35) (by decide) (by omega) (fun hnz => ?_) (fun hz => ?_)
            · refine lv_iload_n hx hb dX1_latest_35 rfl (lv_at hl 0 rfl) ?_
              subst hAe
              refine W.widen (k := 0) (n := 0) (by decide) (by decide) ?_
              exact W.iret (v := iI ((k : Int) - 1)) hx hb hr (fun t ht hW => ⟨⟨_, (0, gl, gz, go, k9, (n : Int), (r : Int) + 1), rfl, ⟨⟨hT, rfl, rfl⟩, Or.inl ⟨hc, rfl, by rw [← hb9, eb, if_pos (b2_1 hnz), hj]⟩⟩, by subst ht; exact hP⟩, hS.F ht⟩) hS.2.2 dX1_latest_36
            · have hgf : ¬ gd L S r lo j = true := fun q9 => by rw [b2_0 hz] at q9; exact absurd q9 (by decide)
              refine r_iinc (k := 0) hx hb dX1_latest_29 hl rfl (by decide) rfl (fun ls hl => ?_)
              have hl : lv_has ls 3 [(2, .int (iI ((k : Int) - 1 + (-1)))), (0, .ref (ad 0)), (1, .int (iI q))] := hl
              refine lv_goto hx hb dX1_latest_32 (tgt := 17) (by decide) ?_
              have hl : lv_has ls 3 [(2, .int (iI ((j : Int) - 1))), (0, .ref (ad 0)), (1, .int (iI q))] := by rw [show (j : Int) - 1 = (k : Int) - 1 + (-1) by omega]; exact hl
              exact ih j k9 ls H locs (by omega) (by omega) (by rw [← hb9, eb, if_neg hgf]) hP hD hS hl
      have hl : lv_has ls 3 [(2, .int (iI (((q.toNat + 1 : Nat) : Int) - 1))), (0, .ref (ad 0)), (1, .int (iI q))] := by
        rw [show ((q.toNat + 1 : Nat) : Int) - 1 = q by omega]
        exact hl
      exact loop (q.toNat + 2) (q.toNat + 1) gw ls H locs (Nat.lt_succ_self _) (by omega) rfl hP hD hS hl
    · exact absurd hk9 (by decide)
  · refine r_topi (b := 1) (if_neg hc) ?_
    refine r_iconst hx hb dX1_latest_6 ?_
    refine wc_i (va_runV (As := [.int (iI 1), .int (iI 1)]) (rest := []) ⟨hx, hb, hml, hown, hts⟩ (n_fails1 l dC dI ad ca er gl gz go gw ((n : Int)) ((r : Int) + 1) 1) (cwV 2 hts (gV wlX1_33 wo_X1_fails wz_X1_fails wi_2 wcX1_fails) rfl rfl rfl (by decide +kernel) ⟨Nat.le_of_ble_eq_true rfl, Nat.le_of_ble_eq_true rfl⟩) (PX_V (q0 := 0) (ci := 1) hP hK hD rfl rfl) rfl rfl hl.1 rfl (lv_room (Nat.le_of_ble_eq_true rfl)) dX1_latest_7 ⟨Nat.le_of_ble_eq_true rfl, Nat.le_of_ble_eq_true rfl⟩) hS (by rw [hAe]; exact fun q h => inW_same (by rfl) h) (fun r9 u9 H locs h8 hP hS hk9 => ?_)
    have hP : va_P (dC, dI) vwCl (wM ad ca 1 gl gz go gw ((n : Int)) ((r : Int) + 1)) H := hP
    have hD : va_D A (wM ad ca 1 gl gz go gw ((n : Int)) ((r : Int) + 1)) := wD_same hD rfl
    subst h8
    refine r_if_eq hx hb dX1_latest_10 (tgt := 15) (by decide) (by omega) (fun hk9 => ?_) (fun hk9 => ?_)
    · exact absurd hk9 (by decide)
    · refine r_iconst hx hb dX1_latest_13 ?_
      subst hAe
      refine W.widen (k := 0) (n := 0) (by decide) (by decide) ?_
      exact W.iret (v := iI 0) hx hb hr (fun t ht hW => ⟨⟨_, (1, gl, gz, go, gw, (n : Int), (r : Int) + 1), rfl, ⟨⟨hT, rfl, rfl⟩, Or.inr ⟨hc, rfl⟩⟩, by subst ht; exact hP⟩, hS.F ht⟩) hS.2.2 dX1_latest_14
set_option maxHeartbeats 4000000 in
set_option maxRecDepth 100000 in
theorem n_spare (l : Launch) (dC : Nat → ClassId) (dI : Nat → Nat → Nat) (ad : Nat → Nat) (ca : Nat → ClassId) (er : Int) (gl gz go gw : Nat → Int) (n r : Nat) (L S : Nat → Nat) (lo : Nat → Bool) (hok : okS n L S r) (hT : tM n L S lo gl gz go) (q : Int) (hq : iR q) : Met l yX1_spare wsX1_spare { frames := 2, cells := 0, slots := 0, locals := 47 } (PX (dC, dI) vwCl (yM ca) (wM ad ca er gl gz go gw ((n : Int)) ((r : Int) + 1)) [.ref (ad 0), .int (iI q)]) (va_Ql (fun (y : Int64) (u : MU) => MS n L S r lo u ∧ ((0 ≤ q ∧ u.1 = 0 ∧ ∀ v, v < 64 → bL y v = sp L S r n q.toNat v) ∨ (¬ 0 ≤ q ∧ u.1 = 1))) (fun u t => va_P (dC, dI) vwCl (wMu ad ca u) t.heap) (inW (wM ad ca er gl gz go gw ((n : Int)) ((r : Int) + 1)))) 0 0 (inW (wM ad ca er gl gz go gw ((n : Int)) ((r : Int) + 1))) := by
  refine Met.ofW (cc := cX1_spare) (maxL := 5) (ret := (some .long)) (by decide) rfl ?_
  intro p e s m args below meth c s₁ B hml hv
  obtain ⟨rfl, hP, hK, hD0⟩ := hv
  have hx := B.exec
  have hb := B.bytes
  have hr := B.returns
  have hts := atoms_spec (ws := wsX1_spare) B.pre
  have hown : s.vm.findClass RX1 = some m.cls := findClass_of_methodNamed B.named
  have hlocks := B.notSynchronized
  have hw := fun w h => hts w (List.mem_cons_of_mem _ h)
  have hinTX1 : ∀ w ∈ u_ws RX1 TX1 7, w ∈ wsX1_spare := wA_u wuX1
  have fl30 := hw _ wfX1_30
  have fl20 := hw _ wfX1_20
  have hD := wD_own hD0
  obtain ⟨A, hAe⟩ : ∃ A, A = inW (wM ad ca er gl gz go gw ((n : Int)) ((r : Int) + 1)) := ⟨_, rfl⟩
  rw [← hAe] at hD
  obtain ⟨H, hH⟩ : ∃ H, H = s.heap := ⟨_, rfl⟩
  obtain ⟨locs, hlc⟩ : ∃ L : List Loc, L = [] := ⟨_, rfl⟩
  have hS : va_S A s.heap H locs := by rw [hH, hlc]; exact va_S.rf
  rw [← hH] at hP ⊢
  rw [← hlc]
  have hl := lv_entry ([.ref (ad 0), .int (iI q)]) (n := 5) (Nat.le_of_ble_eq_true rfl)
  rw [lg_entry_eq]
  generalize (lg_sl ([.ref (ad 0), .int (iI q)]) ++ List.replicate (5 - (lg_sl ([.ref (ad 0), .int (iI q)])).length) Slot.unset).toArray = ls at hl ⊢
  have hl : lv_has ls 5 [(0, .ref (ad 0)), (1, .int (iI q))] := hl
  obtain ⟨ok1, ok2, ok3, ok4, ok5⟩ := id hok
  have hwr := wr_le (S := S) (n := n) ok2 ok5
  refine lv_aload_n hx hb dX1_spare_0 rfl (lv_at hl 0 rfl) ?_
  refine lv_iload_n hx hb dX1_spare_1 rfl (lv_at hl 1 rfl) ?_
  refine r_if_ge hx hb dX1_spare_2 (tgt := 9) (by decide) (by omega) (fun hge => ?_) (fun hlt => ?_)
  · refine r_iconst hx hb dX1_spare_9 ?_
    refine r_iconst hx hb dX1_spare_10 ?_
    refine wc_i (va_runV (As := [.int (iI 0), .int (iI 1)]) (rest := []) ⟨hx, hb, hml, hown, hts⟩ (n_fails0 l dC dI ad ca er gl gz go gw ((n : Int)) ((r : Int) + 1) 1) (cwV 2 hts (gV wlX1_33 wo_X1_fails wz_X1_fails wi_2 wcX1_fails) rfl rfl rfl (by decide +kernel) ⟨Nat.le_of_ble_eq_true rfl, Nat.le_of_ble_eq_true rfl⟩) (PX_V (q0 := 0) (ci := 1) hP hK hD rfl rfl) rfl rfl hl.1 rfl (lv_room (Nat.le_of_ble_eq_true rfl)) dX1_spare_11 ⟨Nat.le_of_ble_eq_true rfl, Nat.le_of_ble_eq_true rfl⟩) hS (by rw [hAe]; exact fun q h => inW_same (by rfl) h) (fun r9 u9 H locs h8 hP hS hk9 => ?_)
    have hP : va_P (dC, dI) vwCl (wM ad ca 0 gl gz go gw ((n : Int)) ((r : Int) + 1)) H := hP
    have hD : va_D A (wM ad ca 0 gl gz go gw ((n : Int)) ((r : Int) + 1)) := wD_same hD rfl
    subst h8
    refine r_if_eq hx hb dX1_spare_14 (tgt := 19) (by decide) (by omega) (fun hk9 => ?_) (fun hk9 => ?_)
    · refine lv_aload_n hx hb dX1_spare_19 rfl (lv_at hl 0 rfl) ?_
      refine wc_v (va_runV (As := []) (rest := []) ⟨hx, hb, hml, hown, hts⟩ (n_nothing l dC dI ad ca 0 gl gz go gw ((n : Int)) ((r : Int) + 1)) (cwV 0 hts (gV wlX1_51 wo_X1_nothing wz_X1_nothing wi_2 wcX1_nothing) rfl rfl rfl (by decide +kernel) ⟨Nat.le_of_ble_eq_true rfl, Nat.le_of_ble_eq_true rfl⟩) (PX_V (q0 := 0) (ci := 1) hP hK hD rfl rfl) rfl rfl hl.1 rfl (lv_room (Nat.le_of_ble_eq_true rfl)) dX1_spare_20 ⟨Nat.le_of_ble_eq_true rfl, Nat.le_of_ble_eq_true rfl⟩) hS (by rw [hAe]; exact fun q h => inW_same (by rfl) h) (fun z9 H locs hz9 hP hS hk9 => ?_)
      have hP : va_P (dC, dI) vwCl (wM ad ca 0 gl gz go z9 ((n : Int)) ((r : Int) + 1)) H := hP
      have hD : va_D A (wM ad ca 0 gl gz go z9 ((n : Int)) ((r : Int) + 1)) := wD_same hD rfl
      refine lv_aload_n hx hb dX1_spare_23 rfl (lv_at hl 0 rfl) ?_
      refine va_get (D := (dC, dI)) (ci := 1) (v := .int (iI ((n : Int)))) (C := RX1) (T := TX1) (N := 7) hx hb hts hinTX1 hown hK hP 0 rfl rfl 5 (by decide) fl30 (fun _ h9 => h9) rfl dX1_spare_24 ?_
      refine r_iconst hx hb dX1_spare_27 ?_
      refine r_isub hx hb dX1_spare_28 ?_
      refine lv_istore_n hx hb dX1_spare_29 rfl hl (by decide) rfl (fun ls hl => ?_)
      have hl : lv_has ls 5 [(2, .int (iI (((n : Int)) - 1))), (0, .ref (ad 0)), (1, .int (iI q))] := hl
      have loop : ∀ (N : Nat) (p9 : Nat) (g1 : Nat → Int) (w1 : Nat → Bool) (ls : Array Slot) (H : Heap) (locs : List Loc), p9 < N → (p9 ≤ n) → (∀ v, v < 64 → g1 v = b2 (w1 v)) → (∀ v, v < 64 → (!w1 v && noH (spP L S r n q.toNat v) p9) = noH (spP L S r n q.toNat v) n) → va_P (dC, dI) vwCl (wM ad ca 0 gl gz go g1 ((n : Int)) ((r : Int) + 1)) H → va_D A (wM ad ca 0 gl gz go g1 ((n : Int)) ((r : Int) + 1)) → va_S A s.heap H locs → lv_has ls 5 [(2, .int (iI ((p9 : Int) - 1))), (0, .ref (ad 0)), (1, .int (iI q))] → W p l e (headSpec wsX1_spare { frames := 2, cells := 0, slots := 0, locals := 47 }).room s m ([.ref (ad 0), .int (iI q)]).toArray below meth c H locs ((0 + 0) + 0) ((0 + 0) + 0) (MQ below (va_Ql (fun (y : Int64) (u : MU) => MS n L S r lo u ∧ ((0 ≤ q ∧ u.1 = 0 ∧ ∀ v, v < 64 → bL y v = sp L S r n q.toNat v) ∨ (¬ 0 ≤ q ∧ u.1 = 1))) (fun u t => va_P (dC, dI) vwCl (wMu ad ca u) t.heap) (inW (wM ad ca er gl gz go gw ((n : Int)) ((r : Int) + 1)))) ([.ref (ad 0), .int (iI q)]).toArray s 0 0 (inW (wM ad ca er gl gz go gw ((n : Int)) ((r : Int) + 1)))) (F0 m 30 ls []) := by
        intro N
        induction N with
        | zero => intro p9 g1 w1 ls H locs h; exact absurd h (Nat.not_lt_zero _)
        | succ N ih =>
          intro p9 g1 w1 ls H locs hN hp h9 hn9 hP hD hS hl
          refine lv_iload_n hx hb dX1_spare_30 rfl (lv_at hl 0 rfl) ?_
          refine r_if_lt hx hb dX1_spare_31 (tgt := 55) (by decide) (by omega) (fun hlt2 => ?_) (fun hge2 => ?_)
          · have hp0 : p9 = 0 := by omega
            have hs9 : ∀ v, v < 64 → (!w1 v) = noH (spP L S r n q.toNat v) n := fun v hv => by rw [← hn9 v hv, hp0, show noH (spP L S r n q.toNat v) 0 = true from rfl, Bool.and_true]
            refine lv_lconst hx hb dX1_spare_55 rfl ?_
            refine lv_lstore_n hx hb dX1_spare_56 rfl hl (by decide) rfl (fun ls hl => ?_)
            have hl : lv_has ls 5 [(2, .long (Int64.ofNat 0)), (0, .ref (ad 0)), (1, .int (iI q))] := hl
            refine r_iconst hx hb dX1_spare_57 ?_
            refine lv_istore hx hb dX1_spare_58 hl (by decide) rfl (fun ls hl => ?_)
            have hl : lv_has ls 5 [(4, .int (iI 0)), (2, .long (Int64.ofNat 0)), (0, .ref (ad 0)), (1, .int (iI q))] := hl
            have loop2 : ∀ (N : Nat) (k : Nat) (y : Int64) (ls : Array Slot) (H : Heap) (locs : List Loc), 64 - k < N → (k ≤ wr S r n) → (∀ j, j < 64 → bL y j = (decide (j < k) && !w1 j)) → va_P (dC, dI) vwCl (wM ad ca 0 gl gz go g1 ((n : Int)) ((r : Int) + 1)) H → va_D A (wM ad ca 0 gl gz go g1 ((n : Int)) ((r : Int) + 1)) → va_S A s.heap H locs → lv_has ls 5 [(4, .int (iI ((k : Int)))), (2, .long y), (0, .ref (ad 0)), (1, .int (iI q))] → W p l e (headSpec wsX1_spare { frames := 2, cells := 0, slots := 0, locals := 47 }).room s m ([.ref (ad 0), .int (iI q)]).toArray below meth c H locs ((0 + 0) + 0) ((0 + 0) + 0) (MQ below (va_Ql (fun (y : Int64) (u : MU) => MS n L S r lo u ∧ ((0 ≤ q ∧ u.1 = 0 ∧ ∀ v, v < 64 → bL y v = sp L S r n q.toNat v) ∨ (¬ 0 ≤ q ∧ u.1 = 1))) (fun u t => va_P (dC, dI) vwCl (wMu ad ca u) t.heap) (inW (wM ad ca er gl gz go gw ((n : Int)) ((r : Int) + 1)))) ([.ref (ad 0), .int (iI q)]).toArray s 0 0 (inW (wM ad ca er gl gz go gw ((n : Int)) ((r : Int) + 1)))) (F0 m 60 ls []) := by
              intro N
              induction N with
              | zero => intro k y ls H locs h; exact absurd h (Nat.not_lt_zero _)
              | succ N ih =>
                intro k y ls H locs hN hk hy hP hD hS hl
                refine lv_iload hx hb dX1_spare_60 (lv_at hl 0 rfl) ?_
                refine lv_aload_n hx hb dX1_spare_62 rfl (lv_at hl 2 rfl) ?_
                refine ro_z (z := (wr S r n : Int)) (va_runV (As := []) (rest := [.int (iI ((k : Int)))]) ⟨hx, hb, hml, hown, hts⟩ (n_written l dC dI ad ca 0 gl gz go g1 n r L S lo hok hT) (cwV 0 hts (gV wlX1_61 wo_X1_written wz_X1_written wi_2 wcX1_written) rfl rfl rfl (by decide +kernel) ⟨Nat.le_of_ble_eq_true rfl, Nat.le_of_ble_eq_true rfl⟩) (PX_V (q0 := 0) (ci := 1) hP hK hD rfl rfl) rfl rfl hl.1 rfl (lv_room (Nat.le_of_ble_eq_true rfl)) dX1_spare_63 ⟨Nat.le_of_ble_eq_true rfl, Nat.le_of_ble_eq_true rfl⟩) hS hP (fun H locs hP hS => ?_)
                refine r_icmp_ge hx hb dX1_spare_66 (tgt := 92) (by decide) (by omega) (by omega) (fun hge5 => ?_) (fun hlt5 => ?_)
                · have hk0 : k = wr S r n := by omega
                  refine lv_lload_n hx hb dX1_spare_92 rfl (lv_at hl 1 rfl) ?_
                  subst hAe
                  refine W.widen (k := 0) (n := 0) (by decide) (by decide) ?_
                  exact W.lret hx hb hr (fun t ht hW => ⟨⟨_, (0, gl, gz, go, g1, (n : Int), (r : Int) + 1), rfl, ⟨⟨hT, rfl, rfl⟩, Or.inl ⟨hge, rfl, fun v hv => by rw [hy v hv, hk0, hs9 v hv]; rfl⟩⟩, by subst ht; exact hP⟩, hS.F ht⟩) hS.2.2 dX1_spare_93
                · have ek : ((k : Int)).toNat = k := by omega
                  have h01 := b2_01 (w1 k)
                  refine lv_aload_n hx hb dX1_spare_69 rfl (lv_at hl 2 rfl) ?_
                  refine va_get (D := (dC, dI)) (ci := 1) (v := .ref (ad 4)) (C := RX1) (T := TX1) (N := 7) hx hb hts hinTX1 hown hK hP 0 rfl rfl 4 (by decide) fl20 (fun _ h9 => h9) rfl dX1_spare_70 ?_
                  refine lv_iload hx hb dX1_spare_73 (lv_at hl 0 rfl) ?_
                  refine r_zald hx hb hK hP 4 3 rfl rfl (by omega) (by omega) (by decide) dX1_spare_75 ?_
                  refine r_topi (b := b2 (w1 k)) (by rw [ek]; exact h9 k (by omega)) ?_
                  refine r_if_ne hx hb dX1_spare_76 (tgt := 86) (by decide) (by omega) (fun hnz => ?_) (fun hz => ?_)
                  · refine r_iinc (k := 0) hx hb dX1_spare_86 hl rfl (by decide) rfl (fun ls hl => ?_)
                    have hl : lv_has ls 5 [(4, .int (iI ((k : Int) + 1))), (2, .long y), (0, .ref (ad 0)), (1, .int (iI q))] := hl
                    refine lv_goto hx hb dX1_spare_89 (tgt := 60) (by decide) ?_
                    have hl : lv_has ls 5 [(4, .int (iI ((k + 1 : Nat) : Int))), (2, .long (y)), (0, .ref (ad 0)), (1, .int (iI q))] := by
                      rw [show ((k + 1 : Nat) : Int) = (k : Int) + 1 by omega]
                      exact hl
                    exact ih (k + 1) y ls H locs (by omega) (by omega) (st_off (P := fun v => !w1 v) hy (by rw [b2_1 hnz]; rfl)) hP hD hS hl
                  · refine lv_lload_n hx hb dX1_spare_79 rfl (lv_at hl 1 rfl) ?_
                    refine lv_lconst hx hb dX1_spare_80 rfl ?_
                    refine lv_iload hx hb dX1_spare_81 (lv_at hl 0 rfl) ?_
                    refine lv_lshl hx hb dX1_spare_83 rfl ?_
                    refine lv_lor hx hb dX1_spare_84 ?_
                    refine lv_lstore_n hx hb dX1_spare_85 rfl hl (by decide) rfl (fun ls hl => ?_)
                    have hl : lv_has ls 5 [(2, .long (y ||| ((Int64.ofNat 1) <<< ((iI ((k : Int))).toInt64 &&& 63)))), (4, .int (iI ((k : Int)))), (0, .ref (ad 0)), (1, .int (iI q))] := hl
                    refine r_iinc (k := 1) hx hb dX1_spare_86 hl rfl (by decide) rfl (fun ls hl => ?_)
                    have hl : lv_has ls 5 [(4, .int (iI ((k : Int) + 1))), (2, .long (y ||| ((Int64.ofNat 1) <<< ((iI ((k : Int))).toInt64 &&& 63)))), (0, .ref (ad 0)), (1, .int (iI q))] := hl
                    refine lv_goto hx hb dX1_spare_89 (tgt := 60) (by decide) ?_
                    have hl : lv_has ls 5 [(4, .int (iI ((k + 1 : Nat) : Int))), (2, .long (y ||| ((Int64.ofNat 1) <<< ((iI ((k : Int))).toInt64 &&& 63)))), (0, .ref (ad 0)), (1, .int (iI q))] := by
                      rw [show ((k + 1 : Nat) : Int) = (k : Int) + 1 by omega]
                      exact hl
                    exact ih (k + 1) (y ||| ((Int64.ofNat 1) <<< ((iI ((k : Int))).toInt64 &&& 63))) ls H locs (by omega) (by omega) (st_on (P := fun v => !w1 v) hy (by omega) (by rw [b2_0 hz]; rfl)) hP hD hS hl
            exact loop2 (65) 0 (Int64.ofNat 0) ls H locs (by omega) (Nat.zero_le _) (fun j hj => bL_0 j) hP hD hS hl
          · obtain ⟨j, hj⟩ : ∃ j, p9 = j + 1 := ⟨p9 - 1, by omega⟩
            refine lv_iload_n hx hb dX1_spare_34 rfl (lv_at hl 0 rfl) ?_
            refine lv_aload_n hx hb dX1_spare_35 rfl (lv_at hl 1 rfl) ?_
            refine va_get (D := (dC, dI)) (ci := 1) (v := .int (iI ((n : Int)))) (C := RX1) (T := TX1) (N := 7) hx hb hts hinTX1 hown hK hP 0 rfl rfl 5 (by decide) fl30 (fun _ h9 => h9) rfl dX1_spare_36 ?_
            refine lv_iload_n hx hb dX1_spare_39 rfl (lv_at hl 2 rfl) ?_
            refine r_isub hx hb dX1_spare_40 ?_
            refine r_icmp_lt hx hb dX1_spare_41 (tgt := 55) (by decide) (by omega) (by omega) (fun hlt3 => ?_) (fun hge3 => ?_)
            · have hs9 : ∀ v, v < 64 → (!w1 v) = noH (spP L S r n q.toNat v) n := fun v hv => by rw [← hn9 v hv, hj, spP_0 (by omega), Bool.and_true]
              refine lv_lconst hx hb dX1_spare_55 rfl ?_
              refine lv_lstore_n hx hb dX1_spare_56 rfl hl (by decide) rfl (fun ls hl => ?_)
              have hl : lv_has ls 5 [(2, .long (Int64.ofNat 0)), (0, .ref (ad 0)), (1, .int (iI q))] := hl
              refine r_iconst hx hb dX1_spare_57 ?_
              refine lv_istore hx hb dX1_spare_58 hl (by decide) rfl (fun ls hl => ?_)
              have hl : lv_has ls 5 [(4, .int (iI 0)), (2, .long (Int64.ofNat 0)), (0, .ref (ad 0)), (1, .int (iI q))] := hl
              have loop2 : ∀ (N : Nat) (k : Nat) (y : Int64) (ls : Array Slot) (H : Heap) (locs : List Loc), 64 - k < N → (k ≤ wr S r n) → (∀ j, j < 64 → bL y j = (decide (j < k) && !w1 j)) → va_P (dC, dI) vwCl (wM ad ca 0 gl gz go g1 ((n : Int)) ((r : Int) + 1)) H → va_D A (wM ad ca 0 gl gz go g1 ((n : Int)) ((r : Int) + 1)) → va_S A s.heap H locs → lv_has ls 5 [(4, .int (iI ((k : Int)))), (2, .long y), (0, .ref (ad 0)), (1, .int (iI q))] → W p l e (headSpec wsX1_spare { frames := 2, cells := 0, slots := 0, locals := 47 }).room s m ([.ref (ad 0), .int (iI q)]).toArray below meth c H locs ((0 + 0) + 0) ((0 + 0) + 0) (MQ below (va_Ql (fun (y : Int64) (u : MU) => MS n L S r lo u ∧ ((0 ≤ q ∧ u.1 = 0 ∧ ∀ v, v < 64 → bL y v = sp L S r n q.toNat v) ∨ (¬ 0 ≤ q ∧ u.1 = 1))) (fun u t => va_P (dC, dI) vwCl (wMu ad ca u) t.heap) (inW (wM ad ca er gl gz go gw ((n : Int)) ((r : Int) + 1)))) ([.ref (ad 0), .int (iI q)]).toArray s 0 0 (inW (wM ad ca er gl gz go gw ((n : Int)) ((r : Int) + 1)))) (F0 m 60 ls []) := by
                intro N
                induction N with
                | zero => intro k y ls H locs h; exact absurd h (Nat.not_lt_zero _)
                | succ N ih =>
                  intro k y ls H locs hN hk hy hP hD hS hl
                  refine lv_iload hx hb dX1_spare_60 (lv_at hl 0 rfl) ?_
                  refine lv_aload_n hx hb dX1_spare_62 rfl (lv_at hl 2 rfl) ?_
                  refine ro_z (z := (wr S r n : Int)) (va_runV (As := []) (rest := [.int (iI ((k : Int)))]) ⟨hx, hb, hml, hown, hts⟩ (n_written l dC dI ad ca 0 gl gz go g1 n r L S lo hok hT) (cwV 0 hts (gV wlX1_61 wo_X1_written wz_X1_written wi_2 wcX1_written) rfl rfl rfl (by decide +kernel) ⟨Nat.le_of_ble_eq_true rfl, Nat.le_of_ble_eq_true rfl⟩) (PX_V (q0 := 0) (ci := 1) hP hK hD rfl rfl) rfl rfl hl.1 rfl (lv_room (Nat.le_of_ble_eq_true rfl)) dX1_spare_63 ⟨Nat.le_of_ble_eq_true rfl, Nat.le_of_ble_eq_true rfl⟩) hS hP (fun H locs hP hS => ?_)
                  refine r_icmp_ge hx hb dX1_spare_66 (tgt := 92) (by decide) (by omega) (by omega) (fun hge5 => ?_) (fun hlt5 => ?_)
                  · have hk0 : k = wr S r n := by omega
                    refine lv_lload_n hx hb dX1_spare_92 rfl (lv_at hl 1 rfl) ?_
                    subst hAe
                    refine W.widen (k := 0) (n := 0) (by decide) (by decide) ?_
                    exact W.lret hx hb hr (fun t ht hW => ⟨⟨_, (0, gl, gz, go, g1, (n : Int), (r : Int) + 1), rfl, ⟨⟨hT, rfl, rfl⟩, Or.inl ⟨hge, rfl, fun v hv => by rw [hy v hv, hk0, hs9 v hv]; rfl⟩⟩, by subst ht; exact hP⟩, hS.F ht⟩) hS.2.2 dX1_spare_93
                  · have ek : ((k : Int)).toNat = k := by omega
                    have h01 := b2_01 (w1 k)
                    refine lv_aload_n hx hb dX1_spare_69 rfl (lv_at hl 2 rfl) ?_
                    refine va_get (D := (dC, dI)) (ci := 1) (v := .ref (ad 4)) (C := RX1) (T := TX1) (N := 7) hx hb hts hinTX1 hown hK hP 0 rfl rfl 4 (by decide) fl20 (fun _ h9 => h9) rfl dX1_spare_70 ?_
                    refine lv_iload hx hb dX1_spare_73 (lv_at hl 0 rfl) ?_
                    refine r_zald hx hb hK hP 4 3 rfl rfl (by omega) (by omega) (by decide) dX1_spare_75 ?_
                    refine r_topi (b := b2 (w1 k)) (by rw [ek]; exact h9 k (by omega)) ?_
                    refine r_if_ne hx hb dX1_spare_76 (tgt := 86) (by decide) (by omega) (fun hnz => ?_) (fun hz => ?_)
                    · refine r_iinc (k := 0) hx hb dX1_spare_86 hl rfl (by decide) rfl (fun ls hl => ?_)
                      have hl : lv_has ls 5 [(4, .int (iI ((k : Int) + 1))), (2, .long y), (0, .ref (ad 0)), (1, .int (iI q))] := hl
                      refine lv_goto hx hb dX1_spare_89 (tgt := 60) (by decide) ?_
                      have hl : lv_has ls 5 [(4, .int (iI ((k + 1 : Nat) : Int))), (2, .long (y)), (0, .ref (ad 0)), (1, .int (iI q))] := by
                        rw [show ((k + 1 : Nat) : Int) = (k : Int) + 1 by omega]
                        exact hl
                      exact ih (k + 1) y ls H locs (by omega) (by omega) (st_off (P := fun v => !w1 v) hy (by rw [b2_1 hnz]; rfl)) hP hD hS hl
                    · refine lv_lload_n hx hb dX1_spare_79 rfl (lv_at hl 1 rfl) ?_
                      refine lv_lconst hx hb dX1_spare_80 rfl ?_
                      refine lv_iload hx hb dX1_spare_81 (lv_at hl 0 rfl) ?_
                      refine lv_lshl hx hb dX1_spare_83 rfl ?_
                      refine lv_lor hx hb dX1_spare_84 ?_
                      refine lv_lstore_n hx hb dX1_spare_85 rfl hl (by decide) rfl (fun ls hl => ?_)
                      have hl : lv_has ls 5 [(2, .long (y ||| ((Int64.ofNat 1) <<< ((iI ((k : Int))).toInt64 &&& 63)))), (4, .int (iI ((k : Int)))), (0, .ref (ad 0)), (1, .int (iI q))] := hl
                      refine r_iinc (k := 1) hx hb dX1_spare_86 hl rfl (by decide) rfl (fun ls hl => ?_)
                      have hl : lv_has ls 5 [(4, .int (iI ((k : Int) + 1))), (2, .long (y ||| ((Int64.ofNat 1) <<< ((iI ((k : Int))).toInt64 &&& 63)))), (0, .ref (ad 0)), (1, .int (iI q))] := hl
                      refine lv_goto hx hb dX1_spare_89 (tgt := 60) (by decide) ?_
                      have hl : lv_has ls 5 [(4, .int (iI ((k + 1 : Nat) : Int))), (2, .long (y ||| ((Int64.ofNat 1) <<< ((iI ((k : Int))).toInt64 &&& 63)))), (0, .ref (ad 0)), (1, .int (iI q))] := by
                        rw [show ((k + 1 : Nat) : Int) = (k : Int) + 1 by omega]
                        exact hl
                      exact ih (k + 1) (y ||| ((Int64.ofNat 1) <<< ((iI ((k : Int))).toInt64 &&& 63))) ls H locs (by omega) (by omega) (st_on (P := fun v => !w1 v) hy (by omega) (by rw [b2_0 hz]; rfl)) hP hD hS hl
              exact loop2 (65) 0 (Int64.ofNat 0) ls H locs (by omega) (Nat.zero_le _) (fun j hj => bL_0 j) hP hD hS hl
            · refine lv_aload_n hx hb dX1_spare_44 rfl (lv_at hl 1 rfl) ?_
              refine lv_iload_n hx hb dX1_spare_45 rfl (lv_at hl 0 rfl) ?_
              refine r_topi (b := (j : Int)) (by omega) ?_
              refine wc_v (va_runV (As := [.int (iI ((j : Int)))]) (rest := []) ⟨hx, hb, hml, hown, hts⟩ (n_want l dC dI ad ca 0 gl gz go g1 n r L S lo hok hT j (by omega) w1 h9) (cwV 1 hts (gV wlX1_54 wo_X1_want wz_X1_want wi_2 wcX1_want) rfl rfl rfl (by decide +kernel) ⟨Nat.le_of_ble_eq_true rfl, Nat.le_of_ble_eq_true rfl⟩) (PX_V (q0 := 0) (ci := 1) hP hK hD rfl rfl) rfl rfl hl.1 rfl (lv_room (Nat.le_of_ble_eq_true rfl)) dX1_spare_46 ⟨Nat.le_of_ble_eq_true rfl, Nat.le_of_ble_eq_true rfl⟩) hS (by rw [hAe]; exact fun q h => inW_same (by rfl) h) (fun k9 H locs hw9 hP hS hk9 => ?_)
              have hP : va_P (dC, dI) vwCl (wM ad ca 0 gl gz go k9 ((n : Int)) ((r : Int) + 1)) H := hP
              have hD : va_D A (wM ad ca 0 gl gz go k9 ((n : Int)) ((r : Int) + 1)) := wD_same hD rfl
              refine r_iinc (k := 0) hx hb dX1_spare_49 hl rfl (by decide) rfl (fun ls hl => ?_)
              have hl : lv_has ls 5 [(2, .int (iI ((p9 : Int) - 1 + (-1)))), (0, .ref (ad 0)), (1, .int (iI q))] := hl
              refine lv_goto hx hb dX1_spare_52 (tgt := 30) (by decide) ?_
              have hl : lv_has ls 5 [(2, .int (iI ((j : Int) - 1))), (0, .ref (ad 0)), (1, .int (iI q))] := by rw [show (j : Int) - 1 = (p9 : Int) - 1 + (-1) by omega]; exact hl
              exact ih j k9 (fun v => w1 v || nd L S r v (j + 1)) ls H locs (by omega) (by omega) hw9 (fun v hv => by rw [← hn9 v hv, hj, spP_s (by omega)]; cases w1 v <;> cases nd L S r v (j + 1) <;> simp) hP hD hS hl
      exact loop (n + 1) n z9 (fun _ => false) ls H locs (Nat.lt_succ_self _) (Nat.le_refl n) (fun v hv => hz9 v hv) (fun v hv => Bool.true_and _) hP hD hS hl
    · exact absurd hk9 (by decide)
  · refine r_iconst hx hb dX1_spare_5 ?_
    refine lv_goto hx hb dX1_spare_6 (tgt := 10) (by decide) ?_
    refine r_iconst hx hb dX1_spare_10 ?_
    refine wc_i (va_runV (As := [.int (iI 1), .int (iI 1)]) (rest := []) ⟨hx, hb, hml, hown, hts⟩ (n_fails1 l dC dI ad ca er gl gz go gw ((n : Int)) ((r : Int) + 1) 1) (cwV 2 hts (gV wlX1_33 wo_X1_fails wz_X1_fails wi_2 wcX1_fails) rfl rfl rfl (by decide +kernel) ⟨Nat.le_of_ble_eq_true rfl, Nat.le_of_ble_eq_true rfl⟩) (PX_V (q0 := 0) (ci := 1) hP hK hD rfl rfl) rfl rfl hl.1 rfl (lv_room (Nat.le_of_ble_eq_true rfl)) dX1_spare_11 ⟨Nat.le_of_ble_eq_true rfl, Nat.le_of_ble_eq_true rfl⟩) hS (by rw [hAe]; exact fun q h => inW_same (by rfl) h) (fun r9 u9 H locs h8 hP hS hk9 => ?_)
    have hP : va_P (dC, dI) vwCl (wM ad ca 1 gl gz go gw ((n : Int)) ((r : Int) + 1)) H := hP
    have hD : va_D A (wM ad ca 1 gl gz go gw ((n : Int)) ((r : Int) + 1)) := wD_same hD rfl
    subst h8
    refine r_if_eq hx hb dX1_spare_14 (tgt := 19) (by decide) (by omega) (fun hk9 => ?_) (fun hk9 => ?_)
    · exact absurd hk9 (by decide)
    · refine lv_lconst hx hb dX1_spare_17 rfl ?_
      subst hAe
      refine W.widen (k := 0) (n := 0) (by decide) (by decide) ?_
      exact W.lret hx hb hr (fun t ht hW => ⟨⟨_, (1, gl, gz, go, gw, (n : Int), (r : Int) + 1), rfl, ⟨⟨hT, rfl, rfl⟩, Or.inr ⟨by omega, rfl⟩⟩, by subst ht; exact hP⟩, hS.F ht⟩) hS.2.2 dX1_spare_18
set_option maxHeartbeats 4000000 in
set_option maxRecDepth 100000 in
theorem n_count (l : Launch) (dC : Nat → ClassId) (dI : Nat → Nat → Nat) (ad : Nat → Nat) (ca : Nat → ClassId) (er : Int) (gl gz go gw : Nat → Int) (n r : Nat) (L S : Nat → Nat) (lo : Nat → Bool) (hok : okS n L S r) (hT : tM n L S lo gl gz go) (q : Int) (hq : iR q) : Met l yX1_count wsX1_count { frames := 3, cells := 0, slots := 0, locals := 69 } (PX (dC, dI) vwCl (yM ca) (wM ad ca er gl gz go gw ((n : Int)) ((r : Int) + 1)) [.ref (ad 0), .int (iI q)]) (va_Qi (fun (y : Int32) (u : MU) => MS n L S r lo u ∧ (((0 ≤ q ∧ q ≤ 5) ∧ u.1 = 0 ∧ y = iI (ct L S r n lo q.toNat : Int)) ∨ (¬ (0 ≤ q ∧ q ≤ 5) ∧ u.1 = 1))) (fun u t => va_P (dC, dI) vwCl (wMu ad ca u) t.heap) (inW (wM ad ca er gl gz go gw ((n : Int)) ((r : Int) + 1)))) 0 0 (inW (wM ad ca er gl gz go gw ((n : Int)) ((r : Int) + 1))) := by
  refine Met.ofW (cc := cX1_count) (maxL := 4) (ret := (some .int)) (by decide) rfl ?_
  intro p e s m args below meth c s₁ B hml hv
  obtain ⟨rfl, hP, hK, hD0⟩ := hv
  have hx := B.exec
  have hb := B.bytes
  have hr := B.returns
  have hts := atoms_spec (ws := wsX1_count) B.pre
  have hown : s.vm.findClass RX1 = some m.cls := findClass_of_methodNamed B.named
  have hlocks := B.notSynchronized
  have hw := fun w h => hts w (List.mem_cons_of_mem _ h)
  have hinTX1 : ∀ w ∈ u_ws RX1 TX1 7, w ∈ wsX1_count := wA_u wuX1
  have fl30 := hw _ wfX1_30
  have fl16 := hw _ wfX1_16
  have hD := wD_own hD0
  obtain ⟨A, hAe⟩ : ∃ A, A = inW (wM ad ca er gl gz go gw ((n : Int)) ((r : Int) + 1)) := ⟨_, rfl⟩
  rw [← hAe] at hD
  obtain ⟨H, hH⟩ : ∃ H, H = s.heap := ⟨_, rfl⟩
  obtain ⟨locs, hlc⟩ : ∃ L : List Loc, L = [] := ⟨_, rfl⟩
  have hS : va_S A s.heap H locs := by rw [hH, hlc]; exact va_S.rf
  rw [← hH] at hP ⊢
  rw [← hlc]
  have hl := lv_entry ([.ref (ad 0), .int (iI q)]) (n := 4) (Nat.le_of_ble_eq_true rfl)
  rw [lg_entry_eq]
  generalize (lg_sl ([.ref (ad 0), .int (iI q)]) ++ List.replicate (4 - (lg_sl ([.ref (ad 0), .int (iI q)])).length) Slot.unset).toArray = ls at hl ⊢
  have hl : lv_has ls 4 [(0, .ref (ad 0)), (1, .int (iI q))] := hl
  obtain ⟨ok1, ok2, ok3, ok4, ok5⟩ := id hok
  have hwr := wr_le (S := S) (n := n) ok2 ok5
  refine lv_aload_n hx hb dX1_count_0 rfl (lv_at hl 0 rfl) ?_
  refine lv_iload_n hx hb dX1_count_1 rfl (lv_at hl 1 rfl) ?_
  refine r_if_lt hx hb dX1_count_2 (tgt := 10) (by decide) (by omega) (fun h1t => ?_) (fun h1f => ?_)
  · refine r_iconst hx hb dX1_count_10 ?_
    refine lv_goto hx hb dX1_count_11 (tgt := 15) (by decide) ?_
    refine r_iconst hx hb dX1_count_15 ?_
    refine wc_i (va_runV (As := [.int (iI 1), .int (iI 1)]) (rest := []) ⟨hx, hb, hml, hown, hts⟩ (n_fails1 l dC dI ad ca er gl gz go gw ((n : Int)) ((r : Int) + 1) 1) (cwV 2 hts (gV wlX1_33 wo_X1_fails wz_X1_fails wi_2 wcX1_fails) rfl rfl rfl (by decide +kernel) ⟨Nat.le_of_ble_eq_true rfl, Nat.le_of_ble_eq_true rfl⟩) (PX_V (q0 := 0) (ci := 1) hP hK hD rfl rfl) rfl rfl hl.1 rfl (lv_room (Nat.le_of_ble_eq_true rfl)) dX1_count_16 ⟨Nat.le_of_ble_eq_true rfl, Nat.le_of_ble_eq_true rfl⟩) hS (by rw [hAe]; exact fun q h => inW_same (by rfl) h) (fun r9 u9 H locs h8 hP hS hk9 => ?_)
    have hP : va_P (dC, dI) vwCl (wM ad ca 1 gl gz go gw ((n : Int)) ((r : Int) + 1)) H := hP
    have hD : va_D A (wM ad ca 1 gl gz go gw ((n : Int)) ((r : Int) + 1)) := wD_same hD rfl
    subst h8
    refine r_if_eq hx hb dX1_count_19 (tgt := 24) (by decide) (by omega) (fun hk9 => ?_) (fun hk9 => ?_)
    · exact absurd hk9 (by decide)
    · refine r_iconst hx hb dX1_count_22 ?_
      subst hAe
      refine W.widen (k := 0) (n := 0) (by decide) (by decide) ?_
      exact W.iret (v := iI 0) hx hb hr (fun t ht hW => ⟨⟨_, (1, gl, gz, go, gw, (n : Int), (r : Int) + 1), rfl, ⟨⟨hT, rfl, rfl⟩, Or.inr ⟨by omega, rfl⟩⟩, by subst ht; exact hP⟩, hS.F ht⟩) hS.2.2 dX1_count_23
  · refine lv_iload_n hx hb dX1_count_5 rfl (lv_at hl 1 rfl) ?_
    refine r_iconst hx hb dX1_count_6 ?_
    refine r_icmp_le hx hb dX1_count_7 (tgt := 14) (by decide) (by omega) (by omega) (fun h2t => ?_) (fun h2f => ?_)
    · refine r_iconst hx hb dX1_count_14 ?_
      refine r_iconst hx hb dX1_count_15 ?_
      refine wc_i (va_runV (As := [.int (iI 0), .int (iI 1)]) (rest := []) ⟨hx, hb, hml, hown, hts⟩ (n_fails0 l dC dI ad ca er gl gz go gw ((n : Int)) ((r : Int) + 1) 1) (cwV 2 hts (gV wlX1_33 wo_X1_fails wz_X1_fails wi_2 wcX1_fails) rfl rfl rfl (by decide +kernel) ⟨Nat.le_of_ble_eq_true rfl, Nat.le_of_ble_eq_true rfl⟩) (PX_V (q0 := 0) (ci := 1) hP hK hD rfl rfl) rfl rfl hl.1 rfl (lv_room (Nat.le_of_ble_eq_true rfl)) dX1_count_16 ⟨Nat.le_of_ble_eq_true rfl, Nat.le_of_ble_eq_true rfl⟩) hS (by rw [hAe]; exact fun q h => inW_same (by rfl) h) (fun r9 u9 H locs h8 hP hS hk9 => ?_)
      have hP : va_P (dC, dI) vwCl (wM ad ca 0 gl gz go gw ((n : Int)) ((r : Int) + 1)) H := hP
      have hD : va_D A (wM ad ca 0 gl gz go gw ((n : Int)) ((r : Int) + 1)) := wD_same hD rfl
      subst h8
      refine r_if_eq hx hb dX1_count_19 (tgt := 24) (by decide) (by omega) (fun hk9 => ?_) (fun hk9 => ?_)
      · refine r_iconst hx hb dX1_count_24 ?_
        refine lv_istore_n hx hb dX1_count_25 rfl hl (by decide) rfl (fun ls hl => ?_)
        have hl : lv_has ls 4 [(2, .int (iI 0)), (0, .ref (ad 0)), (1, .int (iI q))] := hl
        refine lv_iload_n hx hb dX1_count_26 rfl (lv_at hl 2 rfl) ?_
        have hcases : q = 0 ∨ q = 1 ∨ q = 2 ∨ q = 3 ∨ q = 4 ∨ q = 5 := by omega
        rcases hcases with hq9 | hq9 | hq9 | hq9 | hq9 | hq9
        · refine lv_tableIn hx hb dX1_count_27 (off := 33) (tgt := 60) (by rw [hq9]; decide) (by rw [hq9]; decide) (by rw [hq9]; decide) (by decide) ?_
          refine lv_aload_n hx hb dX1_count_60 rfl (lv_at hl 1 rfl) ?_
          refine va_get (D := (dC, dI)) (ci := 1) (v := .int (iI ((n : Int)))) (C := RX1) (T := TX1) (N := 7) hx hb hts hinTX1 hown hK hP 0 rfl rfl 5 (by decide) fl30 (fun _ h9 => h9) rfl dX1_count_61 ?_
          subst hAe
          refine W.widen (k := 0) (n := 0) (by decide) (by decide) ?_
          exact W.iret (v := iI ((n : Int))) hx hb hr (fun t ht hW => ⟨⟨_, (0, gl, gz, go, gw, (n : Int), (r : Int) + 1), rfl, ⟨⟨hT, rfl, rfl⟩, Or.inl ⟨by omega, rfl, by rw [hq9]; rfl⟩⟩, by subst ht; exact hP⟩, hS.F ht⟩) hS.2.2 dX1_count_64
        · refine lv_tableIn hx hb dX1_count_27 (off := 38) (tgt := 65) (by rw [hq9]; decide) (by rw [hq9]; decide) (by rw [hq9]; decide) (by decide) ?_
          refine lv_aload_n hx hb dX1_count_65 rfl (lv_at hl 1 rfl) ?_
          refine ro_z (z := (wr S r n : Int)) (va_runV (As := []) (rest := []) ⟨hx, hb, hml, hown, hts⟩ (n_written l dC dI ad ca 0 gl gz go gw n r L S lo hok hT) (cwV 0 hts (gV wlX1_61 wo_X1_written wz_X1_written wi_2 wcX1_written) rfl rfl rfl (by decide +kernel) ⟨Nat.le_of_ble_eq_true rfl, Nat.le_of_ble_eq_true rfl⟩) (PX_V (q0 := 0) (ci := 1) hP hK hD rfl rfl) rfl rfl hl.1 rfl (lv_room (Nat.le_of_ble_eq_true rfl)) dX1_count_66 ⟨Nat.le_of_ble_eq_true rfl, Nat.le_of_ble_eq_true rfl⟩) hS hP (fun H locs hP hS => ?_)
          subst hAe
          refine W.widen (k := 0) (n := 0) (by decide) (by decide) ?_
          exact W.iret (v := iI ((wr S r n : Int))) hx hb hr (fun t ht hW => ⟨⟨_, (0, gl, gz, go, gw, (n : Int), (r : Int) + 1), rfl, ⟨⟨hT, rfl, rfl⟩, Or.inl ⟨by omega, rfl, by rw [hq9]; rfl⟩⟩, by subst ht; exact hP⟩, hS.F ht⟩) hS.2.2 dX1_count_69
        · refine lv_tableIn hx hb dX1_count_27 (off := 43) (tgt := 70) (by rw [hq9]; decide) (by rw [hq9]; decide) (by rw [hq9]; decide) (by decide) ?_
          refine lv_aload_n hx hb dX1_count_70 rfl (lv_at hl 1 rfl) ?_
          refine lv_aload_n hx hb dX1_count_71 rfl (lv_at hl 1 rfl) ?_
          refine va_get (D := (dC, dI)) (ci := 1) (v := .int (iI ((n : Int)))) (C := RX1) (T := TX1) (N := 7) hx hb hts hinTX1 hown hK hP 0 rfl rfl 5 (by decide) fl30 (fun _ h9 => h9) rfl dX1_count_72 ?_
          refine ro_z (z := (sm S n : Int)) (va_runV (As := [.int (iI ((n : Int)))]) (rest := []) ⟨hx, hb, hml, hown, hts⟩ (n_before l dC dI ad ca 0 gl gz go gw n r L S lo hok hT n (Nat.le_refl n)) (cwV 1 hts (gV wlX1_37 wo_X1_before wz_X1_before wi_2 wcX1_before) rfl rfl rfl (by decide +kernel) ⟨Nat.le_of_ble_eq_true rfl, Nat.le_of_ble_eq_true rfl⟩) (PX_V (q0 := 0) (ci := 1) hP hK hD rfl rfl) rfl rfl hl.1 rfl (lv_room (Nat.le_of_ble_eq_true rfl)) dX1_count_75 ⟨Nat.le_of_ble_eq_true rfl, Nat.le_of_ble_eq_true rfl⟩) hS hP (fun H locs hP hS => ?_)
          refine lv_aload_n hx hb dX1_count_78 rfl (lv_at hl 1 rfl) ?_
          refine ro_z (z := (wr S r n : Int)) (va_runV (As := []) (rest := [.int (iI ((sm S n : Int)))]) ⟨hx, hb, hml, hown, hts⟩ (n_written l dC dI ad ca 0 gl gz go gw n r L S lo hok hT) (cwV 0 hts (gV wlX1_61 wo_X1_written wz_X1_written wi_2 wcX1_written) rfl rfl rfl (by decide +kernel) ⟨Nat.le_of_ble_eq_true rfl, Nat.le_of_ble_eq_true rfl⟩) (PX_V (q0 := 0) (ci := 1) hP hK hD rfl rfl) rfl rfl hl.1 rfl (lv_room (Nat.le_of_ble_eq_true rfl)) dX1_count_79 ⟨Nat.le_of_ble_eq_true rfl, Nat.le_of_ble_eq_true rfl⟩) hS hP (fun H locs hP hS => ?_)
          refine r_iadd hx hb dX1_count_82 ?_
          subst hAe
          refine W.widen (k := 0) (n := 0) (by decide) (by decide) ?_
          exact W.iret (v := iI (((sm S n : Int)) + ((wr S r n : Int)))) hx hb hr (fun t ht hW => ⟨⟨_, (0, gl, gz, go, gw, (n : Int), (r : Int) + 1), rfl, ⟨⟨hT, rfl, rfl⟩, Or.inl ⟨by omega, rfl, by rw [hq9, show (ct L S r n lo (2 : Int).toNat : Int) = (sm S n : Int) + (wr S r n : Int) from Int.natCast_add _ _]⟩⟩, by subst ht; exact hP⟩, hS.F ht⟩) hS.2.2 dX1_count_83
        · refine lv_tableIn hx hb dX1_count_27 (off := 57) (tgt := 84) (by rw [hq9]; decide) (by rw [hq9]; decide) (by rw [hq9]; decide) (by decide) ?_
          refine r_iconst hx hb dX1_count_84 ?_
          refine lv_istore_n hx hb dX1_count_85 rfl hl (by decide) rfl (fun ls hl => ?_)
          have hl : lv_has ls 4 [(3, .int (iI 0)), (2, .int (iI 0)), (0, .ref (ad 0)), (1, .int (iI q))] := hl
          have loop : ∀ (N : Nat) (k : Nat) (g1 : Nat → Int) (ls : Array Slot) (H : Heap) (locs : List Loc), n - k < N → (k ≤ n) → va_P (dC, dI) vwCl (wM ad ca 0 gl gz go g1 ((n : Int)) ((r : Int) + 1)) H → va_D A (wM ad ca 0 gl gz go g1 ((n : Int)) ((r : Int) + 1)) → va_S A s.heap H locs → lv_has ls 4 [(3, .int (iI ((k : Int)))), (2, .int (iI ((cn (gd L S r lo) k : Int)))), (0, .ref (ad 0)), (1, .int (iI q))] → W p l e (headSpec wsX1_count { frames := 3, cells := 0, slots := 0, locals := 69 }).room s m ([.ref (ad 0), .int (iI q)]).toArray below meth c H locs ((0 + 0) + 0) ((0 + 0) + 0) (MQ below (va_Qi (fun (y : Int32) (u : MU) => MS n L S r lo u ∧ (((0 ≤ q ∧ q ≤ 5) ∧ u.1 = 0 ∧ y = iI (ct L S r n lo q.toNat : Int)) ∨ (¬ (0 ≤ q ∧ q ≤ 5) ∧ u.1 = 1))) (fun u t => va_P (dC, dI) vwCl (wMu ad ca u) t.heap) (inW (wM ad ca er gl gz go gw ((n : Int)) ((r : Int) + 1)))) ([.ref (ad 0), .int (iI q)]).toArray s 0 0 (inW (wM ad ca er gl gz go gw ((n : Int)) ((r : Int) + 1)))) (F0 m 86 ls []) := by
            intro N
            induction N with
            | zero => intro k g1 ls H locs h; exact absurd h (Nat.not_lt_zero _)
            | succ N ih =>
              intro k g1 ls H locs hN hk hP hD hS hl
              refine lv_iload_n hx hb dX1_count_86 rfl (lv_at hl 0 rfl) ?_
              refine lv_aload_n hx hb dX1_count_87 rfl (lv_at hl 2 rfl) ?_
              refine va_get (D := (dC, dI)) (ci := 1) (v := .int (iI ((n : Int)))) (C := RX1) (T := TX1) (N := 7) hx hb hts hinTX1 hown hK hP 0 rfl rfl 5 (by decide) fl30 (fun _ h9 => h9) rfl dX1_count_88 ?_
              refine r_icmp_ge hx hb dX1_count_91 (tgt := 111) (by decide) (by omega) (by omega) (fun hge => ?_) (fun hlt => ?_)
              · have hk0 : k = n := by omega
                refine lv_iload_n hx hb dX1_count_111 rfl (lv_at hl 1 rfl) ?_
                subst hAe
                refine W.widen (k := 0) (n := 0) (by decide) (by decide) ?_
                exact W.iret (v := iI ((cn (gd L S r lo) k : Int))) hx hb hr (fun t ht hW => ⟨⟨_, (0, gl, gz, go, g1, (n : Int), (r : Int) + 1), rfl, ⟨⟨hT, rfl, rfl⟩, Or.inl ⟨by omega, rfl, by rw [hk0, hq9]; rfl⟩⟩, by subst ht; exact hP⟩, hS.F ht⟩) hS.2.2 dX1_count_112
              · have hc := cn_s (gd L S r lo) k
                have hc2 := cn_le (gd L S r lo) k
                have h01 := b2_01 (gd L S r lo k)
                refine lv_aload_n hx hb dX1_count_94 rfl (lv_at hl 2 rfl) ?_
                refine lv_iload_n hx hb dX1_count_95 rfl (lv_at hl 0 rfl) ?_
                refine wc_i (va_runV (As := [.int (iI ((k : Int)))]) (rest := []) ⟨hx, hb, hml, hown, hts⟩ (n_isGood l dC dI ad ca 0 gl gz go g1 n r L S lo hok hT k (by omega)) (cwV 1 hts (gV wlX1_58 wo_X1_isGood wz_X1_isGood wi_2 wcX1_isGood) rfl rfl rfl (by decide +kernel) ⟨Nat.le_of_ble_eq_true rfl, Nat.le_of_ble_eq_true rfl⟩) (PX_V (q0 := 0) (ci := 1) hP hK hD rfl rfl) rfl rfl hl.1 rfl (lv_room (Nat.le_of_ble_eq_true rfl)) dX1_count_96 ⟨Nat.le_of_ble_eq_true rfl, Nat.le_of_ble_eq_true rfl⟩) hS (by rw [hAe]; exact fun q h => inW_same (by rfl) h) (fun r9 k9 H locs h8 hP hS hk9 => ?_)
                have hP : va_P (dC, dI) vwCl (wM ad ca 0 gl gz go k9 ((n : Int)) ((r : Int) + 1)) H := hP
                have hD : va_D A (wM ad ca 0 gl gz go k9 ((n : Int)) ((r : Int) + 1)) := wD_same hD rfl
                subst h8
                refine r_if_eq hx hb dX1_count_99 (tgt := 105) (by decide) (by omega) (fun hz => ?_) (fun hnz => ?_)
                · refine r_iinc (k := 0) hx hb dX1_count_105 hl rfl (by decide) rfl (fun ls hl => ?_)
                  have hl : lv_has ls 4 [(3, .int (iI ((k : Int) + 1))), (2, .int (iI ((cn (gd L S r lo) k : Int)))), (0, .ref (ad 0)), (1, .int (iI q))] := hl
                  refine lv_goto hx hb dX1_count_108 (tgt := 86) (by decide) ?_
                  have hl : lv_has ls 4 [(3, .int (iI ((k + 1 : Nat) : Int))), (2, .int (iI (cn (gd L S r lo) (k + 1) : Int))), (0, .ref (ad 0)), (1, .int (iI q))] := by
                    rw [show ((k + 1 : Nat) : Int) = (k : Int) + 1 by omega, show (cn (gd L S r lo) (k + 1) : Int) = (cn (gd L S r lo) k : Int) by omega]
                    exact hl
                  exact ih (k + 1) k9 ls H locs (by omega) (by omega) hP hD hS hl
                · refine r_iinc (k := 1) hx hb dX1_count_102 hl rfl (by decide) rfl (fun ls hl => ?_)
                  have hl : lv_has ls 4 [(2, .int (iI ((cn (gd L S r lo) k : Int) + 1))), (3, .int (iI ((k : Int)))), (0, .ref (ad 0)), (1, .int (iI q))] := hl
                  refine r_iinc (k := 1) hx hb dX1_count_105 hl rfl (by decide) rfl (fun ls hl => ?_)
                  have hl : lv_has ls 4 [(3, .int (iI ((k : Int) + 1))), (2, .int (iI ((cn (gd L S r lo) k : Int) + 1))), (0, .ref (ad 0)), (1, .int (iI q))] := hl
                  refine lv_goto hx hb dX1_count_108 (tgt := 86) (by decide) ?_
                  have hl : lv_has ls 4 [(3, .int (iI ((k + 1 : Nat) : Int))), (2, .int (iI (cn (gd L S r lo) (k + 1) : Int))), (0, .ref (ad 0)), (1, .int (iI q))] := by
                    rw [show ((k + 1 : Nat) : Int) = (k : Int) + 1 by omega, show (cn (gd L S r lo) (k + 1) : Int) = (cn (gd L S r lo) k : Int) + 1 by omega]
                    exact hl
                  exact ih (k + 1) k9 ls H locs (by omega) (by omega) hP hD hS hl
          exact loop (n + 1) 0 gw ls H locs (by omega) (Nat.zero_le n) hP hD hS hl
        · refine lv_tableIn hx hb dX1_count_27 (off := 86) (tgt := 113) (by rw [hq9]; decide) (by rw [hq9]; decide) (by rw [hq9]; decide) (by decide) ?_
          refine r_iconst hx hb dX1_count_113 ?_
          refine lv_istore_n hx hb dX1_count_114 rfl hl (by decide) rfl (fun ls hl => ?_)
          have hl : lv_has ls 4 [(3, .int (iI 0)), (2, .int (iI 0)), (0, .ref (ad 0)), (1, .int (iI q))] := hl
          have loop : ∀ (N : Nat) (k : Nat) (ls : Array Slot) (H : Heap) (locs : List Loc), n - k < N → (k ≤ n) → va_P (dC, dI) vwCl (wM ad ca 0 gl gz go gw ((n : Int)) ((r : Int) + 1)) H → va_D A (wM ad ca 0 gl gz go gw ((n : Int)) ((r : Int) + 1)) → va_S A s.heap H locs → lv_has ls 4 [(3, .int (iI ((k : Int)))), (2, .int (iI ((mx (fun d => dp L (d + 1)) k : Int)))), (0, .ref (ad 0)), (1, .int (iI q))] → W p l e (headSpec wsX1_count { frames := 3, cells := 0, slots := 0, locals := 69 }).room s m ([.ref (ad 0), .int (iI q)]).toArray below meth c H locs (((0 + 0) + 0) + 0) (((0 + 0) + 0) + 0) (MQ below (va_Qi (fun (y : Int32) (u : MU) => MS n L S r lo u ∧ (((0 ≤ q ∧ q ≤ 5) ∧ u.1 = 0 ∧ y = iI (ct L S r n lo q.toNat : Int)) ∨ (¬ (0 ≤ q ∧ q ≤ 5) ∧ u.1 = 1))) (fun u t => va_P (dC, dI) vwCl (wMu ad ca u) t.heap) (inW (wM ad ca er gl gz go gw ((n : Int)) ((r : Int) + 1)))) ([.ref (ad 0), .int (iI q)]).toArray s 0 0 (inW (wM ad ca er gl gz go gw ((n : Int)) ((r : Int) + 1)))) (F0 m 115 ls []) := by
            intro N
            induction N with
            | zero => intro k ls H locs h; exact absurd h (Nat.not_lt_zero _)
            | succ N ih =>
              intro k ls H locs hN hk hP hD hS hl
              refine lv_iload_n hx hb dX1_count_115 rfl (lv_at hl 0 rfl) ?_
              refine lv_aload_n hx hb dX1_count_116 rfl (lv_at hl 2 rfl) ?_
              refine va_get (D := (dC, dI)) (ci := 1) (v := .int (iI ((n : Int)))) (C := RX1) (T := TX1) (N := 7) hx hb hts hinTX1 hown hK hP 0 rfl rfl 5 (by decide) fl30 (fun _ h9 => h9) rfl dX1_count_117 ?_
              refine r_icmp_ge hx hb dX1_count_120 (tgt := 144) (by decide) (by omega) (by omega) (fun hge => ?_) (fun hlt => ?_)
              · have hk0 : k = n := by omega
                refine lv_iload_n hx hb dX1_count_144 rfl (lv_at hl 1 rfl) ?_
                subst hAe
                refine W.widen (k := 0) (n := 0) (by decide) (by decide) ?_
                exact W.iret (v := iI ((mx (fun d => dp L (d + 1)) k : Int))) hx hb hr (fun t ht hW => ⟨⟨_, (0, gl, gz, go, gw, (n : Int), (r : Int) + 1), rfl, ⟨⟨hT, rfl, rfl⟩, Or.inl ⟨by omega, rfl, by rw [hk0, hq9]; rfl⟩⟩, by subst ht; exact hP⟩, hS.F ht⟩) hS.2.2 dX1_count_145
              · have hc := mx_s (fun d => dp L (d + 1)) k
                have hm := mx_le (fun d => dp L (d + 1)) 300 k (fun j hj => by have := dp_le L (j + 1) (j + 1) (Nat.le_refl _); show dp L (j + 1) ≤ 300; omega)
                have hm2 := dp_le L (k + 1) (k + 1) (Nat.le_refl _)
                refine lv_aload_n hx hb dX1_count_123 rfl (lv_at hl 2 rfl) ?_
                refine lv_iload_n hx hb dX1_count_124 rfl (lv_at hl 0 rfl) ?_
                refine ro_z (z := (dp L (k + 1) : Int)) (va_runV (As := [.int (iI ((k : Int)))]) (rest := []) ⟨hx, hb, hml, hown, hts⟩ (n_depthOf l dC dI ad ca 0 gl gz go gw n r L S lo hok hT k (by omega)) (cwV 1 hts (gV wlX1_48 wo_X1_depthOf wz_X1_depthOf wi_2 wcX1_depthOf) rfl rfl rfl (by decide +kernel) ⟨Nat.le_of_ble_eq_true rfl, Nat.le_of_ble_eq_true rfl⟩) (PX_V (q0 := 0) (ci := 1) hP hK hD rfl rfl) rfl rfl hl.1 rfl (lv_room (Nat.le_of_ble_eq_true rfl)) dX1_count_125 ⟨Nat.le_of_ble_eq_true rfl, Nat.le_of_ble_eq_true rfl⟩) hS hP (fun H locs hP hS => ?_)
                refine lv_iload_n hx hb dX1_count_128 rfl (lv_at hl 1 rfl) ?_
                refine r_icmp_le hx hb dX1_count_129 (tgt := 138) (by decide) (by omega) (by omega) (fun hle => ?_) (fun hgt => ?_)
                · refine r_iinc (k := 0) hx hb dX1_count_138 hl rfl (by decide) rfl (fun ls hl => ?_)
                  have hl : lv_has ls 4 [(3, .int (iI ((k : Int) + 1))), (2, .int (iI ((mx (fun d => dp L (d + 1)) k : Int)))), (0, .ref (ad 0)), (1, .int (iI q))] := hl
                  refine lv_goto hx hb dX1_count_141 (tgt := 115) (by decide) ?_
                  have hl : lv_has ls 4 [(3, .int (iI ((k + 1 : Nat) : Int))), (2, .int (iI (mx (fun d => dp L (d + 1)) (k + 1) : Int))), (0, .ref (ad 0)), (1, .int (iI q))] := by
                    rw [show ((k + 1 : Nat) : Int) = (k : Int) + 1 by omega, show (mx (fun d => dp L (d + 1)) (k + 1) : Int) = (mx (fun d => dp L (d + 1)) k : Int) by rw [hc, if_neg (by omega)]]
                    exact hl
                  exact ih (k + 1) ls H locs (by omega) (by omega) hP hD hS hl
                · refine lv_aload_n hx hb dX1_count_132 rfl (lv_at hl 2 rfl) ?_
                  refine lv_iload_n hx hb dX1_count_133 rfl (lv_at hl 0 rfl) ?_
                  refine ro_z (z := (dp L (k + 1) : Int)) (va_runV (As := [.int (iI ((k : Int)))]) (rest := []) ⟨hx, hb, hml, hown, hts⟩ (n_depthOf l dC dI ad ca 0 gl gz go gw n r L S lo hok hT k (by omega)) (cwV 1 hts (gV wlX1_48 wo_X1_depthOf wz_X1_depthOf wi_2 wcX1_depthOf) rfl rfl rfl (by decide +kernel) ⟨Nat.le_of_ble_eq_true rfl, Nat.le_of_ble_eq_true rfl⟩) (PX_V (q0 := 0) (ci := 1) hP hK hD rfl rfl) rfl rfl hl.1 rfl (lv_room (Nat.le_of_ble_eq_true rfl)) dX1_count_134 ⟨Nat.le_of_ble_eq_true rfl, Nat.le_of_ble_eq_true rfl⟩) hS hP (fun H locs hP hS => ?_)
                  refine lv_istore_n hx hb dX1_count_137 rfl hl (by decide) rfl (fun ls hl => ?_)
                  have hl : lv_has ls 4 [(2, .int (iI ((dp L (k + 1) : Int)))), (3, .int (iI ((k : Int)))), (0, .ref (ad 0)), (1, .int (iI q))] := hl
                  refine r_iinc (k := 1) hx hb dX1_count_138 hl rfl (by decide) rfl (fun ls hl => ?_)
                  have hl : lv_has ls 4 [(3, .int (iI ((k : Int) + 1))), (2, .int (iI ((dp L (k + 1) : Int)))), (0, .ref (ad 0)), (1, .int (iI q))] := hl
                  refine lv_goto hx hb dX1_count_141 (tgt := 115) (by decide) ?_
                  have hl : lv_has ls 4 [(3, .int (iI ((k + 1 : Nat) : Int))), (2, .int (iI (mx (fun d => dp L (d + 1)) (k + 1) : Int))), (0, .ref (ad 0)), (1, .int (iI q))] := by
                    rw [show ((k + 1 : Nat) : Int) = (k : Int) + 1 by omega, show (mx (fun d => dp L (d + 1)) (k + 1) : Int) = (dp L (k + 1) : Int) by rw [hc, if_pos (by omega)]]
                    exact hl
                  exact ih (k + 1) ls H locs (by omega) (by omega) hP hD hS hl
          exact loop (n + 1) 0 ls H locs (by omega) (Nat.zero_le n) hP hD hS hl
        · refine lv_tableOut hx hb dX1_count_27 (tgt := 146) (by rw [hq9]; decide) (by decide) ?_
          refine r_iconst hx hb dX1_count_146 ?_
          refine lv_istore_n hx hb dX1_count_147 rfl hl (by decide) rfl (fun ls hl => ?_)
          have hl : lv_has ls 4 [(3, .int (iI 0)), (2, .int (iI 0)), (0, .ref (ad 0)), (1, .int (iI q))] := hl
          have loop : ∀ (N : Nat) (k : Nat) (ls : Array Slot), 64 - k < N → (k ≤ 64) → lv_has ls 4 [(3, .int (iI ((k : Int)))), (2, .int (iI ((cn lo k : Int)))), (0, .ref (ad 0)), (1, .int (iI q))] → W p l e (headSpec wsX1_count { frames := 3, cells := 0, slots := 0, locals := 69 }).room s m ([.ref (ad 0), .int (iI q)]).toArray below meth c H locs (((0 + 0) + 0) + 0) (((0 + 0) + 0) + 0) (MQ below (va_Qi (fun (y : Int32) (u : MU) => MS n L S r lo u ∧ (((0 ≤ q ∧ q ≤ 5) ∧ u.1 = 0 ∧ y = iI (ct L S r n lo q.toNat : Int)) ∨ (¬ (0 ≤ q ∧ q ≤ 5) ∧ u.1 = 1))) (fun u t => va_P (dC, dI) vwCl (wMu ad ca u) t.heap) (inW (wM ad ca er gl gz go gw ((n : Int)) ((r : Int) + 1)))) ([.ref (ad 0), .int (iI q)]).toArray s 0 0 (inW (wM ad ca er gl gz go gw ((n : Int)) ((r : Int) + 1)))) (F0 m 148 ls []) := by
            intro N
            induction N with
            | zero => intro k ls h; exact absurd h (Nat.not_lt_zero _)
            | succ N ih =>
              intro k ls hN hk hl
              refine lv_iload_n hx hb dX1_count_148 rfl (lv_at hl 0 rfl) ?_
              refine r_bipush hx hb dX1_count_149 (by decide +kernel) ?_
              refine r_icmp_ge hx hb dX1_count_151 (tgt := 172) (by decide) (by omega) (by omega) (fun hge => ?_) (fun hlt => ?_)
              · have hk0 : k = 64 := by omega
                refine lv_iload_n hx hb dX1_count_172 rfl (lv_at hl 1 rfl) ?_
                subst hAe
                refine W.widen (k := 0) (n := 0) (by decide) (by decide) ?_
                exact W.iret (v := iI ((cn lo k : Int))) hx hb hr (fun t ht hW => ⟨⟨_, (0, gl, gz, go, gw, (n : Int), (r : Int) + 1), rfl, ⟨⟨hT, rfl, rfl⟩, Or.inl ⟨by omega, rfl, by rw [hk0, hq9]; rfl⟩⟩, by subst ht; exact hP⟩, hS.F ht⟩) hS.2.2 dX1_count_173
              · have ek : ((k : Int)).toNat = k := by omega
                have hc := cn_s lo k
                have hc2 := cn_le lo k
                have h01 := b2_01 (lo k)
                refine lv_aload_n hx hb dX1_count_154 rfl (lv_at hl 2 rfl) ?_
                refine va_get (D := (dC, dI)) (ci := 1) (v := .ref (ad 3)) (C := RX1) (T := TX1) (N := 7) hx hb hts hinTX1 hown hK hP 0 rfl rfl 3 (by decide) fl16 (fun _ h9 => h9) rfl dX1_count_155 ?_
                refine lv_iload_n hx hb dX1_count_158 rfl (lv_at hl 0 rfl) ?_
                refine r_zald hx hb hK hP 3 2 rfl rfl (by omega) (by omega) (by decide) dX1_count_159 ?_
                refine r_topi (b := b2 (lo k)) (by rw [ek]; exact hT.2 k (by omega)) ?_
                refine r_if_eq hx hb dX1_count_160 (tgt := 166) (by decide) (by omega) (fun hz => ?_) (fun hnz => ?_)
                · refine r_iinc (k := 0) hx hb dX1_count_166 hl rfl (by decide) rfl (fun ls hl => ?_)
                  have hl : lv_has ls 4 [(3, .int (iI ((k : Int) + 1))), (2, .int (iI ((cn lo k : Int)))), (0, .ref (ad 0)), (1, .int (iI q))] := hl
                  refine lv_goto hx hb dX1_count_169 (tgt := 148) (by decide) ?_
                  have hl : lv_has ls 4 [(3, .int (iI ((k + 1 : Nat) : Int))), (2, .int (iI (cn lo (k + 1) : Int))), (0, .ref (ad 0)), (1, .int (iI q))] := by
                    rw [show ((k + 1 : Nat) : Int) = (k : Int) + 1 by omega, show (cn lo (k + 1) : Int) = (cn lo k : Int) by omega]
                    exact hl
                  exact ih (k + 1) ls (by omega) (by omega) hl
                · refine r_iinc (k := 1) hx hb dX1_count_163 hl rfl (by decide) rfl (fun ls hl => ?_)
                  have hl : lv_has ls 4 [(2, .int (iI ((cn lo k : Int) + 1))), (3, .int (iI ((k : Int)))), (0, .ref (ad 0)), (1, .int (iI q))] := hl
                  refine r_iinc (k := 1) hx hb dX1_count_166 hl rfl (by decide) rfl (fun ls hl => ?_)
                  have hl : lv_has ls 4 [(3, .int (iI ((k : Int) + 1))), (2, .int (iI ((cn lo k : Int) + 1))), (0, .ref (ad 0)), (1, .int (iI q))] := hl
                  refine lv_goto hx hb dX1_count_169 (tgt := 148) (by decide) ?_
                  have hl : lv_has ls 4 [(3, .int (iI ((k + 1 : Nat) : Int))), (2, .int (iI (cn lo (k + 1) : Int))), (0, .ref (ad 0)), (1, .int (iI q))] := by
                    rw [show ((k + 1 : Nat) : Int) = (k : Int) + 1 by omega, show (cn lo (k + 1) : Int) = (cn lo k : Int) + 1 by omega]
                    exact hl
                  exact ih (k + 1) ls (by omega) (by omega) hl
          exact loop (65) 0 ls (by omega) (by omega) hl
      · exact absurd hk9 (by decide)
    · refine r_iconst hx hb dX1_count_10 ?_
      refine lv_goto hx hb dX1_count_11 (tgt := 15) (by decide) ?_
      refine r_iconst hx hb dX1_count_15 ?_
      refine wc_i (va_runV (As := [.int (iI 1), .int (iI 1)]) (rest := []) ⟨hx, hb, hml, hown, hts⟩ (n_fails1 l dC dI ad ca er gl gz go gw ((n : Int)) ((r : Int) + 1) 1) (cwV 2 hts (gV wlX1_33 wo_X1_fails wz_X1_fails wi_2 wcX1_fails) rfl rfl rfl (by decide +kernel) ⟨Nat.le_of_ble_eq_true rfl, Nat.le_of_ble_eq_true rfl⟩) (PX_V (q0 := 0) (ci := 1) hP hK hD rfl rfl) rfl rfl hl.1 rfl (lv_room (Nat.le_of_ble_eq_true rfl)) dX1_count_16 ⟨Nat.le_of_ble_eq_true rfl, Nat.le_of_ble_eq_true rfl⟩) hS (by rw [hAe]; exact fun q h => inW_same (by rfl) h) (fun r9 u9 H locs h8 hP hS hk9 => ?_)
      have hP : va_P (dC, dI) vwCl (wM ad ca 1 gl gz go gw ((n : Int)) ((r : Int) + 1)) H := hP
      have hD : va_D A (wM ad ca 1 gl gz go gw ((n : Int)) ((r : Int) + 1)) := wD_same hD rfl
      subst h8
      refine r_if_eq hx hb dX1_count_19 (tgt := 24) (by decide) (by omega) (fun hk9 => ?_) (fun hk9 => ?_)
      · exact absurd hk9 (by decide)
      · refine r_iconst hx hb dX1_count_22 ?_
        subst hAe
        refine W.widen (k := 0) (n := 0) (by decide) (by decide) ?_
        exact W.iret (v := iI 0) hx hb hr (fun t ht hW => ⟨⟨_, (1, gl, gz, go, gw, (n : Int), (r : Int) + 1), rfl, ⟨⟨hT, rfl, rfl⟩, Or.inr ⟨by omega, rfl⟩⟩, by subst ht; exact hP⟩, hS.F ht⟩) hS.2.2 dX1_count_23
