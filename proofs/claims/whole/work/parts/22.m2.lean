/-! the reference: begin, drop, dump, chain, depth, place, owner -/
set_option maxHeartbeats 4000000 in
set_option maxRecDepth 100000 in
theorem n_begin (l : Launch) (dC : Nat → ClassId) (dI : Nat → Nat → Nat) (ad : Nat → Nat) (ca : Nat → ClassId) (er : Int) (gl gz go gw : Nat → Int) (n r : Nat) (L S : Nat → Nat) (lo : Nat → Bool) (hok : okS n L S r) (hT : tM n L S lo gl gz go) (q : Int) (hq : iR q) : Met l yX1_begin wsX1_begin { frames := 1, cells := 0, slots := 0, locals := 22 } (PX (dC, dI) vwCl (yM ca) (wM ad ca er gl gz go gw ((n : Int)) ((r : Int) + 1)) [.ref (ad 0), .int (iI q)]) (va_Qv (fun (u : MU) => ((2 ≤ q ∧ q ≤ 1000) ∧ u.1 = 0 ∧ MS 0 L S (q - 1).toNat (fun _ => false) u) ∨ (¬ (2 ≤ q ∧ q ≤ 1000) ∧ u.1 = 1 ∧ MS n L S r lo u)) (fun u t => va_P (dC, dI) vwCl (wMu ad ca u) t.heap) (inW (wM ad ca er gl gz go gw ((n : Int)) ((r : Int) + 1)))) 0 0 (inW (wM ad ca er gl gz go gw ((n : Int)) ((r : Int) + 1))) := by
  refine Met.ofW (cc := cX1_begin) (maxL := 3) (ret := none) (by decide) rfl ?_
  intro p e s m args below meth c s₁ B hml hv
  obtain ⟨rfl, hP, hK, hD0⟩ := hv
  have hx := B.exec
  have hb := B.bytes
  have hr := B.returns
  have hts := atoms_spec (ws := wsX1_begin) B.pre
  have hown : s.vm.findClass RX1 = some m.cls := findClass_of_methodNamed B.named
  have hlocks := B.notSynchronized
  have hw := fun w h => hts w (List.mem_cons_of_mem _ h)
  have hinTX1 : ∀ w ∈ u_ws RX1 TX1 7, w ∈ wsX1_begin := wA_u wuX1
  have fl23 := hw _ wfX1_23
  have fl30 := hw _ wfX1_30
  have fl16 := hw _ wfX1_16
  have hD := wD_own hD0
  obtain ⟨A, hAe⟩ : ∃ A, A = inW (wM ad ca er gl gz go gw ((n : Int)) ((r : Int) + 1)) := ⟨_, rfl⟩
  rw [← hAe] at hD
  obtain ⟨H, hH⟩ : ∃ H, H = s.heap := ⟨_, rfl⟩
  obtain ⟨locs, hlc⟩ : ∃ L : List Loc, L = [] := ⟨_, rfl⟩
  have hS : va_S A s.heap H locs := by rw [hH, hlc]; exact va_S.rf
  rw [← hH] at hP ⊢
  rw [← hlc]
  have hl := lv_entry ([.ref (ad 0), .int (iI q)]) (n := 3) (Nat.le_of_ble_eq_true rfl)
  rw [lg_entry_eq]
  generalize (lg_sl ([.ref (ad 0), .int (iI q)]) ++ List.replicate (3 - (lg_sl ([.ref (ad 0), .int (iI q)])).length) Slot.unset).toArray = ls at hl ⊢
  have hl : lv_has ls 3 [(0, .ref (ad 0)), (1, .int (iI q))] := hl
  obtain ⟨ok1, ok2, ok3, ok4, ok5⟩ := id hok
  refine lv_aload_n hx hb dX1_begin_0 rfl (lv_at hl 0 rfl) ?_
  refine lv_iload_n hx hb dX1_begin_1 rfl (lv_at hl 1 rfl) ?_
  refine r_iconst hx hb dX1_begin_2 ?_
  refine r_icmp_lt hx hb dX1_begin_3 (tgt := 13) (by decide) (by omega) (by omega) (fun hlt => ?_) (fun hge => ?_)
  · refine r_iconst hx hb dX1_begin_13 ?_
    refine lv_goto hx hb dX1_begin_14 (tgt := 18) (by decide) ?_
    refine r_iconst hx hb dX1_begin_18 ?_
    refine wc_i (va_runV (As := [.int (iI 1), .int (iI 1)]) (rest := []) ⟨hx, hb, hml, hown, hts⟩ (n_fails1 l dC dI ad ca er gl gz go gw ((n : Int)) ((r : Int) + 1) 1) (cwV 2 hts (gV wlX1_33 wo_X1_fails wz_X1_fails wi_2 wcX1_fails) rfl rfl rfl (by decide +kernel) ⟨Nat.le_of_ble_eq_true rfl, Nat.le_of_ble_eq_true rfl⟩) (PX_V (q0 := 0) (ci := 1) hP hK hD rfl rfl) rfl rfl hl.1 rfl (lv_room (Nat.le_of_ble_eq_true rfl)) dX1_begin_19 ⟨Nat.le_of_ble_eq_true rfl, Nat.le_of_ble_eq_true rfl⟩) hS (by rw [hAe]; exact fun q h => inW_same (by rfl) h) (fun r9 u9 H locs h8 hP hS hk9 => ?_)
    have hP : va_P (dC, dI) vwCl (wM ad ca 1 gl gz go gw ((n : Int)) ((r : Int) + 1)) H := hP
    have hD : va_D A (wM ad ca 1 gl gz go gw ((n : Int)) ((r : Int) + 1)) := wD_same hD rfl
    subst h8
    refine r_if_eq hx hb dX1_begin_22 (tgt := 26) (by decide) (by omega) (fun hk9 => ?_) (fun hk9 => ?_)
    · exact absurd hk9 (by decide)
    · subst hAe
      refine W.widen (k := 0) (n := 0) (by decide) (by decide) ?_
      exact W.vret hx hb hr (fun t ht hW => ⟨⟨(1, gl, gz, go, gw, (n : Int), (r : Int) + 1), rfl, Or.inr ⟨by omega, rfl, ⟨hT, rfl, rfl⟩⟩, by subst ht; exact hP⟩, hS.F ht⟩) hS.2.2 dX1_begin_25
  · refine lv_iload_n hx hb dX1_begin_6 rfl (lv_at hl 1 rfl) ?_
    refine r_sipush hx hb dX1_begin_7 (by decide +kernel) ?_
    refine r_icmp_le hx hb dX1_begin_10 (tgt := 17) (by decide) (by omega) (by omega) (fun hin => ?_) (fun hout => ?_)
    · refine r_iconst hx hb dX1_begin_17 ?_
      refine r_iconst hx hb dX1_begin_18 ?_
      refine wc_i (va_runV (As := [.int (iI 0), .int (iI 1)]) (rest := []) ⟨hx, hb, hml, hown, hts⟩ (n_fails0 l dC dI ad ca er gl gz go gw ((n : Int)) ((r : Int) + 1) 1) (cwV 2 hts (gV wlX1_33 wo_X1_fails wz_X1_fails wi_2 wcX1_fails) rfl rfl rfl (by decide +kernel) ⟨Nat.le_of_ble_eq_true rfl, Nat.le_of_ble_eq_true rfl⟩) (PX_V (q0 := 0) (ci := 1) hP hK hD rfl rfl) rfl rfl hl.1 rfl (lv_room (Nat.le_of_ble_eq_true rfl)) dX1_begin_19 ⟨Nat.le_of_ble_eq_true rfl, Nat.le_of_ble_eq_true rfl⟩) hS (by rw [hAe]; exact fun q h => inW_same (by rfl) h) (fun r9 u9 H locs h8 hP hS hk9 => ?_)
      have hP : va_P (dC, dI) vwCl (wM ad ca 0 gl gz go gw ((n : Int)) ((r : Int) + 1)) H := hP
      have hD : va_D A (wM ad ca 0 gl gz go gw ((n : Int)) ((r : Int) + 1)) := wD_same hD rfl
      subst h8
      refine r_if_eq hx hb dX1_begin_22 (tgt := 26) (by decide) (by omega) (fun hk9 => ?_) (fun hk9 => ?_)
      · refine lv_aload_n hx hb dX1_begin_26 rfl (lv_at hl 0 rfl) ?_
        refine lv_iload_n hx hb dX1_begin_27 rfl (lv_at hl 1 rfl) ?_
        refine va_put (D := (dC, dI)) (ci := 1) (v := .int (iI q)) (ty := .int) (C := RX1) (T := TX1) (N := 7) hx hb hts hinTX1 tyX1 tyX1_ok nmX1 hown hK hP hD hS 0 rfl rfl 6 (by decide) fl23 (fun _ h9 => h9) rfl (by decide +kernel) rfl rfl (Nat.le_of_ble_eq_true rfl) dX1_begin_28 (fun H locs hP hD hS => ?_)
        have hP : va_P (dC, dI) vwCl (wM ad ca 0 gl gz go gw ((n : Int)) q) H := hP
        have hD : va_D A (wM ad ca 0 gl gz go gw ((n : Int)) q) := hD
        refine lv_aload_n hx hb dX1_begin_31 rfl (lv_at hl 0 rfl) ?_
        refine r_iconst hx hb dX1_begin_32 ?_
        refine va_put (D := (dC, dI)) (ci := 1) (v := .int (iI 0)) (ty := .int) (C := RX1) (T := TX1) (N := 7) hx hb hts hinTX1 tyX1 tyX1_ok nmX1 hown hK hP hD hS 0 rfl rfl 5 (by decide) fl30 (fun _ h9 => h9) rfl (by decide +kernel) rfl rfl (Nat.le_of_ble_eq_true rfl) dX1_begin_33 (fun H locs hP hD hS => ?_)
        have hP : va_P (dC, dI) vwCl (wM ad ca 0 gl gz go gw 0 q) H := hP
        have hD : va_D A (wM ad ca 0 gl gz go gw 0 q) := hD
        refine r_iconst hx hb dX1_begin_36 ?_
        refine lv_istore_n hx hb dX1_begin_37 rfl hl (by decide) rfl (fun ls hl => ?_)
        have hl : lv_has ls 3 [(2, .int (iI 0)), (0, .ref (ad 0)), (1, .int (iI q))] := hl
        have loop : ∀ (N : Nat) (k : Nat) (g1 : Nat → Int) (ls : Array Slot) (H : Heap) (locs : List Loc), 64 - k < N → (k ≤ 64) → (∀ j, j < k → g1 j = 0) → va_P (dC, dI) vwCl (wM ad ca 0 gl gz g1 gw 0 q) H → va_D A (wM ad ca 0 gl gz g1 gw 0 q) → va_S A s.heap H locs → lv_has ls 3 [(2, .int (iI ((k : Int)))), (0, .ref (ad 0)), (1, .int (iI q))] → W p l e (headSpec wsX1_begin { frames := 1, cells := 0, slots := 0, locals := 22 }).room s m ([.ref (ad 0), .int (iI q)]).toArray below meth c H locs ((0 + 0) + 0) ((0 + 0) + 0) (MQ below (va_Qv (fun (u : MU) => ((2 ≤ q ∧ q ≤ 1000) ∧ u.1 = 0 ∧ MS 0 L S (q - 1).toNat (fun _ => false) u) ∨ (¬ (2 ≤ q ∧ q ≤ 1000) ∧ u.1 = 1 ∧ MS n L S r lo u)) (fun u t => va_P (dC, dI) vwCl (wMu ad ca u) t.heap) (inW (wM ad ca er gl gz go gw ((n : Int)) ((r : Int) + 1)))) ([.ref (ad 0), .int (iI q)]).toArray s 0 0 (inW (wM ad ca er gl gz go gw ((n : Int)) ((r : Int) + 1)))) (F0 m 38 ls []) := by
          intro N
          induction N with
          | zero => intro k g1 ls H locs h; exact absurd h (Nat.not_lt_zero _)
          | succ N ih =>
            intro k g1 ls H locs hN hk h9 hP hD hS hl
            refine lv_iload_n hx hb dX1_begin_38 rfl (lv_at hl 0 rfl) ?_
            refine r_bipush hx hb dX1_begin_39 (by decide +kernel) ?_
            refine r_icmp_ge hx hb dX1_begin_41 (tgt := 57) (by decide) (by omega) (by omega) (fun hge2 => ?_) (fun hlt2 => ?_)
            · have hk0 : k = 64 := by omega
              subst hk0
              subst hAe
              refine W.widen (k := 0) (n := 0) (by decide) (by decide) ?_
              exact W.vret hx hb hr (fun t ht hW => ⟨⟨(0, gl, gz, g1, gw, 0, q), rfl, Or.inl ⟨by omega, rfl, ⟨fun d h => absurd h (Nat.not_lt_zero d), fun v hv => h9 v hv⟩, rfl, by show q = ((q - 1).toNat : Int) + 1; omega⟩, by subst ht; exact hP⟩, hS.F ht⟩) hS.2.2 dX1_begin_57
            · refine lv_aload_n hx hb dX1_begin_44 rfl (lv_at hl 1 rfl) ?_
              refine va_get (D := (dC, dI)) (ci := 1) (v := .ref (ad 3)) (C := RX1) (T := TX1) (N := 7) hx hb hts hinTX1 hown hK hP 0 rfl rfl 3 (by decide) fl16 (fun _ h9 => h9) rfl dX1_begin_45 ?_
              refine lv_iload_n hx hb dX1_begin_48 rfl (lv_at hl 0 rfl) ?_
              refine r_iconst hx hb dX1_begin_49 ?_
              refine r_zast hx hb hK hP hD hS 3 2 rfl rfl (by omega) (by omega) (by decide) (by omega) dX1_begin_50 (fun H locs hP hD hS => ?_)
              have hP : va_P (dC, dI) vwCl (wM ad ca 0 gl gz (uZ g1 ((k : Int)).toNat 0) gw 0 q) H := hP
              have hD : va_D A (wM ad ca 0 gl gz (uZ g1 ((k : Int)).toNat 0) gw 0 q) := hD
              refine r_iinc (k := 0) hx hb dX1_begin_51 hl rfl (by decide) rfl (fun ls hl => ?_)
              have hl : lv_has ls 3 [(2, .int (iI ((k : Int) + 1))), (0, .ref (ad 0)), (1, .int (iI q))] := hl
              refine lv_goto hx hb dX1_begin_54 (tgt := 38) (by decide) ?_
              have hl : lv_has ls 3 [(2, .int (iI ((k + 1 : Nat) : Int))), (0, .ref (ad 0)), (1, .int (iI q))] := by
                rw [show ((k + 1 : Nat) : Int) = (k : Int) + 1 by omega]
                exact hl
              exact ih (k + 1) (uZ g1 ((k : Int)).toNat 0) ls H locs (by omega) (by omega) (uZ_all h9) hP hD hS hl
        exact loop (65) 0 go ls H locs (by omega) (by omega) (fun j h => absurd h (Nat.not_lt_zero j)) hP hD hS hl
      · exact absurd hk9 (by decide)
    · refine r_iconst hx hb dX1_begin_13 ?_
      refine lv_goto hx hb dX1_begin_14 (tgt := 18) (by decide) ?_
      refine r_iconst hx hb dX1_begin_18 ?_
      refine wc_i (va_runV (As := [.int (iI 1), .int (iI 1)]) (rest := []) ⟨hx, hb, hml, hown, hts⟩ (n_fails1 l dC dI ad ca er gl gz go gw ((n : Int)) ((r : Int) + 1) 1) (cwV 2 hts (gV wlX1_33 wo_X1_fails wz_X1_fails wi_2 wcX1_fails) rfl rfl rfl (by decide +kernel) ⟨Nat.le_of_ble_eq_true rfl, Nat.le_of_ble_eq_true rfl⟩) (PX_V (q0 := 0) (ci := 1) hP hK hD rfl rfl) rfl rfl hl.1 rfl (lv_room (Nat.le_of_ble_eq_true rfl)) dX1_begin_19 ⟨Nat.le_of_ble_eq_true rfl, Nat.le_of_ble_eq_true rfl⟩) hS (by rw [hAe]; exact fun q h => inW_same (by rfl) h) (fun r9 u9 H locs h8 hP hS hk9 => ?_)
      have hP : va_P (dC, dI) vwCl (wM ad ca 1 gl gz go gw ((n : Int)) ((r : Int) + 1)) H := hP
      have hD : va_D A (wM ad ca 1 gl gz go gw ((n : Int)) ((r : Int) + 1)) := wD_same hD rfl
      subst h8
      refine r_if_eq hx hb dX1_begin_22 (tgt := 26) (by decide) (by omega) (fun hk9 => ?_) (fun hk9 => ?_)
      · exact absurd hk9 (by decide)
      · subst hAe
        refine W.widen (k := 0) (n := 0) (by decide) (by decide) ?_
        exact W.vret hx hb hr (fun t ht hW => ⟨⟨(1, gl, gz, go, gw, (n : Int), (r : Int) + 1), rfl, Or.inr ⟨by omega, rfl, ⟨hT, rfl, rfl⟩⟩, by subst ht; exact hP⟩, hS.F ht⟩) hS.2.2 dX1_begin_25
set_option maxHeartbeats 4000000 in
set_option maxRecDepth 100000 in
theorem n_drop (l : Launch) (dC : Nat → ClassId) (dI : Nat → Nat → Nat) (ad : Nat → Nat) (ca : Nat → ClassId) (er : Int) (gl gz go gw : Nat → Int) (n r : Nat) (L S : Nat → Nat) (lo : Nat → Bool) (hok : okS n L S r) (hT : tM n L S lo gl gz go) (q : Int) (hq : iR q) : Met l yX1_drop wsX1_drop { frames := 1, cells := 0, slots := 0, locals := 22 } (PX (dC, dI) vwCl (yM ca) (wM ad ca er gl gz go gw ((n : Int)) ((r : Int) + 1)) [.ref (ad 0), .int (iI q)]) (va_Qv (fun (u : MU) => ((0 ≤ q ∧ q ≤ (n : Int)) ∧ u.1 = 0 ∧ MS (n - q.toNat) L S r lo u) ∨ (¬ (0 ≤ q ∧ q ≤ (n : Int)) ∧ u.1 = 1 ∧ MS n L S r lo u)) (fun u t => va_P (dC, dI) vwCl (wMu ad ca u) t.heap) (inW (wM ad ca er gl gz go gw ((n : Int)) ((r : Int) + 1)))) 0 0 (inW (wM ad ca er gl gz go gw ((n : Int)) ((r : Int) + 1))) := by
  refine Met.ofW (cc := cX1_drop) (maxL := 2) (ret := none) (by decide) rfl ?_
  intro p e s m args below meth c s₁ B hml hv
  obtain ⟨rfl, hP, hK, hD0⟩ := hv
  have hx := B.exec
  have hb := B.bytes
  have hr := B.returns
  have hts := atoms_spec (ws := wsX1_drop) B.pre
  have hown : s.vm.findClass RX1 = some m.cls := findClass_of_methodNamed B.named
  have hlocks := B.notSynchronized
  have hw := fun w h => hts w (List.mem_cons_of_mem _ h)
  have hinTX1 : ∀ w ∈ u_ws RX1 TX1 7, w ∈ wsX1_drop := wA_u wuX1
  have fl30 := hw _ wfX1_30
  have hD := wD_own hD0
  obtain ⟨A, hAe⟩ : ∃ A, A = inW (wM ad ca er gl gz go gw ((n : Int)) ((r : Int) + 1)) := ⟨_, rfl⟩
  rw [← hAe] at hD
  obtain ⟨H, hH⟩ : ∃ H, H = s.heap := ⟨_, rfl⟩
  obtain ⟨locs, hlc⟩ : ∃ L : List Loc, L = [] := ⟨_, rfl⟩
  have hS : va_S A s.heap H locs := by rw [hH, hlc]; exact va_S.rf
  rw [← hH] at hP ⊢
  rw [← hlc]
  have hl := lv_entry ([.ref (ad 0), .int (iI q)]) (n := 2) (Nat.le_of_ble_eq_true rfl)
  rw [lg_entry_eq]
  generalize (lg_sl ([.ref (ad 0), .int (iI q)]) ++ List.replicate (2 - (lg_sl ([.ref (ad 0), .int (iI q)])).length) Slot.unset).toArray = ls at hl ⊢
  have hl : lv_has ls 2 [(0, .ref (ad 0)), (1, .int (iI q))] := hl
  obtain ⟨ok1, ok2, ok3, ok4, ok5⟩ := id hok
  refine lv_aload_n hx hb dX1_drop_0 rfl (lv_at hl 0 rfl) ?_
  refine lv_iload_n hx hb dX1_drop_1 rfl (lv_at hl 1 rfl) ?_
  refine r_if_lt hx hb dX1_drop_2 (tgt := 13) (by decide) (by omega) (fun hlt => ?_) (fun hge => ?_)
  · refine r_iconst hx hb dX1_drop_13 ?_
    refine lv_goto hx hb dX1_drop_14 (tgt := 18) (by decide) ?_
    refine r_iconst hx hb dX1_drop_18 ?_
    refine wc_i (va_runV (As := [.int (iI 1), .int (iI 1)]) (rest := []) ⟨hx, hb, hml, hown, hts⟩ (n_fails1 l dC dI ad ca er gl gz go gw ((n : Int)) ((r : Int) + 1) 1) (cwV 2 hts (gV wlX1_33 wo_X1_fails wz_X1_fails wi_2 wcX1_fails) rfl rfl rfl (by decide +kernel) ⟨Nat.le_of_ble_eq_true rfl, Nat.le_of_ble_eq_true rfl⟩) (PX_V (q0 := 0) (ci := 1) hP hK hD rfl rfl) rfl rfl hl.1 rfl (lv_room (Nat.le_of_ble_eq_true rfl)) dX1_drop_19 ⟨Nat.le_of_ble_eq_true rfl, Nat.le_of_ble_eq_true rfl⟩) hS (by rw [hAe]; exact fun q h => inW_same (by rfl) h) (fun r9 u9 H locs h8 hP hS hk9 => ?_)
    have hP : va_P (dC, dI) vwCl (wM ad ca 1 gl gz go gw ((n : Int)) ((r : Int) + 1)) H := hP
    have hD : va_D A (wM ad ca 1 gl gz go gw ((n : Int)) ((r : Int) + 1)) := wD_same hD rfl
    subst h8
    refine r_if_eq hx hb dX1_drop_22 (tgt := 26) (by decide) (by omega) (fun hk9 => ?_) (fun hk9 => ?_)
    · exact absurd hk9 (by decide)
    · subst hAe
      refine W.widen (k := 0) (n := 0) (by decide) (by decide) ?_
      exact W.vret hx hb hr (fun t ht hW => ⟨⟨(1, gl, gz, go, gw, (n : Int), (r : Int) + 1), rfl, Or.inr ⟨by omega, rfl, ⟨hT, rfl, rfl⟩⟩, by subst ht; exact hP⟩, hS.F ht⟩) hS.2.2 dX1_drop_25
  · refine lv_iload_n hx hb dX1_drop_5 rfl (lv_at hl 1 rfl) ?_
    refine lv_aload_n hx hb dX1_drop_6 rfl (lv_at hl 0 rfl) ?_
    refine va_get (D := (dC, dI)) (ci := 1) (v := .int (iI ((n : Int)))) (C := RX1) (T := TX1) (N := 7) hx hb hts hinTX1 hown hK hP 0 rfl rfl 5 (by decide) fl30 (fun _ h9 => h9) rfl dX1_drop_7 ?_
    refine r_icmp_le hx hb dX1_drop_10 (tgt := 17) (by decide) (by omega) (by omega) (fun hin => ?_) (fun hout => ?_)
    · refine r_iconst hx hb dX1_drop_17 ?_
      refine r_iconst hx hb dX1_drop_18 ?_
      refine wc_i (va_runV (As := [.int (iI 0), .int (iI 1)]) (rest := []) ⟨hx, hb, hml, hown, hts⟩ (n_fails0 l dC dI ad ca er gl gz go gw ((n : Int)) ((r : Int) + 1) 1) (cwV 2 hts (gV wlX1_33 wo_X1_fails wz_X1_fails wi_2 wcX1_fails) rfl rfl rfl (by decide +kernel) ⟨Nat.le_of_ble_eq_true rfl, Nat.le_of_ble_eq_true rfl⟩) (PX_V (q0 := 0) (ci := 1) hP hK hD rfl rfl) rfl rfl hl.1 rfl (lv_room (Nat.le_of_ble_eq_true rfl)) dX1_drop_19 ⟨Nat.le_of_ble_eq_true rfl, Nat.le_of_ble_eq_true rfl⟩) hS (by rw [hAe]; exact fun q h => inW_same (by rfl) h) (fun r9 u9 H locs h8 hP hS hk9 => ?_)
      have hP : va_P (dC, dI) vwCl (wM ad ca 0 gl gz go gw ((n : Int)) ((r : Int) + 1)) H := hP
      have hD : va_D A (wM ad ca 0 gl gz go gw ((n : Int)) ((r : Int) + 1)) := wD_same hD rfl
      subst h8
      refine r_if_eq hx hb dX1_drop_22 (tgt := 26) (by decide) (by omega) (fun hk9 => ?_) (fun hk9 => ?_)
      · refine lv_aload_n hx hb dX1_drop_26 rfl (lv_at hl 0 rfl) ?_
        refine lv_dup hx hb dX1_drop_27 rfl ?_
        refine va_get (D := (dC, dI)) (ci := 1) (v := .int (iI ((n : Int)))) (C := RX1) (T := TX1) (N := 7) hx hb hts hinTX1 hown hK hP 0 rfl rfl 5 (by decide) fl30 (fun _ h9 => h9) rfl dX1_drop_28 ?_
        refine lv_iload_n hx hb dX1_drop_31 rfl (lv_at hl 1 rfl) ?_
        refine r_isub hx hb dX1_drop_32 ?_
        refine va_put (D := (dC, dI)) (ci := 1) (v := .int (iI (((n : Int)) - q))) (ty := .int) (C := RX1) (T := TX1) (N := 7) hx hb hts hinTX1 tyX1 tyX1_ok nmX1 hown hK hP hD hS 0 rfl rfl 5 (by decide) fl30 (fun _ h9 => h9) rfl (by decide +kernel) rfl rfl (Nat.le_of_ble_eq_true rfl) dX1_drop_33 (fun H locs hP hD hS => ?_)
        have hP : va_P (dC, dI) vwCl (wM ad ca 0 gl gz go gw (((n : Int)) - q) ((r : Int) + 1)) H := hP
        have hD : va_D A (wM ad ca 0 gl gz go gw (((n : Int)) - q) ((r : Int) + 1)) := hD
        subst hAe
        refine W.widen (k := 0) (n := 0) (by decide) (by decide) ?_
        exact W.vret hx hb hr (fun t ht hW => ⟨⟨(0, gl, gz, go, gw, ((n : Int)) - q, (r : Int) + 1), rfl, Or.inl ⟨by omega, rfl, tM_drop (Nat.sub_le _ _) hT, by show (n : Int) - q = ((n - q.toNat : Nat) : Int); omega, rfl⟩, by subst ht; exact hP⟩, hS.F ht⟩) hS.2.2 dX1_drop_36
      · exact absurd hk9 (by decide)
    · refine r_iconst hx hb dX1_drop_13 ?_
      refine lv_goto hx hb dX1_drop_14 (tgt := 18) (by decide) ?_
      refine r_iconst hx hb dX1_drop_18 ?_
      refine wc_i (va_runV (As := [.int (iI 1), .int (iI 1)]) (rest := []) ⟨hx, hb, hml, hown, hts⟩ (n_fails1 l dC dI ad ca er gl gz go gw ((n : Int)) ((r : Int) + 1) 1) (cwV 2 hts (gV wlX1_33 wo_X1_fails wz_X1_fails wi_2 wcX1_fails) rfl rfl rfl (by decide +kernel) ⟨Nat.le_of_ble_eq_true rfl, Nat.le_of_ble_eq_true rfl⟩) (PX_V (q0 := 0) (ci := 1) hP hK hD rfl rfl) rfl rfl hl.1 rfl (lv_room (Nat.le_of_ble_eq_true rfl)) dX1_drop_19 ⟨Nat.le_of_ble_eq_true rfl, Nat.le_of_ble_eq_true rfl⟩) hS (by rw [hAe]; exact fun q h => inW_same (by rfl) h) (fun r9 u9 H locs h8 hP hS hk9 => ?_)
      have hP : va_P (dC, dI) vwCl (wM ad ca 1 gl gz go gw ((n : Int)) ((r : Int) + 1)) H := hP
      have hD : va_D A (wM ad ca 1 gl gz go gw ((n : Int)) ((r : Int) + 1)) := wD_same hD rfl
      subst h8
      refine r_if_eq hx hb dX1_drop_22 (tgt := 26) (by decide) (by omega) (fun hk9 => ?_) (fun hk9 => ?_)
      · exact absurd hk9 (by decide)
      · subst hAe
        refine W.widen (k := 0) (n := 0) (by decide) (by decide) ?_
        exact W.vret hx hb hr (fun t ht hW => ⟨⟨(1, gl, gz, go, gw, (n : Int), (r : Int) + 1), rfl, Or.inr ⟨by omega, rfl, ⟨hT, rfl, rfl⟩⟩, by subst ht; exact hP⟩, hS.F ht⟩) hS.2.2 dX1_drop_25
set_option maxHeartbeats 4000000 in
set_option maxRecDepth 100000 in
theorem n_dump (l : Launch) (dC : Nat → ClassId) (dI : Nat → Nat → Nat) (ad : Nat → Nat) (ca : Nat → ClassId) (er : Int) (gl gz go gw : Nat → Int) (n r : Nat) (L S : Nat → Nat) (lo : Nat → Bool) (hok : okS n L S r) (hT : tM n L S lo gl gz go) (v b : Int) (hv : iR v) (hb0 : iR b) : Met l yX1_dump wsX1_dump { frames := 1, cells := 0, slots := 0, locals := 23 } (PX (dC, dI) vwCl (yM ca) (wM ad ca er gl gz go gw ((n : Int)) ((r : Int) + 1)) [.ref (ad 0), .int (iI v), .int (iI b)]) (va_Qi (fun (y : Int32) (u : MU) => ((0 ≤ v ∧ v ≤ 9 ∧ 1 ≤ b ∧ b ≤ 500) ∧ (n < 300 ∧ (sm S n : Int) + b ≤ 64 * (r : Int)) ∧ u.1 = 0 ∧ y = iI (n : Int) ∧ MS (n + 1) (uN L n v.toNat) (uN S n b.toNat) r lo u) ∨ (¬ (0 ≤ v ∧ v ≤ 9 ∧ 1 ≤ b ∧ b ≤ 500) ∧ u.1 = 1 ∧ MS n L S r lo u) ∨ ((0 ≤ v ∧ v ≤ 9 ∧ 1 ≤ b ∧ b ≤ 500) ∧ ¬ (n < 300 ∧ (sm S n : Int) + b ≤ 64 * (r : Int)) ∧ u.1 = 2 ∧ MS n L S r lo u)) (fun u t => va_P (dC, dI) vwCl (wMu ad ca u) t.heap) (inW (wM ad ca er gl gz go gw ((n : Int)) ((r : Int) + 1)))) 0 0 (inW (wM ad ca er gl gz go gw ((n : Int)) ((r : Int) + 1))) := by
  refine Met.ofW (cc := cX1_dump) (maxL := 3) (ret := (some .int)) (by decide) rfl ?_
  intro p e s m args below meth c s₁ B hml hv
  obtain ⟨rfl, hP, hK, hD0⟩ := hv
  have hx := B.exec
  have hb := B.bytes
  have hr := B.returns
  have hts := atoms_spec (ws := wsX1_dump) B.pre
  have hown : s.vm.findClass RX1 = some m.cls := findClass_of_methodNamed B.named
  have hlocks := B.notSynchronized
  have hw := fun w h => hts w (List.mem_cons_of_mem _ h)
  have hinTX1 : ∀ w ∈ u_ws RX1 TX1 7, w ∈ wsX1_dump := wA_u wuX1
  have fl30 := hw _ wfX1_30
  have fl23 := hw _ wfX1_23
  have fl7 := hw _ wfX1_7
  have fl13 := hw _ wfX1_13
  have hD := wD_own hD0
  obtain ⟨A, hAe⟩ : ∃ A, A = inW (wM ad ca er gl gz go gw ((n : Int)) ((r : Int) + 1)) := ⟨_, rfl⟩
  rw [← hAe] at hD
  obtain ⟨H, hH⟩ : ∃ H, H = s.heap := ⟨_, rfl⟩
  obtain ⟨locs, hlc⟩ : ∃ L : List Loc, L = [] := ⟨_, rfl⟩
  have hS : va_S A s.heap H locs := by rw [hH, hlc]; exact va_S.rf
  rw [← hH] at hP ⊢
  rw [← hlc]
  have hl := lv_entry ([.ref (ad 0), .int (iI v), .int (iI b)]) (n := 3) (Nat.le_of_ble_eq_true rfl)
  rw [lg_entry_eq]
  generalize (lg_sl ([.ref (ad 0), .int (iI v), .int (iI b)]) ++ List.replicate (3 - (lg_sl ([.ref (ad 0), .int (iI v), .int (iI b)])).length) Slot.unset).toArray = ls at hl ⊢
  have hl : lv_has ls 3 [(0, .ref (ad 0)), (1, .int (iI v)), (2, .int (iI b))] := hl
  obtain ⟨ok1, ok2, ok3, ok4, ok5⟩ := id hok
  refine lv_aload_n hx hb dX1_dump_0 rfl (lv_at hl 0 rfl) ?_
  refine lv_iload_n hx hb dX1_dump_1 rfl (lv_at hl 1 rfl) ?_
  refine r_if_lt hx hb dX1_dump_2 (tgt := 23) (by decide) (by omega) (fun h1t => ?_) (fun h1f => ?_)
  · refine r_iconst hx hb dX1_dump_23 ?_
    refine lv_goto hx hb dX1_dump_24 (tgt := 28) (by decide) ?_
    refine r_iconst hx hb dX1_dump_28 ?_
    refine wc_i (va_runV (As := [.int (iI 1), .int (iI 1)]) (rest := []) ⟨hx, hb, hml, hown, hts⟩ (n_fails1 l dC dI ad ca er gl gz go gw ((n : Int)) ((r : Int) + 1) 1) (cwV 2 hts (gV wlX1_33 wo_X1_fails wz_X1_fails wi_2 wcX1_fails) rfl rfl rfl (by decide +kernel) ⟨Nat.le_of_ble_eq_true rfl, Nat.le_of_ble_eq_true rfl⟩) (PX_V (q0 := 0) (ci := 1) hP hK hD rfl rfl) rfl rfl hl.1 rfl (lv_room (Nat.le_of_ble_eq_true rfl)) dX1_dump_29 ⟨Nat.le_of_ble_eq_true rfl, Nat.le_of_ble_eq_true rfl⟩) hS (by rw [hAe]; exact fun q h => inW_same (by rfl) h) (fun r9 u9 H locs h8 hP hS hk9 => ?_)
    have hP : va_P (dC, dI) vwCl (wM ad ca 1 gl gz go gw ((n : Int)) ((r : Int) + 1)) H := hP
    have hD : va_D A (wM ad ca 1 gl gz go gw ((n : Int)) ((r : Int) + 1)) := wD_same hD rfl
    subst h8
    refine r_if_eq hx hb dX1_dump_32 (tgt := 37) (by decide) (by omega) (fun hk9 => ?_) (fun hk9 => ?_)
    · exact absurd hk9 (by decide)
    · refine r_iconst hx hb dX1_dump_35 ?_
      subst hAe
      refine W.widen (k := 0) (n := 0) (by decide) (by decide) ?_
      exact W.iret (v := iI 0) hx hb hr (fun t ht hW => ⟨⟨_, (1, gl, gz, go, gw, (n : Int), (r : Int) + 1), rfl, Or.inr (Or.inl ⟨by omega, rfl, ⟨hT, rfl, rfl⟩⟩), by subst ht; exact hP⟩, hS.F ht⟩) hS.2.2 dX1_dump_36
  · refine lv_iload_n hx hb dX1_dump_5 rfl (lv_at hl 1 rfl) ?_
    refine r_bipush hx hb dX1_dump_6 (by decide +kernel) ?_
    refine r_icmp_gt hx hb dX1_dump_8 (tgt := 23) (by decide) (by omega) (by omega) (fun h2t => ?_) (fun h2f => ?_)
    · refine r_iconst hx hb dX1_dump_23 ?_
      refine lv_goto hx hb dX1_dump_24 (tgt := 28) (by decide) ?_
      refine r_iconst hx hb dX1_dump_28 ?_
      refine wc_i (va_runV (As := [.int (iI 1), .int (iI 1)]) (rest := []) ⟨hx, hb, hml, hown, hts⟩ (n_fails1 l dC dI ad ca er gl gz go gw ((n : Int)) ((r : Int) + 1) 1) (cwV 2 hts (gV wlX1_33 wo_X1_fails wz_X1_fails wi_2 wcX1_fails) rfl rfl rfl (by decide +kernel) ⟨Nat.le_of_ble_eq_true rfl, Nat.le_of_ble_eq_true rfl⟩) (PX_V (q0 := 0) (ci := 1) hP hK hD rfl rfl) rfl rfl hl.1 rfl (lv_room (Nat.le_of_ble_eq_true rfl)) dX1_dump_29 ⟨Nat.le_of_ble_eq_true rfl, Nat.le_of_ble_eq_true rfl⟩) hS (by rw [hAe]; exact fun q h => inW_same (by rfl) h) (fun r9 u9 H locs h8 hP hS hk9 => ?_)
      have hP : va_P (dC, dI) vwCl (wM ad ca 1 gl gz go gw ((n : Int)) ((r : Int) + 1)) H := hP
      have hD : va_D A (wM ad ca 1 gl gz go gw ((n : Int)) ((r : Int) + 1)) := wD_same hD rfl
      subst h8
      refine r_if_eq hx hb dX1_dump_32 (tgt := 37) (by decide) (by omega) (fun hk9 => ?_) (fun hk9 => ?_)
      · exact absurd hk9 (by decide)
      · refine r_iconst hx hb dX1_dump_35 ?_
        subst hAe
        refine W.widen (k := 0) (n := 0) (by decide) (by decide) ?_
        exact W.iret (v := iI 0) hx hb hr (fun t ht hW => ⟨⟨_, (1, gl, gz, go, gw, (n : Int), (r : Int) + 1), rfl, Or.inr (Or.inl ⟨by omega, rfl, ⟨hT, rfl, rfl⟩⟩), by subst ht; exact hP⟩, hS.F ht⟩) hS.2.2 dX1_dump_36
    · refine lv_iload_n hx hb dX1_dump_11 rfl (lv_at hl 2 rfl) ?_
      refine r_iconst hx hb dX1_dump_12 ?_
      refine r_icmp_lt hx hb dX1_dump_13 (tgt := 23) (by decide) (by omega) (by omega) (fun h3t => ?_) (fun h3f => ?_)
      · refine r_iconst hx hb dX1_dump_23 ?_
        refine lv_goto hx hb dX1_dump_24 (tgt := 28) (by decide) ?_
        refine r_iconst hx hb dX1_dump_28 ?_
        refine wc_i (va_runV (As := [.int (iI 1), .int (iI 1)]) (rest := []) ⟨hx, hb, hml, hown, hts⟩ (n_fails1 l dC dI ad ca er gl gz go gw ((n : Int)) ((r : Int) + 1) 1) (cwV 2 hts (gV wlX1_33 wo_X1_fails wz_X1_fails wi_2 wcX1_fails) rfl rfl rfl (by decide +kernel) ⟨Nat.le_of_ble_eq_true rfl, Nat.le_of_ble_eq_true rfl⟩) (PX_V (q0 := 0) (ci := 1) hP hK hD rfl rfl) rfl rfl hl.1 rfl (lv_room (Nat.le_of_ble_eq_true rfl)) dX1_dump_29 ⟨Nat.le_of_ble_eq_true rfl, Nat.le_of_ble_eq_true rfl⟩) hS (by rw [hAe]; exact fun q h => inW_same (by rfl) h) (fun r9 u9 H locs h8 hP hS hk9 => ?_)
        have hP : va_P (dC, dI) vwCl (wM ad ca 1 gl gz go gw ((n : Int)) ((r : Int) + 1)) H := hP
        have hD : va_D A (wM ad ca 1 gl gz go gw ((n : Int)) ((r : Int) + 1)) := wD_same hD rfl
        subst h8
        refine r_if_eq hx hb dX1_dump_32 (tgt := 37) (by decide) (by omega) (fun hk9 => ?_) (fun hk9 => ?_)
        · exact absurd hk9 (by decide)
        · refine r_iconst hx hb dX1_dump_35 ?_
          subst hAe
          refine W.widen (k := 0) (n := 0) (by decide) (by decide) ?_
          exact W.iret (v := iI 0) hx hb hr (fun t ht hW => ⟨⟨_, (1, gl, gz, go, gw, (n : Int), (r : Int) + 1), rfl, Or.inr (Or.inl ⟨by omega, rfl, ⟨hT, rfl, rfl⟩⟩), by subst ht; exact hP⟩, hS.F ht⟩) hS.2.2 dX1_dump_36
      · refine lv_iload_n hx hb dX1_dump_16 rfl (lv_at hl 2 rfl) ?_
        refine r_sipush hx hb dX1_dump_17 (by decide +kernel) ?_
        refine r_icmp_le hx hb dX1_dump_20 (tgt := 27) (by decide) (by omega) (by omega) (fun h4t => ?_) (fun h4f => ?_)
        · refine r_iconst hx hb dX1_dump_27 ?_
          refine r_iconst hx hb dX1_dump_28 ?_
          refine wc_i (va_runV (As := [.int (iI 0), .int (iI 1)]) (rest := []) ⟨hx, hb, hml, hown, hts⟩ (n_fails0 l dC dI ad ca er gl gz go gw ((n : Int)) ((r : Int) + 1) 1) (cwV 2 hts (gV wlX1_33 wo_X1_fails wz_X1_fails wi_2 wcX1_fails) rfl rfl rfl (by decide +kernel) ⟨Nat.le_of_ble_eq_true rfl, Nat.le_of_ble_eq_true rfl⟩) (PX_V (q0 := 0) (ci := 1) hP hK hD rfl rfl) rfl rfl hl.1 rfl (lv_room (Nat.le_of_ble_eq_true rfl)) dX1_dump_29 ⟨Nat.le_of_ble_eq_true rfl, Nat.le_of_ble_eq_true rfl⟩) hS (by rw [hAe]; exact fun q h => inW_same (by rfl) h) (fun r9 u9 H locs h8 hP hS hk9 => ?_)
          have hP : va_P (dC, dI) vwCl (wM ad ca 0 gl gz go gw ((n : Int)) ((r : Int) + 1)) H := hP
          have hD : va_D A (wM ad ca 0 gl gz go gw ((n : Int)) ((r : Int) + 1)) := wD_same hD rfl
          subst h8
          refine r_if_eq hx hb dX1_dump_32 (tgt := 37) (by decide) (by omega) (fun hk9 => ?_) (fun hk9 => ?_)
          · refine lv_aload_n hx hb dX1_dump_37 rfl (lv_at hl 0 rfl) ?_
            refine lv_aload_n hx hb dX1_dump_38 rfl (lv_at hl 0 rfl) ?_
            refine va_get (D := (dC, dI)) (ci := 1) (v := .int (iI ((n : Int)))) (C := RX1) (T := TX1) (N := 7) hx hb hts hinTX1 hown hK hP 0 rfl rfl 5 (by decide) fl30 (fun _ h9 => h9) rfl dX1_dump_39 ?_
            refine r_sipush hx hb dX1_dump_42 (by decide +kernel) ?_
            refine r_icmp_eq hx hb dX1_dump_45 (tgt := 70) (by decide) (by omega) (by omega) (fun heq => ?_) (fun hne => ?_)
            · refine r_iconst hx hb dX1_dump_70 ?_
              refine lv_goto hx hb dX1_dump_71 (tgt := 75) (by decide) ?_
              refine r_iconst hx hb dX1_dump_75 ?_
              refine wc_i (va_runV (As := [.int (iI 1), .int (iI 2)]) (rest := []) ⟨hx, hb, hml, hown, hts⟩ (n_fails1 l dC dI ad ca 0 gl gz go gw ((n : Int)) ((r : Int) + 1) 2) (cwV 2 hts (gV wlX1_33 wo_X1_fails wz_X1_fails wi_2 wcX1_fails) rfl rfl rfl (by decide +kernel) ⟨Nat.le_of_ble_eq_true rfl, Nat.le_of_ble_eq_true rfl⟩) (PX_V (q0 := 0) (ci := 1) hP hK hD rfl rfl) rfl rfl hl.1 rfl (lv_room (Nat.le_of_ble_eq_true rfl)) dX1_dump_76 ⟨Nat.le_of_ble_eq_true rfl, Nat.le_of_ble_eq_true rfl⟩) hS (by rw [hAe]; exact fun q h => inW_same (by rfl) h) (fun r9 u9 H locs h8 hP hS hk9 => ?_)
              have hP : va_P (dC, dI) vwCl (wM ad ca 2 gl gz go gw ((n : Int)) ((r : Int) + 1)) H := hP
              have hD : va_D A (wM ad ca 2 gl gz go gw ((n : Int)) ((r : Int) + 1)) := wD_same hD rfl
              subst h8
              refine r_if_eq hx hb dX1_dump_79 (tgt := 84) (by decide) (by omega) (fun hk9 => ?_) (fun hk9 => ?_)
              · exact absurd hk9 (by decide)
              · refine r_iconst hx hb dX1_dump_82 ?_
                subst hAe
                refine W.widen (k := 0) (n := 0) (by decide) (by decide) ?_
                exact W.iret (v := iI 0) hx hb hr (fun t ht hW => ⟨⟨_, (2, gl, gz, go, gw, (n : Int), (r : Int) + 1), rfl, Or.inr (Or.inr ⟨by omega, by omega, rfl, ⟨hT, rfl, rfl⟩⟩), by subst ht; exact hP⟩, hS.F ht⟩) hS.2.2 dX1_dump_83
            · refine lv_aload_n hx hb dX1_dump_48 rfl (lv_at hl 0 rfl) ?_
              refine lv_aload_n hx hb dX1_dump_49 rfl (lv_at hl 0 rfl) ?_
              refine va_get (D := (dC, dI)) (ci := 1) (v := .int (iI ((n : Int)))) (C := RX1) (T := TX1) (N := 7) hx hb hts hinTX1 hown hK hP 0 rfl rfl 5 (by decide) fl30 (fun _ h9 => h9) rfl dX1_dump_50 ?_
              refine ro_z (z := (sm S n : Int)) (va_runV (As := [.int (iI ((n : Int)))]) (rest := [.ref (ad 0)]) ⟨hx, hb, hml, hown, hts⟩ (n_before l dC dI ad ca 0 gl gz go gw n r L S lo hok hT n (Nat.le_refl n)) (cwV 1 hts (gV wlX1_37 wo_X1_before wz_X1_before wi_2 wcX1_before) rfl rfl rfl (by decide +kernel) ⟨Nat.le_of_ble_eq_true rfl, Nat.le_of_ble_eq_true rfl⟩) (PX_V (q0 := 0) (ci := 1) hP hK hD rfl rfl) rfl rfl hl.1 rfl (lv_room (Nat.le_of_ble_eq_true rfl)) dX1_dump_53 ⟨Nat.le_of_ble_eq_true rfl, Nat.le_of_ble_eq_true rfl⟩) hS hP (fun H locs hP hS => ?_)
              refine lv_iload_n hx hb dX1_dump_56 rfl (lv_at hl 2 rfl) ?_
              refine r_iadd hx hb dX1_dump_57 ?_
              refine r_bipush hx hb dX1_dump_58 (by decide +kernel) ?_
              refine lv_aload_n hx hb dX1_dump_60 rfl (lv_at hl 0 rfl) ?_
              refine va_get (D := (dC, dI)) (ci := 1) (v := .int (iI ((r : Int) + 1))) (C := RX1) (T := TX1) (N := 7) hx hb hts hinTX1 hown hK hP 0 rfl rfl 6 (by decide) fl23 (fun _ h9 => h9) rfl dX1_dump_61 ?_
              refine r_iconst hx hb dX1_dump_64 ?_
              refine r_isub hx hb dX1_dump_65 ?_
              refine r_topi (b := (r : Int)) (by omega) ?_
              refine r_imul hx hb dX1_dump_66 ?_
              refine r_icmp_le hx hb dX1_dump_67 (tgt := 74) (by decide) (by omega) (by omega) (fun hin => ?_) (fun hout => ?_)
              · refine r_iconst hx hb dX1_dump_74 ?_
                refine r_iconst hx hb dX1_dump_75 ?_
                refine wc_i (va_runV (As := [.int (iI 0), .int (iI 2)]) (rest := []) ⟨hx, hb, hml, hown, hts⟩ (n_fails0 l dC dI ad ca 0 gl gz go gw ((n : Int)) ((r : Int) + 1) 2) (cwV 2 hts (gV wlX1_33 wo_X1_fails wz_X1_fails wi_2 wcX1_fails) rfl rfl rfl (by decide +kernel) ⟨Nat.le_of_ble_eq_true rfl, Nat.le_of_ble_eq_true rfl⟩) (PX_V (q0 := 0) (ci := 1) hP hK hD rfl rfl) rfl rfl hl.1 rfl (lv_room (Nat.le_of_ble_eq_true rfl)) dX1_dump_76 ⟨Nat.le_of_ble_eq_true rfl, Nat.le_of_ble_eq_true rfl⟩) hS (by rw [hAe]; exact fun q h => inW_same (by rfl) h) (fun r9 u9 H locs h8 hP hS hk9 => ?_)
                have hP : va_P (dC, dI) vwCl (wM ad ca 0 gl gz go gw ((n : Int)) ((r : Int) + 1)) H := hP
                have hD : va_D A (wM ad ca 0 gl gz go gw ((n : Int)) ((r : Int) + 1)) := wD_same hD rfl
                subst h8
                refine r_if_eq hx hb dX1_dump_79 (tgt := 84) (by decide) (by omega) (fun hk9 => ?_) (fun hk9 => ?_)
                · have ev : v = (v.toNat : Int) := by omega
                  have eb : b = (b.toNat : Int) := by omega
                  have en : ((n : Int)).toNat = n := by omega
                  refine lv_aload_n hx hb dX1_dump_84 rfl (lv_at hl 0 rfl) ?_
                  refine va_get (D := (dC, dI)) (ci := 1) (v := .ref (ad 1)) (C := RX1) (T := TX1) (N := 7) hx hb hts hinTX1 hown hK hP 0 rfl rfl 1 (by decide) fl7 (fun _ h9 => h9) rfl dX1_dump_85 ?_
                  refine lv_aload_n hx hb dX1_dump_88 rfl (lv_at hl 0 rfl) ?_
                  refine va_get (D := (dC, dI)) (ci := 1) (v := .int (iI ((n : Int)))) (C := RX1) (T := TX1) (N := 7) hx hb hts hinTX1 hown hK hP 0 rfl rfl 5 (by decide) fl30 (fun _ h9 => h9) rfl dX1_dump_89 ?_
                  refine lv_iload_n hx hb dX1_dump_92 rfl (lv_at hl 1 rfl) ?_
                  refine r_iast hx hb hK hP hD hS 1 0 rfl rfl (by omega) (by omega) (by decide) dX1_dump_93 (fun H locs hP hD hS => ?_)
                  have hP : va_P (dC, dI) vwCl (wM ad ca 0 (uZ gl ((n : Int)).toNat v) gz go gw ((n : Int)) ((r : Int) + 1)) H := hP
                  have hD : va_D A (wM ad ca 0 (uZ gl ((n : Int)).toNat v) gz go gw ((n : Int)) ((r : Int) + 1)) := hD
                  refine lv_aload_n hx hb dX1_dump_94 rfl (lv_at hl 0 rfl) ?_
                  refine va_get (D := (dC, dI)) (ci := 1) (v := .ref (ad 2)) (C := RX1) (T := TX1) (N := 7) hx hb hts hinTX1 hown hK hP 0 rfl rfl 2 (by decide) fl13 (fun _ h9 => h9) rfl dX1_dump_95 ?_
                  refine lv_aload_n hx hb dX1_dump_98 rfl (lv_at hl 0 rfl) ?_
                  refine lv_dup hx hb dX1_dump_99 rfl ?_
                  refine va_get (D := (dC, dI)) (ci := 1) (v := .int (iI ((n : Int)))) (C := RX1) (T := TX1) (N := 7) hx hb hts hinTX1 hown hK hP 0 rfl rfl 5 (by decide) fl30 (fun _ h9 => h9) rfl dX1_dump_100 ?_
                  refine lv_dup_x1 hx hb dX1_dump_103 rfl rfl ?_
                  refine r_iconst hx hb dX1_dump_104 ?_
                  refine r_iadd hx hb dX1_dump_105 ?_
                  refine va_put (D := (dC, dI)) (ci := 1) (v := .int (iI (((n : Int)) + 1))) (ty := .int) (C := RX1) (T := TX1) (N := 7) hx hb hts hinTX1 tyX1 tyX1_ok nmX1 hown hK hP hD hS 0 rfl rfl 5 (by decide) fl30 (fun _ h9 => h9) rfl (by decide +kernel) rfl rfl (Nat.le_of_ble_eq_true rfl) dX1_dump_106 (fun H locs hP hD hS => ?_)
                  have hP : va_P (dC, dI) vwCl (wM ad ca 0 (uZ gl ((n : Int)).toNat v) gz go gw (((n : Int)) + 1) ((r : Int) + 1)) H := hP
                  have hD : va_D A (wM ad ca 0 (uZ gl ((n : Int)).toNat v) gz go gw (((n : Int)) + 1) ((r : Int) + 1)) := hD
                  refine lv_iload_n hx hb dX1_dump_109 rfl (lv_at hl 2 rfl) ?_
                  refine r_iast hx hb hK hP hD hS 2 1 rfl rfl (by omega) (by omega) (by decide) dX1_dump_110 (fun H locs hP hD hS => ?_)
                  have hP : va_P (dC, dI) vwCl (wM ad ca 0 (uZ gl ((n : Int)).toNat v) (uZ gz ((n : Int)).toNat b) go gw (((n : Int)) + 1) ((r : Int) + 1)) H := hP
                  have hD : va_D A (wM ad ca 0 (uZ gl ((n : Int)).toNat v) (uZ gz ((n : Int)).toNat b) go gw (((n : Int)) + 1) ((r : Int) + 1)) := hD
                  refine lv_aload_n hx hb dX1_dump_111 rfl (lv_at hl 0 rfl) ?_
                  refine va_get (D := (dC, dI)) (ci := 1) (v := .int (iI (((n : Int)) + 1))) (C := RX1) (T := TX1) (N := 7) hx hb hts hinTX1 hown hK hP 0 rfl rfl 5 (by decide) fl30 (fun _ h9 => h9) rfl dX1_dump_112 ?_
                  refine r_iconst hx hb dX1_dump_115 ?_
                  refine r_isub hx hb dX1_dump_116 ?_
                  have hTn : tM (n + 1) (uN L n v.toNat) (uN S n b.toNat) lo (uZ gl ((n : Int)).toNat v) (uZ gz ((n : Int)).toNat b) go := by
                    have h := tM_push (lv := v.toNat) (b := b.toNat) hT
                    rw [← ev, ← eb] at h
                    exact h
                  refine r_topi (b := (n : Int)) (by omega) ?_
                  subst hAe
                  refine W.widen (k := 0) (n := 0) (by decide) (by decide) ?_
                  exact W.iret (v := iI ((n : Int))) hx hb hr (fun t ht hW => ⟨⟨_, (0, uZ gl ((n : Int)).toNat v, uZ gz ((n : Int)).toNat b, go, gw, ((n : Int)) + 1, (r : Int) + 1), rfl, Or.inl ⟨by omega, by omega, rfl, rfl, hTn, rfl, rfl⟩, by subst ht; exact hP⟩, hS.F ht⟩) hS.2.2 dX1_dump_117
                · exact absurd hk9 (by decide)
              · refine r_iconst hx hb dX1_dump_70 ?_
                refine lv_goto hx hb dX1_dump_71 (tgt := 75) (by decide) ?_
                refine r_iconst hx hb dX1_dump_75 ?_
                refine wc_i (va_runV (As := [.int (iI 1), .int (iI 2)]) (rest := []) ⟨hx, hb, hml, hown, hts⟩ (n_fails1 l dC dI ad ca 0 gl gz go gw ((n : Int)) ((r : Int) + 1) 2) (cwV 2 hts (gV wlX1_33 wo_X1_fails wz_X1_fails wi_2 wcX1_fails) rfl rfl rfl (by decide +kernel) ⟨Nat.le_of_ble_eq_true rfl, Nat.le_of_ble_eq_true rfl⟩) (PX_V (q0 := 0) (ci := 1) hP hK hD rfl rfl) rfl rfl hl.1 rfl (lv_room (Nat.le_of_ble_eq_true rfl)) dX1_dump_76 ⟨Nat.le_of_ble_eq_true rfl, Nat.le_of_ble_eq_true rfl⟩) hS (by rw [hAe]; exact fun q h => inW_same (by rfl) h) (fun r9 u9 H locs h8 hP hS hk9 => ?_)
                have hP : va_P (dC, dI) vwCl (wM ad ca 2 gl gz go gw ((n : Int)) ((r : Int) + 1)) H := hP
                have hD : va_D A (wM ad ca 2 gl gz go gw ((n : Int)) ((r : Int) + 1)) := wD_same hD rfl
                subst h8
                refine r_if_eq hx hb dX1_dump_79 (tgt := 84) (by decide) (by omega) (fun hk9 => ?_) (fun hk9 => ?_)
                · exact absurd hk9 (by decide)
                · refine r_iconst hx hb dX1_dump_82 ?_
                  subst hAe
                  refine W.widen (k := 0) (n := 0) (by decide) (by decide) ?_
                  exact W.iret (v := iI 0) hx hb hr (fun t ht hW => ⟨⟨_, (2, gl, gz, go, gw, (n : Int), (r : Int) + 1), rfl, Or.inr (Or.inr ⟨by omega, by omega, rfl, ⟨hT, rfl, rfl⟩⟩), by subst ht; exact hP⟩, hS.F ht⟩) hS.2.2 dX1_dump_83
          · exact absurd hk9 (by decide)
        · refine r_iconst hx hb dX1_dump_23 ?_
          refine lv_goto hx hb dX1_dump_24 (tgt := 28) (by decide) ?_
          refine r_iconst hx hb dX1_dump_28 ?_
          refine wc_i (va_runV (As := [.int (iI 1), .int (iI 1)]) (rest := []) ⟨hx, hb, hml, hown, hts⟩ (n_fails1 l dC dI ad ca er gl gz go gw ((n : Int)) ((r : Int) + 1) 1) (cwV 2 hts (gV wlX1_33 wo_X1_fails wz_X1_fails wi_2 wcX1_fails) rfl rfl rfl (by decide +kernel) ⟨Nat.le_of_ble_eq_true rfl, Nat.le_of_ble_eq_true rfl⟩) (PX_V (q0 := 0) (ci := 1) hP hK hD rfl rfl) rfl rfl hl.1 rfl (lv_room (Nat.le_of_ble_eq_true rfl)) dX1_dump_29 ⟨Nat.le_of_ble_eq_true rfl, Nat.le_of_ble_eq_true rfl⟩) hS (by rw [hAe]; exact fun q h => inW_same (by rfl) h) (fun r9 u9 H locs h8 hP hS hk9 => ?_)
          have hP : va_P (dC, dI) vwCl (wM ad ca 1 gl gz go gw ((n : Int)) ((r : Int) + 1)) H := hP
          have hD : va_D A (wM ad ca 1 gl gz go gw ((n : Int)) ((r : Int) + 1)) := wD_same hD rfl
          subst h8
          refine r_if_eq hx hb dX1_dump_32 (tgt := 37) (by decide) (by omega) (fun hk9 => ?_) (fun hk9 => ?_)
          · exact absurd hk9 (by decide)
          · refine r_iconst hx hb dX1_dump_35 ?_
            subst hAe
            refine W.widen (k := 0) (n := 0) (by decide) (by decide) ?_
            exact W.iret (v := iI 0) hx hb hr (fun t ht hW => ⟨⟨_, (1, gl, gz, go, gw, (n : Int), (r : Int) + 1), rfl, Or.inr (Or.inl ⟨by omega, rfl, ⟨hT, rfl, rfl⟩⟩), by subst ht; exact hP⟩, hS.F ht⟩) hS.2.2 dX1_dump_36
set_option maxHeartbeats 4000000 in
set_option maxRecDepth 100000 in
theorem n_chain (l : Launch) (dC : Nat → ClassId) (dI : Nat → Nat → Nat) (ad : Nat → Nat) (ca : Nat → ClassId) (er : Int) (gl gz go gw : Nat → Int) (n r : Nat) (L S : Nat → Nat) (lo : Nat → Bool) (hok : okS n L S r) (hT : tM n L S lo gl gz go) (q k : Int) (hq : iR q) (hk0 : iR k) : Met l yX1_chain wsX1_chain { frames := 1, cells := 0, slots := 0, locals := 22 } (PX (dC, dI) vwCl (yM ca) (wM ad ca er gl gz go gw ((n : Int)) ((r : Int) + 1)) [.ref (ad 0), .int (iI q), .int (iI k)]) (va_Qi (fun (y : Int32) (u : MU) => MS n L S r lo u ∧ (((0 ≤ q ∧ q < (n : Int)) ∧ 0 ≤ k ∧ u.1 = 0 ∧ y = iI ((ch L (q.toNat + 1) k.toNat : Int) - 1)) ∨ (¬ (0 ≤ q ∧ q < (n : Int)) ∧ u.1 = 1) ∨ ((0 ≤ q ∧ q < (n : Int)) ∧ ¬ 0 ≤ k ∧ u.1 = 2))) (fun u t => va_P (dC, dI) vwCl (wMu ad ca u) t.heap) (inW (wM ad ca er gl gz go gw ((n : Int)) ((r : Int) + 1)))) 0 0 (inW (wM ad ca er gl gz go gw ((n : Int)) ((r : Int) + 1))) := by
  refine Met.ofW (cc := cX1_chain) (maxL := 5) (ret := (some .int)) (by decide) rfl ?_
  intro p e s m args below meth c s₁ B hml hv
  obtain ⟨rfl, hP, hK, hD0⟩ := hv
  have hx := B.exec
  have hb := B.bytes
  have hr := B.returns
  have hts := atoms_spec (ws := wsX1_chain) B.pre
  have hown : s.vm.findClass RX1 = some m.cls := findClass_of_methodNamed B.named
  have hlocks := B.notSynchronized
  have hw := fun w h => hts w (List.mem_cons_of_mem _ h)
  have hinTX1 : ∀ w ∈ u_ws RX1 TX1 7, w ∈ wsX1_chain := wA_u wuX1
  have hD := wD_own hD0
  obtain ⟨A, hAe⟩ : ∃ A, A = inW (wM ad ca er gl gz go gw ((n : Int)) ((r : Int) + 1)) := ⟨_, rfl⟩
  rw [← hAe] at hD
  obtain ⟨H, hH⟩ : ∃ H, H = s.heap := ⟨_, rfl⟩
  obtain ⟨locs, hlc⟩ : ∃ L : List Loc, L = [] := ⟨_, rfl⟩
  have hS : va_S A s.heap H locs := by rw [hH, hlc]; exact va_S.rf
  rw [← hH] at hP ⊢
  rw [← hlc]
  have hl := lv_entry ([.ref (ad 0), .int (iI q), .int (iI k)]) (n := 5) (Nat.le_of_ble_eq_true rfl)
  rw [lg_entry_eq]
  generalize (lg_sl ([.ref (ad 0), .int (iI q), .int (iI k)]) ++ List.replicate (5 - (lg_sl ([.ref (ad 0), .int (iI q), .int (iI k)])).length) Slot.unset).toArray = ls at hl ⊢
  have hl : lv_has ls 5 [(0, .ref (ad 0)), (1, .int (iI q)), (2, .int (iI k))] := hl
  obtain ⟨ok1, ok2, ok3, ok4, ok5⟩ := id hok
  refine lv_aload_n hx hb dX1_chain_0 rfl (lv_at hl 0 rfl) ?_
  refine lv_aload_n hx hb dX1_chain_1 rfl (lv_at hl 0 rfl) ?_
  refine lv_iload_n hx hb dX1_chain_2 rfl (lv_at hl 1 rfl) ?_
  refine ro_z (z := if 0 ≤ q ∧ q < (n : Int) then 0 else 1) (va_runV (As := [.int (iI q)]) (rest := [.ref (ad 0)]) ⟨hx, hb, hml, hown, hts⟩ (n_none l dC dI ad ca er gl gz go gw n ((r : Int) + 1) q hq ok1) (cwV 1 hts (gV wlX1_41 wo_X1_none wz_X1_none wi_2 wcX1_none) rfl rfl rfl (by decide +kernel) ⟨Nat.le_of_ble_eq_true rfl, Nat.le_of_ble_eq_true rfl⟩) (PX_V (q0 := 0) (ci := 1) hP hK hD rfl rfl) rfl rfl hl.1 rfl (lv_room (Nat.le_of_ble_eq_true rfl)) dX1_chain_3 ⟨Nat.le_of_ble_eq_true rfl, Nat.le_of_ble_eq_true rfl⟩) hS hP (fun H locs hP hS => ?_)
  by_cases hc : 0 ≤ q ∧ q < (n : Int)
  · refine r_topi (b := 0) (if_pos hc) ?_
    refine r_iconst hx hb dX1_chain_6 ?_
    refine wc_i (va_runV (As := [.int (iI 0), .int (iI 1)]) (rest := []) ⟨hx, hb, hml, hown, hts⟩ (n_fails0 l dC dI ad ca er gl gz go gw ((n : Int)) ((r : Int) + 1) 1) (cwV 2 hts (gV wlX1_33 wo_X1_fails wz_X1_fails wi_2 wcX1_fails) rfl rfl rfl (by decide +kernel) ⟨Nat.le_of_ble_eq_true rfl, Nat.le_of_ble_eq_true rfl⟩) (PX_V (q0 := 0) (ci := 1) hP hK hD rfl rfl) rfl rfl hl.1 rfl (lv_room (Nat.le_of_ble_eq_true rfl)) dX1_chain_7 ⟨Nat.le_of_ble_eq_true rfl, Nat.le_of_ble_eq_true rfl⟩) hS (by rw [hAe]; exact fun q h => inW_same (by rfl) h) (fun r9 u9 H locs h8 hP hS hk9 => ?_)
    have hP : va_P (dC, dI) vwCl (wM ad ca 0 gl gz go gw ((n : Int)) ((r : Int) + 1)) H := hP
    have hD : va_D A (wM ad ca 0 gl gz go gw ((n : Int)) ((r : Int) + 1)) := wD_same hD rfl
    subst h8
    refine r_if_eq hx hb dX1_chain_10 (tgt := 15) (by decide) (by omega) (fun hk9 => ?_) (fun hk9 => ?_)
    · refine lv_aload_n hx hb dX1_chain_15 rfl (lv_at hl 0 rfl) ?_
      refine lv_iload_n hx hb dX1_chain_16 rfl (lv_at hl 2 rfl) ?_
      refine r_if_ge hx hb dX1_chain_17 (tgt := 24) (by decide) (by omega) (fun hge => ?_) (fun hlt => ?_)
      · refine r_iconst hx hb dX1_chain_24 ?_
        refine r_iconst hx hb dX1_chain_25 ?_
        refine wc_i (va_runV (As := [.int (iI 0), .int (iI 2)]) (rest := []) ⟨hx, hb, hml, hown, hts⟩ (n_fails0 l dC dI ad ca 0 gl gz go gw ((n : Int)) ((r : Int) + 1) 2) (cwV 2 hts (gV wlX1_33 wo_X1_fails wz_X1_fails wi_2 wcX1_fails) rfl rfl rfl (by decide +kernel) ⟨Nat.le_of_ble_eq_true rfl, Nat.le_of_ble_eq_true rfl⟩) (PX_V (q0 := 0) (ci := 1) hP hK hD rfl rfl) rfl rfl hl.1 rfl (lv_room (Nat.le_of_ble_eq_true rfl)) dX1_chain_26 ⟨Nat.le_of_ble_eq_true rfl, Nat.le_of_ble_eq_true rfl⟩) hS (by rw [hAe]; exact fun q h => inW_same (by rfl) h) (fun r9 u9 H locs h8 hP hS hk9 => ?_)
        have hP : va_P (dC, dI) vwCl (wM ad ca 0 gl gz go gw ((n : Int)) ((r : Int) + 1)) H := hP
        have hD : va_D A (wM ad ca 0 gl gz go gw ((n : Int)) ((r : Int) + 1)) := wD_same hD rfl
        subst h8
        refine r_if_eq hx hb dX1_chain_29 (tgt := 34) (by decide) (by omega) (fun hk9 => ?_) (fun hk9 => ?_)
        · have hl : lv_has ls 5 [(0, .ref (ad 0)), (1, .int (iI ((q.toNat : Int)))), (2, .int (iI k))] := by
            rw [Int.toNat_of_nonneg hc.1]
            exact hl
          refine lv_iload_n hx hb dX1_chain_34 rfl (lv_at hl 1 rfl) ?_
          refine lv_istore_n hx hb dX1_chain_35 rfl hl (by decide) rfl (fun ls hl => ?_)
          have hl : lv_has ls 5 [(3, .int (iI ((q.toNat : Int)))), (0, .ref (ad 0)), (1, .int (iI ((q.toNat : Int)))), (2, .int (iI k))] := hl
          refine r_iconst hx hb dX1_chain_36 ?_
          refine lv_istore hx hb dX1_chain_37 hl (by decide) rfl (fun ls hl => ?_)
          have hl : lv_has ls 5 [(4, .int (iI 0)), (3, .int (iI ((q.toNat : Int)))), (0, .ref (ad 0)), (1, .int (iI ((q.toNat : Int)))), (2, .int (iI k))] := hl
          have loop : ∀ (N : Nat) (i : Nat) (p9 : Nat) (ls : Array Slot) (H : Heap) (locs : List Loc), p9 < N → (i ≤ k.toNat) → (p9 = ch L (q.toNat + 1) i) → va_P (dC, dI) vwCl (wM ad ca 0 gl gz go gw ((n : Int)) ((r : Int) + 1)) H → va_D A (wM ad ca 0 gl gz go gw ((n : Int)) ((r : Int) + 1)) → va_S A s.heap H locs → lv_has ls 5 [(4, .int (iI ((i : Int)))), (3, .int (iI ((p9 : Int) - 1))), (0, .ref (ad 0)), (1, .int (iI ((q.toNat : Int)))), (2, .int (iI k))] → W p l e (headSpec wsX1_chain { frames := 1, cells := 0, slots := 0, locals := 22 }).room s m ([.ref (ad 0), .int (iI q), .int (iI k)]).toArray below meth c H locs ((0 + 0) + 0) ((0 + 0) + 0) (MQ below (va_Qi (fun (y : Int32) (u : MU) => MS n L S r lo u ∧ (((0 ≤ q ∧ q < (n : Int)) ∧ 0 ≤ k ∧ u.1 = 0 ∧ y = iI ((ch L (q.toNat + 1) k.toNat : Int) - 1)) ∨ (¬ (0 ≤ q ∧ q < (n : Int)) ∧ u.1 = 1) ∨ ((0 ≤ q ∧ q < (n : Int)) ∧ ¬ 0 ≤ k ∧ u.1 = 2))) (fun u t => va_P (dC, dI) vwCl (wMu ad ca u) t.heap) (inW (wM ad ca er gl gz go gw ((n : Int)) ((r : Int) + 1)))) ([.ref (ad 0), .int (iI q), .int (iI k)]).toArray s 0 0 (inW (wM ad ca er gl gz go gw ((n : Int)) ((r : Int) + 1)))) (F0 m 39 ls []) := by
            intro N
            induction N with
            | zero => intro i p9 ls H locs h; exact absurd h (Nat.not_lt_zero _)
            | succ N ih =>
              intro i p9 ls H locs hN hi hp hP hD hS hl
              refine lv_iload hx hb dX1_chain_39 (lv_at hl 0 rfl) ?_
              refine lv_iload_n hx hb dX1_chain_41 rfl (lv_at hl 4 rfl) ?_
              refine r_icmp_ge hx hb dX1_chain_42 (tgt := 61) (by decide) (by omega) (by omega) (fun hge2 => ?_) (fun hlt2 => ?_)
              · have hik : i = k.toNat := by omega
                subst hik
                refine lv_iload_n hx hb dX1_chain_61 rfl (lv_at hl 1 rfl) ?_
                subst hAe
                refine W.widen (k := 0) (n := 0) (by decide) (by decide) ?_
                exact W.iret (v := iI ((p9 : Int) - 1)) hx hb hr (fun t ht hW => ⟨⟨_, (0, gl, gz, go, gw, (n : Int), (r : Int) + 1), rfl, ⟨⟨hT, rfl, rfl⟩, Or.inl ⟨hc, hge, rfl, by rw [hp]⟩⟩, by subst ht; exact hP⟩, hS.F ht⟩) hS.2.2 dX1_chain_62
              · have hpl := ch_le L (q.toNat + 1) i
                refine lv_iload_n hx hb dX1_chain_45 rfl (lv_at hl 1 rfl) ?_
                refine r_if_lt hx hb dX1_chain_46 (tgt := 61) (by decide) (by omega) (fun heq => ?_) (fun hne => ?_)
                · have hp0 : p9 = 0 := by omega
                  have hz := ch_0 (hp.symm.trans hp0) k.toNat (by omega)
                  refine lv_iload_n hx hb dX1_chain_61 rfl (lv_at hl 1 rfl) ?_
                  subst hAe
                  refine W.widen (k := 0) (n := 0) (by decide) (by decide) ?_
                  exact W.iret (v := iI ((p9 : Int) - 1)) hx hb hr (fun t ht hW => ⟨⟨_, (0, gl, gz, go, gw, (n : Int), (r : Int) + 1), rfl, ⟨⟨hT, rfl, rfl⟩, Or.inl ⟨hc, hge, rfl, by rw [hz, hp0]⟩⟩, by subst ht; exact hP⟩, hS.F ht⟩) hS.2.2 dX1_chain_62
                · obtain ⟨j, hj⟩ : ∃ j, p9 = j + 1 := ⟨p9 - 1, by omega⟩
                  have hbl := bs_le L j
                  refine lv_aload_n hx hb dX1_chain_49 rfl (lv_at hl 2 rfl) ?_
                  refine lv_iload_n hx hb dX1_chain_50 rfl (lv_at hl 1 rfl) ?_
                  refine r_topi (b := (j : Int)) (by omega) ?_
                  refine ro_z (z := (bs L j : Int) - 1) (va_runV (As := [.int (iI ((j : Int)))]) (rest := []) ⟨hx, hb, hml, hown, hts⟩ (n_base l dC dI ad ca 0 gl gz go gw n r L S lo hok hT j (by omega)) (cwV 1 hts (gV wlX1_45 wo_X1_base wz_X1_base wi_2 wcX1_base) rfl rfl rfl (by decide +kernel) ⟨Nat.le_of_ble_eq_true rfl, Nat.le_of_ble_eq_true rfl⟩) (PX_V (q0 := 0) (ci := 1) hP hK hD rfl rfl) rfl rfl hl.1 rfl (lv_room (Nat.le_of_ble_eq_true rfl)) dX1_chain_51 ⟨Nat.le_of_ble_eq_true rfl, Nat.le_of_ble_eq_true rfl⟩) hS hP (fun H locs hP hS => ?_)
                  refine lv_istore_n hx hb dX1_chain_54 rfl hl (by decide) rfl (fun ls hl => ?_)
                  have hl : lv_has ls 5 [(3, .int (iI ((bs L j : Int) - 1))), (4, .int (iI ((i : Int)))), (0, .ref (ad 0)), (1, .int (iI ((q.toNat : Int)))), (2, .int (iI k))] := hl
                  refine r_iinc (k := 1) hx hb dX1_chain_55 hl rfl (by decide) rfl (fun ls hl => ?_)
                  have hl : lv_has ls 5 [(4, .int (iI ((i : Int) + 1))), (3, .int (iI ((bs L j : Int) - 1))), (0, .ref (ad 0)), (1, .int (iI ((q.toNat : Int)))), (2, .int (iI k))] := hl
                  refine lv_goto hx hb dX1_chain_58 (tgt := 39) (by decide) ?_
                  have hl : lv_has ls 5 [(4, .int (iI ((i + 1 : Nat) : Int))), (3, .int (iI ((bs L j : Int) - 1))), (0, .ref (ad 0)), (1, .int (iI (q.toNat : Int))), (2, .int (iI k))] := by
                    rw [show ((i + 1 : Nat) : Int) = (i : Int) + 1 by omega]
                    exact hl
                  exact ih (i + 1) (bs L j) ls H locs (by omega) (by omega) (by show bs L j = nx L (ch L (q.toNat + 1) i); rw [← hp, hj]; rfl) hP hD hS hl
          have hl : lv_has ls 5 [(4, .int (iI ((0 : Nat) : Int))), (3, .int (iI (((q.toNat + 1 : Nat) : Int) - 1))), (0, .ref (ad 0)), (1, .int (iI (q.toNat : Int))), (2, .int (iI k))] := by
            rw [show ((q.toNat + 1 : Nat) : Int) - 1 = (q.toNat : Int) by omega]
            exact hl
          exact loop (q.toNat + 2) 0 (q.toNat + 1) ls H locs (by omega) (Nat.zero_le _) rfl hP hD hS hl
        · exact absurd hk9 (by decide)
      · refine r_iconst hx hb dX1_chain_20 ?_
        refine lv_goto hx hb dX1_chain_21 (tgt := 25) (by decide) ?_
        refine r_iconst hx hb dX1_chain_25 ?_
        refine wc_i (va_runV (As := [.int (iI 1), .int (iI 2)]) (rest := []) ⟨hx, hb, hml, hown, hts⟩ (n_fails1 l dC dI ad ca 0 gl gz go gw ((n : Int)) ((r : Int) + 1) 2) (cwV 2 hts (gV wlX1_33 wo_X1_fails wz_X1_fails wi_2 wcX1_fails) rfl rfl rfl (by decide +kernel) ⟨Nat.le_of_ble_eq_true rfl, Nat.le_of_ble_eq_true rfl⟩) (PX_V (q0 := 0) (ci := 1) hP hK hD rfl rfl) rfl rfl hl.1 rfl (lv_room (Nat.le_of_ble_eq_true rfl)) dX1_chain_26 ⟨Nat.le_of_ble_eq_true rfl, Nat.le_of_ble_eq_true rfl⟩) hS (by rw [hAe]; exact fun q h => inW_same (by rfl) h) (fun r9 u9 H locs h8 hP hS hk9 => ?_)
        have hP : va_P (dC, dI) vwCl (wM ad ca 2 gl gz go gw ((n : Int)) ((r : Int) + 1)) H := hP
        have hD : va_D A (wM ad ca 2 gl gz go gw ((n : Int)) ((r : Int) + 1)) := wD_same hD rfl
        subst h8
        refine r_if_eq hx hb dX1_chain_29 (tgt := 34) (by decide) (by omega) (fun hk9 => ?_) (fun hk9 => ?_)
        · exact absurd hk9 (by decide)
        · refine r_iconst hx hb dX1_chain_32 ?_
          subst hAe
          refine W.widen (k := 0) (n := 0) (by decide) (by decide) ?_
          exact W.iret (v := iI 0) hx hb hr (fun t ht hW => ⟨⟨_, (2, gl, gz, go, gw, (n : Int), (r : Int) + 1), rfl, ⟨⟨hT, rfl, rfl⟩, Or.inr (Or.inr ⟨hc, by omega, rfl⟩)⟩, by subst ht; exact hP⟩, hS.F ht⟩) hS.2.2 dX1_chain_33
    · exact absurd hk9 (by decide)
  · refine r_topi (b := 1) (if_neg hc) ?_
    refine r_iconst hx hb dX1_chain_6 ?_
    refine wc_i (va_runV (As := [.int (iI 1), .int (iI 1)]) (rest := []) ⟨hx, hb, hml, hown, hts⟩ (n_fails1 l dC dI ad ca er gl gz go gw ((n : Int)) ((r : Int) + 1) 1) (cwV 2 hts (gV wlX1_33 wo_X1_fails wz_X1_fails wi_2 wcX1_fails) rfl rfl rfl (by decide +kernel) ⟨Nat.le_of_ble_eq_true rfl, Nat.le_of_ble_eq_true rfl⟩) (PX_V (q0 := 0) (ci := 1) hP hK hD rfl rfl) rfl rfl hl.1 rfl (lv_room (Nat.le_of_ble_eq_true rfl)) dX1_chain_7 ⟨Nat.le_of_ble_eq_true rfl, Nat.le_of_ble_eq_true rfl⟩) hS (by rw [hAe]; exact fun q h => inW_same (by rfl) h) (fun r9 u9 H locs h8 hP hS hk9 => ?_)
    have hP : va_P (dC, dI) vwCl (wM ad ca 1 gl gz go gw ((n : Int)) ((r : Int) + 1)) H := hP
    have hD : va_D A (wM ad ca 1 gl gz go gw ((n : Int)) ((r : Int) + 1)) := wD_same hD rfl
    subst h8
    refine r_if_eq hx hb dX1_chain_10 (tgt := 15) (by decide) (by omega) (fun hk9 => ?_) (fun hk9 => ?_)
    · exact absurd hk9 (by decide)
    · refine r_iconst hx hb dX1_chain_13 ?_
      subst hAe
      refine W.widen (k := 0) (n := 0) (by decide) (by decide) ?_
      exact W.iret (v := iI 0) hx hb hr (fun t ht hW => ⟨⟨_, (1, gl, gz, go, gw, (n : Int), (r : Int) + 1), rfl, ⟨⟨hT, rfl, rfl⟩, Or.inr (Or.inl ⟨hc, rfl⟩)⟩, by subst ht; exact hP⟩, hS.F ht⟩) hS.2.2 dX1_chain_14
set_option maxHeartbeats 4000000 in
set_option maxRecDepth 100000 in
theorem n_depth (l : Launch) (dC : Nat → ClassId) (dI : Nat → Nat → Nat) (ad : Nat → Nat) (ca : Nat → ClassId) (er : Int) (gl gz go gw : Nat → Int) (n r : Nat) (L S : Nat → Nat) (lo : Nat → Bool) (hok : okS n L S r) (hT : tM n L S lo gl gz go) (q : Int) (hq : iR q) : Met l yX1_depth wsX1_depth { frames := 2, cells := 0, slots := 0, locals := 45 } (PX (dC, dI) vwCl (yM ca) (wM ad ca er gl gz go gw ((n : Int)) ((r : Int) + 1)) [.ref (ad 0), .int (iI q)]) (va_Qi (fun (y : Int32) (u : MU) => MS n L S r lo u ∧ (((0 ≤ q ∧ q < (n : Int)) ∧ u.1 = 0 ∧ y = iI (dp L (q.toNat + 1) : Int)) ∨ (¬ (0 ≤ q ∧ q < (n : Int)) ∧ u.1 = 1))) (fun u t => va_P (dC, dI) vwCl (wMu ad ca u) t.heap) (inW (wM ad ca er gl gz go gw ((n : Int)) ((r : Int) + 1)))) 0 0 (inW (wM ad ca er gl gz go gw ((n : Int)) ((r : Int) + 1))) := by
  refine Met.ofW (cc := cX1_depth) (maxL := 2) (ret := (some .int)) (by decide) rfl ?_
  intro p e s m args below meth c s₁ B hml hv
  obtain ⟨rfl, hP, hK, hD0⟩ := hv
  have hx := B.exec
  have hb := B.bytes
  have hr := B.returns
  have hts := atoms_spec (ws := wsX1_depth) B.pre
  have hown : s.vm.findClass RX1 = some m.cls := findClass_of_methodNamed B.named
  have hlocks := B.notSynchronized
  have hw := fun w h => hts w (List.mem_cons_of_mem _ h)
  have hinTX1 : ∀ w ∈ u_ws RX1 TX1 7, w ∈ wsX1_depth := wA_u wuX1
  have hD := wD_own hD0
  obtain ⟨A, hAe⟩ : ∃ A, A = inW (wM ad ca er gl gz go gw ((n : Int)) ((r : Int) + 1)) := ⟨_, rfl⟩
  rw [← hAe] at hD
  obtain ⟨H, hH⟩ : ∃ H, H = s.heap := ⟨_, rfl⟩
  obtain ⟨locs, hlc⟩ : ∃ L : List Loc, L = [] := ⟨_, rfl⟩
  have hS : va_S A s.heap H locs := by rw [hH, hlc]; exact va_S.rf
  rw [← hH] at hP ⊢
  rw [← hlc]
  have hl := lv_entry ([.ref (ad 0), .int (iI q)]) (n := 2) (Nat.le_of_ble_eq_true rfl)
  rw [lg_entry_eq]
  generalize (lg_sl ([.ref (ad 0), .int (iI q)]) ++ List.replicate (2 - (lg_sl ([.ref (ad 0), .int (iI q)])).length) Slot.unset).toArray = ls at hl ⊢
  have hl : lv_has ls 2 [(0, .ref (ad 0)), (1, .int (iI q))] := hl
  obtain ⟨ok1, ok2, ok3, ok4, ok5⟩ := id hok
  refine lv_aload_n hx hb dX1_depth_0 rfl (lv_at hl 0 rfl) ?_
  refine lv_aload_n hx hb dX1_depth_1 rfl (lv_at hl 0 rfl) ?_
  refine lv_iload_n hx hb dX1_depth_2 rfl (lv_at hl 1 rfl) ?_
  refine ro_z (z := if 0 ≤ q ∧ q < (n : Int) then 0 else 1) (va_runV (As := [.int (iI q)]) (rest := [.ref (ad 0)]) ⟨hx, hb, hml, hown, hts⟩ (n_none l dC dI ad ca er gl gz go gw n ((r : Int) + 1) q hq ok1) (cwV 1 hts (gV wlX1_41 wo_X1_none wz_X1_none wi_2 wcX1_none) rfl rfl rfl (by decide +kernel) ⟨Nat.le_of_ble_eq_true rfl, Nat.le_of_ble_eq_true rfl⟩) (PX_V (q0 := 0) (ci := 1) hP hK hD rfl rfl) rfl rfl hl.1 rfl (lv_room (Nat.le_of_ble_eq_true rfl)) dX1_depth_3 ⟨Nat.le_of_ble_eq_true rfl, Nat.le_of_ble_eq_true rfl⟩) hS hP (fun H locs hP hS => ?_)
  by_cases hc : 0 ≤ q ∧ q < (n : Int)
  · refine r_topi (b := 0) (if_pos hc) ?_
    refine r_iconst hx hb dX1_depth_6 ?_
    refine wc_i (va_runV (As := [.int (iI 0), .int (iI 1)]) (rest := []) ⟨hx, hb, hml, hown, hts⟩ (n_fails0 l dC dI ad ca er gl gz go gw ((n : Int)) ((r : Int) + 1) 1) (cwV 2 hts (gV wlX1_33 wo_X1_fails wz_X1_fails wi_2 wcX1_fails) rfl rfl rfl (by decide +kernel) ⟨Nat.le_of_ble_eq_true rfl, Nat.le_of_ble_eq_true rfl⟩) (PX_V (q0 := 0) (ci := 1) hP hK hD rfl rfl) rfl rfl hl.1 rfl (lv_room (Nat.le_of_ble_eq_true rfl)) dX1_depth_7 ⟨Nat.le_of_ble_eq_true rfl, Nat.le_of_ble_eq_true rfl⟩) hS (by rw [hAe]; exact fun q h => inW_same (by rfl) h) (fun r9 u9 H locs h8 hP hS hk9 => ?_)
    have hP : va_P (dC, dI) vwCl (wM ad ca 0 gl gz go gw ((n : Int)) ((r : Int) + 1)) H := hP
    have hD : va_D A (wM ad ca 0 gl gz go gw ((n : Int)) ((r : Int) + 1)) := wD_same hD rfl
    subst h8
    refine r_if_eq hx hb dX1_depth_10 (tgt := 17) (by decide) (by omega) (fun hk9 => ?_) (fun hk9 => ?_)
    · refine lv_aload_n hx hb dX1_depth_17 rfl (lv_at hl 0 rfl) ?_
      refine lv_iload_n hx hb dX1_depth_18 rfl (lv_at hl 1 rfl) ?_
      refine r_topi (b := (q.toNat : Int)) (by omega) ?_
      refine ro_z (z := (dp L (q.toNat + 1) : Int)) (va_runV (As := [.int (iI ((q.toNat : Int)))]) (rest := []) ⟨hx, hb, hml, hown, hts⟩ (n_depthOf l dC dI ad ca 0 gl gz go gw n r L S lo hok hT q.toNat (by omega)) (cwV 1 hts (gV wlX1_48 wo_X1_depthOf wz_X1_depthOf wi_2 wcX1_depthOf) rfl rfl rfl (by decide +kernel) ⟨Nat.le_of_ble_eq_true rfl, Nat.le_of_ble_eq_true rfl⟩) (PX_V (q0 := 0) (ci := 1) hP hK hD rfl rfl) rfl rfl hl.1 rfl (lv_room (Nat.le_of_ble_eq_true rfl)) dX1_depth_19 ⟨Nat.le_of_ble_eq_true rfl, Nat.le_of_ble_eq_true rfl⟩) hS hP (fun H locs hP hS => ?_)
      subst hAe
      refine W.widen (k := 0) (n := 0) (by decide) (by decide) ?_
      exact W.iret (v := iI ((dp L (q.toNat + 1) : Int))) hx hb hr (fun t ht hW => ⟨⟨_, (0, gl, gz, go, gw, (n : Int), (r : Int) + 1), rfl, ⟨⟨hT, rfl, rfl⟩, Or.inl ⟨hc, rfl, rfl⟩⟩, by subst ht; exact hP⟩, hS.F ht⟩) hS.2.2 dX1_depth_22
    · exact absurd hk9 (by decide)
  · refine r_topi (b := 1) (if_neg hc) ?_
    refine r_iconst hx hb dX1_depth_6 ?_
    refine wc_i (va_runV (As := [.int (iI 1), .int (iI 1)]) (rest := []) ⟨hx, hb, hml, hown, hts⟩ (n_fails1 l dC dI ad ca er gl gz go gw ((n : Int)) ((r : Int) + 1) 1) (cwV 2 hts (gV wlX1_33 wo_X1_fails wz_X1_fails wi_2 wcX1_fails) rfl rfl rfl (by decide +kernel) ⟨Nat.le_of_ble_eq_true rfl, Nat.le_of_ble_eq_true rfl⟩) (PX_V (q0 := 0) (ci := 1) hP hK hD rfl rfl) rfl rfl hl.1 rfl (lv_room (Nat.le_of_ble_eq_true rfl)) dX1_depth_7 ⟨Nat.le_of_ble_eq_true rfl, Nat.le_of_ble_eq_true rfl⟩) hS (by rw [hAe]; exact fun q h => inW_same (by rfl) h) (fun r9 u9 H locs h8 hP hS hk9 => ?_)
    have hP : va_P (dC, dI) vwCl (wM ad ca 1 gl gz go gw ((n : Int)) ((r : Int) + 1)) H := hP
    have hD : va_D A (wM ad ca 1 gl gz go gw ((n : Int)) ((r : Int) + 1)) := wD_same hD rfl
    subst h8
    refine r_if_eq hx hb dX1_depth_10 (tgt := 17) (by decide) (by omega) (fun hk9 => ?_) (fun hk9 => ?_)
    · exact absurd hk9 (by decide)
    · refine r_iconst hx hb dX1_depth_13 ?_
      refine lv_goto hx hb dX1_depth_14 (tgt := 22) (by decide) ?_
      subst hAe
      refine W.widen (k := 0) (n := 0) (by decide) (by decide) ?_
      exact W.iret (v := iI 0) hx hb hr (fun t ht hW => ⟨⟨_, (1, gl, gz, go, gw, (n : Int), (r : Int) + 1), rfl, ⟨⟨hT, rfl, rfl⟩, Or.inr ⟨hc, rfl⟩⟩, by subst ht; exact hP⟩, hS.F ht⟩) hS.2.2 dX1_depth_22
set_option maxHeartbeats 4000000 in
set_option maxRecDepth 100000 in
theorem n_place (l : Launch) (dC : Nat → ClassId) (dI : Nat → Nat → Nat) (ad : Nat → Nat) (ca : Nat → ClassId) (er : Int) (gl gz go gw : Nat → Int) (n r : Nat) (L S : Nat → Nat) (lo : Nat → Bool) (hok : okS n L S r) (hT : tM n L S lo gl gz go) (q k : Int) (hq : iR q) (hk0 : iR k) : Met l yX1_place wsX1_place { frames := 1, cells := 0, slots := 0, locals := 23 } (PX (dC, dI) vwCl (yM ca) (wM ad ca er gl gz go gw ((n : Int)) ((r : Int) + 1)) [.ref (ad 0), .int (iI q), .int (iI k)]) (va_Qi (fun (y : Int32) (u : MU) => MS n L S r lo u ∧ (((0 ≤ q ∧ q < (n : Int)) ∧ (0 ≤ k ∧ k < (S q.toNat : Int)) ∧ u.1 = 0 ∧ y = iI (1000 * (((sm S q.toNat : Int) + k) / (r : Int)) + 1 + ((sm S q.toNat : Int) + k) % (r : Int))) ∨ (¬ (0 ≤ q ∧ q < (n : Int)) ∧ u.1 = 1) ∨ ((0 ≤ q ∧ q < (n : Int)) ∧ ¬ (0 ≤ k ∧ k < (S q.toNat : Int)) ∧ u.1 = 2))) (fun u t => va_P (dC, dI) vwCl (wMu ad ca u) t.heap) (inW (wM ad ca er gl gz go gw ((n : Int)) ((r : Int) + 1)))) 0 0 (inW (wM ad ca er gl gz go gw ((n : Int)) ((r : Int) + 1))) := by
  refine Met.ofW (cc := cX1_place) (maxL := 4) (ret := (some .int)) (by decide) rfl ?_
  intro p e s m args below meth c s₁ B hml hv
  obtain ⟨rfl, hP, hK, hD0⟩ := hv
  have hx := B.exec
  have hb := B.bytes
  have hr := B.returns
  have hts := atoms_spec (ws := wsX1_place) B.pre
  have hown : s.vm.findClass RX1 = some m.cls := findClass_of_methodNamed B.named
  have hlocks := B.notSynchronized
  have hw := fun w h => hts w (List.mem_cons_of_mem _ h)
  have hinTX1 : ∀ w ∈ u_ws RX1 TX1 7, w ∈ wsX1_place := wA_u wuX1
  have fl13 := hw _ wfX1_13
  have fl23 := hw _ wfX1_23
  have hD := wD_own hD0
  obtain ⟨A, hAe⟩ : ∃ A, A = inW (wM ad ca er gl gz go gw ((n : Int)) ((r : Int) + 1)) := ⟨_, rfl⟩
  rw [← hAe] at hD
  obtain ⟨H, hH⟩ : ∃ H, H = s.heap := ⟨_, rfl⟩
  obtain ⟨locs, hlc⟩ : ∃ L : List Loc, L = [] := ⟨_, rfl⟩
  have hS : va_S A s.heap H locs := by rw [hH, hlc]; exact va_S.rf
  rw [← hH] at hP ⊢
  rw [← hlc]
  have hl := lv_entry ([.ref (ad 0), .int (iI q), .int (iI k)]) (n := 4) (Nat.le_of_ble_eq_true rfl)
  rw [lg_entry_eq]
  generalize (lg_sl ([.ref (ad 0), .int (iI q), .int (iI k)]) ++ List.replicate (4 - (lg_sl ([.ref (ad 0), .int (iI q), .int (iI k)])).length) Slot.unset).toArray = ls at hl ⊢
  have hl : lv_has ls 4 [(0, .ref (ad 0)), (1, .int (iI q)), (2, .int (iI k))] := hl
  obtain ⟨ok1, ok2, ok3, ok4, ok5⟩ := id hok
  refine lv_aload_n hx hb dX1_place_0 rfl (lv_at hl 0 rfl) ?_
  refine lv_aload_n hx hb dX1_place_1 rfl (lv_at hl 0 rfl) ?_
  refine lv_iload_n hx hb dX1_place_2 rfl (lv_at hl 1 rfl) ?_
  refine ro_z (z := if 0 ≤ q ∧ q < (n : Int) then 0 else 1) (va_runV (As := [.int (iI q)]) (rest := [.ref (ad 0)]) ⟨hx, hb, hml, hown, hts⟩ (n_none l dC dI ad ca er gl gz go gw n ((r : Int) + 1) q hq ok1) (cwV 1 hts (gV wlX1_41 wo_X1_none wz_X1_none wi_2 wcX1_none) rfl rfl rfl (by decide +kernel) ⟨Nat.le_of_ble_eq_true rfl, Nat.le_of_ble_eq_true rfl⟩) (PX_V (q0 := 0) (ci := 1) hP hK hD rfl rfl) rfl rfl hl.1 rfl (lv_room (Nat.le_of_ble_eq_true rfl)) dX1_place_3 ⟨Nat.le_of_ble_eq_true rfl, Nat.le_of_ble_eq_true rfl⟩) hS hP (fun H locs hP hS => ?_)
  by_cases hc : 0 ≤ q ∧ q < (n : Int)
  · refine r_topi (b := 0) (if_pos hc) ?_
    refine r_iconst hx hb dX1_place_6 ?_
    refine wc_i (va_runV (As := [.int (iI 0), .int (iI 1)]) (rest := []) ⟨hx, hb, hml, hown, hts⟩ (n_fails0 l dC dI ad ca er gl gz go gw ((n : Int)) ((r : Int) + 1) 1) (cwV 2 hts (gV wlX1_33 wo_X1_fails wz_X1_fails wi_2 wcX1_fails) rfl rfl rfl (by decide +kernel) ⟨Nat.le_of_ble_eq_true rfl, Nat.le_of_ble_eq_true rfl⟩) (PX_V (q0 := 0) (ci := 1) hP hK hD rfl rfl) rfl rfl hl.1 rfl (lv_room (Nat.le_of_ble_eq_true rfl)) dX1_place_7 ⟨Nat.le_of_ble_eq_true rfl, Nat.le_of_ble_eq_true rfl⟩) hS (by rw [hAe]; exact fun q h => inW_same (by rfl) h) (fun r9 u9 H locs h8 hP hS hk9 => ?_)
    have hP : va_P (dC, dI) vwCl (wM ad ca 0 gl gz go gw ((n : Int)) ((r : Int) + 1)) H := hP
    have hD : va_D A (wM ad ca 0 gl gz go gw ((n : Int)) ((r : Int) + 1)) := wD_same hD rfl
    subst h8
    refine r_if_eq hx hb dX1_place_10 (tgt := 15) (by decide) (by omega) (fun hk9 => ?_) (fun hk9 => ?_)
    · obtain ⟨-, t2⟩ := hT.1 q.toNat (by omega)
      obtain ⟨-, hs1, hs2⟩ := ok4 q.toNat (by omega)
      have hsm : sm S (q.toNat + 1) = sm S q.toNat + S q.toNat := rfl
      have hsl : sm S (q.toNat + 1) ≤ sm S n := sm_mono (by omega)
      refine lv_aload_n hx hb dX1_place_15 rfl (lv_at hl 0 rfl) ?_
      refine lv_iload_n hx hb dX1_place_16 rfl (lv_at hl 2 rfl) ?_
      refine r_if_lt hx hb dX1_place_17 (tgt := 30) (by decide) (by omega) (fun hlt => ?_) (fun hge => ?_)
      · refine r_iconst hx hb dX1_place_30 ?_
        refine lv_goto hx hb dX1_place_31 (tgt := 35) (by decide) ?_
        refine r_iconst hx hb dX1_place_35 ?_
        refine wc_i (va_runV (As := [.int (iI 1), .int (iI 2)]) (rest := []) ⟨hx, hb, hml, hown, hts⟩ (n_fails1 l dC dI ad ca 0 gl gz go gw ((n : Int)) ((r : Int) + 1) 2) (cwV 2 hts (gV wlX1_33 wo_X1_fails wz_X1_fails wi_2 wcX1_fails) rfl rfl rfl (by decide +kernel) ⟨Nat.le_of_ble_eq_true rfl, Nat.le_of_ble_eq_true rfl⟩) (PX_V (q0 := 0) (ci := 1) hP hK hD rfl rfl) rfl rfl hl.1 rfl (lv_room (Nat.le_of_ble_eq_true rfl)) dX1_place_36 ⟨Nat.le_of_ble_eq_true rfl, Nat.le_of_ble_eq_true rfl⟩) hS (by rw [hAe]; exact fun q h => inW_same (by rfl) h) (fun r9 u9 H locs h8 hP hS hk9 => ?_)
        have hP : va_P (dC, dI) vwCl (wM ad ca 2 gl gz go gw ((n : Int)) ((r : Int) + 1)) H := hP
        have hD : va_D A (wM ad ca 2 gl gz go gw ((n : Int)) ((r : Int) + 1)) := wD_same hD rfl
        subst h8
        refine r_if_eq hx hb dX1_place_39 (tgt := 44) (by decide) (by omega) (fun hk9 => ?_) (fun hk9 => ?_)
        · exact absurd hk9 (by decide)
        · refine r_iconst hx hb dX1_place_42 ?_
          subst hAe
          refine W.widen (k := 0) (n := 0) (by decide) (by decide) ?_
          exact W.iret (v := iI 0) hx hb hr (fun t ht hW => ⟨⟨_, (2, gl, gz, go, gw, (n : Int), (r : Int) + 1), rfl, ⟨⟨hT, rfl, rfl⟩, Or.inr (Or.inr ⟨hc, by omega, rfl⟩)⟩, by subst ht; exact hP⟩, hS.F ht⟩) hS.2.2 dX1_place_43
      · refine lv_iload_n hx hb dX1_place_20 rfl (lv_at hl 2 rfl) ?_
        refine lv_aload_n hx hb dX1_place_21 rfl (lv_at hl 0 rfl) ?_
        refine va_get (D := (dC, dI)) (ci := 1) (v := .ref (ad 2)) (C := RX1) (T := TX1) (N := 7) hx hb hts hinTX1 hown hK hP 0 rfl rfl 2 (by decide) fl13 (fun _ h9 => h9) rfl dX1_place_22 ?_
        refine lv_iload_n hx hb dX1_place_25 rfl (lv_at hl 1 rfl) ?_
        refine r_iald hx hb hK hP 2 1 rfl rfl (by omega) (by omega) (by decide) dX1_place_26 ?_
        refine r_topi (b := (S q.toNat : Int)) (t2) ?_
        refine r_icmp_lt hx hb dX1_place_27 (tgt := 34) (by decide) (by omega) (by omega) (fun hin => ?_) (fun hout => ?_)
        · refine r_iconst hx hb dX1_place_34 ?_
          refine r_iconst hx hb dX1_place_35 ?_
          refine wc_i (va_runV (As := [.int (iI 0), .int (iI 2)]) (rest := []) ⟨hx, hb, hml, hown, hts⟩ (n_fails0 l dC dI ad ca 0 gl gz go gw ((n : Int)) ((r : Int) + 1) 2) (cwV 2 hts (gV wlX1_33 wo_X1_fails wz_X1_fails wi_2 wcX1_fails) rfl rfl rfl (by decide +kernel) ⟨Nat.le_of_ble_eq_true rfl, Nat.le_of_ble_eq_true rfl⟩) (PX_V (q0 := 0) (ci := 1) hP hK hD rfl rfl) rfl rfl hl.1 rfl (lv_room (Nat.le_of_ble_eq_true rfl)) dX1_place_36 ⟨Nat.le_of_ble_eq_true rfl, Nat.le_of_ble_eq_true rfl⟩) hS (by rw [hAe]; exact fun q h => inW_same (by rfl) h) (fun r9 u9 H locs h8 hP hS hk9 => ?_)
          have hP : va_P (dC, dI) vwCl (wM ad ca 0 gl gz go gw ((n : Int)) ((r : Int) + 1)) H := hP
          have hD : va_D A (wM ad ca 0 gl gz go gw ((n : Int)) ((r : Int) + 1)) := wD_same hD rfl
          subst h8
          refine r_if_eq hx hb dX1_place_39 (tgt := 44) (by decide) (by omega) (fun hk9 => ?_) (fun hk9 => ?_)
          · refine lv_aload_n hx hb dX1_place_44 rfl (lv_at hl 0 rfl) ?_
            refine lv_iload_n hx hb dX1_place_45 rfl (lv_at hl 1 rfl) ?_
            refine r_topi (b := (q.toNat : Int)) (by omega) ?_
            refine ro_z (z := (sm S q.toNat : Int)) (va_runV (As := [.int (iI ((q.toNat : Int)))]) (rest := []) ⟨hx, hb, hml, hown, hts⟩ (n_before l dC dI ad ca 0 gl gz go gw n r L S lo hok hT q.toNat (by omega)) (cwV 1 hts (gV wlX1_37 wo_X1_before wz_X1_before wi_2 wcX1_before) rfl rfl rfl (by decide +kernel) ⟨Nat.le_of_ble_eq_true rfl, Nat.le_of_ble_eq_true rfl⟩) (PX_V (q0 := 0) (ci := 1) hP hK hD rfl rfl) rfl rfl hl.1 rfl (lv_room (Nat.le_of_ble_eq_true rfl)) dX1_place_46 ⟨Nat.le_of_ble_eq_true rfl, Nat.le_of_ble_eq_true rfl⟩) hS hP (fun H locs hP hS => ?_)
            refine lv_iload_n hx hb dX1_place_49 rfl (lv_at hl 2 rfl) ?_
            refine r_iadd hx hb dX1_place_50 ?_
            refine lv_istore_n hx hb dX1_place_51 rfl hl (by decide) rfl (fun ls hl => ?_)
            have hl : lv_has ls 4 [(3, .int (iI (((sm S q.toNat : Int)) + k))), (0, .ref (ad 0)), (1, .int (iI q)), (2, .int (iI k))] := hl
            refine r_sipush hx hb dX1_place_52 (by decide +kernel) ?_
            refine lv_iload_n hx hb dX1_place_55 rfl (lv_at hl 0 rfl) ?_
            refine lv_aload_n hx hb dX1_place_56 rfl (lv_at hl 1 rfl) ?_
            refine va_get (D := (dC, dI)) (ci := 1) (v := .int (iI ((r : Int) + 1))) (C := RX1) (T := TX1) (N := 7) hx hb hts hinTX1 hown hK hP 0 rfl rfl 6 (by decide) fl23 (fun _ h9 => h9) rfl dX1_place_57 ?_
            refine r_iconst hx hb dX1_place_60 ?_
            refine r_isub hx hb dX1_place_61 ?_
            refine r_topi (b := (r : Int)) (by omega) ?_
            refine r_idiv hx hb dX1_place_62 (by omega) (by omega) (by omega) (by omega) ?_
            refine r_imul hx hb dX1_place_63 ?_
            refine r_iconst hx hb dX1_place_64 ?_
            refine r_iadd hx hb dX1_place_65 ?_
            refine lv_iload_n hx hb dX1_place_66 rfl (lv_at hl 0 rfl) ?_
            refine lv_aload_n hx hb dX1_place_67 rfl (lv_at hl 1 rfl) ?_
            refine va_get (D := (dC, dI)) (ci := 1) (v := .int (iI ((r : Int) + 1))) (C := RX1) (T := TX1) (N := 7) hx hb hts hinTX1 hown hK hP 0 rfl rfl 6 (by decide) fl23 (fun _ h9 => h9) rfl dX1_place_68 ?_
            refine r_iconst hx hb dX1_place_71 ?_
            refine r_isub hx hb dX1_place_72 ?_
            refine r_topi (b := (r : Int)) (by omega) ?_
            refine r_irem hx hb dX1_place_73 (by omega) (by omega) (by omega) (by omega) ?_
            refine r_iadd hx hb dX1_place_74 ?_
            subst hAe
            refine W.widen (k := 0) (n := 0) (by decide) (by decide) ?_
            exact W.iret (v := iI (((1000 * ((((sm S q.toNat : Int)) + k) / ((r : Int)))) + 1) + ((((sm S q.toNat : Int)) + k) % ((r : Int))))) hx hb hr (fun t ht hW => ⟨⟨_, (0, gl, gz, go, gw, (n : Int), (r : Int) + 1), rfl, ⟨⟨hT, rfl, rfl⟩, Or.inl ⟨hc, by omega, rfl, rfl⟩⟩, by subst ht; exact hP⟩, hS.F ht⟩) hS.2.2 dX1_place_75
          · exact absurd hk9 (by decide)
        · refine r_iconst hx hb dX1_place_30 ?_
          refine lv_goto hx hb dX1_place_31 (tgt := 35) (by decide) ?_
          refine r_iconst hx hb dX1_place_35 ?_
          refine wc_i (va_runV (As := [.int (iI 1), .int (iI 2)]) (rest := []) ⟨hx, hb, hml, hown, hts⟩ (n_fails1 l dC dI ad ca 0 gl gz go gw ((n : Int)) ((r : Int) + 1) 2) (cwV 2 hts (gV wlX1_33 wo_X1_fails wz_X1_fails wi_2 wcX1_fails) rfl rfl rfl (by decide +kernel) ⟨Nat.le_of_ble_eq_true rfl, Nat.le_of_ble_eq_true rfl⟩) (PX_V (q0 := 0) (ci := 1) hP hK hD rfl rfl) rfl rfl hl.1 rfl (lv_room (Nat.le_of_ble_eq_true rfl)) dX1_place_36 ⟨Nat.le_of_ble_eq_true rfl, Nat.le_of_ble_eq_true rfl⟩) hS (by rw [hAe]; exact fun q h => inW_same (by rfl) h) (fun r9 u9 H locs h8 hP hS hk9 => ?_)
          have hP : va_P (dC, dI) vwCl (wM ad ca 2 gl gz go gw ((n : Int)) ((r : Int) + 1)) H := hP
          have hD : va_D A (wM ad ca 2 gl gz go gw ((n : Int)) ((r : Int) + 1)) := wD_same hD rfl
          subst h8
          refine r_if_eq hx hb dX1_place_39 (tgt := 44) (by decide) (by omega) (fun hk9 => ?_) (fun hk9 => ?_)
          · exact absurd hk9 (by decide)
          · refine r_iconst hx hb dX1_place_42 ?_
            subst hAe
            refine W.widen (k := 0) (n := 0) (by decide) (by decide) ?_
            exact W.iret (v := iI 0) hx hb hr (fun t ht hW => ⟨⟨_, (2, gl, gz, go, gw, (n : Int), (r : Int) + 1), rfl, ⟨⟨hT, rfl, rfl⟩, Or.inr (Or.inr ⟨hc, by omega, rfl⟩)⟩, by subst ht; exact hP⟩, hS.F ht⟩) hS.2.2 dX1_place_43
    · exact absurd hk9 (by decide)
  · refine r_topi (b := 1) (if_neg hc) ?_
    refine r_iconst hx hb dX1_place_6 ?_
    refine wc_i (va_runV (As := [.int (iI 1), .int (iI 1)]) (rest := []) ⟨hx, hb, hml, hown, hts⟩ (n_fails1 l dC dI ad ca er gl gz go gw ((n : Int)) ((r : Int) + 1) 1) (cwV 2 hts (gV wlX1_33 wo_X1_fails wz_X1_fails wi_2 wcX1_fails) rfl rfl rfl (by decide +kernel) ⟨Nat.le_of_ble_eq_true rfl, Nat.le_of_ble_eq_true rfl⟩) (PX_V (q0 := 0) (ci := 1) hP hK hD rfl rfl) rfl rfl hl.1 rfl (lv_room (Nat.le_of_ble_eq_true rfl)) dX1_place_7 ⟨Nat.le_of_ble_eq_true rfl, Nat.le_of_ble_eq_true rfl⟩) hS (by rw [hAe]; exact fun q h => inW_same (by rfl) h) (fun r9 u9 H locs h8 hP hS hk9 => ?_)
    have hP : va_P (dC, dI) vwCl (wM ad ca 1 gl gz go gw ((n : Int)) ((r : Int) + 1)) H := hP
    have hD : va_D A (wM ad ca 1 gl gz go gw ((n : Int)) ((r : Int) + 1)) := wD_same hD rfl
    subst h8
    refine r_if_eq hx hb dX1_place_10 (tgt := 15) (by decide) (by omega) (fun hk9 => ?_) (fun hk9 => ?_)
    · exact absurd hk9 (by decide)
    · refine r_iconst hx hb dX1_place_13 ?_
      subst hAe
      refine W.widen (k := 0) (n := 0) (by decide) (by decide) ?_
      exact W.iret (v := iI 0) hx hb hr (fun t ht hW => ⟨⟨_, (1, gl, gz, go, gw, (n : Int), (r : Int) + 1), rfl, ⟨⟨hT, rfl, rfl⟩, Or.inr (Or.inl ⟨hc, rfl⟩)⟩, by subst ht; exact hP⟩, hS.F ht⟩) hS.2.2 dX1_place_14
set_option maxHeartbeats 4000000 in
set_option maxRecDepth 100000 in
theorem n_owner (l : Launch) (dC : Nat → ClassId) (dI : Nat → Nat → Nat) (ad : Nat → Nat) (ca : Nat → ClassId) (er : Int) (gl gz go gw : Nat → Int) (n r : Nat) (L S : Nat → Nat) (lo : Nat → Bool) (hok : okS n L S r) (hT : tM n L S lo gl gz go) (v b : Int) (hv : iR v) (hb0 : iR b) : Met l yX1_owner wsX1_owner { frames := 1, cells := 0, slots := 0, locals := 22 } (PX (dC, dI) vwCl (yM ca) (wM ad ca er gl gz go gw ((n : Int)) ((r : Int) + 1)) [.ref (ad 0), .int (iI v), .int (iI b)]) (va_Qi (fun (y : Int32) (u : MU) => MS n L S r lo u ∧ ((((0 ≤ v ∧ v < 64) ∧ 0 ≤ b ∧ b ≤ (r : Int)) ∧ u.1 = 0 ∧ y = iI (if b = 0 then -1 else (ow S (v * (r : Int) + b - 1).toNat n : Int) - 1)) ∨ (¬ ((0 ≤ v ∧ v < 64) ∧ 0 ≤ b ∧ b ≤ (r : Int)) ∧ u.1 = 1))) (fun u t => va_P (dC, dI) vwCl (wMu ad ca u) t.heap) (inW (wM ad ca er gl gz go gw ((n : Int)) ((r : Int) + 1)))) 0 0 (inW (wM ad ca er gl gz go gw ((n : Int)) ((r : Int) + 1))) := by
  refine Met.ofW (cc := cX1_owner) (maxL := 5) (ret := (some .int)) (by decide) rfl ?_
  intro p e s m args below meth c s₁ B hml hv
  obtain ⟨rfl, hP, hK, hD0⟩ := hv
  have hx := B.exec
  have hb := B.bytes
  have hr := B.returns
  have hts := atoms_spec (ws := wsX1_owner) B.pre
  have hown : s.vm.findClass RX1 = some m.cls := findClass_of_methodNamed B.named
  have hlocks := B.notSynchronized
  have hw := fun w h => hts w (List.mem_cons_of_mem _ h)
  have hinTX1 : ∀ w ∈ u_ws RX1 TX1 7, w ∈ wsX1_owner := wA_u wuX1
  have fl23 := hw _ wfX1_23
  have fl30 := hw _ wfX1_30
  have fl13 := hw _ wfX1_13
  have hD := wD_own hD0
  obtain ⟨A, hAe⟩ : ∃ A, A = inW (wM ad ca er gl gz go gw ((n : Int)) ((r : Int) + 1)) := ⟨_, rfl⟩
  rw [← hAe] at hD
  obtain ⟨H, hH⟩ : ∃ H, H = s.heap := ⟨_, rfl⟩
  obtain ⟨locs, hlc⟩ : ∃ L : List Loc, L = [] := ⟨_, rfl⟩
  have hS : va_S A s.heap H locs := by rw [hH, hlc]; exact va_S.rf
  rw [← hH] at hP ⊢
  rw [← hlc]
  have hl := lv_entry ([.ref (ad 0), .int (iI v), .int (iI b)]) (n := 5) (Nat.le_of_ble_eq_true rfl)
  rw [lg_entry_eq]
  generalize (lg_sl ([.ref (ad 0), .int (iI v), .int (iI b)]) ++ List.replicate (5 - (lg_sl ([.ref (ad 0), .int (iI v), .int (iI b)])).length) Slot.unset).toArray = ls at hl ⊢
  have hl : lv_has ls 5 [(0, .ref (ad 0)), (1, .int (iI v)), (2, .int (iI b))] := hl
  obtain ⟨ok1, ok2, ok3, ok4, ok5⟩ := id hok
  refine lv_aload_n hx hb dX1_owner_0 rfl (lv_at hl 0 rfl) ?_
  refine lv_iload_n hx hb dX1_owner_1 rfl (lv_at hl 1 rfl) ?_
  refine r_if_lt hx hb dX1_owner_2 (tgt := 23) (by decide) (by omega) (fun h1t => ?_) (fun h1f => ?_)
  · refine r_iconst hx hb dX1_owner_23 ?_
    refine lv_goto hx hb dX1_owner_24 (tgt := 28) (by decide) ?_
    refine r_iconst hx hb dX1_owner_28 ?_
    refine wc_i (va_runV (As := [.int (iI 1), .int (iI 1)]) (rest := []) ⟨hx, hb, hml, hown, hts⟩ (n_fails1 l dC dI ad ca er gl gz go gw ((n : Int)) ((r : Int) + 1) 1) (cwV 2 hts (gV wlX1_33 wo_X1_fails wz_X1_fails wi_2 wcX1_fails) rfl rfl rfl (by decide +kernel) ⟨Nat.le_of_ble_eq_true rfl, Nat.le_of_ble_eq_true rfl⟩) (PX_V (q0 := 0) (ci := 1) hP hK hD rfl rfl) rfl rfl hl.1 rfl (lv_room (Nat.le_of_ble_eq_true rfl)) dX1_owner_29 ⟨Nat.le_of_ble_eq_true rfl, Nat.le_of_ble_eq_true rfl⟩) hS (by rw [hAe]; exact fun q h => inW_same (by rfl) h) (fun r9 u9 H locs h8 hP hS hk9 => ?_)
    have hP : va_P (dC, dI) vwCl (wM ad ca 1 gl gz go gw ((n : Int)) ((r : Int) + 1)) H := hP
    have hD : va_D A (wM ad ca 1 gl gz go gw ((n : Int)) ((r : Int) + 1)) := wD_same hD rfl
    subst h8
    refine r_if_eq hx hb dX1_owner_32 (tgt := 37) (by decide) (by omega) (fun hk9 => ?_) (fun hk9 => ?_)
    · exact absurd hk9 (by decide)
    · refine r_iconst hx hb dX1_owner_35 ?_
      subst hAe
      refine W.widen (k := 0) (n := 0) (by decide) (by decide) ?_
      exact W.iret (v := iI 0) hx hb hr (fun t ht hW => ⟨⟨_, (1, gl, gz, go, gw, (n : Int), (r : Int) + 1), rfl, ⟨⟨hT, rfl, rfl⟩, Or.inr ⟨by omega, rfl⟩⟩, by subst ht; exact hP⟩, hS.F ht⟩) hS.2.2 dX1_owner_36
  · refine lv_iload_n hx hb dX1_owner_5 rfl (lv_at hl 1 rfl) ?_
    refine r_bipush hx hb dX1_owner_6 (by decide +kernel) ?_
    refine r_icmp_ge hx hb dX1_owner_8 (tgt := 23) (by decide) (by omega) (by omega) (fun h2t => ?_) (fun h2f => ?_)
    · refine r_iconst hx hb dX1_owner_23 ?_
      refine lv_goto hx hb dX1_owner_24 (tgt := 28) (by decide) ?_
      refine r_iconst hx hb dX1_owner_28 ?_
      refine wc_i (va_runV (As := [.int (iI 1), .int (iI 1)]) (rest := []) ⟨hx, hb, hml, hown, hts⟩ (n_fails1 l dC dI ad ca er gl gz go gw ((n : Int)) ((r : Int) + 1) 1) (cwV 2 hts (gV wlX1_33 wo_X1_fails wz_X1_fails wi_2 wcX1_fails) rfl rfl rfl (by decide +kernel) ⟨Nat.le_of_ble_eq_true rfl, Nat.le_of_ble_eq_true rfl⟩) (PX_V (q0 := 0) (ci := 1) hP hK hD rfl rfl) rfl rfl hl.1 rfl (lv_room (Nat.le_of_ble_eq_true rfl)) dX1_owner_29 ⟨Nat.le_of_ble_eq_true rfl, Nat.le_of_ble_eq_true rfl⟩) hS (by rw [hAe]; exact fun q h => inW_same (by rfl) h) (fun r9 u9 H locs h8 hP hS hk9 => ?_)
      have hP : va_P (dC, dI) vwCl (wM ad ca 1 gl gz go gw ((n : Int)) ((r : Int) + 1)) H := hP
      have hD : va_D A (wM ad ca 1 gl gz go gw ((n : Int)) ((r : Int) + 1)) := wD_same hD rfl
      subst h8
      refine r_if_eq hx hb dX1_owner_32 (tgt := 37) (by decide) (by omega) (fun hk9 => ?_) (fun hk9 => ?_)
      · exact absurd hk9 (by decide)
      · refine r_iconst hx hb dX1_owner_35 ?_
        subst hAe
        refine W.widen (k := 0) (n := 0) (by decide) (by decide) ?_
        exact W.iret (v := iI 0) hx hb hr (fun t ht hW => ⟨⟨_, (1, gl, gz, go, gw, (n : Int), (r : Int) + 1), rfl, ⟨⟨hT, rfl, rfl⟩, Or.inr ⟨by omega, rfl⟩⟩, by subst ht; exact hP⟩, hS.F ht⟩) hS.2.2 dX1_owner_36
    · refine lv_iload_n hx hb dX1_owner_11 rfl (lv_at hl 2 rfl) ?_
      refine r_if_lt hx hb dX1_owner_12 (tgt := 23) (by decide) (by omega) (fun h3t => ?_) (fun h3f => ?_)
      · refine r_iconst hx hb dX1_owner_23 ?_
        refine lv_goto hx hb dX1_owner_24 (tgt := 28) (by decide) ?_
        refine r_iconst hx hb dX1_owner_28 ?_
        refine wc_i (va_runV (As := [.int (iI 1), .int (iI 1)]) (rest := []) ⟨hx, hb, hml, hown, hts⟩ (n_fails1 l dC dI ad ca er gl gz go gw ((n : Int)) ((r : Int) + 1) 1) (cwV 2 hts (gV wlX1_33 wo_X1_fails wz_X1_fails wi_2 wcX1_fails) rfl rfl rfl (by decide +kernel) ⟨Nat.le_of_ble_eq_true rfl, Nat.le_of_ble_eq_true rfl⟩) (PX_V (q0 := 0) (ci := 1) hP hK hD rfl rfl) rfl rfl hl.1 rfl (lv_room (Nat.le_of_ble_eq_true rfl)) dX1_owner_29 ⟨Nat.le_of_ble_eq_true rfl, Nat.le_of_ble_eq_true rfl⟩) hS (by rw [hAe]; exact fun q h => inW_same (by rfl) h) (fun r9 u9 H locs h8 hP hS hk9 => ?_)
        have hP : va_P (dC, dI) vwCl (wM ad ca 1 gl gz go gw ((n : Int)) ((r : Int) + 1)) H := hP
        have hD : va_D A (wM ad ca 1 gl gz go gw ((n : Int)) ((r : Int) + 1)) := wD_same hD rfl
        subst h8
        refine r_if_eq hx hb dX1_owner_32 (tgt := 37) (by decide) (by omega) (fun hk9 => ?_) (fun hk9 => ?_)
        · exact absurd hk9 (by decide)
        · refine r_iconst hx hb dX1_owner_35 ?_
          subst hAe
          refine W.widen (k := 0) (n := 0) (by decide) (by decide) ?_
          exact W.iret (v := iI 0) hx hb hr (fun t ht hW => ⟨⟨_, (1, gl, gz, go, gw, (n : Int), (r : Int) + 1), rfl, ⟨⟨hT, rfl, rfl⟩, Or.inr ⟨by omega, rfl⟩⟩, by subst ht; exact hP⟩, hS.F ht⟩) hS.2.2 dX1_owner_36
      · refine lv_iload_n hx hb dX1_owner_15 rfl (lv_at hl 2 rfl) ?_
        refine lv_aload_n hx hb dX1_owner_16 rfl (lv_at hl 0 rfl) ?_
        refine va_get (D := (dC, dI)) (ci := 1) (v := .int (iI ((r : Int) + 1))) (C := RX1) (T := TX1) (N := 7) hx hb hts hinTX1 hown hK hP 0 rfl rfl 6 (by decide) fl23 (fun _ h9 => h9) rfl dX1_owner_17 ?_
        refine r_icmp_lt hx hb dX1_owner_20 (tgt := 27) (by decide) (by omega) (by omega) (fun h4t => ?_) (fun h4f => ?_)
        · refine r_iconst hx hb dX1_owner_27 ?_
          refine r_iconst hx hb dX1_owner_28 ?_
          refine wc_i (va_runV (As := [.int (iI 0), .int (iI 1)]) (rest := []) ⟨hx, hb, hml, hown, hts⟩ (n_fails0 l dC dI ad ca er gl gz go gw ((n : Int)) ((r : Int) + 1) 1) (cwV 2 hts (gV wlX1_33 wo_X1_fails wz_X1_fails wi_2 wcX1_fails) rfl rfl rfl (by decide +kernel) ⟨Nat.le_of_ble_eq_true rfl, Nat.le_of_ble_eq_true rfl⟩) (PX_V (q0 := 0) (ci := 1) hP hK hD rfl rfl) rfl rfl hl.1 rfl (lv_room (Nat.le_of_ble_eq_true rfl)) dX1_owner_29 ⟨Nat.le_of_ble_eq_true rfl, Nat.le_of_ble_eq_true rfl⟩) hS (by rw [hAe]; exact fun q h => inW_same (by rfl) h) (fun r9 u9 H locs h8 hP hS hk9 => ?_)
          have hP : va_P (dC, dI) vwCl (wM ad ca 0 gl gz go gw ((n : Int)) ((r : Int) + 1)) H := hP
          have hD : va_D A (wM ad ca 0 gl gz go gw ((n : Int)) ((r : Int) + 1)) := wD_same hD rfl
          subst h8
          refine r_if_eq hx hb dX1_owner_32 (tgt := 37) (by decide) (by omega) (fun hk9 => ?_) (fun hk9 => ?_)
          · refine lv_iload_n hx hb dX1_owner_37 rfl (lv_at hl 2 rfl) ?_
            refine r_if_ne hx hb dX1_owner_38 (tgt := 43) (by decide) (by omega) (fun hne => ?_) (fun heq => ?_)
            · have hm1 : 0 ≤ v * (r : Int) := Int.mul_nonneg (by omega) (by omega)
              have hm2 : v * (r : Int) ≤ 63 * (r : Int) := Int.mul_le_mul_of_nonneg_right (by omega) (by omega)
              refine lv_aload_n hx hb dX1_owner_43 rfl (lv_at hl 0 rfl) ?_
              refine va_get (D := (dC, dI)) (ci := 1) (v := .int (iI ((r : Int) + 1))) (C := RX1) (T := TX1) (N := 7) hx hb hts hinTX1 hown hK hP 0 rfl rfl 6 (by decide) fl23 (fun _ h9 => h9) rfl dX1_owner_44 ?_
              refine r_iconst hx hb dX1_owner_47 ?_
              refine r_isub hx hb dX1_owner_48 ?_
              refine r_topi (b := (r : Int)) (by omega) ?_
              refine lv_iload_n hx hb dX1_owner_49 rfl (lv_at hl 1 rfl) ?_
              refine r_imul hx hb dX1_owner_50 ?_
              refine r_topi (b := v * (r : Int)) (Int.mul_comm _ _) ?_
              refine lv_iload_n hx hb dX1_owner_51 rfl (lv_at hl 2 rfl) ?_
              refine r_iadd hx hb dX1_owner_52 ?_
              refine r_iconst hx hb dX1_owner_53 ?_
              refine r_isub hx hb dX1_owner_54 ?_
              refine r_topi (b := ((v * (r : Int) + b - 1).toNat : Int) - (sm S 0 : Int)) (by show _ = _ - (0 : Int); omega) ?_
              refine lv_istore_n hx hb dX1_owner_55 rfl hl (by decide) rfl (fun ls hl => ?_)
              have hl : lv_has ls 5 [(3, .int (iI (((v * (r : Int) + b - 1).toNat : Int) - (sm S 0 : Int)))), (0, .ref (ad 0)), (1, .int (iI v)), (2, .int (iI b))] := hl
              refine r_iconst hx hb dX1_owner_56 ?_
              refine lv_istore hx hb dX1_owner_57 hl (by decide) rfl (fun ls hl => ?_)
              have hl : lv_has ls 5 [(4, .int (iI 0)), (3, .int (iI (((v * (r : Int) + b - 1).toNat : Int) - (sm S 0 : Int)))), (0, .ref (ad 0)), (1, .int (iI v)), (2, .int (iI b))] := hl
              have loop : ∀ (N : Nat) (k : Nat) (ls : Array Slot), n - k < N → (k ≤ n) → (ow S (v * (r : Int) + b - 1).toNat k = 0) → (sm S k ≤ (v * (r : Int) + b - 1).toNat) → lv_has ls 5 [(4, .int (iI ((k : Int)))), (3, .int (iI (((v * (r : Int) + b - 1).toNat : Int) - (sm S k : Int)))), (0, .ref (ad 0)), (1, .int (iI v)), (2, .int (iI b))] → W p l e (headSpec wsX1_owner { frames := 1, cells := 0, slots := 0, locals := 22 }).room s m ([.ref (ad 0), .int (iI v), .int (iI b)]).toArray below meth c H locs ((((0 + 0) + 0) + 0) + 0) ((((0 + 0) + 0) + 0) + 0) (MQ below (va_Qi (fun (y : Int32) (u : MU) => MS n L S r lo u ∧ ((((0 ≤ v ∧ v < 64) ∧ 0 ≤ b ∧ b ≤ (r : Int)) ∧ u.1 = 0 ∧ y = iI (if b = 0 then -1 else (ow S (v * (r : Int) + b - 1).toNat n : Int) - 1)) ∨ (¬ ((0 ≤ v ∧ v < 64) ∧ 0 ≤ b ∧ b ≤ (r : Int)) ∧ u.1 = 1))) (fun u t => va_P (dC, dI) vwCl (wMu ad ca u) t.heap) (inW (wM ad ca er gl gz go gw ((n : Int)) ((r : Int) + 1)))) ([.ref (ad 0), .int (iI v), .int (iI b)]).toArray s 0 0 (inW (wM ad ca er gl gz go gw ((n : Int)) ((r : Int) + 1)))) (F0 m 59 ls []) := by
                intro N
                induction N with
                | zero => intro k ls h; exact absurd h (Nat.not_lt_zero _)
                | succ N ih =>
                  intro k ls hN hk h0 hq9 hl
                  refine lv_iload hx hb dX1_owner_59 (lv_at hl 0 rfl) ?_
                  refine lv_aload_n hx hb dX1_owner_61 rfl (lv_at hl 2 rfl) ?_
                  refine va_get (D := (dC, dI)) (ci := 1) (v := .int (iI ((n : Int)))) (C := RX1) (T := TX1) (N := 7) hx hb hts hinTX1 hown hK hP 0 rfl rfl 5 (by decide) fl30 (fun _ h9 => h9) rfl dX1_owner_62 ?_
                  refine r_icmp_ge hx hb dX1_owner_65 (tgt := 98) (by decide) (by omega) (by omega) (fun hge2 => ?_) (fun hlt2 => ?_)
                  · have hk0 : k = n := by omega
                    refine r_iconst hx hb dX1_owner_98 ?_
                    subst hAe
                    refine W.widen (k := 0) (n := 0) (by decide) (by decide) ?_
                    exact W.iret (v := iI ((-1))) hx hb hr (fun t ht hW => ⟨⟨_, (0, gl, gz, go, gw, (n : Int), (r : Int) + 1), rfl, ⟨⟨hT, rfl, rfl⟩, Or.inl ⟨by omega, rfl, by rw [if_neg hne, ← hk0, h0]; rfl⟩⟩, by subst ht; exact hP⟩, hS.F ht⟩) hS.2.2 dX1_owner_99
                  · have ek : ((k : Int)).toNat = k := by omega
                    obtain ⟨-, t2⟩ := hT.1 k (by omega)
                    have hsk : sm S (k + 1) = sm S k + S k := rfl
                    obtain ⟨-, hs1, hs2⟩ := ok4 k (by omega)
                    refine lv_iload_n hx hb dX1_owner_68 rfl (lv_at hl 1 rfl) ?_
                    refine lv_aload_n hx hb dX1_owner_69 rfl (lv_at hl 2 rfl) ?_
                    refine va_get (D := (dC, dI)) (ci := 1) (v := .ref (ad 2)) (C := RX1) (T := TX1) (N := 7) hx hb hts hinTX1 hown hK hP 0 rfl rfl 2 (by decide) fl13 (fun _ h9 => h9) rfl dX1_owner_70 ?_
                    refine lv_iload hx hb dX1_owner_73 (lv_at hl 0 rfl) ?_
                    refine r_iald hx hb hK hP 2 1 rfl rfl (by omega) (by omega) (by decide) dX1_owner_75 ?_
                    refine r_topi (b := (S k : Int)) (by rw [ek]; exact t2) ?_
                    refine r_icmp_ge hx hb dX1_owner_76 (tgt := 82) (by decide) (by omega) (by omega) (fun hge3 => ?_) (fun hlt3 => ?_)
                    · refine lv_iload_n hx hb dX1_owner_82 rfl (lv_at hl 1 rfl) ?_
                      refine lv_aload_n hx hb dX1_owner_83 rfl (lv_at hl 2 rfl) ?_
                      refine va_get (D := (dC, dI)) (ci := 1) (v := .ref (ad 2)) (C := RX1) (T := TX1) (N := 7) hx hb hts hinTX1 hown hK hP 0 rfl rfl 2 (by decide) fl13 (fun _ h9 => h9) rfl dX1_owner_84 ?_
                      refine lv_iload hx hb dX1_owner_87 (lv_at hl 0 rfl) ?_
                      refine r_iald hx hb hK hP 2 1 rfl rfl (by omega) (by omega) (by decide) dX1_owner_89 ?_
                      refine r_topi (b := (S k : Int)) (by rw [ek]; exact t2) ?_
                      refine r_isub hx hb dX1_owner_90 ?_
                      refine lv_istore_n hx hb dX1_owner_91 rfl hl (by decide) rfl (fun ls hl => ?_)
                      have hl : lv_has ls 5 [(3, .int (iI ((((v * (r : Int) + b - 1).toNat : Int) - (sm S k : Int)) - ((S k : Int))))), (4, .int (iI ((k : Int)))), (0, .ref (ad 0)), (1, .int (iI v)), (2, .int (iI b))] := hl
                      refine r_iinc (k := 1) hx hb dX1_owner_92 hl rfl (by decide) rfl (fun ls hl => ?_)
                      have hl : lv_has ls 5 [(4, .int (iI ((k : Int) + 1))), (3, .int (iI ((((v * (r : Int) + b - 1).toNat : Int) - (sm S k : Int)) - ((S k : Int))))), (0, .ref (ad 0)), (1, .int (iI v)), (2, .int (iI b))] := hl
                      refine lv_goto hx hb dX1_owner_95 (tgt := 59) (by decide) ?_
                      have hl : lv_has ls 5 [(4, .int (iI ((k + 1 : Nat) : Int))), (3, .int (iI (((v * (r : Int) + b - 1).toNat : Int) - (sm S (k + 1) : Int)))), (0, .ref (ad 0)), (1, .int (iI v)), (2, .int (iI b))] := by
                        rw [show ((k + 1 : Nat) : Int) = (k : Int) + 1 by omega, show ((v * (r : Int) + b - 1).toNat : Int) - (sm S (k + 1) : Int) = ((v * (r : Int) + b - 1).toNat : Int) - (sm S k : Int) - (S k : Int) by omega]
                        exact hl
                      exact ih (k + 1) ls (by omega) (by omega) (ow_miss h0 (by omega)) (by omega) hl
                    · refine lv_iload hx hb dX1_owner_79 (lv_at hl 0 rfl) ?_
                      subst hAe
                      refine W.widen (k := 0) (n := 0) (by decide) (by decide) ?_
                      exact W.iret (v := iI ((k : Int))) hx hb hr (fun t ht hW => ⟨⟨_, (0, gl, gz, go, gw, (n : Int), (r : Int) + 1), rfl, ⟨⟨hT, rfl, rfl⟩, Or.inl ⟨by omega, rfl, by rw [if_neg hne, ow_keep (k := k + 1) (by rw [ow_hit h0 (by omega)]; omega) n (by omega), ow_hit h0 (by omega)]; congr 1; omega⟩⟩, by subst ht; exact hP⟩, hS.F ht⟩) hS.2.2 dX1_owner_81
              exact loop (n + 1) 0 ls (by omega) (Nat.zero_le n) rfl (Nat.zero_le _) hl
            · refine r_iconst hx hb dX1_owner_41 ?_
              subst hAe
              refine W.widen (k := 0) (n := 0) (by decide) (by decide) ?_
              exact W.iret (v := iI ((-1))) hx hb hr (fun t ht hW => ⟨⟨_, (0, gl, gz, go, gw, (n : Int), (r : Int) + 1), rfl, ⟨⟨hT, rfl, rfl⟩, Or.inl ⟨by omega, rfl, by rw [if_pos heq]⟩⟩, by subst ht; exact hP⟩, hS.F ht⟩) hS.2.2 dX1_owner_42
          · exact absurd hk9 (by decide)
        · refine r_iconst hx hb dX1_owner_23 ?_
          refine lv_goto hx hb dX1_owner_24 (tgt := 28) (by decide) ?_
          refine r_iconst hx hb dX1_owner_28 ?_
          refine wc_i (va_runV (As := [.int (iI 1), .int (iI 1)]) (rest := []) ⟨hx, hb, hml, hown, hts⟩ (n_fails1 l dC dI ad ca er gl gz go gw ((n : Int)) ((r : Int) + 1) 1) (cwV 2 hts (gV wlX1_33 wo_X1_fails wz_X1_fails wi_2 wcX1_fails) rfl rfl rfl (by decide +kernel) ⟨Nat.le_of_ble_eq_true rfl, Nat.le_of_ble_eq_true rfl⟩) (PX_V (q0 := 0) (ci := 1) hP hK hD rfl rfl) rfl rfl hl.1 rfl (lv_room (Nat.le_of_ble_eq_true rfl)) dX1_owner_29 ⟨Nat.le_of_ble_eq_true rfl, Nat.le_of_ble_eq_true rfl⟩) hS (by rw [hAe]; exact fun q h => inW_same (by rfl) h) (fun r9 u9 H locs h8 hP hS hk9 => ?_)
          have hP : va_P (dC, dI) vwCl (wM ad ca 1 gl gz go gw ((n : Int)) ((r : Int) + 1)) H := hP
          have hD : va_D A (wM ad ca 1 gl gz go gw ((n : Int)) ((r : Int) + 1)) := wD_same hD rfl
          subst h8
          refine r_if_eq hx hb dX1_owner_32 (tgt := 37) (by decide) (by omega) (fun hk9 => ?_) (fun hk9 => ?_)
          · exact absurd hk9 (by decide)
          · refine r_iconst hx hb dX1_owner_35 ?_
            subst hAe
            refine W.widen (k := 0) (n := 0) (by decide) (by decide) ?_
            exact W.iret (v := iI 0) hx hb hr (fun t ht hW => ⟨⟨_, (1, gl, gz, go, gw, (n : Int), (r : Int) + 1), rfl, ⟨⟨hT, rfl, rfl⟩, Or.inr ⟨by omega, rfl⟩⟩, by subst ht; exact hP⟩, hS.F ht⟩) hS.2.2 dX1_owner_36
