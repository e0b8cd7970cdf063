/-! the class: begin, dump, drop, chain, depth, place, owner -/
set_option maxHeartbeats 4000000 in
set_option maxRecDepth 100000 in
theorem m_begin (l : Launch) (hl9 : l.stackTraces = false) (dC : Nat → ClassId) (dI : Nat → Nat → Nat) (ad : Nat → Nat) (ca : Nat → ClassId) (gL gB gD : Nat → Int) (gN : Nat → Int64) (gS : Nat → Int) (n r : Nat) (x : Int64) (q : Int) (hq : iR q) : vx_Met l yX0_begin wsX0_begin { frames := 6, cells := 1, slots := 6, locals := 82 } (PXe (dC, dI) vwCl (yX ca) (wX ad ca gL gB gD gN gS ((n : Int)) ((r : Int)) x) [.ref (ad 0), .int (iI q)]) (va_Qv (fun (_ : Unit) => 2 ≤ q ∧ q ≤ 1000) (fun _ t => va_P (dC, dI) vwCl (wX ad ca gL gB gD gN gS 0 (q - 1) 0) t.heap) (inW (wX ad ca gL gB gD gN gS ((n : Int)) ((r : Int)) x))) (xcE (fun E => E = eIA ∧ (q < 2 ∨ 1000 < q))) 1 6 (inW (wX ad ca gL gB gD gN gS ((n : Int)) ((r : Int)) x)) := by
  refine vx_ofW (cc := cX0_begin) (maxL := 2) (ret := none) (by decide) rfl ?_
  intro p e s m args below meth c s₁ B hml hEx hv
  obtain ⟨rfl, hP, hK, hD0, hE⟩ := hv
  have hx := B.exec
  have hb := B.bytes
  have hr := B.returns
  have hts := atoms_spec (ws := wsX0_begin) B.pre
  have hown : s.vm.findClass RX0 = some m.cls := findClass_of_methodNamed B.named
  have hlocks := B.notSynchronized
  have hw := fun w h => hts w (List.mem_cons_of_mem _ h)
  have hinTX0 : ∀ w ∈ u_ws RX0 TX0 8, w ∈ wsX0_begin := wA_u wuX0
  have hD := hD0
  obtain ⟨H, hH⟩ : ∃ H, H = s.heap := ⟨_, rfl⟩
  obtain ⟨locs, hlc⟩ : ∃ L : List Loc, L = [] := ⟨_, rfl⟩
  have hS : va_S nF s.heap H locs := by rw [hH, hlc]; exact va_S.rf
  rw [← hH] at hP ⊢
  rw [← hlc]
  have hl := lv_entry ([.ref (ad 0), .int (iI q)]) (n := 2) (Nat.le_of_ble_eq_true rfl)
  rw [lg_entry_eq]
  generalize (lg_sl ([.ref (ad 0), .int (iI q)]) ++ List.replicate (2 - (lg_sl ([.ref (ad 0), .int (iI q)])).length) Slot.unset).toArray = ls at hl ⊢
  have hl : lv_has ls 2 [(0, .ref (ad 0)), (1, .int (iI q))] := hl
  refine lv_iload_n hx hb dX0_begin_0 rfl (lv_at hl 1 rfl) ?_
  refine r_iconst hx hb dX0_begin_1 ?_
  refine r_icmp_lt hx hb dX0_begin_2 (tgt := 12) (by decide) (by omega) (by omega) (fun hlt => ?_) (fun hge => ?_)
  · obtain ⟨sa, hsa⟩ := hE.2.2.2.1 (32, "a volume has 2 to 1000 blocks") (List.mem_of_getElem? (i := 0) rfl)
    exact vx_throwS (own := RX0) (cls := eIA) (names := eN) hx hb hl9 hown (by decide +kernel) (by decide +kernel) (hw _ wkX0_30) (hw _ wi_6) hsa (hat_34 hE hw) (by decide +kernel) (exE_none hE).1.1 (exE_none hE).1.2 hS (hl.1.trans hml.symm) dX0_begin_12 dX0_begin_15 dX0_begin_16 dX0_begin_18 dX0_begin_21 (fun x hx => (hEx x hx).elim) (Nat.le_of_ble_eq_true rfl) (Nat.le_of_ble_eq_true rfl) (Nat.le_of_ble_eq_true rfl) (Nat.le_of_ble_eq_true rfl) hlocks (fun t ha hsz hk => ⟨(), trivial, ⟨rfl, Or.inl hlt⟩, Nat.le_trans hS.1 hsz, fun q h1 h2 => (hk q (Nat.lt_of_lt_of_le h1 hS.1)).trans (hS.2.1 q h1 h2)⟩) (fun z hz => (hS.2.2 z hz).elim) (by decide) (by decide)
  · refine lv_iload_n hx hb dX0_begin_5 rfl (lv_at hl 1 rfl) ?_
    refine r_sipush hx hb dX0_begin_6 (by decide +kernel) ?_
    refine r_icmp_le hx hb dX0_begin_9 (tgt := 22) (by decide) (by omega) (by omega) (fun hin => ?_) (fun hout => ?_)
    · have hD := wD_own hD0
      obtain ⟨A, hAe⟩ : ∃ A, A = inW (wX ad ca gL gB gD gN gS ((n : Int)) ((r : Int)) x) := ⟨_, rfl⟩
      rw [← hAe] at hD
      have hS : va_S A s.heap H locs := vS_up hS
      refine lv_aload_n hx hb dX0_begin_22 rfl (lv_at hl 0 rfl) ?_
      refine lv_iload_n hx hb dX0_begin_23 rfl (lv_at hl 1 rfl) ?_
      refine wc_v (va_runV (As := [.int (iI q)]) (rest := []) ⟨hx, hb, hml, hown, hts⟩ (m_clear l dC dI ad ca gL gB gD gN gS n r x q) (cwV 1 hts (gV wlX0_26 wo_X0_clear wz_X0_clear wi_1 wcX0_clear) rfl rfl rfl (by decide +kernel) ⟨Nat.le_of_ble_eq_true rfl, Nat.le_of_ble_eq_true rfl⟩) (PX_V (q0 := 0) (ci := 0) hP hK hD rfl rfl) rfl rfl hl.1 rfl (lv_room (Nat.le_of_ble_eq_true rfl)) dX0_begin_24 ⟨Nat.le_of_ble_eq_true rfl, Nat.le_of_ble_eq_true rfl⟩) hS (by rw [hAe]; exact fun q h => inW_same (by rfl) h) (fun u9 H locs hv9 hP hS hk9 => ?_)
      have hP : va_P (dC, dI) vwCl (wX ad ca gL gB gD gN gS 0 (q - 1) 0) H := hP
      have hD : va_D A (wX ad ca gL gB gD gN gS 0 (q - 1) 0) := wD_same hD rfl
      subst hAe
      refine vx_ret ?_
      refine W.widen (k := 1) (n := 6) (by decide) (by decide) ?_
      exact W.vret hx hb hr (fun t ht hW => ⟨⟨(), rfl, ⟨hge, hin⟩, by subst ht; exact hP⟩, hS.F ht⟩) hS.2.2 dX0_begin_27
    · obtain ⟨sa, hsa⟩ := hE.2.2.2.1 (32, "a volume has 2 to 1000 blocks") (List.mem_of_getElem? (i := 0) rfl)
      exact vx_throwS (own := RX0) (cls := eIA) (names := eN) hx hb hl9 hown (by decide +kernel) (by decide +kernel) (hw _ wkX0_30) (hw _ wi_6) hsa (hat_34 hE hw) (by decide +kernel) (exE_none hE).1.1 (exE_none hE).1.2 hS (hl.1.trans hml.symm) dX0_begin_12 dX0_begin_15 dX0_begin_16 dX0_begin_18 dX0_begin_21 (fun x hx => (hEx x hx).elim) (Nat.le_of_ble_eq_true rfl) (Nat.le_of_ble_eq_true rfl) (Nat.le_of_ble_eq_true rfl) (Nat.le_of_ble_eq_true rfl) hlocks (fun t ha hsz hk => ⟨(), trivial, ⟨rfl, Or.inr hout⟩, Nat.le_trans hS.1 hsz, fun q h1 h2 => (hk q (Nat.lt_of_lt_of_le h1 hS.1)).trans (hS.2.1 q h1 h2)⟩) (fun z hz => (hS.2.2 z hz).elim) (by decide) (by decide)
set_option maxHeartbeats 4000000 in
set_option maxRecDepth 100000 in
theorem m_dump (l : Launch) (hl9 : l.stackTraces = false) (dC : Nat → ClassId) (dI : Nat → Nat → Nat) (ad : Nat → Nat) (ca : Nat → ClassId) (gL gB gD : Nat → Int) (gN : Nat → Int64) (gS : Nat → Int) (n r : Nat) (x : Int64) (L S : Nat → Nat) (lo : Nat → Bool) (hok : okS n L S r) (hT : tX n L S r lo gL gB gD gN gS x) (v b : Int) (hv : iR v) (hb0 : iR b) : vx_Met l yX0_dump wsX0_dump { frames := 6, cells := 1, slots := 6, locals := 82 } (PXe (dC, dI) vwCl (yX ca) (wX ad ca gL gB gD gN gS ((n : Int)) ((r : Int)) x) [.ref (ad 0), .int (iI v), .int (iI b)]) (va_Qi (fun (y : Int32) (u : XU) => ((0 ≤ v ∧ v ≤ 9 ∧ 1 ≤ b ∧ b ≤ 500) ∧ n < 300 ∧ (sm S n : Int) + b ≤ 64 * (r : Int)) ∧ y = iI (n : Int) ∧ tXu (n + 1) (uN L n v.toNat) (uN S n b.toNat) r lo u x) (fun u t => va_P (dC, dI) vwCl (wXu ad ca u ((n : Int) + 1) (r : Int) x) t.heap) (inW (wX ad ca gL gB gD gN gS ((n : Int)) ((r : Int)) x))) (xcE (fun E => (E = eIA ∧ ¬ (0 ≤ v ∧ v ≤ 9 ∧ 1 ≤ b ∧ b ≤ 500)) ∨ (E = eIS ∧ (0 ≤ v ∧ v ≤ 9 ∧ 1 ≤ b ∧ b ≤ 500) ∧ ¬ (n < 300 ∧ (sm S n : Int) + b ≤ 64 * (r : Int))))) 1 6 (inW (wX ad ca gL gB gD gN gS ((n : Int)) ((r : Int)) x)) := by
  refine vx_ofW (cc := cX0_dump) (maxL := 3) (ret := (some .int)) (by decide) rfl ?_
  intro p e s m args below meth c s₁ B hml hEx hv
  obtain ⟨rfl, hP, hK, hD0, hE⟩ := hv
  have hx := B.exec
  have hb := B.bytes
  have hr := B.returns
  have hts := atoms_spec (ws := wsX0_dump) B.pre
  have hown : s.vm.findClass RX0 = some m.cls := findClass_of_methodNamed B.named
  have hlocks := B.notSynchronized
  have hw := fun w h => hts w (List.mem_cons_of_mem _ h)
  have hinTX0 : ∀ w ∈ u_ws RX0 TX0 8, w ∈ wsX0_dump := wA_u wuX0
  have fl41 := hw _ wfX0_41
  have fl23 := hw _ wfX0_23
  have fl50 := hw _ wfX0_50
  have hD := hD0
  obtain ⟨H, hH⟩ : ∃ H, H = s.heap := ⟨_, rfl⟩
  obtain ⟨locs, hlc⟩ : ∃ L : List Loc, L = [] := ⟨_, rfl⟩
  have hS : va_S nF s.heap H locs := by rw [hH, hlc]; exact va_S.rf
  rw [← hH] at hP ⊢
  rw [← hlc]
  have hl := lv_entry ([.ref (ad 0), .int (iI v), .int (iI b)]) (n := 3) (Nat.le_of_ble_eq_true rfl)
  rw [lg_entry_eq]
  generalize (lg_sl ([.ref (ad 0), .int (iI v), .int (iI b)]) ++ List.replicate (3 - (lg_sl ([.ref (ad 0), .int (iI v), .int (iI b)])).length) Slot.unset).toArray = ls at hl ⊢
  have hl : lv_has ls 3 [(0, .ref (ad 0)), (1, .int (iI v)), (2, .int (iI b))] := hl
  obtain ⟨ok1, ok2, ok3, ok4, ok5⟩ := id hok
  have en : ((n : Int)).toNat = n := by omega
  have t5 := hT.2.1 n (Nat.le_refl n)
  refine lv_iload_n hx hb dX0_dump_0 rfl (lv_at hl 1 rfl) ?_
  refine r_if_lt hx hb dX0_dump_1 (tgt := 10) (by decide) (by omega) (fun hlt => ?_) (fun hge => ?_)
  · obtain ⟨sa, hsa⟩ := hE.2.2.2.1 (37, "a level is 0 to 9") (List.mem_of_getElem? (i := 1) rfl)
    exact vx_throwS (own := RX0) (cls := eIA) (names := eN) hx hb hl9 hown (by decide +kernel) (by decide +kernel) (hw _ wkX0_30) (hw _ wi_6) hsa (hat_34 hE hw) (by decide +kernel) (exE_none hE).1.1 (exE_none hE).1.2 hS (hl.1.trans hml.symm) dX0_dump_10 dX0_dump_13 dX0_dump_14 dX0_dump_16 dX0_dump_19 (fun x hx => (hEx x hx).elim) (Nat.le_of_ble_eq_true rfl) (Nat.le_of_ble_eq_true rfl) (Nat.le_of_ble_eq_true rfl) (Nat.le_of_ble_eq_true rfl) hlocks (fun t ha hsz hk => ⟨(), trivial, Or.inl ⟨rfl, by omega⟩, Nat.le_trans hS.1 hsz, fun q h1 h2 => (hk q (Nat.lt_of_lt_of_le h1 hS.1)).trans (hS.2.1 q h1 h2)⟩) (fun z hz => (hS.2.2 z hz).elim) (by decide) (by decide)
  · refine lv_iload_n hx hb dX0_dump_4 rfl (lv_at hl 1 rfl) ?_
    refine r_bipush hx hb dX0_dump_5 (by decide +kernel) ?_
    refine r_icmp_le hx hb dX0_dump_7 (tgt := 20) (by decide) (by omega) (by omega) (fun hin7 => ?_) (fun hout7 => ?_)
    · refine lv_iload_n hx hb dX0_dump_20 rfl (lv_at hl 2 rfl) ?_
      refine r_iconst hx hb dX0_dump_21 ?_
      refine r_icmp_lt hx hb dX0_dump_22 (tgt := 32) (by decide) (by omega) (by omega) (fun hlt2 => ?_) (fun hge2 => ?_)
      · obtain ⟨sa, hsa⟩ := hE.2.2.2.1 (39, "a dump has 1 to 500 blocks") (List.mem_of_getElem? (i := 2) rfl)
        exact vx_throwS (own := RX0) (cls := eIA) (names := eN) hx hb hl9 hown (by decide +kernel) (by decide +kernel) (hw _ wkX0_30) (hw _ wi_6) hsa (hat_34 hE hw) (by decide +kernel) (exE_none hE).1.1 (exE_none hE).1.2 hS (hl.1.trans hml.symm) dX0_dump_32 dX0_dump_35 dX0_dump_36 dX0_dump_38 dX0_dump_41 (fun x hx => (hEx x hx).elim) (Nat.le_of_ble_eq_true rfl) (Nat.le_of_ble_eq_true rfl) (Nat.le_of_ble_eq_true rfl) (Nat.le_of_ble_eq_true rfl) hlocks (fun t ha hsz hk => ⟨(), trivial, Or.inl ⟨rfl, by omega⟩, Nat.le_trans hS.1 hsz, fun q h1 h2 => (hk q (Nat.lt_of_lt_of_le h1 hS.1)).trans (hS.2.1 q h1 h2)⟩) (fun z hz => (hS.2.2 z hz).elim) (by decide) (by decide)
      · refine lv_iload_n hx hb dX0_dump_25 rfl (lv_at hl 2 rfl) ?_
        refine r_sipush hx hb dX0_dump_26 (by decide +kernel) ?_
        refine r_icmp_le hx hb dX0_dump_29 (tgt := 42) (by decide) (by omega) (by omega) (fun hin29 => ?_) (fun hout29 => ?_)
        · refine lv_aload_n hx hb dX0_dump_42 rfl (lv_at hl 0 rfl) ?_
          refine va_get (D := (dC, dI)) (ci := 0) (v := .int (iI ((n : Int)))) (C := RX0) (T := TX0) (N := 8) hx hb hts hinTX0 hown hK hP 0 rfl rfl 5 (by decide) fl41 (fun _ h9 => h9) rfl dX0_dump_43 ?_
          refine r_sipush hx hb dX0_dump_46 (by decide +kernel) ?_
          refine r_icmp_lt hx hb dX0_dump_49 (tgt := 62) (by decide) (by omega) (by omega) (fun hin49 => ?_) (fun hout49 => ?_)
          · refine lv_aload_n hx hb dX0_dump_62 rfl (lv_at hl 0 rfl) ?_
            refine va_get (D := (dC, dI)) (ci := 0) (v := .ref (ad 5)) (C := RX0) (T := TX0) (N := 8) hx hb hts hinTX0 hown hK hP 0 rfl rfl 4 (by decide) fl23 (fun _ h9 => h9) rfl dX0_dump_63 ?_
            refine lv_aload_n hx hb dX0_dump_66 rfl (lv_at hl 0 rfl) ?_
            refine va_get (D := (dC, dI)) (ci := 0) (v := .int (iI ((n : Int)))) (C := RX0) (T := TX0) (N := 8) hx hb hts hinTX0 hown hK hP 0 rfl rfl 5 (by decide) fl41 (fun _ h9 => h9) rfl dX0_dump_67 ?_
            refine r_iald hx hb hK hP 5 4 rfl rfl (by omega) (by omega) (by decide) dX0_dump_70 ?_
            refine r_topi (b := (sm S n : Int)) (by rw [en]; exact t5) ?_
            refine lv_iload_n hx hb dX0_dump_71 rfl (lv_at hl 2 rfl) ?_
            refine r_iadd hx hb dX0_dump_72 ?_
            refine r_bipush hx hb dX0_dump_73 (by decide +kernel) ?_
            refine lv_aload_n hx hb dX0_dump_75 rfl (lv_at hl 0 rfl) ?_
            refine va_get (D := (dC, dI)) (ci := 0) (v := .int (iI ((r : Int)))) (C := RX0) (T := TX0) (N := 8) hx hb hts hinTX0 hown hK hP 0 rfl rfl 6 (by decide) fl50 (fun _ h9 => h9) rfl dX0_dump_76 ?_
            refine r_imul hx hb dX0_dump_79 ?_
            refine r_icmp_le hx hb dX0_dump_80 (tgt := 93) (by decide) (by omega) (by omega) (fun hin80 => ?_) (fun hout80 => ?_)
            · have hl : lv_has ls 3 [(0, .ref (ad 0)), (1, .int (iI (v.toNat : Int))), (2, .int (iI (b.toNat : Int)))] := by
                rw [Int.toNat_of_nonneg (by omega : 0 ≤ v), Int.toNat_of_nonneg (by omega : 0 ≤ b)]
                exact hl
              have hD := wD_own hD0
              obtain ⟨A, hAe⟩ : ∃ A, A = inW (wX ad ca gL gB gD gN gS ((n : Int)) ((r : Int)) x) := ⟨_, rfl⟩
              rw [← hAe] at hD
              have hS : va_S A s.heap H locs := vS_up hS
              refine lv_aload_n hx hb dX0_dump_93 rfl (lv_at hl 0 rfl) ?_
              refine lv_iload_n hx hb dX0_dump_94 rfl (lv_at hl 1 rfl) ?_
              refine lv_iload_n hx hb dX0_dump_95 rfl (lv_at hl 2 rfl) ?_
              refine wc_i (va_runV (As := [.int (iI ((v.toNat : Int))), .int (iI ((b.toNat : Int)))]) (rest := []) ⟨hx, hb, hml, hown, hts⟩ (m_append l dC dI ad ca gL gB gD gN gS n r x L S lo hok hT v.toNat b.toNat (by omega) (by omega) (by omega) (by omega) (by omega)) (cwV 2 hts (gV wlX0_55 wo_X0_append wz_X0_append wi_1 wcX0_append) rfl rfl rfl (by decide +kernel) ⟨Nat.le_of_ble_eq_true rfl, Nat.le_of_ble_eq_true rfl⟩) (PX_V (q0 := 0) (ci := 0) hP hK hD rfl rfl) rfl rfl hl.1 rfl (lv_room (Nat.le_of_ble_eq_true rfl)) dX0_dump_96 ⟨Nat.le_of_ble_eq_true rfl, Nat.le_of_ble_eq_true rfl⟩) hS (by rw [hAe]; exact fun q h => inW_same (by rfl) h) (fun r9 u9 H locs hv9 hP hS hk9 => ?_)
              have hP : va_P (dC, dI) vwCl (wX ad ca u9.1 u9.2.1 u9.2.2.1 u9.2.2.2.1 u9.2.2.2.2 ((n : Int) + 1) ((r : Int)) x) H := hP
              have hD : va_D A (wX ad ca u9.1 u9.2.1 u9.2.2.1 u9.2.2.2.1 u9.2.2.2.2 ((n : Int) + 1) ((r : Int)) x) := wD_same hD rfl
              obtain ⟨rfl, hTn⟩ := hv9
              subst hAe
              refine vx_ret ?_
              refine W.widen (k := 1) (n := 6) (by decide) (by decide) ?_
              exact W.iret (v := iI ((n : Int))) hx hb hr (fun t ht hW => ⟨⟨_, u9, rfl, ⟨by omega, rfl, hTn⟩, by subst ht; exact hP⟩, hS.F ht⟩) hS.2.2 dX0_dump_99
            · obtain ⟨sa, hsa⟩ := hE.2.2.2.1 (53, "64 volumes are too few") (List.mem_of_getElem? (i := 4) rfl)
              exact vx_throwS (own := RX0) (cls := eIS) (names := eN) hx hb hl9 hown (by decide +kernel) (by decide +kernel) (hw _ wkX0_45) (hw _ wi_7) hsa (hat_49 hE hw) (by decide +kernel) (exE_none hE).1.1 (exE_none hE).1.2 hS (hl.1.trans hml.symm) dX0_dump_83 dX0_dump_86 dX0_dump_87 dX0_dump_89 dX0_dump_92 (fun x hx => (hEx x hx).elim) (Nat.le_of_ble_eq_true rfl) (Nat.le_of_ble_eq_true rfl) (Nat.le_of_ble_eq_true rfl) (Nat.le_of_ble_eq_true rfl) hlocks (fun t ha hsz hk => ⟨(), trivial, Or.inr ⟨rfl, by omega, by omega⟩, Nat.le_trans hS.1 hsz, fun q h1 h2 => (hk q (Nat.lt_of_lt_of_le h1 hS.1)).trans (hS.2.1 q h1 h2)⟩) (fun z hz => (hS.2.2 z hz).elim) (by decide) (by decide)
          · obtain ⟨sa, hsa⟩ := hE.2.2.2.1 (47, "there are 300 dumps") (List.mem_of_getElem? (i := 3) rfl)
            exact vx_throwS (own := RX0) (cls := eIS) (names := eN) hx hb hl9 hown (by decide +kernel) (by decide +kernel) (hw _ wkX0_45) (hw _ wi_7) hsa (hat_49 hE hw) (by decide +kernel) (exE_none hE).1.1 (exE_none hE).1.2 hS (hl.1.trans hml.symm) dX0_dump_52 dX0_dump_55 dX0_dump_56 dX0_dump_58 dX0_dump_61 (fun x hx => (hEx x hx).elim) (Nat.le_of_ble_eq_true rfl) (Nat.le_of_ble_eq_true rfl) (Nat.le_of_ble_eq_true rfl) (Nat.le_of_ble_eq_true rfl) hlocks (fun t ha hsz hk => ⟨(), trivial, Or.inr ⟨rfl, by omega, by omega⟩, Nat.le_trans hS.1 hsz, fun q h1 h2 => (hk q (Nat.lt_of_lt_of_le h1 hS.1)).trans (hS.2.1 q h1 h2)⟩) (fun z hz => (hS.2.2 z hz).elim) (by decide) (by decide)
        · obtain ⟨sa, hsa⟩ := hE.2.2.2.1 (39, "a dump has 1 to 500 blocks") (List.mem_of_getElem? (i := 2) rfl)
          exact vx_throwS (own := RX0) (cls := eIA) (names := eN) hx hb hl9 hown (by decide +kernel) (by decide +kernel) (hw _ wkX0_30) (hw _ wi_6) hsa (hat_34 hE hw) (by decide +kernel) (exE_none hE).1.1 (exE_none hE).1.2 hS (hl.1.trans hml.symm) dX0_dump_32 dX0_dump_35 dX0_dump_36 dX0_dump_38 dX0_dump_41 (fun x hx => (hEx x hx).elim) (Nat.le_of_ble_eq_true rfl) (Nat.le_of_ble_eq_true rfl) (Nat.le_of_ble_eq_true rfl) (Nat.le_of_ble_eq_true rfl) hlocks (fun t ha hsz hk => ⟨(), trivial, Or.inl ⟨rfl, by omega⟩, Nat.le_trans hS.1 hsz, fun q h1 h2 => (hk q (Nat.lt_of_lt_of_le h1 hS.1)).trans (hS.2.1 q h1 h2)⟩) (fun z hz => (hS.2.2 z hz).elim) (by decide) (by decide)
    · obtain ⟨sa, hsa⟩ := hE.2.2.2.1 (37, "a level is 0 to 9") (List.mem_of_getElem? (i := 1) rfl)
      exact vx_throwS (own := RX0) (cls := eIA) (names := eN) hx hb hl9 hown (by decide +kernel) (by decide +kernel) (hw _ wkX0_30) (hw _ wi_6) hsa (hat_34 hE hw) (by decide +kernel) (exE_none hE).1.1 (exE_none hE).1.2 hS (hl.1.trans hml.symm) dX0_dump_10 dX0_dump_13 dX0_dump_14 dX0_dump_16 dX0_dump_19 (fun x hx => (hEx x hx).elim) (Nat.le_of_ble_eq_true rfl) (Nat.le_of_ble_eq_true rfl) (Nat.le_of_ble_eq_true rfl) (Nat.le_of_ble_eq_true rfl) hlocks (fun t ha hsz hk => ⟨(), trivial, Or.inl ⟨rfl, by omega⟩, Nat.le_trans hS.1 hsz, fun q h1 h2 => (hk q (Nat.lt_of_lt_of_le h1 hS.1)).trans (hS.2.1 q h1 h2)⟩) (fun z hz => (hS.2.2 z hz).elim) (by decide) (by decide)
set_option maxHeartbeats 4000000 in
set_option maxRecDepth 100000 in
theorem m_drop (l : Launch) (hl9 : l.stackTraces = false) (dC : Nat → ClassId) (dI : Nat → Nat → Nat) (ad : Nat → Nat) (ca : Nat → ClassId) (gL gB gD : Nat → Int) (gN : Nat → Int64) (gS : Nat → Int) (n r : Nat) (x : Int64) (hn : n ≤ 300) (q : Int) (hq : iR q) : vx_Met l yX0_drop wsX0_drop { frames := 6, cells := 1, slots := 6, locals := 82 } (PXe (dC, dI) vwCl (yX ca) (wX ad ca gL gB gD gN gS ((n : Int)) ((r : Int)) x) [.ref (ad 0), .int (iI q)]) (va_Qv (fun (_ : Unit) => 0 ≤ q ∧ q ≤ (n : Int)) (fun _ t => va_P (dC, dI) vwCl (wX ad ca gL gB gD gN gS ((n : Int) - q) ((r : Int)) x) t.heap) (inW (wX ad ca gL gB gD gN gS ((n : Int)) ((r : Int)) x))) (xcE (fun E => E = eIA ∧ (q < 0 ∨ (n : Int) < q))) 1 6 (inW (wX ad ca gL gB gD gN gS ((n : Int)) ((r : Int)) x)) := by
  refine vx_ofW (cc := cX0_drop) (maxL := 2) (ret := none) (by decide) rfl ?_
  intro p e s m args below meth c s₁ B hml hEx hv
  obtain ⟨rfl, hP, hK, hD0, hE⟩ := hv
  have hx := B.exec
  have hb := B.bytes
  have hr := B.returns
  have hts := atoms_spec (ws := wsX0_drop) B.pre
  have hown : s.vm.findClass RX0 = some m.cls := findClass_of_methodNamed B.named
  have hlocks := B.notSynchronized
  have hw := fun w h => hts w (List.mem_cons_of_mem _ h)
  have hinTX0 : ∀ w ∈ u_ws RX0 TX0 8, w ∈ wsX0_drop := wA_u wuX0
  have fl41 := hw _ wfX0_41
  have hD := hD0
  obtain ⟨H, hH⟩ : ∃ H, H = s.heap := ⟨_, rfl⟩
  obtain ⟨locs, hlc⟩ : ∃ L : List Loc, L = [] := ⟨_, rfl⟩
  have hS : va_S nF s.heap H locs := by rw [hH, hlc]; exact va_S.rf
  rw [← hH] at hP ⊢
  rw [← hlc]
  have hl := lv_entry ([.ref (ad 0), .int (iI q)]) (n := 2) (Nat.le_of_ble_eq_true rfl)
  rw [lg_entry_eq]
  generalize (lg_sl ([.ref (ad 0), .int (iI q)]) ++ List.replicate (2 - (lg_sl ([.ref (ad 0), .int (iI q)])).length) Slot.unset).toArray = ls at hl ⊢
  have hl : lv_has ls 2 [(0, .ref (ad 0)), (1, .int (iI q))] := hl
  refine lv_iload_n hx hb dX0_drop_0 rfl (lv_at hl 1 rfl) ?_
  refine r_if_lt hx hb dX0_drop_1 (tgt := 12) (by decide) (by omega) (fun hlt => ?_) (fun hge => ?_)
  · obtain ⟨sa, hsa⟩ := hE.2.2.2.1 (59, "there are not so many dumps") (List.mem_of_getElem? (i := 5) rfl)
    exact vx_throwS (own := RX0) (cls := eIA) (names := eN) hx hb hl9 hown (by decide +kernel) (by decide +kernel) (hw _ wkX0_30) (hw _ wi_6) hsa (hat_34 hE hw) (by decide +kernel) (exE_none hE).1.1 (exE_none hE).1.2 hS (hl.1.trans hml.symm) dX0_drop_12 dX0_drop_15 dX0_drop_16 dX0_drop_18 dX0_drop_21 (fun x hx => (hEx x hx).elim) (Nat.le_of_ble_eq_true rfl) (Nat.le_of_ble_eq_true rfl) (Nat.le_of_ble_eq_true rfl) (Nat.le_of_ble_eq_true rfl) hlocks (fun t ha hsz hk => ⟨(), trivial, ⟨rfl, Or.inl hlt⟩, Nat.le_trans hS.1 hsz, fun q h1 h2 => (hk q (Nat.lt_of_lt_of_le h1 hS.1)).trans (hS.2.1 q h1 h2)⟩) (fun z hz => (hS.2.2 z hz).elim) (by decide) (by decide)
  · refine lv_iload_n hx hb dX0_drop_4 rfl (lv_at hl 1 rfl) ?_
    refine lv_aload_n hx hb dX0_drop_5 rfl (lv_at hl 0 rfl) ?_
    refine va_get (D := (dC, dI)) (ci := 0) (v := .int (iI ((n : Int)))) (C := RX0) (T := TX0) (N := 8) hx hb hts hinTX0 hown hK hP 0 rfl rfl 5 (by decide) fl41 (fun _ h9 => h9) rfl dX0_drop_6 ?_
    refine r_icmp_le hx hb dX0_drop_9 (tgt := 22) (by decide) (by omega) (by omega) (fun hin9 => ?_) (fun hout => ?_)
    · have hD := wD_own hD0
      obtain ⟨A, hAe⟩ : ∃ A, A = inW (wX ad ca gL gB gD gN gS ((n : Int)) ((r : Int)) x) := ⟨_, rfl⟩
      rw [← hAe] at hD
      have hS : va_S A s.heap H locs := vS_up hS
      refine lv_aload_n hx hb dX0_drop_22 rfl (lv_at hl 0 rfl) ?_
      refine lv_dup hx hb dX0_drop_23 rfl ?_
      refine va_get (D := (dC, dI)) (ci := 0) (v := .int (iI ((n : Int)))) (C := RX0) (T := TX0) (N := 8) hx hb hts hinTX0 hown hK hP 0 rfl rfl 5 (by decide) fl41 (fun _ h9 => h9) rfl dX0_drop_24 ?_
      refine lv_iload_n hx hb dX0_drop_27 rfl (lv_at hl 1 rfl) ?_
      refine r_isub hx hb dX0_drop_28 ?_
      refine va_put (D := (dC, dI)) (ci := 0) (v := .int (iI (((n : Int)) - q))) (ty := .int) (C := RX0) (T := TX0) (N := 8) hx hb hts hinTX0 tyX0 tyX0_ok nmX0 hown hK hP hD hS 0 rfl rfl 5 (by decide) fl41 (fun _ h9 => h9) rfl (by decide +kernel) rfl rfl (Nat.le_of_ble_eq_true rfl) dX0_drop_29 (fun H locs hP hD hS => ?_)
      have hP : va_P (dC, dI) vwCl (wX ad ca gL gB gD gN gS (((n : Int)) - q) ((r : Int)) x) H := hP
      have hD : va_D A (wX ad ca gL gB gD gN gS (((n : Int)) - q) ((r : Int)) x) := hD
      subst hAe
      refine vx_ret ?_
      refine W.widen (k := 1) (n := 6) (by decide) (by decide) ?_
      exact W.vret hx hb hr (fun t ht hW => ⟨⟨(), rfl, ⟨hge, hin9⟩, by subst ht; exact hP⟩, hS.F ht⟩) hS.2.2 dX0_drop_32
    · obtain ⟨sa, hsa⟩ := hE.2.2.2.1 (59, "there are not so many dumps") (List.mem_of_getElem? (i := 5) rfl)
      exact vx_throwS (own := RX0) (cls := eIA) (names := eN) hx hb hl9 hown (by decide +kernel) (by decide +kernel) (hw _ wkX0_30) (hw _ wi_6) hsa (hat_34 hE hw) (by decide +kernel) (exE_none hE).1.1 (exE_none hE).1.2 hS (hl.1.trans hml.symm) dX0_drop_12 dX0_drop_15 dX0_drop_16 dX0_drop_18 dX0_drop_21 (fun x hx => (hEx x hx).elim) (Nat.le_of_ble_eq_true rfl) (Nat.le_of_ble_eq_true rfl) (Nat.le_of_ble_eq_true rfl) (Nat.le_of_ble_eq_true rfl) hlocks (fun t ha hsz hk => ⟨(), trivial, ⟨rfl, Or.inr hout⟩, Nat.le_trans hS.1 hsz, fun q h1 h2 => (hk q (Nat.lt_of_lt_of_le h1 hS.1)).trans (hS.2.1 q h1 h2)⟩) (fun z hz => (hS.2.2 z hz).elim) (by decide) (by decide)
set_option maxHeartbeats 4000000 in
set_option maxRecDepth 100000 in
theorem m_chain (l : Launch) (hl9 : l.stackTraces = false) (dC : Nat → ClassId) (dI : Nat → Nat → Nat) (ad : Nat → Nat) (ca : Nat → ClassId) (gL gB gD : Nat → Int) (gN : Nat → Int64) (gS : Nat → Int) (n r : Nat) (x : Int64) (L S : Nat → Nat) (lo : Nat → Bool) (hok : okS n L S r) (hT : tX n L S r lo gL gB gD gN gS x) (q k : Int) (hq : iR q) (hk0 : iR k) : vx_Met l yX0_chain wsX0_chain { frames := 7, cells := 2, slots := 12, locals := 103 } (PXe (dC, dI) vwCl (yX ca) (wX ad ca gL gB gD gN gS ((n : Int)) ((r : Int)) x) [.ref (ad 0), .int (iI q), .int (iI k)]) (RQi (fun y => (0 ≤ q ∧ q < (n : Int)) ∧ 0 ≤ k ∧ y = iI ((ch L (q.toNat + 1) k.toNat : Int) - 1))) (xcE (fun E => (E = eIX ∧ (q < 0 ∨ (n : Int) ≤ q)) ∨ (E = eIA ∧ (0 ≤ q ∧ q < (n : Int)) ∧ k < 0))) 2 12 nF := by
  refine vx_ofW (cc := cX0_chain) (maxL := 5) (ret := (some .int)) (by decide) rfl ?_
  intro p e s m args below meth c s₁ B hml hEx hv
  obtain ⟨rfl, hP, hK, hD0, hE⟩ := hv
  have hx := B.exec
  have hb := B.bytes
  have hr := B.returns
  have hts := atoms_spec (ws := wsX0_chain) B.pre
  have hown : s.vm.findClass RX0 = some m.cls := findClass_of_methodNamed B.named
  have hlocks := B.notSynchronized
  have hw := fun w h => hts w (List.mem_cons_of_mem _ h)
  have hinTX0 : ∀ w ∈ u_ws RX0 TX0 8, w ∈ wsX0_chain := wA_u wuX0
  have fl13 := hw _ wfX0_13
  have hD := hD0
  obtain ⟨H, hH⟩ : ∃ H, H = s.heap := ⟨_, rfl⟩
  obtain ⟨locs, hlc⟩ : ∃ L : List Loc, L = [] := ⟨_, rfl⟩
  have hS : va_S nF s.heap H locs := by rw [hH, hlc]; exact va_S.rf
  rw [← hH] at hP ⊢
  rw [← hlc]
  have hl := lv_entry ([.ref (ad 0), .int (iI q), .int (iI k)]) (n := 5) (Nat.le_of_ble_eq_true rfl)
  rw [lg_entry_eq]
  generalize (lg_sl ([.ref (ad 0), .int (iI q), .int (iI k)]) ++ List.replicate (5 - (lg_sl ([.ref (ad 0), .int (iI q), .int (iI k)])).length) Slot.unset).toArray = ls at hl ⊢
  have hl : lv_has ls 5 [(0, .ref (ad 0)), (1, .int (iI q)), (2, .int (iI k))] := hl
  obtain ⟨ok1, ok2, ok3, ok4, ok5⟩ := id hok
  refine lv_aload_n hx hb dX0_chain_0 rfl (lv_at hl 0 rfl) ?_
  refine lv_iload_n hx hb dX0_chain_1 rfl (lv_at hl 1 rfl) ?_
  refine vc_v (vx_runV (As := [.int (iI q)]) (rest := []) ⟨hx, hb, hml, hown, hts⟩ (m_checkDump l hl9 dC dI ad ca gL gB gD gN gS n r x q hq ok1) (cwV 1 hts (gV wlX0_61 wo_X0_checkDump wz_X0_checkDump wi_1 wcX0_checkDump) rfl rfl rfl (by decide +kernel) ⟨Nat.le_of_ble_eq_true rfl, Nat.le_of_ble_eq_true rfl⟩) (PXe_V (q0 := 0) (ci := 0) hP hK hD hE (fun a h _ => hS.2.1 a h (fun z => z)) (fun _ h => h) rfl rfl) rfl rfl hl.1 rfl (lv_room (Nat.le_of_ble_eq_true rfl)) dX0_chain_2 ⟨Nat.le_of_ble_eq_true rfl, Nat.le_of_ble_eq_true rfl⟩) hS hP (fun E ce q9 H locs hPE hS hce hcv hcl => ?_) (fun H locs hc hP hS => ?_)
  · exact vx_out (E := E) (fun x hx => (hEx x hx).elim) hlocks hce hcv hcl (fun t ht ha => ⟨(), trivial, Or.inl hPE, hS.F ht⟩) (fun z hz => (hS.2.2 z hz).elim) (by decide) (by decide)
  refine lv_iload_n hx hb dX0_chain_5 rfl (lv_at hl 2 rfl) ?_
  refine r_if_ge hx hb dX0_chain_6 (tgt := 19) (by decide) (by omega) (fun hge => ?_) (fun hlt => ?_)
  · have hl : lv_has ls 5 [(0, .ref (ad 0)), (1, .int (iI ((q.toNat : Int)))), (2, .int (iI k))] := by
      rw [Int.toNat_of_nonneg hc.1]
      exact hl
    refine lv_iload_n hx hb dX0_chain_19 rfl (lv_at hl 1 rfl) ?_
    refine lv_istore_n hx hb dX0_chain_20 rfl hl (by decide) rfl (fun ls hl => ?_)
    have hl : lv_has ls 5 [(3, .int (iI ((q.toNat : Int)))), (0, .ref (ad 0)), (1, .int (iI ((q.toNat : Int)))), (2, .int (iI k))] := hl
    refine r_iconst hx hb dX0_chain_21 ?_
    refine lv_istore hx hb dX0_chain_22 hl (by decide) rfl (fun ls hl => ?_)
    have hl : lv_has ls 5 [(4, .int (iI 0)), (3, .int (iI ((q.toNat : Int)))), (0, .ref (ad 0)), (1, .int (iI ((q.toNat : Int)))), (2, .int (iI k))] := hl
    have loop : ∀ (N : Nat) (i : Nat) (p9 : Nat) (ls : Array Slot), p9 < N → (i ≤ k.toNat) → (p9 = ch L (q.toNat + 1) i) → lv_has ls 5 [(4, .int (iI ((i : Int)))), (3, .int (iI ((p9 : Int) - 1))), (0, .ref (ad 0)), (1, .int (iI ((q.toNat : Int)))), (2, .int (iI k))] → W p l e (headSpec wsX0_chain { frames := 7, cells := 2, slots := 12, locals := 103 }).room s m ([.ref (ad 0), .int (iI q), .int (iI k)]).toArray below meth c H locs (0 + 1) (0 + 6) (vx_MQ below (RQi (fun y => (0 ≤ q ∧ q < (n : Int)) ∧ 0 ≤ k ∧ y = iI ((ch L (q.toNat + 1) k.toNat : Int) - 1))) (xcE (fun E => (E = eIX ∧ (q < 0 ∨ (n : Int) ≤ q)) ∨ (E = eIA ∧ (0 ≤ q ∧ q < (n : Int)) ∧ k < 0))) ([.ref (ad 0), .int (iI q), .int (iI k)]).toArray s 2 12 nF) (F0 m 24 ls []) := by
      intro N
      induction N with
      | zero => intro i p9 ls h; exact absurd h (Nat.not_lt_zero _)
      | succ N ih =>
        intro i p9 ls hN hi hp hl
        refine lv_iload hx hb dX0_chain_24 (lv_at hl 0 rfl) ?_
        refine lv_iload_n hx hb dX0_chain_26 rfl (lv_at hl 4 rfl) ?_
        refine r_icmp_ge hx hb dX0_chain_27 (tgt := 48) (by decide) (by omega) (by omega) (fun hge2 => ?_) (fun hlt2 => ?_)
        · have hik : i = k.toNat := by omega
          subst hik
          refine lv_iload_n hx hb dX0_chain_48 rfl (lv_at hl 1 rfl) ?_
          refine vx_ret ?_
          refine W.widen (k := 2) (n := 12) (by decide) (by decide) ?_
          exact W.iret (v := iI ((p9 : Int) - 1)) hx hb hr (fun t ht hW => ⟨⟨_, (), rfl, ⟨hc, hge, by rw [hp]⟩, trivial⟩, hS.F ht⟩) hS.2.2 dX0_chain_49
        · have hpl := ch_le L (q.toNat + 1) i
          refine lv_iload_n hx hb dX0_chain_30 rfl (lv_at hl 1 rfl) ?_
          refine r_iconst hx hb dX0_chain_31 ?_
          refine r_icmp_eq hx hb dX0_chain_32 (tgt := 48) (by decide) (by omega) (by omega) (fun heq => ?_) (fun hne => ?_)
          · have hp0 : p9 = 0 := by omega
            have hz := ch_0 (hp.symm.trans hp0) k.toNat (by omega)
            refine lv_iload_n hx hb dX0_chain_48 rfl (lv_at hl 1 rfl) ?_
            refine vx_ret ?_
            refine W.widen (k := 2) (n := 12) (by decide) (by decide) ?_
            exact W.iret (v := iI ((p9 : Int) - 1)) hx hb hr (fun t ht hW => ⟨⟨_, (), rfl, ⟨hc, hge, by rw [hz, hp0]⟩, trivial⟩, hS.F ht⟩) hS.2.2 dX0_chain_49
          · obtain ⟨j, hj⟩ : ∃ j, p9 = j + 1 := ⟨p9 - 1, by omega⟩
            have ej : ((p9 : Int) - 1).toNat = j := by omega
            obtain ⟨-, t2, -, -⟩ := hT.1 j (by omega)
            have hbl := bs_le L j
            refine lv_aload_n hx hb dX0_chain_35 rfl (lv_at hl 2 rfl) ?_
            refine va_get (D := (dC, dI)) (ci := 0) (v := .ref (ad 2)) (C := RX0) (T := TX0) (N := 8) hx hb hts hinTX0 hown hK hP 0 rfl rfl 1 (by decide) fl13 (fun _ h9 => h9) rfl dX0_chain_36 ?_
            refine lv_iload_n hx hb dX0_chain_39 rfl (lv_at hl 1 rfl) ?_
            refine r_iald hx hb hK hP 2 1 rfl rfl (by omega) (by omega) (by decide) dX0_chain_40 ?_
            refine r_topi (b := (bs L j : Int) - 1) (by rw [ej]; exact t2) ?_
            refine lv_istore_n hx hb dX0_chain_41 rfl hl (by decide) rfl (fun ls hl => ?_)
            have hl : lv_has ls 5 [(3, .int (iI ((bs L j : Int) - 1))), (4, .int (iI ((i : Int)))), (0, .ref (ad 0)), (1, .int (iI ((q.toNat : Int)))), (2, .int (iI k))] := hl
            refine r_iinc (k := 1) hx hb dX0_chain_42 hl rfl (by decide) rfl (fun ls hl => ?_)
            have hl : lv_has ls 5 [(4, .int (iI ((i : Int) + 1))), (3, .int (iI ((bs L j : Int) - 1))), (0, .ref (ad 0)), (1, .int (iI ((q.toNat : Int)))), (2, .int (iI k))] := hl
            refine lv_goto hx hb dX0_chain_45 (tgt := 24) (by decide) ?_
            have hl : lv_has ls 5 [(4, .int (iI ((i + 1 : Nat) : Int))), (3, .int (iI ((bs L j : Int) - 1))), (0, .ref (ad 0)), (1, .int (iI (q.toNat : Int))), (2, .int (iI k))] := by
              rw [show ((i + 1 : Nat) : Int) = (i : Int) + 1 by omega]
              exact hl
            exact ih (i + 1) (bs L j) ls (by omega) (by omega) (by show bs L j = nx L (ch L (q.toNat + 1) i); rw [← hp, hj]; rfl) hl
    have hl : lv_has ls 5 [(4, .int (iI ((0 : Nat) : Int))), (3, .int (iI (((q.toNat + 1 : Nat) : Int) - 1))), (0, .ref (ad 0)), (1, .int (iI (q.toNat : Int))), (2, .int (iI k))] := by
      rw [show ((q.toNat + 1 : Nat) : Int) - 1 = (q.toNat : Int) by omega]
      exact hl
    exact loop (q.toNat + 2) 0 (q.toNat + 1) ls (by omega) (Nat.zero_le _) rfl hl
  · obtain ⟨sa, hsa⟩ := hE.2.2.2.1 (64, "a chain is counted from 0") (List.mem_of_getElem? (i := 7) rfl)
    exact vx_throwS (own := RX0) (cls := eIA) (names := eN) hx hb hl9 hown (by decide +kernel) (by decide +kernel) (hw _ wkX0_30) (hw _ wi_6) hsa (hat_34 hE hw) (by decide +kernel) (exE_none hE).1.1 (exE_none hE).1.2 hS (hl.1.trans hml.symm) dX0_chain_9 dX0_chain_12 dX0_chain_13 dX0_chain_15 dX0_chain_18 (fun x hx => (hEx x hx).elim) (Nat.le_of_ble_eq_true rfl) (Nat.le_of_ble_eq_true rfl) (Nat.le_of_ble_eq_true rfl) (Nat.le_of_ble_eq_true rfl) hlocks (fun t ha hsz hk => ⟨(), trivial, Or.inr ⟨rfl, hc, hlt⟩, Nat.le_trans hS.1 hsz, fun q h1 h2 => (hk q (Nat.lt_of_lt_of_le h1 hS.1)).trans (hS.2.1 q h1 h2)⟩) (fun z hz => (hS.2.2 z hz).elim) (by decide) (by decide)
set_option maxHeartbeats 4000000 in
set_option maxRecDepth 100000 in
theorem m_depth (l : Launch) (hl9 : l.stackTraces = false) (dC : Nat → ClassId) (dI : Nat → Nat → Nat) (ad : Nat → Nat) (ca : Nat → ClassId) (gL gB gD : Nat → Int) (gN : Nat → Int64) (gS : Nat → Int) (n r : Nat) (x : Int64) (L S : Nat → Nat) (lo : Nat → Bool) (hok : okS n L S r) (hT : tX n L S r lo gL gB gD gN gS x) (q : Int) (hq : iR q) : vx_Met l yX0_depth wsX0_depth { frames := 7, cells := 1, slots := 6, locals := 103 } (PXe (dC, dI) vwCl (yX ca) (wX ad ca gL gB gD gN gS ((n : Int)) ((r : Int)) x) [.ref (ad 0), .int (iI q)]) (RQi (fun y => (0 ≤ q ∧ q < (n : Int)) ∧ y = iI (dp L (q.toNat + 1) : Int))) (xcE (fun E => E = eIX ∧ (q < 0 ∨ (n : Int) ≤ q))) 1 6 nF := by
  refine vx_ofW (cc := cX0_depth) (maxL := 2) (ret := (some .int)) (by decide) rfl ?_
  intro p e s m args below meth c s₁ B hml hEx hv
  obtain ⟨rfl, hP, hK, hD0, hE⟩ := hv
  have hx := B.exec
  have hb := B.bytes
  have hr := B.returns
  have hts := atoms_spec (ws := wsX0_depth) B.pre
  have hown : s.vm.findClass RX0 = some m.cls := findClass_of_methodNamed B.named
  have hlocks := B.notSynchronized
  have hw := fun w h => hts w (List.mem_cons_of_mem _ h)
  have hinTX0 : ∀ w ∈ u_ws RX0 TX0 8, w ∈ wsX0_depth := wA_u wuX0
  have fl16 := hw _ wfX0_16
  have hD := hD0
  obtain ⟨H, hH⟩ : ∃ H, H = s.heap := ⟨_, rfl⟩
  obtain ⟨locs, hlc⟩ : ∃ L : List Loc, L = [] := ⟨_, rfl⟩
  have hS : va_S nF s.heap H locs := by rw [hH, hlc]; exact va_S.rf
  rw [← hH] at hP ⊢
  rw [← hlc]
  have hl := lv_entry ([.ref (ad 0), .int (iI q)]) (n := 2) (Nat.le_of_ble_eq_true rfl)
  rw [lg_entry_eq]
  generalize (lg_sl ([.ref (ad 0), .int (iI q)]) ++ List.replicate (2 - (lg_sl ([.ref (ad 0), .int (iI q)])).length) Slot.unset).toArray = ls at hl ⊢
  have hl : lv_has ls 2 [(0, .ref (ad 0)), (1, .int (iI q))] := hl
  obtain ⟨ok1, ok2, ok3, ok4, ok5⟩ := id hok
  refine lv_aload_n hx hb dX0_depth_0 rfl (lv_at hl 0 rfl) ?_
  refine lv_iload_n hx hb dX0_depth_1 rfl (lv_at hl 1 rfl) ?_
  refine vc_v (vx_runV (As := [.int (iI q)]) (rest := []) ⟨hx, hb, hml, hown, hts⟩ (m_checkDump l hl9 dC dI ad ca gL gB gD gN gS n r x q hq ok1) (cwV 1 hts (gV wlX0_61 wo_X0_checkDump wz_X0_checkDump wi_1 wcX0_checkDump) rfl rfl rfl (by decide +kernel) ⟨Nat.le_of_ble_eq_true rfl, Nat.le_of_ble_eq_true rfl⟩) (PXe_V (q0 := 0) (ci := 0) hP hK hD hE (fun a h _ => hS.2.1 a h (fun z => z)) (fun _ h => h) rfl rfl) rfl rfl hl.1 rfl (lv_room (Nat.le_of_ble_eq_true rfl)) dX0_depth_2 ⟨Nat.le_of_ble_eq_true rfl, Nat.le_of_ble_eq_true rfl⟩) hS hP (fun E ce q9 H locs hPE hS hce hcv hcl => ?_) (fun H locs hc hP hS => ?_)
  · exact vx_out (E := E) (fun x hx => (hEx x hx).elim) hlocks hce hcv hcl (fun t ht ha => ⟨(), trivial, hPE, hS.F ht⟩) (fun z hz => (hS.2.2 z hz).elim) (by decide) (by decide)
  obtain ⟨-, -, t3, -⟩ := hT.1 q.toNat (by omega)
  refine lv_aload_n hx hb dX0_depth_5 rfl (lv_at hl 0 rfl) ?_
  refine va_get (D := (dC, dI)) (ci := 0) (v := .ref (ad 3)) (C := RX0) (T := TX0) (N := 8) hx hb hts hinTX0 hown hK hP 0 rfl rfl 2 (by decide) fl16 (fun _ h9 => h9) rfl dX0_depth_6 ?_
  refine lv_iload_n hx hb dX0_depth_9 rfl (lv_at hl 1 rfl) ?_
  refine r_iald hx hb hK hP 3 2 rfl rfl (by omega) (by omega) (by decide) dX0_depth_10 ?_
  refine vx_ret ?_
  refine W.widen (k := 1) (n := 6) (by decide) (by decide) ?_
  exact W.iret (v := iI (gD (q).toNat)) hx hb hr (fun t ht hW => ⟨⟨_, (), rfl, ⟨hc, by rw [t3]⟩, trivial⟩, hS.F ht⟩) hS.2.2 dX0_depth_11
set_option maxHeartbeats 4000000 in
set_option maxRecDepth 100000 in
theorem m_place (l : Launch) (hl9 : l.stackTraces = false) (dC : Nat → ClassId) (dI : Nat → Nat → Nat) (ad : Nat → Nat) (ca : Nat → ClassId) (gL gB gD : Nat → Int) (gN : Nat → Int64) (gS : Nat → Int) (n r : Nat) (x : Int64) (L S : Nat → Nat) (lo : Nat → Bool) (hok : okS n L S r) (hT : tX n L S r lo gL gB gD gN gS x) (q k : Int) (hq : iR q) (hk0 : iR k) : vx_Met l yX0_place wsX0_place { frames := 7, cells := 2, slots := 12, locals := 103 } (PXe (dC, dI) vwCl (yX ca) (wX ad ca gL gB gD gN gS ((n : Int)) ((r : Int)) x) [.ref (ad 0), .int (iI q), .int (iI k)]) (RQi (fun y => (0 ≤ q ∧ q < (n : Int)) ∧ (0 ≤ k ∧ k < (S q.toNat : Int)) ∧ y = iI (1000 * (((sm S q.toNat : Int) + k) / (r : Int)) + 1 + ((sm S q.toNat : Int) + k) % (r : Int)))) (xcE (fun E => (E = eIX ∧ (q < 0 ∨ (n : Int) ≤ q)) ∨ (E = eIA ∧ (0 ≤ q ∧ q < (n : Int)) ∧ ¬ (0 ≤ k ∧ k < (S q.toNat : Int))))) 2 12 nF := by
  refine vx_ofW (cc := cX0_place) (maxL := 4) (ret := (some .int)) (by decide) rfl ?_
  intro p e s m args below meth c s₁ B hml hEx hv
  obtain ⟨rfl, hP, hK, hD0, hE⟩ := hv
  have hx := B.exec
  have hb := B.bytes
  have hr := B.returns
  have hts := atoms_spec (ws := wsX0_place) B.pre
  have hown : s.vm.findClass RX0 = some m.cls := findClass_of_methodNamed B.named
  have hlocks := B.notSynchronized
  have hw := fun w h => hts w (List.mem_cons_of_mem _ h)
  have hinTX0 : ∀ w ∈ u_ws RX0 TX0 8, w ∈ wsX0_place := wA_u wuX0
  have fl23 := hw _ wfX0_23
  have fl50 := hw _ wfX0_50
  have hD := hD0
  obtain ⟨H, hH⟩ : ∃ H, H = s.heap := ⟨_, rfl⟩
  obtain ⟨locs, hlc⟩ : ∃ L : List Loc, L = [] := ⟨_, rfl⟩
  have hS : va_S nF s.heap H locs := by rw [hH, hlc]; exact va_S.rf
  rw [← hH] at hP ⊢
  rw [← hlc]
  have hl := lv_entry ([.ref (ad 0), .int (iI q), .int (iI k)]) (n := 4) (Nat.le_of_ble_eq_true rfl)
  rw [lg_entry_eq]
  generalize (lg_sl ([.ref (ad 0), .int (iI q), .int (iI k)]) ++ List.replicate (4 - (lg_sl ([.ref (ad 0), .int (iI q), .int (iI k)])).length) Slot.unset).toArray = ls at hl ⊢
  have hl : lv_has ls 4 [(0, .ref (ad 0)), (1, .int (iI q)), (2, .int (iI k))] := hl
  obtain ⟨ok1, ok2, ok3, ok4, ok5⟩ := id hok
  refine lv_aload_n hx hb dX0_place_0 rfl (lv_at hl 0 rfl) ?_
  refine lv_iload_n hx hb dX0_place_1 rfl (lv_at hl 1 rfl) ?_
  refine vc_v (vx_runV (As := [.int (iI q)]) (rest := []) ⟨hx, hb, hml, hown, hts⟩ (m_checkDump l hl9 dC dI ad ca gL gB gD gN gS n r x q hq ok1) (cwV 1 hts (gV wlX0_61 wo_X0_checkDump wz_X0_checkDump wi_1 wcX0_checkDump) rfl rfl rfl (by decide +kernel) ⟨Nat.le_of_ble_eq_true rfl, Nat.le_of_ble_eq_true rfl⟩) (PXe_V (q0 := 0) (ci := 0) hP hK hD hE (fun a h _ => hS.2.1 a h (fun z => z)) (fun _ h => h) rfl rfl) rfl rfl hl.1 rfl (lv_room (Nat.le_of_ble_eq_true rfl)) dX0_place_2 ⟨Nat.le_of_ble_eq_true rfl, Nat.le_of_ble_eq_true rfl⟩) hS hP (fun E ce q9 H locs hPE hS hce hcv hcl => ?_) (fun H locs hc hP hS => ?_)
  · exact vx_out (E := E) (fun x hx => (hEx x hx).elim) hlocks hce hcv hcl (fun t ht ha => ⟨(), trivial, Or.inl hPE, hS.F ht⟩) (fun z hz => (hS.2.2 z hz).elim) (by decide) (by decide)
  have eq1 : (q + 1).toNat = q.toNat + 1 := by omega
  have t5 := hT.2.1 q.toNat (by omega)
  have t6 := hT.2.1 (q.toNat + 1) (by omega)
  have hsm : sm S (q.toNat + 1) = sm S q.toNat + S q.toNat := rfl
  have hsl : sm S (q.toNat + 1) ≤ sm S n := sm_mono (by omega)
  obtain ⟨-, hs1, hs2⟩ := ok4 q.toNat (by omega)
  refine lv_iload_n hx hb dX0_place_5 rfl (lv_at hl 2 rfl) ?_
  refine r_if_lt hx hb dX0_place_6 (tgt := 28) (by decide) (by omega) (fun hlt => ?_) (fun hge => ?_)
  · obtain ⟨sa, hsa⟩ := hE.2.2.2.1 (66, "the dump has no such block") (List.mem_of_getElem? (i := 8) rfl)
    exact vx_throwS (own := RX0) (cls := eIA) (names := eN) hx hb hl9 hown (by decide +kernel) (by decide +kernel) (hw _ wkX0_30) (hw _ wi_6) hsa (hat_34 hE hw) (by decide +kernel) (exE_none hE).1.1 (exE_none hE).1.2 hS (hl.1.trans hml.symm) dX0_place_28 dX0_place_31 dX0_place_32 dX0_place_34 dX0_place_37 (fun x hx => (hEx x hx).elim) (Nat.le_of_ble_eq_true rfl) (Nat.le_of_ble_eq_true rfl) (Nat.le_of_ble_eq_true rfl) (Nat.le_of_ble_eq_true rfl) hlocks (fun t ha hsz hk => ⟨(), trivial, Or.inr ⟨rfl, hc, by omega⟩, Nat.le_trans hS.1 hsz, fun q h1 h2 => (hk q (Nat.lt_of_lt_of_le h1 hS.1)).trans (hS.2.1 q h1 h2)⟩) (fun z hz => (hS.2.2 z hz).elim) (by decide) (by decide)
  · refine lv_iload_n hx hb dX0_place_9 rfl (lv_at hl 2 rfl) ?_
    refine lv_aload_n hx hb dX0_place_10 rfl (lv_at hl 0 rfl) ?_
    refine va_get (D := (dC, dI)) (ci := 0) (v := .ref (ad 5)) (C := RX0) (T := TX0) (N := 8) hx hb hts hinTX0 hown hK hP 0 rfl rfl 4 (by decide) fl23 (fun _ h9 => h9) rfl dX0_place_11 ?_
    refine lv_iload_n hx hb dX0_place_14 rfl (lv_at hl 1 rfl) ?_
    refine r_iconst hx hb dX0_place_15 ?_
    refine r_iadd hx hb dX0_place_16 ?_
    refine r_iald hx hb hK hP 5 4 rfl rfl (by omega) (by omega) (by decide) dX0_place_17 ?_
    refine r_topi (b := (sm S (q.toNat + 1) : Int)) (by rw [eq1]; exact t6) ?_
    refine lv_aload_n hx hb dX0_place_18 rfl (lv_at hl 0 rfl) ?_
    refine va_get (D := (dC, dI)) (ci := 0) (v := .ref (ad 5)) (C := RX0) (T := TX0) (N := 8) hx hb hts hinTX0 hown hK hP 0 rfl rfl 4 (by decide) fl23 (fun _ h9 => h9) rfl dX0_place_19 ?_
    refine lv_iload_n hx hb dX0_place_22 rfl (lv_at hl 1 rfl) ?_
    refine r_iald hx hb hK hP 5 4 rfl rfl (by omega) (by omega) (by decide) dX0_place_23 ?_
    refine r_topi (b := (sm S q.toNat : Int)) (t5) ?_
    refine r_isub hx hb dX0_place_24 ?_
    refine r_icmp_lt hx hb dX0_place_25 (tgt := 38) (by decide) (by omega) (by omega) (fun hin9 => ?_) (fun hout => ?_)
    · refine lv_aload_n hx hb dX0_place_38 rfl (lv_at hl 0 rfl) ?_
      refine va_get (D := (dC, dI)) (ci := 0) (v := .ref (ad 5)) (C := RX0) (T := TX0) (N := 8) hx hb hts hinTX0 hown hK hP 0 rfl rfl 4 (by decide) fl23 (fun _ h9 => h9) rfl dX0_place_39 ?_
      refine lv_iload_n hx hb dX0_place_42 rfl (lv_at hl 1 rfl) ?_
      refine r_iald hx hb hK hP 5 4 rfl rfl (by omega) (by omega) (by decide) dX0_place_43 ?_
      refine r_topi (b := (sm S q.toNat : Int)) (t5) ?_
      refine lv_iload_n hx hb dX0_place_44 rfl (lv_at hl 2 rfl) ?_
      refine r_iadd hx hb dX0_place_45 ?_
      refine lv_istore_n hx hb dX0_place_46 rfl hl (by decide) rfl (fun ls hl => ?_)
      have hl : lv_has ls 4 [(3, .int (iI (((sm S q.toNat : Int)) + k))), (0, .ref (ad 0)), (1, .int (iI q)), (2, .int (iI k))] := hl
      refine r_sipush hx hb dX0_place_47 (by decide +kernel) ?_
      refine lv_aload_n hx hb dX0_place_50 rfl (lv_at hl 1 rfl) ?_
      refine lv_iload_n hx hb dX0_place_51 rfl (lv_at hl 0 rfl) ?_
      refine ro_z (z := ((sm S q.toNat : Int) + k) / (r : Int)) (va_runV (As := [.int (iI (((sm S q.toNat : Int)) + k))]) (rest := [.int (iI 1000)]) ⟨hx, hb, hml, hown, hts⟩ (m_volumeAt l dC dI ad ca gL gB gD gN gS n r x ((sm S q.toNat : Int) + k) (by omega) (by omega) ok2 ok3) (cwV 1 hts (gV wlX0_68 wo_X0_volumeAt wz_X0_volumeAt wi_1 wcX0_volumeAt) rfl rfl rfl (by decide +kernel) ⟨Nat.le_of_ble_eq_true rfl, Nat.le_of_ble_eq_true rfl⟩) (PX_V (q0 := 0) (ci := 0) hP hK hD rfl rfl) rfl rfl hl.1 rfl (lv_room (Nat.le_of_ble_eq_true rfl)) dX0_place_52 ⟨Nat.le_of_ble_eq_true rfl, Nat.le_of_ble_eq_true rfl⟩) hS hP (fun H locs hP hS => ?_)
      refine r_imul hx hb dX0_place_55 ?_
      refine r_iconst hx hb dX0_place_56 ?_
      refine r_iadd hx hb dX0_place_57 ?_
      refine lv_iload_n hx hb dX0_place_58 rfl (lv_at hl 0 rfl) ?_
      refine lv_aload_n hx hb dX0_place_59 rfl (lv_at hl 1 rfl) ?_
      refine va_get (D := (dC, dI)) (ci := 0) (v := .int (iI ((r : Int)))) (C := RX0) (T := TX0) (N := 8) hx hb hts hinTX0 hown hK hP 0 rfl rfl 6 (by decide) fl50 (fun _ h9 => h9) rfl dX0_place_60 ?_
      refine r_irem hx hb dX0_place_63 (by omega) (by omega) (by omega) (by omega) ?_
      refine r_iadd hx hb dX0_place_64 ?_
      refine vx_ret ?_
      refine W.widen (k := 2) (n := 12) (by decide) (by decide) ?_
      exact W.iret (v := iI (((1000 * (((sm S q.toNat : Int) + k) / (r : Int))) + 1) + ((((sm S q.toNat : Int)) + k) % ((r : Int))))) hx hb hr (fun t ht hW => ⟨⟨_, (), rfl, ⟨hc, by omega, rfl⟩, trivial⟩, hS.F ht⟩) hS.2.2 dX0_place_65
    · obtain ⟨sa, hsa⟩ := hE.2.2.2.1 (66, "the dump has no such block") (List.mem_of_getElem? (i := 8) rfl)
      exact vx_throwS (own := RX0) (cls := eIA) (names := eN) hx hb hl9 hown (by decide +kernel) (by decide +kernel) (hw _ wkX0_30) (hw _ wi_6) hsa (hat_34 hE hw) (by decide +kernel) (exE_none hE).1.1 (exE_none hE).1.2 hS (hl.1.trans hml.symm) dX0_place_28 dX0_place_31 dX0_place_32 dX0_place_34 dX0_place_37 (fun x hx => (hEx x hx).elim) (Nat.le_of_ble_eq_true rfl) (Nat.le_of_ble_eq_true rfl) (Nat.le_of_ble_eq_true rfl) (Nat.le_of_ble_eq_true rfl) hlocks (fun t ha hsz hk => ⟨(), trivial, Or.inr ⟨rfl, hc, by omega⟩, Nat.le_trans hS.1 hsz, fun q h1 h2 => (hk q (Nat.lt_of_lt_of_le h1 hS.1)).trans (hS.2.1 q h1 h2)⟩) (fun z hz => (hS.2.2 z hz).elim) (by decide) (by decide)
set_option maxHeartbeats 4000000 in
set_option maxRecDepth 100000 in
theorem m_owner (l : Launch) (hl9 : l.stackTraces = false) (dC : Nat → ClassId) (dI : Nat → Nat → Nat) (ad : Nat → Nat) (ca : Nat → ClassId) (gL gB gD : Nat → Int) (gN : Nat → Int64) (gS : Nat → Int) (n r : Nat) (x : Int64) (L S : Nat → Nat) (lo : Nat → Bool) (hok : okS n L S r) (hT : tX n L S r lo gL gB gD gN gS x) (v b : Int) (hv : iR v) (hb0 : iR b) : vx_Met l yX0_owner wsX0_owner { frames := 7, cells := 2, slots := 12, locals := 103 } (PXe (dC, dI) vwCl (yX ca) (wX ad ca gL gB gD gN gS ((n : Int)) ((r : Int)) x) [.ref (ad 0), .int (iI v), .int (iI b)]) (RQi (fun y => ((0 ≤ v ∧ v < 64) ∧ 0 ≤ b ∧ b ≤ (r : Int)) ∧ y = iI (if b = 0 then -1 else (ow S (v * (r : Int) + b - 1).toNat n : Int) - 1))) (xcE (fun E => E = eIA ∧ ¬ ((0 ≤ v ∧ v < 64) ∧ 0 ≤ b ∧ b ≤ (r : Int)))) 2 12 nF := by
  refine vx_ofW (cc := cX0_owner) (maxL := 3) (ret := (some .int)) (by decide) rfl ?_
  intro p e s m args below meth c s₁ B hml hEx hv
  obtain ⟨rfl, hP, hK, hD0, hE⟩ := hv
  have hx := B.exec
  have hb := B.bytes
  have hr := B.returns
  have hts := atoms_spec (ws := wsX0_owner) B.pre
  have hown : s.vm.findClass RX0 = some m.cls := findClass_of_methodNamed B.named
  have hlocks := B.notSynchronized
  have hw := fun w h => hts w (List.mem_cons_of_mem _ h)
  have hinTX0 : ∀ w ∈ u_ws RX0 TX0 8, w ∈ wsX0_owner := wA_u wuX0
  have fl50 := hw _ wfX0_50
  have hD := hD0
  obtain ⟨H, hH⟩ : ∃ H, H = s.heap := ⟨_, rfl⟩
  obtain ⟨locs, hlc⟩ : ∃ L : List Loc, L = [] := ⟨_, rfl⟩
  have hS : va_S nF s.heap H locs := by rw [hH, hlc]; exact va_S.rf
  rw [← hH] at hP ⊢
  rw [← hlc]
  have hl := lv_entry ([.ref (ad 0), .int (iI v), .int (iI b)]) (n := 3) (Nat.le_of_ble_eq_true rfl)
  rw [lg_entry_eq]
  generalize (lg_sl ([.ref (ad 0), .int (iI v), .int (iI b)]) ++ List.replicate (3 - (lg_sl ([.ref (ad 0), .int (iI v), .int (iI b)])).length) Slot.unset).toArray = ls at hl ⊢
  have hl : lv_has ls 3 [(0, .ref (ad 0)), (1, .int (iI v)), (2, .int (iI b))] := hl
  obtain ⟨ok1, ok2, ok3, ok4, ok5⟩ := id hok
  refine lv_aload_n hx hb dX0_owner_0 rfl (lv_at hl 0 rfl) ?_
  refine lv_iload_n hx hb dX0_owner_1 rfl (lv_at hl 1 rfl) ?_
  refine vc_v (vx_runV (As := [.int (iI v)]) (rest := []) ⟨hx, hb, hml, hown, hts⟩ (m_checkVolume l hl9 dC dI ad ca gL gB gD gN gS n r x v hv) (cwV 1 hts (gV wlX0_72 wo_X0_checkVolume wz_X0_checkVolume wi_1 wcX0_checkVolume) rfl rfl rfl (by decide +kernel) ⟨Nat.le_of_ble_eq_true rfl, Nat.le_of_ble_eq_true rfl⟩) (PXe_V (q0 := 0) (ci := 0) hP hK hD hE (fun a h _ => hS.2.1 a h (fun z => z)) (fun _ h => h) rfl rfl) rfl rfl hl.1 rfl (lv_room (Nat.le_of_ble_eq_true rfl)) dX0_owner_2 ⟨Nat.le_of_ble_eq_true rfl, Nat.le_of_ble_eq_true rfl⟩) hS hP (fun E ce q9 H locs hPE hS hce hcv hcl => ?_) (fun H locs hc hP hS => ?_)
  · exact vx_out (E := E) (fun x hx => (hEx x hx).elim) hlocks hce hcv hcl (fun t ht ha => ⟨(), trivial, ⟨hPE.1, by have := hPE.2; omega⟩, hS.F ht⟩) (fun z hz => (hS.2.2 z hz).elim) (by decide) (by decide)
  refine lv_iload_n hx hb dX0_owner_5 rfl (lv_at hl 2 rfl) ?_
  refine r_if_lt hx hb dX0_owner_6 (tgt := 17) (by decide) (by omega) (fun hlt => ?_) (fun hge => ?_)
  · obtain ⟨sa, hsa⟩ := hE.2.2.2.1 (75, "a volume has no such block") (List.mem_of_getElem? (i := 10) rfl)
    exact vx_throwS (own := RX0) (cls := eIA) (names := eN) hx hb hl9 hown (by decide +kernel) (by decide +kernel) (hw _ wkX0_30) (hw _ wi_6) hsa (hat_34 hE hw) (by decide +kernel) (exE_none hE).1.1 (exE_none hE).1.2 hS (hl.1.trans hml.symm) dX0_owner_17 dX0_owner_20 dX0_owner_21 dX0_owner_23 dX0_owner_26 (fun x hx => (hEx x hx).elim) (Nat.le_of_ble_eq_true rfl) (Nat.le_of_ble_eq_true rfl) (Nat.le_of_ble_eq_true rfl) (Nat.le_of_ble_eq_true rfl) hlocks (fun t ha hsz hk => ⟨(), trivial, ⟨rfl, by omega⟩, Nat.le_trans hS.1 hsz, fun q h1 h2 => (hk q (Nat.lt_of_lt_of_le h1 hS.1)).trans (hS.2.1 q h1 h2)⟩) (fun z hz => (hS.2.2 z hz).elim) (by decide) (by decide)
  · refine lv_iload_n hx hb dX0_owner_9 rfl (lv_at hl 2 rfl) ?_
    refine lv_aload_n hx hb dX0_owner_10 rfl (lv_at hl 0 rfl) ?_
    refine va_get (D := (dC, dI)) (ci := 0) (v := .int (iI ((r : Int)))) (C := RX0) (T := TX0) (N := 8) hx hb hts hinTX0 hown hK hP 0 rfl rfl 6 (by decide) fl50 (fun _ h9 => h9) rfl dX0_owner_11 ?_
    refine r_icmp_le hx hb dX0_owner_14 (tgt := 27) (by decide) (by omega) (by omega) (fun hin9 => ?_) (fun hout => ?_)
    · refine lv_iload_n hx hb dX0_owner_27 rfl (lv_at hl 2 rfl) ?_
      refine r_if_ne hx hb dX0_owner_28 (tgt := 35) (by decide) (by omega) (fun hne => ?_) (fun heq => ?_)
      · have hm1 : 0 ≤ v * (r : Int) := Int.mul_nonneg hc.1 (by omega)
        have hm2 : v * (r : Int) ≤ 63 * (r : Int) := Int.mul_le_mul_of_nonneg_right (by omega) (by omega)
        refine lv_aload_n hx hb dX0_owner_35 rfl (lv_at hl 0 rfl) ?_
        refine lv_iload_n hx hb dX0_owner_36 rfl (lv_at hl 1 rfl) ?_
        refine lv_aload_n hx hb dX0_owner_37 rfl (lv_at hl 0 rfl) ?_
        refine va_get (D := (dC, dI)) (ci := 0) (v := .int (iI ((r : Int)))) (C := RX0) (T := TX0) (N := 8) hx hb hts hinTX0 hown hK hP 0 rfl rfl 6 (by decide) fl50 (fun _ h9 => h9) rfl dX0_owner_38 ?_
        refine r_imul hx hb dX0_owner_41 ?_
        refine lv_iload_n hx hb dX0_owner_42 rfl (lv_at hl 2 rfl) ?_
        refine r_iadd hx hb dX0_owner_43 ?_
        refine r_iconst hx hb dX0_owner_44 ?_
        refine r_isub hx hb dX0_owner_45 ?_
        refine r_topi (b := ((v * (r : Int) + b - 1).toNat : Int)) ((Int.toNat_of_nonneg (by omega)).symm) ?_
        refine ro_z (z := (ow S (v * (r : Int) + b - 1).toNat n : Int) - 1) (va_runV (As := [.int (iI (((v * (r : Int) + b - 1).toNat : Int)))]) (rest := []) ⟨hx, hb, hml, hown, hts⟩ (m_dumpAt l dC dI ad ca gL gB gD gN gS n r x S (v * (r : Int) + b - 1).toNat (by omega) (by omega) (by omega) hT.2.1) (cwV 1 hts (gV wlX0_77 wo_X0_dumpAt wz_X0_dumpAt wi_1 wcX0_dumpAt) rfl rfl rfl (by decide +kernel) ⟨Nat.le_of_ble_eq_true rfl, Nat.le_of_ble_eq_true rfl⟩) (PX_V (q0 := 0) (ci := 0) hP hK hD rfl rfl) rfl rfl hl.1 rfl (lv_room (Nat.le_of_ble_eq_true rfl)) dX0_owner_46 ⟨Nat.le_of_ble_eq_true rfl, Nat.le_of_ble_eq_true rfl⟩) hS hP (fun H locs hP hS => ?_)
        refine vx_ret ?_
        refine W.widen (k := 2) (n := 12) (by decide) (by decide) ?_
        exact W.iret (v := iI ((ow S (v * (r : Int) + b - 1).toNat n : Int) - 1)) hx hb hr (fun t ht hW => ⟨⟨_, (), rfl, ⟨⟨hc, by omega, by omega⟩, by rw [if_neg hne]⟩, trivial⟩, hS.F ht⟩) hS.2.2 dX0_owner_49
      · refine r_iconst hx hb dX0_owner_31 ?_
        refine lv_goto hx hb dX0_owner_32 (tgt := 49) (by decide) ?_
        refine vx_ret ?_
        refine W.widen (k := 2) (n := 12) (by decide) (by decide) ?_
        exact W.iret (v := iI ((-1))) hx hb hr (fun t ht hW => ⟨⟨_, (), rfl, ⟨⟨hc, by omega, by omega⟩, by rw [if_pos heq]⟩, trivial⟩, hS.F ht⟩) hS.2.2 dX0_owner_49
    · obtain ⟨sa, hsa⟩ := hE.2.2.2.1 (75, "a volume has no such block") (List.mem_of_getElem? (i := 10) rfl)
      exact vx_throwS (own := RX0) (cls := eIA) (names := eN) hx hb hl9 hown (by decide +kernel) (by decide +kernel) (hw _ wkX0_30) (hw _ wi_6) hsa (hat_34 hE hw) (by decide +kernel) (exE_none hE).1.1 (exE_none hE).1.2 hS (hl.1.trans hml.symm) dX0_owner_17 dX0_owner_20 dX0_owner_21 dX0_owner_23 dX0_owner_26 (fun x hx => (hEx x hx).elim) (Nat.le_of_ble_eq_true rfl) (Nat.le_of_ble_eq_true rfl) (Nat.le_of_ble_eq_true rfl) (Nat.le_of_ble_eq_true rfl) hlocks (fun t ha hsz hk => ⟨(), trivial, ⟨rfl, by omega⟩, Nat.le_trans hS.1 hsz, fun q h1 h2 => (hk q (Nat.lt_of_lt_of_le h1 hS.1)).trans (hS.2.1 q h1 h2)⟩) (fun z hz => (hS.2.2 z hz).elim) (by decide) (by decide)
