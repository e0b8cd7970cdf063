/-! the law's wrappers: a call of the class, its exceptions caught -/
set_option maxHeartbeats 4000000 in
set_option maxRecDepth 100000 in
theorem w_begin (l : Launch) (hl9 : l.stackTraces = false) (dC : Nat → ClassId) (dI : Nat → Nat → Nat) (ad : Nat → Nat) (ca : Nat → ClassId) (gL gB gD : Nat → Int) (gN : Nat → Int64) (gS : Nat → Int) (n r : Nat) (x : Int64) (L S : Nat → Nat) (lo : Nat → Bool) (hok : okS n L S r) (hT : tX n L S r lo gL gB gD gN gS x) (ou : Nat) (co : ClassId) (fo : Nat → Int64) (q : Int) (hq : iR q) : Met l yL_begin wsL_begin { frames := 8, cells := 2, slots := 12, locals := 128 } (PXe (dC, dI) vwCl (yXo ca co) (wX ad ca gL gB gD gN gS ((n : Int)) ((r : Int)) x ++ wO ou co fo) [.ref (ad 0), .int (iI q)]) (va_Qi (fun (y : Int32) (u : CU × (Nat → Int64)) => ((2 ≤ q ∧ q ≤ 1000) ∧ y = iI 0 ∧ XS 0 L S (q - 1).toNat (fun _ => false) u.1) ∨ (¬ (2 ≤ q ∧ q ≤ 1000) ∧ y = iI 1 ∧ XS n L S r lo u.1)) (fun u t => va_P (dC, dI) vwCl (wXc ad ca u.1 ++ wO ou co u.2) t.heap) (inW (wX ad ca gL gB gD gN gS ((n : Int)) ((r : Int)) x ++ wO ou co fo))) 2 12 (inW (wX ad ca gL gB gD gN gS ((n : Int)) ((r : Int)) x ++ wO ou co fo)) := by
  refine va_MetW (cc := cL_begin) (maxL := 3) (ret := (some .int)) (by decide) rfl ?_
  intro p e s m args below meth c s₁ B hml hv
  obtain ⟨rfl, hP, hK, hD0, hE⟩ := hv
  have hx := B.exec
  have hb := B.bytes
  have hr := B.returns
  have hts := atoms_spec (ws := wsL_begin) B.pre
  have hown : s.vm.findClass RL = some m.cls := findClass_of_methodNamed B.named
  have hlocks := B.notSynchronized
  have hw := fun w h => hts w (List.mem_cons_of_mem _ h)
  have hD := wD_own hD0
  obtain ⟨A, hAe⟩ : ∃ A, A = inW (wX ad ca gL gB gD gN gS ((n : Int)) ((r : Int)) x ++ wO ou co fo) := ⟨_, rfl⟩
  rw [← hAe] at hD
  obtain ⟨H, hH⟩ : ∃ H, H = s.heap := ⟨_, rfl⟩
  obtain ⟨locs, hlc⟩ : ∃ L : List Loc, L = [] := ⟨_, rfl⟩
  have hS : va_S A s.heap H locs := by rw [hH, hlc]; exact va_S.rf
  rw [← hH] at hP ⊢
  rw [← hlc]
  have hl := lv_entry ([.ref (ad 0), .int (iI q)]) (n := 3) (Nat.le_of_ble_eq_true rfl)
  rw [lg_entry_eq]
  generalize (lg_sl ([.ref (ad 0), .int (iI q)]) ++ List.replicate (3 - (lg_sl ([.ref (ad 0), .int (iI q)])).length) Slot.unset).toArray = ls at hl ⊢
  have hl : lv_has ls 3 [(0, .ref (ad 0)), (1, .int (iI q))] := hl
  have hTab : c.exceptionTable.toList = tableOf [(0, 5, 8, 13)] := vx_table (x := yL_begin) B (hts (.codeWith yL_begin cL_begin 3 (some .int) [(0, 5, 8, 13)]) List.mem_cons_self)
  refine lv_aload_n hx hb dL_begin_0 rfl (lv_at hl 0 rfl) ?_
  refine lv_iload_n hx hb dL_begin_1 rfl (lv_at hl 1 rfl) ?_
  have hPx := hP.sub (ws' := (wX ad ca gL gB gD gN gS ((n : Int)) ((r : Int)) x)) [0, 1, 2, 3, 4, 5] rfl
  have hDx := hD.sub (ws' := (wX ad ca gL gB gD gN gS ((n : Int)) ((r : Int)) x)) [0, 1, 2, 3, 4, 5] (by decide) rfl
  have hKx := hK.sub (tys' := yX ca) [0, 1, 2, 3, 4] rfl
  refine vw_v (vx_runV (As := [.int (iI q)]) (rest := []) ⟨hx, hb, hml, hown, hts⟩ (m_begin l hl9 dC dI ad ca gL gB gD gN gS n r x q hq) (cwV 1 hts (gV wlL_7 wo_X0_begin wz_X0_begin wi_1 wcX0_begin) rfl rfl rfl (by decide +kernel) ⟨Nat.le_of_ble_eq_true rfl, Nat.le_of_ble_eq_true rfl⟩) (PXe_V (q0 := 0) (ci := 0) hPx hKx hDx hE (fun a h1 h2 => hS.2.1 a h1 (by rw [hAe]; exact h2)) (fun q h => inW_left h) rfl rfl) rfl rfl hl.1 rfl (lv_room (Nat.le_of_ble_eq_true rfl)) dL_begin_2 ⟨Nat.le_of_ble_eq_true rfl, Nat.le_of_ble_eq_true rfl⟩) hS (by rw [hAe]; exact fun q h => inW_left h) (fun E ce q9 H1 locs hPE hS hkp hce hcv hcl => ?_) (fun u9 H1 locs h8 hP1 hS hk9 => ?_)
  · have hP := hP.kept (fun k q hq => hkp q.1 (hP k q hq).lt)
    generalize H1 = H at hP hS hce ⊢
    obtain ⟨rfl, hx9⟩ := hPE
    refine vx_catch (own := RL) (name := eIA) (E := eIA) hown [] ⟨0, 5, 8, 13⟩ [] (by rw [hTab]; rfl) (fun z hz => nomatch hz) (by decide) (by decide) (hw _ wkL_13) (va_Nw.use rfl (hE.2.1 eIA (by simp))) hce hcv hcl ?_
    refine lv_astore_n hx hb dL_begin_8 rfl hl (by decide) rfl (fun ls hl => ?_)
    have hl : lv_has ls 3 [(2, .ref q9), (0, .ref (ad 0)), (1, .int (iI q))] := hl
    refine r_iconst hx hb dL_begin_9 ?_
    subst hAe
    refine W.widen (k := 2) (n := 12) (by decide) (by decide) ?_
    exact W.iret (v := iI 1) hx hb hr (fun t ht hW => ⟨⟨_, (((gL, gB, gD, gN, gS), (n : Int), (r : Int), x), fo), rfl, Or.inr ⟨by omega, rfl, ⟨hT, rfl, rfl⟩⟩, by subst ht; exact hP⟩, hS.F ht⟩) hS.2.2 dL_begin_10
  · have hP := wjoin hP hD hk9 hP1
    generalize H1 = H at hP hS ⊢
    have hP : va_P (dC, dI) vwCl (wX ad ca gL gB gD gN gS 0 (q - 1) 0 ++ wO ou co fo) H := hP
    have hD : va_D A (wX ad ca gL gB gD gN gS 0 (q - 1) 0 ++ wO ou co fo) := wD_same hD rfl
    have hT0 : tX 0 L S (q - 1).toNat (fun _ => false) gL gB gD gN gS 0 := by
      refine ⟨fun d h => absurd h (Nat.not_lt_zero d), fun d h => ?_, fun v hv => bL_0 v⟩
      have hd : d = 0 := by omega
      rw [hd]
      exact hT.2.1 0 (Nat.zero_le n)
    refine lv_goto hx hb dL_begin_5 (tgt := 11) (by decide) ?_
    refine r_iconst hx hb dL_begin_11 ?_
    subst hAe
    refine W.widen (k := 2) (n := 12) (by decide) (by decide) ?_
    exact W.iret (v := iI 0) hx hb hr (fun t ht hW => ⟨⟨_, (((gL, gB, gD, gN, gS), 0, q - 1, 0), fo), rfl, Or.inl ⟨h8, rfl, hT0, rfl, by show q - 1 = ((q - 1).toNat : Int); omega⟩, by subst ht; exact hP⟩, hS.F ht⟩) hS.2.2 dL_begin_12
set_option maxHeartbeats 4000000 in
set_option maxRecDepth 100000 in
theorem w_drop (l : Launch) (hl9 : l.stackTraces = false) (dC : Nat → ClassId) (dI : Nat → Nat → Nat) (ad : Nat → Nat) (ca : Nat → ClassId) (gL gB gD : Nat → Int) (gN : Nat → Int64) (gS : Nat → Int) (n r : Nat) (x : Int64) (L S : Nat → Nat) (lo : Nat → Bool) (hok : okS n L S r) (hT : tX n L S r lo gL gB gD gN gS x) (ou : Nat) (co : ClassId) (fo : Nat → Int64) (q : Int) (hq : iR q) : Met l yL_drop wsL_drop { frames := 8, cells := 2, slots := 12, locals := 128 } (PXe (dC, dI) vwCl (yXo ca co) (wX ad ca gL gB gD gN gS ((n : Int)) ((r : Int)) x ++ wO ou co fo) [.ref (ad 0), .int (iI q)]) (va_Qi (fun (y : Int32) (u : CU × (Nat → Int64)) => ((0 ≤ q ∧ q ≤ (n : Int)) ∧ y = iI 0 ∧ XS (n - q.toNat) L S r lo u.1) ∨ (¬ (0 ≤ q ∧ q ≤ (n : Int)) ∧ y = iI 1 ∧ XS n L S r lo u.1)) (fun u t => va_P (dC, dI) vwCl (wXc ad ca u.1 ++ wO ou co u.2) t.heap) (inW (wX ad ca gL gB gD gN gS ((n : Int)) ((r : Int)) x ++ wO ou co fo))) 2 12 (inW (wX ad ca gL gB gD gN gS ((n : Int)) ((r : Int)) x ++ wO ou co fo)) := by
  refine va_MetW (cc := cL_drop) (maxL := 3) (ret := (some .int)) (by decide) rfl ?_
  intro p e s m args below meth c s₁ B hml hv
  obtain ⟨rfl, hP, hK, hD0, hE⟩ := hv
  have hx := B.exec
  have hb := B.bytes
  have hr := B.returns
  have hts := atoms_spec (ws := wsL_drop) B.pre
  have hown : s.vm.findClass RL = some m.cls := findClass_of_methodNamed B.named
  have hlocks := B.notSynchronized
  have hw := fun w h => hts w (List.mem_cons_of_mem _ h)
  have hD := wD_own hD0
  obtain ⟨A, hAe⟩ : ∃ A, A = inW (wX ad ca gL gB gD gN gS ((n : Int)) ((r : Int)) x ++ wO ou co fo) := ⟨_, rfl⟩
  rw [← hAe] at hD
  obtain ⟨H, hH⟩ : ∃ H, H = s.heap := ⟨_, rfl⟩
  obtain ⟨locs, hlc⟩ : ∃ L : List Loc, L = [] := ⟨_, rfl⟩
  have hS : va_S A s.heap H locs := by rw [hH, hlc]; exact va_S.rf
  rw [← hH] at hP ⊢
  rw [← hlc]
  have hl := lv_entry ([.ref (ad 0), .int (iI q)]) (n := 3) (Nat.le_of_ble_eq_true rfl)
  rw [lg_entry_eq]
  generalize (lg_sl ([.ref (ad 0), .int (iI q)]) ++ List.replicate (3 - (lg_sl ([.ref (ad 0), .int (iI q)])).length) Slot.unset).toArray = ls at hl ⊢
  have hl : lv_has ls 3 [(0, .ref (ad 0)), (1, .int (iI q))] := hl
  have hTab : c.exceptionTable.toList = tableOf [(0, 5, 8, 13)] := vx_table (x := yL_drop) B (hts (.codeWith yL_drop cL_drop 3 (some .int) [(0, 5, 8, 13)]) List.mem_cons_self)
  refine lv_aload_n hx hb dL_drop_0 rfl (lv_at hl 0 rfl) ?_
  refine lv_iload_n hx hb dL_drop_1 rfl (lv_at hl 1 rfl) ?_
  have hPx := hP.sub (ws' := (wX ad ca gL gB gD gN gS ((n : Int)) ((r : Int)) x)) [0, 1, 2, 3, 4, 5] rfl
  have hDx := hD.sub (ws' := (wX ad ca gL gB gD gN gS ((n : Int)) ((r : Int)) x)) [0, 1, 2, 3, 4, 5] (by decide) rfl
  have hKx := hK.sub (tys' := yX ca) [0, 1, 2, 3, 4] rfl
  refine vw_v (vx_runV (As := [.int (iI q)]) (rest := []) ⟨hx, hb, hml, hown, hts⟩ (m_drop l hl9 dC dI ad ca gL gB gD gN gS n r x hok.1 q hq) (cwV 1 hts (gV wlL_21 wo_X0_drop wz_X0_drop wi_1 wcX0_drop) rfl rfl rfl (by decide +kernel) ⟨Nat.le_of_ble_eq_true rfl, Nat.le_of_ble_eq_true rfl⟩) (PXe_V (q0 := 0) (ci := 0) hPx hKx hDx hE (fun a h1 h2 => hS.2.1 a h1 (by rw [hAe]; exact h2)) (fun q h => inW_left h) rfl rfl) rfl rfl hl.1 rfl (lv_room (Nat.le_of_ble_eq_true rfl)) dL_drop_2 ⟨Nat.le_of_ble_eq_true rfl, Nat.le_of_ble_eq_true rfl⟩) hS (by rw [hAe]; exact fun q h => inW_left h) (fun E ce q9 H1 locs hPE hS hkp hce hcv hcl => ?_) (fun u9 H1 locs h8 hP1 hS hk9 => ?_)
  · have hP := hP.kept (fun k q hq => hkp q.1 (hP k q hq).lt)
    generalize H1 = H at hP hS hce ⊢
    obtain ⟨rfl, hx9⟩ := hPE
    refine vx_catch (own := RL) (name := eIA) (E := eIA) hown [] ⟨0, 5, 8, 13⟩ [] (by rw [hTab]; rfl) (fun z hz => nomatch hz) (by decide) (by decide) (hw _ wkL_13) (va_Nw.use rfl (hE.2.1 eIA (by simp))) hce hcv hcl ?_
    refine lv_astore_n hx hb dL_drop_8 rfl hl (by decide) rfl (fun ls hl => ?_)
    have hl : lv_has ls 3 [(2, .ref q9), (0, .ref (ad 0)), (1, .int (iI q))] := hl
    refine r_iconst hx hb dL_drop_9 ?_
    subst hAe
    refine W.widen (k := 2) (n := 12) (by decide) (by decide) ?_
    exact W.iret (v := iI 1) hx hb hr (fun t ht hW => ⟨⟨_, (((gL, gB, gD, gN, gS), (n : Int), (r : Int), x), fo), rfl, Or.inr ⟨by omega, rfl, ⟨hT, rfl, rfl⟩⟩, by subst ht; exact hP⟩, hS.F ht⟩) hS.2.2 dL_drop_10
  · have hP := wjoin hP hD hk9 hP1
    generalize H1 = H at hP hS ⊢
    have hP : va_P (dC, dI) vwCl (wX ad ca gL gB gD gN gS ((n : Int) - q) ((r : Int)) x ++ wO ou co fo) H := hP
    have hD : va_D A (wX ad ca gL gB gD gN gS ((n : Int) - q) ((r : Int)) x ++ wO ou co fo) := wD_same hD rfl
    refine lv_goto hx hb dL_drop_5 (tgt := 11) (by decide) ?_
    refine r_iconst hx hb dL_drop_11 ?_
    subst hAe
    refine W.widen (k := 2) (n := 12) (by decide) (by decide) ?_
    exact W.iret (v := iI 0) hx hb hr (fun t ht hW => ⟨⟨_, (((gL, gB, gD, gN, gS), (n : Int) - q, (r : Int), x), fo), rfl, Or.inl ⟨h8, rfl, tX_drop (Nat.sub_le _ _) hT, by show (n : Int) - q = ((n - q.toNat : Nat) : Int); omega, rfl⟩, by subst ht; exact hP⟩, hS.F ht⟩) hS.2.2 dL_drop_12
set_option maxHeartbeats 4000000 in
set_option maxRecDepth 100000 in
theorem w_dump (l : Launch) (hl9 : l.stackTraces = false) (dC : Nat → ClassId) (dI : Nat → Nat → Nat) (ad : Nat → Nat) (ca : Nat → ClassId) (gL gB gD : Nat → Int) (gN : Nat → Int64) (gS : Nat → Int) (n r : Nat) (x : Int64) (L S : Nat → Nat) (lo : Nat → Bool) (hok : okS n L S r) (hT : tX n L S r lo gL gB gD gN gS x) (ou : Nat) (co : ClassId) (fo : Nat → Int64) (v b : Int) (hv : iR v) (hb0 : iR b) : Met l yL_dump wsL_dump { frames := 8, cells := 2, slots := 12, locals := 128 } (PXe (dC, dI) vwCl (yXo ca co) (wX ad ca gL gB gD gN gS ((n : Int)) ((r : Int)) x ++ wO ou co fo) [.ref (ad 0), .int (iI v), .int (iI b), .ref ou]) (va_Qi (fun (y : Int32) (u : CU × (Nat → Int64)) => ((0 ≤ v ∧ v ≤ 9 ∧ 1 ≤ b ∧ b ≤ 500) ∧ (n < 300 ∧ (sm S n : Int) + b ≤ 64 * (r : Int)) ∧ y = iI 0 ∧ XS (n + 1) (uN L n v.toNat) (uN S n b.toNat) r lo u.1 ∧ u.2 0 = (iI (n : Int)).toInt64) ∨ (¬ (0 ≤ v ∧ v ≤ 9 ∧ 1 ≤ b ∧ b ≤ 500) ∧ y = iI 1 ∧ XS n L S r lo u.1) ∨ ((0 ≤ v ∧ v ≤ 9 ∧ 1 ≤ b ∧ b ≤ 500) ∧ ¬ (n < 300 ∧ (sm S n : Int) + b ≤ 64 * (r : Int)) ∧ y = iI 2 ∧ XS n L S r lo u.1)) (fun u t => va_P (dC, dI) vwCl (wXc ad ca u.1 ++ wO ou co u.2) t.heap) (inW (wX ad ca gL gB gD gN gS ((n : Int)) ((r : Int)) x ++ wO ou co fo))) 2 12 (inW (wX ad ca gL gB gD gN gS ((n : Int)) ((r : Int)) x ++ wO ou co fo)) := by
  refine va_MetW (cc := cL_dump) (maxL := 5) (ret := (some .int)) (by decide) rfl ?_
  intro p e s m args below meth c s₁ B hml hv
  obtain ⟨rfl, hP, hK, hD0, hE⟩ := hv
  have hx := B.exec
  have hb := B.bytes
  have hr := B.returns
  have hts := atoms_spec (ws := wsL_dump) B.pre
  have hown : s.vm.findClass RL = some m.cls := findClass_of_methodNamed B.named
  have hlocks := B.notSynchronized
  have hw := fun w h => hts w (List.mem_cons_of_mem _ h)
  have hD := wD_own hD0
  obtain ⟨A, hAe⟩ : ∃ A, A = inW (wX ad ca gL gB gD gN gS ((n : Int)) ((r : Int)) x ++ wO ou co fo) := ⟨_, rfl⟩
  rw [← hAe] at hD
  obtain ⟨H, hH⟩ : ∃ H, H = s.heap := ⟨_, rfl⟩
  obtain ⟨locs, hlc⟩ : ∃ L : List Loc, L = [] := ⟨_, rfl⟩
  have hS : va_S A s.heap H locs := by rw [hH, hlc]; exact va_S.rf
  rw [← hH] at hP ⊢
  rw [← hlc]
  have hl := lv_entry ([.ref (ad 0), .int (iI v), .int (iI b), .ref ou]) (n := 5) (Nat.le_of_ble_eq_true rfl)
  rw [lg_entry_eq]
  generalize (lg_sl ([.ref (ad 0), .int (iI v), .int (iI b), .ref ou]) ++ List.replicate (5 - (lg_sl ([.ref (ad 0), .int (iI v), .int (iI b), .ref ou])).length) Slot.unset).toArray = ls at hl ⊢
  have hl : lv_has ls 5 [(0, .ref (ad 0)), (1, .int (iI v)), (2, .int (iI b)), (3, .ref ou)] := hl
  have hTab : c.exceptionTable.toList = tableOf [(0, 10, 13, 13), (0, 10, 17, 19)] := vx_table (x := yL_dump) B (hts (.codeWith yL_dump cL_dump 5 (some .int) [(0, 10, 13, 13), (0, 10, 17, 19)]) List.mem_cons_self)
  refine lv_aload_n hx hb dL_dump_0 rfl (lv_at hl 3 rfl) ?_
  refine r_iconst hx hb dL_dump_1 ?_
  refine lv_aload_n hx hb dL_dump_2 rfl (lv_at hl 0 rfl) ?_
  refine lv_iload_n hx hb dL_dump_3 rfl (lv_at hl 1 rfl) ?_
  refine lv_iload_n hx hb dL_dump_4 rfl (lv_at hl 2 rfl) ?_
  have hPx := hP.sub (ws' := (wX ad ca gL gB gD gN gS ((n : Int)) ((r : Int)) x)) [0, 1, 2, 3, 4, 5] rfl
  have hDx := hD.sub (ws' := (wX ad ca gL gB gD gN gS ((n : Int)) ((r : Int)) x)) [0, 1, 2, 3, 4, 5] (by decide) rfl
  have hKx := hK.sub (tys' := yX ca) [0, 1, 2, 3, 4] rfl
  refine vw_i (vx_runV (As := [.int (iI v), .int (iI b)]) (rest := [.int (iI 0), .ref ou]) ⟨hx, hb, hml, hown, hts⟩ (m_dump l hl9 dC dI ad ca gL gB gD gN gS n r x L S lo hok hT v b hv hb0) (cwV 2 hts (gV wlL_15 wo_X0_dump wz_X0_dump wi_1 wcX0_dump) rfl rfl rfl (by decide +kernel) ⟨Nat.le_of_ble_eq_true rfl, Nat.le_of_ble_eq_true rfl⟩) (PXe_V (q0 := 0) (ci := 0) hPx hKx hDx hE (fun a h1 h2 => hS.2.1 a h1 (by rw [hAe]; exact h2)) (fun q h => inW_left h) rfl rfl) rfl rfl hl.1 rfl (lv_room (Nat.le_of_ble_eq_true rfl)) dL_dump_5 ⟨Nat.le_of_ble_eq_true rfl, Nat.le_of_ble_eq_true rfl⟩) hS (by rw [hAe]; exact fun q h => inW_left h) (fun E ce q9 H1 locs hPE hS hkp hce hcv hcl => ?_) (fun r9 u9 H1 locs h8 hP1 hS hk9 => ?_)
  · have hP := hP.kept (fun k q hq => hkp q.1 (hP k q hq).lt)
    generalize H1 = H at hP hS hce ⊢
    rcases hPE with ⟨rfl, hx9⟩ | ⟨rfl, hx9⟩
    · refine vx_catch (own := RL) (name := eIA) (E := eIA) hown [] ⟨0, 10, 13, 13⟩ [⟨0, 10, 17, 19⟩] (by rw [hTab]; rfl) (fun z hz => nomatch hz) (by decide) (by decide) (hw _ wkL_13) (va_Nw.use rfl (hE.2.1 eIA (by simp))) hce hcv hcl ?_
      refine lv_astore hx hb dL_dump_13 hl (by decide) rfl (fun ls hl => ?_)
      have hl : lv_has ls 5 [(4, .ref q9), (0, .ref (ad 0)), (1, .int (iI v)), (2, .int (iI b)), (3, .ref ou)] := hl
      refine r_iconst hx hb dL_dump_15 ?_
      subst hAe
      refine W.widen (k := 2) (n := 12) (by decide) (by decide) ?_
      exact W.iret (v := iI 1) hx hb hr (fun t ht hW => ⟨⟨_, (((gL, gB, gD, gN, gS), (n : Int), (r : Int), x), fo), rfl, Or.inr (Or.inl ⟨hx9, rfl, ⟨hT, rfl, rfl⟩⟩), by subst ht; exact hP⟩, hS.F ht⟩) hS.2.2 dL_dump_16
    · refine vx_catch (own := RL) (name := eIS) (E := eIS) hown [⟨0, 10, 13, 13⟩] ⟨0, 10, 17, 19⟩ [] (by rw [hTab]; rfl) (by
          intro z hz
          rcases List.mem_cons.mp hz with rfl | hz
          · exact Or.inr ⟨by decide, eIA, hw _ wkL_13, hE.2.2.2.2.1⟩
          · cases hz) (by decide) (by decide) (hw _ wkL_19) (va_Nw.use rfl (hE.2.1 eIS (by simp))) hce hcv hcl ?_
      refine lv_astore hx hb dL_dump_17 hl (by decide) rfl (fun ls hl => ?_)
      have hl : lv_has ls 5 [(4, .ref q9), (0, .ref (ad 0)), (1, .int (iI v)), (2, .int (iI b)), (3, .ref ou)] := hl
      refine r_iconst hx hb dL_dump_19 ?_
      subst hAe
      refine W.widen (k := 2) (n := 12) (by decide) (by decide) ?_
      exact W.iret (v := iI 2) hx hb hr (fun t ht hW => ⟨⟨_, (((gL, gB, gD, gN, gS), (n : Int), (r : Int), x), fo), rfl, Or.inr (Or.inr ⟨hx9.1, hx9.2, rfl, ⟨hT, rfl, rfl⟩⟩), by subst ht; exact hP⟩, hS.F ht⟩) hS.2.2 dL_dump_20
  · obtain ⟨⟨h1, h2, h3⟩, rfl, hTn⟩ := h8
    have hP := wjoin hP hD hk9 hP1
    generalize H1 = H at hP hS ⊢
    have hP : va_P (dC, dI) vwCl (wX ad ca u9.1 u9.2.1 u9.2.2.1 u9.2.2.2.1 u9.2.2.2.2 ((n : Int) + 1) ((r : Int)) x ++ wO ou co fo) H := hP
    have hD : va_D A (wX ad ca u9.1 u9.2.1 u9.2.2.1 u9.2.2.2.1 u9.2.2.2.2 ((n : Int) + 1) ((r : Int)) x ++ wO ou co fo) := wD_same hD rfl
    refine lv_i2l hx hb dL_dump_8 rfl ?_
    refine r_last hx hb hK hP hD hS 6 5 rfl rfl (by omega) (by omega) (by decide) dL_dump_9 (fun H locs hP hD hS => ?_)
    have hP : va_P (dC, dI) vwCl (wX ad ca u9.1 u9.2.1 u9.2.2.1 u9.2.2.2.1 u9.2.2.2.2 ((n : Int) + 1) ((r : Int)) x ++ wO ou co (vp_updL fo (0 : Int).toNat ((iI ((n : Int))).toInt64))) H := hP
    have hD : va_D A (wX ad ca u9.1 u9.2.1 u9.2.2.1 u9.2.2.2.1 u9.2.2.2.2 ((n : Int) + 1) ((r : Int)) x ++ wO ou co (vp_updL fo (0 : Int).toNat ((iI ((n : Int))).toInt64))) := hD
    refine lv_goto hx hb dL_dump_10 (tgt := 21) (by decide) ?_
    refine r_iconst hx hb dL_dump_21 ?_
    subst hAe
    refine W.widen (k := 2) (n := 12) (by decide) (by decide) ?_
    exact W.iret (v := iI 0) hx hb hr (fun t ht hW => ⟨⟨_, (((u9.1, u9.2.1, u9.2.2.1, u9.2.2.2.1, u9.2.2.2.2), (n : Int) + 1, (r : Int), x), vp_updL fo (0 : Int).toNat ((iI ((n : Int))).toInt64)), rfl, Or.inl ⟨h1, ⟨h2, h3⟩, rfl, ⟨hTn, rfl, rfl⟩, rfl⟩, by subst ht; exact hP⟩, hS.F ht⟩) hS.2.2 dL_dump_22
set_option maxHeartbeats 4000000 in
set_option maxRecDepth 100000 in
theorem w_chain (l : Launch) (hl9 : l.stackTraces = false) (dC : Nat → ClassId) (dI : Nat → Nat → Nat) (ad : Nat → Nat) (ca : Nat → ClassId) (gL gB gD : Nat → Int) (gN : Nat → Int64) (gS : Nat → Int) (n r : Nat) (x : Int64) (L S : Nat → Nat) (lo : Nat → Bool) (hok : okS n L S r) (hT : tX n L S r lo gL gB gD gN gS x) (ou : Nat) (co : ClassId) (fo : Nat → Int64) (q k : Int) (hq : iR q) (hk0 : iR k) : Met l yL_chain wsL_chain { frames := 8, cells := 2, slots := 12, locals := 128 } (PXe (dC, dI) vwCl (yXo ca co) (wX ad ca gL gB gD gN gS ((n : Int)) ((r : Int)) x ++ wO ou co fo) [.ref (ad 0), .int (iI q), .int (iI k), .ref ou]) (va_Qi (fun (y : Int32) (u : CU × (Nat → Int64)) => XS n L S r lo u.1 ∧ (((0 ≤ q ∧ q < (n : Int)) ∧ 0 ≤ k ∧ y = iI 0 ∧ u.2 0 = (iI ((ch L (q.toNat + 1) k.toNat : Int) - 1)).toInt64) ∨ (¬ (0 ≤ q ∧ q < (n : Int)) ∧ y = iI 1) ∨ ((0 ≤ q ∧ q < (n : Int)) ∧ ¬ 0 ≤ k ∧ y = iI 2))) (fun u t => va_P (dC, dI) vwCl (wXc ad ca u.1 ++ wO ou co u.2) t.heap) (inW (wX ad ca gL gB gD gN gS ((n : Int)) ((r : Int)) x ++ wO ou co fo))) 2 12 (inW (wX ad ca gL gB gD gN gS ((n : Int)) ((r : Int)) x ++ wO ou co fo)) := by
  refine va_MetW (cc := cL_chain) (maxL := 5) (ret := (some .int)) (by decide) rfl ?_
  intro p e s m args below meth c s₁ B hml hv
  obtain ⟨rfl, hP, hK, hD0, hE⟩ := hv
  have hx := B.exec
  have hb := B.bytes
  have hr := B.returns
  have hts := atoms_spec (ws := wsL_chain) B.pre
  have hown : s.vm.findClass RL = some m.cls := findClass_of_methodNamed B.named
  have hlocks := B.notSynchronized
  have hw := fun w h => hts w (List.mem_cons_of_mem _ h)
  have hD := wD_own hD0
  obtain ⟨A, hAe⟩ : ∃ A, A = inW (wX ad ca gL gB gD gN gS ((n : Int)) ((r : Int)) x ++ wO ou co fo) := ⟨_, rfl⟩
  rw [← hAe] at hD
  obtain ⟨H, hH⟩ : ∃ H, H = s.heap := ⟨_, rfl⟩
  obtain ⟨locs, hlc⟩ : ∃ L : List Loc, L = [] := ⟨_, rfl⟩
  have hS : va_S A s.heap H locs := by rw [hH, hlc]; exact va_S.rf
  rw [← hH] at hP ⊢
  rw [← hlc]
  have hl := lv_entry ([.ref (ad 0), .int (iI q), .int (iI k), .ref ou]) (n := 5) (Nat.le_of_ble_eq_true rfl)
  rw [lg_entry_eq]
  generalize (lg_sl ([.ref (ad 0), .int (iI q), .int (iI k), .ref ou]) ++ List.replicate (5 - (lg_sl ([.ref (ad 0), .int (iI q), .int (iI k), .ref ou])).length) Slot.unset).toArray = ls at hl ⊢
  have hl : lv_has ls 5 [(0, .ref (ad 0)), (1, .int (iI q)), (2, .int (iI k)), (3, .ref ou)] := hl
  have hTab : c.exceptionTable.toList = tableOf [(0, 10, 13, 27), (0, 10, 17, 13)] := vx_table (x := yL_chain) B (hts (.codeWith yL_chain cL_chain 5 (some .int) [(0, 10, 13, 27), (0, 10, 17, 13)]) List.mem_cons_self)
  refine lv_aload_n hx hb dL_chain_0 rfl (lv_at hl 3 rfl) ?_
  refine r_iconst hx hb dL_chain_1 ?_
  refine lv_aload_n hx hb dL_chain_2 rfl (lv_at hl 0 rfl) ?_
  refine lv_iload_n hx hb dL_chain_3 rfl (lv_at hl 1 rfl) ?_
  refine lv_iload_n hx hb dL_chain_4 rfl (lv_at hl 2 rfl) ?_
  have hPx := hP.sub (ws' := (wX ad ca gL gB gD gN gS ((n : Int)) ((r : Int)) x)) [0, 1, 2, 3, 4, 5] rfl
  have hDx := hD.sub (ws' := (wX ad ca gL gB gD gN gS ((n : Int)) ((r : Int)) x)) [0, 1, 2, 3, 4, 5] (by decide) rfl
  have hKx := hK.sub (tys' := yX ca) [0, 1, 2, 3, 4] rfl
  refine vr_i (vx_runV (As := [.int (iI q), .int (iI k)]) (rest := [.int (iI 0), .ref ou]) ⟨hx, hb, hml, hown, hts⟩ (m_chain l hl9 dC dI ad ca gL gB gD gN gS n r x L S lo hok hT q k hq hk0) (cwV 2 hts (gV wlL_24 wo_X0_chain wz_X0_chain wi_1 wcX0_chain) rfl rfl rfl (by decide +kernel) ⟨Nat.le_of_ble_eq_true rfl, Nat.le_of_ble_eq_true rfl⟩) (PXe_V (q0 := 0) (ci := 0) hPx hKx hDx hE (fun a h1 h2 => hS.2.1 a h1 (by rw [hAe]; exact h2)) (fun q h => inW_left h) rfl rfl) rfl rfl hl.1 rfl (lv_room (Nat.le_of_ble_eq_true rfl)) dL_chain_5 ⟨Nat.le_of_ble_eq_true rfl, Nat.le_of_ble_eq_true rfl⟩) hS hP (fun E ce q9 H locs hPE hP hS hce hcv hcl => ?_) (fun r9 H locs h8 hP hS => ?_)
  · rcases hPE with ⟨rfl, hx9⟩ | ⟨rfl, hx9⟩
    · refine vx_catch (own := RL) (name := eIX) (E := eIX) hown [] ⟨0, 10, 13, 27⟩ [⟨0, 10, 17, 13⟩] (by rw [hTab]; rfl) (fun z hz => nomatch hz) (by decide) (by decide) (hw _ wkL_27) (va_Nw.use rfl (hE.2.1 eIX (by simp))) hce hcv hcl ?_
      refine lv_astore hx hb dL_chain_13 hl (by decide) rfl (fun ls hl => ?_)
      have hl : lv_has ls 5 [(4, .ref q9), (0, .ref (ad 0)), (1, .int (iI q)), (2, .int (iI k)), (3, .ref ou)] := hl
      refine r_iconst hx hb dL_chain_15 ?_
      subst hAe
      refine W.widen (k := 2) (n := 12) (by decide) (by decide) ?_
      exact W.iret (v := iI 1) hx hb hr (fun t ht hW => ⟨⟨_, (((gL, gB, gD, gN, gS), (n : Int), (r : Int), x), fo), rfl, ⟨⟨hT, rfl, rfl⟩, Or.inr (Or.inl ⟨by omega, rfl⟩)⟩, by subst ht; exact hP⟩, hS.F ht⟩) hS.2.2 dL_chain_16
    · refine vx_catch (own := RL) (name := eIA) (E := eIA) hown [⟨0, 10, 13, 27⟩] ⟨0, 10, 17, 13⟩ [] (by rw [hTab]; rfl) (by
          intro z hz
          rcases List.mem_cons.mp hz with rfl | hz
          · exact Or.inr ⟨by decide, eIX, hw _ wkL_27, hE.2.2.2.2.2⟩
          · cases hz) (by decide) (by decide) (hw _ wkL_13) (va_Nw.use rfl (hE.2.1 eIA (by simp))) hce hcv hcl ?_
      refine lv_astore hx hb dL_chain_17 hl (by decide) rfl (fun ls hl => ?_)
      have hl : lv_has ls 5 [(4, .ref q9), (0, .ref (ad 0)), (1, .int (iI q)), (2, .int (iI k)), (3, .ref ou)] := hl
      refine r_iconst hx hb dL_chain_19 ?_
      subst hAe
      refine W.widen (k := 2) (n := 12) (by decide) (by decide) ?_
      exact W.iret (v := iI 2) hx hb hr (fun t ht hW => ⟨⟨_, (((gL, gB, gD, gN, gS), (n : Int), (r : Int), x), fo), rfl, ⟨⟨hT, rfl, rfl⟩, Or.inr (Or.inr ⟨hx9.1, by omega, rfl⟩)⟩, by subst ht; exact hP⟩, hS.F ht⟩) hS.2.2 dL_chain_20
  · obtain ⟨h1, h2, rfl⟩ := h8
    refine lv_i2l hx hb dL_chain_8 rfl ?_
    refine r_last hx hb hK hP hD hS 6 5 rfl rfl (by omega) (by omega) (by decide) dL_chain_9 (fun H locs hP hD hS => ?_)
    have hP : va_P (dC, dI) vwCl (wX ad ca gL gB gD gN gS ((n : Int)) ((r : Int)) x ++ wO ou co (vp_updL fo (0 : Int).toNat ((iI ((ch L (q.toNat + 1) k.toNat : Int) - 1)).toInt64))) H := hP
    have hD : va_D A (wX ad ca gL gB gD gN gS ((n : Int)) ((r : Int)) x ++ wO ou co (vp_updL fo (0 : Int).toNat ((iI ((ch L (q.toNat + 1) k.toNat : Int) - 1)).toInt64))) := hD
    refine lv_goto hx hb dL_chain_10 (tgt := 21) (by decide) ?_
    refine r_iconst hx hb dL_chain_21 ?_
    subst hAe
    refine W.widen (k := 2) (n := 12) (by decide) (by decide) ?_
    exact W.iret (v := iI 0) hx hb hr (fun t ht hW => ⟨⟨_, (((gL, gB, gD, gN, gS), (n : Int), (r : Int), x), vp_updL fo (0 : Int).toNat ((iI ((ch L (q.toNat + 1) k.toNat : Int) - 1)).toInt64)), rfl, ⟨⟨hT, rfl, rfl⟩, Or.inl ⟨h1, h2, rfl, rfl⟩⟩, by subst ht; exact hP⟩, hS.F ht⟩) hS.2.2 dL_chain_22
set_option maxHeartbeats 4000000 in
set_option maxRecDepth 100000 in
theorem w_depth (l : Launch) (hl9 : l.stackTraces = false) (dC : Nat → ClassId) (dI : Nat → Nat → Nat) (ad : Nat → Nat) (ca : Nat → ClassId) (gL gB gD : Nat → Int) (gN : Nat → Int64) (gS : Nat → Int) (n r : Nat) (x : Int64) (L S : Nat → Nat) (lo : Nat → Bool) (hok : okS n L S r) (hT : tX n L S r lo gL gB gD gN gS x) (ou : Nat) (co : ClassId) (fo : Nat → Int64) (q : Int) (hq : iR q) : Met l yL_depth wsL_depth { frames := 8, cells := 2, slots := 12, locals := 128 } (PXe (dC, dI) vwCl (yXo ca co) (wX ad ca gL gB gD gN gS ((n : Int)) ((r : Int)) x ++ wO ou co fo) [.ref (ad 0), .int (iI q), .ref ou]) (va_Qi (fun (y : Int32) (u : CU × (Nat → Int64)) => XS n L S r lo u.1 ∧ (((0 ≤ q ∧ q < (n : Int)) ∧ y = iI 0 ∧ u.2 0 = (iI (dp L (q.toNat + 1) : Int)).toInt64) ∨ (¬ (0 ≤ q ∧ q < (n : Int)) ∧ y = iI 1))) (fun u t => va_P (dC, dI) vwCl (wXc ad ca u.1 ++ wO ou co u.2) t.heap) (inW (wX ad ca gL gB gD gN gS ((n : Int)) ((r : Int)) x ++ wO ou co fo))) 2 12 (inW (wX ad ca gL gB gD gN gS ((n : Int)) ((r : Int)) x ++ wO ou co fo)) := by
  refine va_MetW (cc := cL_depth) (maxL := 4) (ret := (some .int)) (by decide) rfl ?_
  intro p e s m args below meth c s₁ B hml hv
  obtain ⟨rfl, hP, hK, hD0, hE⟩ := hv
  have hx := B.exec
  have hb := B.bytes
  have hr := B.returns
  have hts := atoms_spec (ws := wsL_depth) B.pre
  have hown : s.vm.findClass RL = some m.cls := findClass_of_methodNamed B.named
  have hlocks := B.notSynchronized
  have hw := fun w h => hts w (List.mem_cons_of_mem _ h)
  have hD := wD_own hD0
  obtain ⟨A, hAe⟩ : ∃ A, A = inW (wX ad ca gL gB gD gN gS ((n : Int)) ((r : Int)) x ++ wO ou co fo) := ⟨_, rfl⟩
  rw [← hAe] at hD
  obtain ⟨H, hH⟩ : ∃ H, H = s.heap := ⟨_, rfl⟩
  obtain ⟨locs, hlc⟩ : ∃ L : List Loc, L = [] := ⟨_, rfl⟩
  have hS : va_S A s.heap H locs := by rw [hH, hlc]; exact va_S.rf
  rw [← hH] at hP ⊢
  rw [← hlc]
  have hl := lv_entry ([.ref (ad 0), .int (iI q), .ref ou]) (n := 4) (Nat.le_of_ble_eq_true rfl)
  rw [lg_entry_eq]
  generalize (lg_sl ([.ref (ad 0), .int (iI q), .ref ou]) ++ List.replicate (4 - (lg_sl ([.ref (ad 0), .int (iI q), .ref ou])).length) Slot.unset).toArray = ls at hl ⊢
  have hl : lv_has ls 4 [(0, .ref (ad 0)), (1, .int (iI q)), (2, .ref ou)] := hl
  have hTab : c.exceptionTable.toList = tableOf [(0, 9, 12, 27)] := vx_table (x := yL_depth) B (hts (.codeWith yL_depth cL_depth 4 (some .int) [(0, 9, 12, 27)]) List.mem_cons_self)
  refine lv_aload_n hx hb dL_depth_0 rfl (lv_at hl 2 rfl) ?_
  refine r_iconst hx hb dL_depth_1 ?_
  refine lv_aload_n hx hb dL_depth_2 rfl (lv_at hl 0 rfl) ?_
  refine lv_iload_n hx hb dL_depth_3 rfl (lv_at hl 1 rfl) ?_
  have hPx := hP.sub (ws' := (wX ad ca gL gB gD gN gS ((n : Int)) ((r : Int)) x)) [0, 1, 2, 3, 4, 5] rfl
  have hDx := hD.sub (ws' := (wX ad ca gL gB gD gN gS ((n : Int)) ((r : Int)) x)) [0, 1, 2, 3, 4, 5] (by decide) rfl
  have hKx := hK.sub (tys' := yX ca) [0, 1, 2, 3, 4] rfl
  refine vr_i (vx_runV (As := [.int (iI q)]) (rest := [.int (iI 0), .ref ou]) ⟨hx, hb, hml, hown, hts⟩ (m_depth l hl9 dC dI ad ca gL gB gD gN gS n r x L S lo hok hT q hq) (cwV 1 hts (gV wlL_29 wo_X0_depth wz_X0_depth wi_1 wcX0_depth) rfl rfl rfl (by decide +kernel) ⟨Nat.le_of_ble_eq_true rfl, Nat.le_of_ble_eq_true rfl⟩) (PXe_V (q0 := 0) (ci := 0) hPx hKx hDx hE (fun a h1 h2 => hS.2.1 a h1 (by rw [hAe]; exact h2)) (fun q h => inW_left h) rfl rfl) rfl rfl hl.1 rfl (lv_room (Nat.le_of_ble_eq_true rfl)) dL_depth_4 ⟨Nat.le_of_ble_eq_true rfl, Nat.le_of_ble_eq_true rfl⟩) hS hP (fun E ce q9 H locs hPE hP hS hce hcv hcl => ?_) (fun r9 H locs h8 hP hS => ?_)
  · obtain ⟨rfl, hx9⟩ := hPE
    refine vx_catch (own := RL) (name := eIX) (E := eIX) hown [] ⟨0, 9, 12, 27⟩ [] (by rw [hTab]; rfl) (fun z hz => nomatch hz) (by decide) (by decide) (hw _ wkL_27) (va_Nw.use rfl (hE.2.1 eIX (by simp))) hce hcv hcl ?_
    refine lv_astore_n hx hb dL_depth_12 rfl hl (by decide) rfl (fun ls hl => ?_)
    have hl : lv_has ls 4 [(3, .ref q9), (0, .ref (ad 0)), (1, .int (iI q)), (2, .ref ou)] := hl
    refine r_iconst hx hb dL_depth_13 ?_
    subst hAe
    refine W.widen (k := 2) (n := 12) (by decide) (by decide) ?_
    exact W.iret (v := iI 1) hx hb hr (fun t ht hW => ⟨⟨_, (((gL, gB, gD, gN, gS), (n : Int), (r : Int), x), fo), rfl, ⟨⟨hT, rfl, rfl⟩, Or.inr ⟨by omega, rfl⟩⟩, by subst ht; exact hP⟩, hS.F ht⟩) hS.2.2 dL_depth_14
  · obtain ⟨h1, rfl⟩ := h8
    refine lv_i2l hx hb dL_depth_7 rfl ?_
    refine r_last hx hb hK hP hD hS 6 5 rfl rfl (by omega) (by omega) (by decide) dL_depth_8 (fun H locs hP hD hS => ?_)
    have hP : va_P (dC, dI) vwCl (wX ad ca gL gB gD gN gS ((n : Int)) ((r : Int)) x ++ wO ou co (vp_updL fo (0 : Int).toNat ((iI ((dp L (q.toNat + 1) : Int))).toInt64))) H := hP
    have hD : va_D A (wX ad ca gL gB gD gN gS ((n : Int)) ((r : Int)) x ++ wO ou co (vp_updL fo (0 : Int).toNat ((iI ((dp L (q.toNat + 1) : Int))).toInt64))) := hD
    refine lv_goto hx hb dL_depth_9 (tgt := 15) (by decide) ?_
    refine r_iconst hx hb dL_depth_15 ?_
    subst hAe
    refine W.widen (k := 2) (n := 12) (by decide) (by decide) ?_
    exact W.iret (v := iI 0) hx hb hr (fun t ht hW => ⟨⟨_, (((gL, gB, gD, gN, gS), (n : Int), (r : Int), x), vp_updL fo (0 : Int).toNat ((iI ((dp L (q.toNat + 1) : Int))).toInt64)), rfl, ⟨⟨hT, rfl, rfl⟩, Or.inl ⟨h1, rfl, rfl⟩⟩, by subst ht; exact hP⟩, hS.F ht⟩) hS.2.2 dL_depth_16
set_option maxHeartbeats 4000000 in
set_option maxRecDepth 100000 in
theorem w_place (l : Launch) (hl9 : l.stackTraces = false) (dC : Nat → ClassId) (dI : Nat → Nat → Nat) (ad : Nat → Nat) (ca : Nat → ClassId) (gL gB gD : Nat → Int) (gN : Nat → Int64) (gS : Nat → Int) (n r : Nat) (x : Int64) (L S : Nat → Nat) (lo : Nat → Bool) (hok : okS n L S r) (hT : tX n L S r lo gL gB gD gN gS x) (ou : Nat) (co : ClassId) (fo : Nat → Int64) (q k : Int) (hq : iR q) (hk0 : iR k) : Met l yL_place wsL_place { frames := 8, cells := 2, slots := 12, locals := 128 } (PXe (dC, dI) vwCl (yXo ca co) (wX ad ca gL gB gD gN gS ((n : Int)) ((r : Int)) x ++ wO ou co fo) [.ref (ad 0), .int (iI q), .int (iI k), .ref ou]) (va_Qi (fun (y : Int32) (u : CU × (Nat → Int64)) => XS n L S r lo u.1 ∧ (((0 ≤ q ∧ q < (n : Int)) ∧ (0 ≤ k ∧ k < (S q.toNat : Int)) ∧ y = iI 0 ∧ u.2 0 = (iI (1000 * (((sm S q.toNat : Int) + k) / (r : Int)) + 1 + ((sm S q.toNat : Int) + k) % (r : Int))).toInt64) ∨ (¬ (0 ≤ q ∧ q < (n : Int)) ∧ y = iI 1) ∨ ((0 ≤ q ∧ q < (n : Int)) ∧ ¬ (0 ≤ k ∧ k < (S q.toNat : Int)) ∧ y = iI 2))) (fun u t => va_P (dC, dI) vwCl (wXc ad ca u.1 ++ wO ou co u.2) t.heap) (inW (wX ad ca gL gB gD gN gS ((n : Int)) ((r : Int)) x ++ wO ou co fo))) 2 12 (inW (wX ad ca gL gB gD gN gS ((n : Int)) ((r : Int)) x ++ wO ou co fo)) := by
  refine va_MetW (cc := cL_place) (maxL := 5) (ret := (some .int)) (by decide) rfl ?_
  intro p e s m args below meth c s₁ B hml hv
  obtain ⟨rfl, hP, hK, hD0, hE⟩ := hv
  have hx := B.exec
  have hb := B.bytes
  have hr := B.returns
  have hts := atoms_spec (ws := wsL_place) B.pre
  have hown : s.vm.findClass RL = some m.cls := findClass_of_methodNamed B.named
  have hlocks := B.notSynchronized
  have hw := fun w h => hts w (List.mem_cons_of_mem _ h)
  have hD := wD_own hD0
  obtain ⟨A, hAe⟩ : ∃ A, A = inW (wX ad ca gL gB gD gN gS ((n : Int)) ((r : Int)) x ++ wO ou co fo) := ⟨_, rfl⟩
  rw [← hAe] at hD
  obtain ⟨H, hH⟩ : ∃ H, H = s.heap := ⟨_, rfl⟩
  obtain ⟨locs, hlc⟩ : ∃ L : List Loc, L = [] := ⟨_, rfl⟩
  have hS : va_S A s.heap H locs := by rw [hH, hlc]; exact va_S.rf
  rw [← hH] at hP ⊢
  rw [← hlc]
  have hl := lv_entry ([.ref (ad 0), .int (iI q), .int (iI k), .ref ou]) (n := 5) (Nat.le_of_ble_eq_true rfl)
  rw [lg_entry_eq]
  generalize (lg_sl ([.ref (ad 0), .int (iI q), .int (iI k), .ref ou]) ++ List.replicate (5 - (lg_sl ([.ref (ad 0), .int (iI q), .int (iI k), .ref ou])).length) Slot.unset).toArray = ls at hl ⊢
  have hl : lv_has ls 5 [(0, .ref (ad 0)), (1, .int (iI q)), (2, .int (iI k)), (3, .ref ou)] := hl
  have hTab : c.exceptionTable.toList = tableOf [(0, 10, 13, 27), (0, 10, 17, 13)] := vx_table (x := yL_place) B (hts (.codeWith yL_place cL_place 5 (some .int) [(0, 10, 13, 27), (0, 10, 17, 13)]) List.mem_cons_self)
  refine lv_aload_n hx hb dL_place_0 rfl (lv_at hl 3 rfl) ?_
  refine r_iconst hx hb dL_place_1 ?_
  refine lv_aload_n hx hb dL_place_2 rfl (lv_at hl 0 rfl) ?_
  refine lv_iload_n hx hb dL_place_3 rfl (lv_at hl 1 rfl) ?_
  refine lv_iload_n hx hb dL_place_4 rfl (lv_at hl 2 rfl) ?_
  have hPx := hP.sub (ws' := (wX ad ca gL gB gD gN gS ((n : Int)) ((r : Int)) x)) [0, 1, 2, 3, 4, 5] rfl
  have hDx := hD.sub (ws' := (wX ad ca gL gB gD gN gS ((n : Int)) ((r : Int)) x)) [0, 1, 2, 3, 4, 5] (by decide) rfl
  have hKx := hK.sub (tys' := yX ca) [0, 1, 2, 3, 4] rfl
  refine vr_i (vx_runV (As := [.int (iI q), .int (iI k)]) (rest := [.int (iI 0), .ref ou]) ⟨hx, hb, hml, hown, hts⟩ (m_place l hl9 dC dI ad ca gL gB gD gN gS n r x L S lo hok hT q k hq hk0) (cwV 2 hts (gV wlL_33 wo_X0_place wz_X0_place wi_1 wcX0_place) rfl rfl rfl (by decide +kernel) ⟨Nat.le_of_ble_eq_true rfl, Nat.le_of_ble_eq_true rfl⟩) (PXe_V (q0 := 0) (ci := 0) hPx hKx hDx hE (fun a h1 h2 => hS.2.1 a h1 (by rw [hAe]; exact h2)) (fun q h => inW_left h) rfl rfl) rfl rfl hl.1 rfl (lv_room (Nat.le_of_ble_eq_true rfl)) dL_place_5 ⟨Nat.le_of_ble_eq_true rfl, Nat.le_of_ble_eq_true rfl⟩) hS hP (fun E ce q9 H locs hPE hP hS hce hcv hcl => ?_) (fun r9 H locs h8 hP hS => ?_)
  · rcases hPE with ⟨rfl, hx9⟩ | ⟨rfl, hx9⟩
    · refine vx_catch (own := RL) (name := eIX) (E := eIX) hown [] ⟨0, 10, 13, 27⟩ [⟨0, 10, 17, 13⟩] (by rw [hTab]; rfl) (fun z hz => nomatch hz) (by decide) (by decide) (hw _ wkL_27) (va_Nw.use rfl (hE.2.1 eIX (by simp))) hce hcv hcl ?_
      refine lv_astore hx hb dL_place_13 hl (by decide) rfl (fun ls hl => ?_)
      have hl : lv_has ls 5 [(4, .ref q9), (0, .ref (ad 0)), (1, .int (iI q)), (2, .int (iI k)), (3, .ref ou)] := hl
      refine r_iconst hx hb dL_place_15 ?_
      subst hAe
      refine W.widen (k := 2) (n := 12) (by decide) (by decide) ?_
      exact W.iret (v := iI 1) hx hb hr (fun t ht hW => ⟨⟨_, (((gL, gB, gD, gN, gS), (n : Int), (r : Int), x), fo), rfl, ⟨⟨hT, rfl, rfl⟩, Or.inr (Or.inl ⟨by omega, rfl⟩)⟩, by subst ht; exact hP⟩, hS.F ht⟩) hS.2.2 dL_place_16
    · refine vx_catch (own := RL) (name := eIA) (E := eIA) hown [⟨0, 10, 13, 27⟩] ⟨0, 10, 17, 13⟩ [] (by rw [hTab]; rfl) (by
          intro z hz
          rcases List.mem_cons.mp hz with rfl | hz
          · exact Or.inr ⟨by decide, eIX, hw _ wkL_27, hE.2.2.2.2.2⟩
          · cases hz) (by decide) (by decide) (hw _ wkL_13) (va_Nw.use rfl (hE.2.1 eIA (by simp))) hce hcv hcl ?_
      refine lv_astore hx hb dL_place_17 hl (by decide) rfl (fun ls hl => ?_)
      have hl : lv_has ls 5 [(4, .ref q9), (0, .ref (ad 0)), (1, .int (iI q)), (2, .int (iI k)), (3, .ref ou)] := hl
      refine r_iconst hx hb dL_place_19 ?_
      subst hAe
      refine W.widen (k := 2) (n := 12) (by decide) (by decide) ?_
      exact W.iret (v := iI 2) hx hb hr (fun t ht hW => ⟨⟨_, (((gL, gB, gD, gN, gS), (n : Int), (r : Int), x), fo), rfl, ⟨⟨hT, rfl, rfl⟩, Or.inr (Or.inr ⟨hx9.1, hx9.2, rfl⟩)⟩, by subst ht; exact hP⟩, hS.F ht⟩) hS.2.2 dL_place_20
  · obtain ⟨h1, h2, rfl⟩ := h8
    refine lv_i2l hx hb dL_place_8 rfl ?_
    refine r_last hx hb hK hP hD hS 6 5 rfl rfl (by omega) (by omega) (by decide) dL_place_9 (fun H locs hP hD hS => ?_)
    have hP : va_P (dC, dI) vwCl (wX ad ca gL gB gD gN gS ((n : Int)) ((r : Int)) x ++ wO ou co (vp_updL fo (0 : Int).toNat ((iI (1000 * (((sm S q.toNat : Int) + k) / (r : Int)) + 1 + ((sm S q.toNat : Int) + k) % (r : Int))).toInt64))) H := hP
    have hD : va_D A (wX ad ca gL gB gD gN gS ((n : Int)) ((r : Int)) x ++ wO ou co (vp_updL fo (0 : Int).toNat ((iI (1000 * (((sm S q.toNat : Int) + k) / (r : Int)) + 1 + ((sm S q.toNat : Int) + k) % (r : Int))).toInt64))) := hD
    refine lv_goto hx hb dL_place_10 (tgt := 21) (by decide) ?_
    refine r_iconst hx hb dL_place_21 ?_
    subst hAe
    refine W.widen (k := 2) (n := 12) (by decide) (by decide) ?_
    exact W.iret (v := iI 0) hx hb hr (fun t ht hW => ⟨⟨_, (((gL, gB, gD, gN, gS), (n : Int), (r : Int), x), vp_updL fo (0 : Int).toNat ((iI (1000 * (((sm S q.toNat : Int) + k) / (r : Int)) + 1 + ((sm S q.toNat : Int) + k) % (r : Int))).toInt64)), rfl, ⟨⟨hT, rfl, rfl⟩, Or.inl ⟨h1, h2, rfl, rfl⟩⟩, by subst ht; exact hP⟩, hS.F ht⟩) hS.2.2 dL_place_22
set_option maxHeartbeats 4000000 in
set_option maxRecDepth 100000 in
theorem w_owner (l : Launch) (hl9 : l.stackTraces = false) (dC : Nat → ClassId) (dI : Nat → Nat → Nat) (ad : Nat → Nat) (ca : Nat → ClassId) (gL gB gD : Nat → Int) (gN : Nat → Int64) (gS : Nat → Int) (n r : Nat) (x : Int64) (L S : Nat → Nat) (lo : Nat → Bool) (hok : okS n L S r) (hT : tX n L S r lo gL gB gD gN gS x) (ou : Nat) (co : ClassId) (fo : Nat → Int64) (v b : Int) (hv : iR v) (hb0 : iR b) : Met l yL_owner wsL_owner { frames := 8, cells := 2, slots := 12, locals := 128 } (PXe (dC, dI) vwCl (yXo ca co) (wX ad ca gL gB gD gN gS ((n : Int)) ((r : Int)) x ++ wO ou co fo) [.ref (ad 0), .int (iI v), .int (iI b), .ref ou]) (va_Qi (fun (y : Int32) (u : CU × (Nat → Int64)) => XS n L S r lo u.1 ∧ ((((0 ≤ v ∧ v < 64) ∧ 0 ≤ b ∧ b ≤ (r : Int)) ∧ y = iI 0 ∧ u.2 0 = (iI (if b = 0 then -1 else (ow S (v * (r : Int) + b - 1).toNat n : Int) - 1)).toInt64) ∨ (¬ ((0 ≤ v ∧ v < 64) ∧ 0 ≤ b ∧ b ≤ (r : Int)) ∧ y = iI 1))) (fun u t => va_P (dC, dI) vwCl (wXc ad ca u.1 ++ wO ou co u.2) t.heap) (inW (wX ad ca gL gB gD gN gS ((n : Int)) ((r : Int)) x ++ wO ou co fo))) 2 12 (inW (wX ad ca gL gB gD gN gS ((n : Int)) ((r : Int)) x ++ wO ou co fo)) := by
  refine va_MetW (cc := cL_owner) (maxL := 5) (ret := (some .int)) (by decide) rfl ?_
  intro p e s m args below meth c s₁ B hml hv
  obtain ⟨rfl, hP, hK, hD0, hE⟩ := hv
  have hx := B.exec
  have hb := B.bytes
  have hr := B.returns
  have hts := atoms_spec (ws := wsL_owner) B.pre
  have hown : s.vm.findClass RL = some m.cls := findClass_of_methodNamed B.named
  have hlocks := B.notSynchronized
  have hw := fun w h => hts w (List.mem_cons_of_mem _ h)
  have hD := wD_own hD0
  obtain ⟨A, hAe⟩ : ∃ A, A = inW (wX ad ca gL gB gD gN gS ((n : Int)) ((r : Int)) x ++ wO ou co fo) := ⟨_, rfl⟩
  rw [← hAe] at hD
  obtain ⟨H, hH⟩ : ∃ H, H = s.heap := ⟨_, rfl⟩
  obtain ⟨locs, hlc⟩ : ∃ L : List Loc, L = [] := ⟨_, rfl⟩
  have hS : va_S A s.heap H locs := by rw [hH, hlc]; exact va_S.rf
  rw [← hH] at hP ⊢
  rw [← hlc]
  have hl := lv_entry ([.ref (ad 0), .int (iI v), .int (iI b), .ref ou]) (n := 5) (Nat.le_of_ble_eq_true rfl)
  rw [lg_entry_eq]
  generalize (lg_sl ([.ref (ad 0), .int (iI v), .int (iI b), .ref ou]) ++ List.replicate (5 - (lg_sl ([.ref (ad 0), .int (iI v), .int (iI b), .ref ou])).length) Slot.unset).toArray = ls at hl ⊢
  have hl : lv_has ls 5 [(0, .ref (ad 0)), (1, .int (iI v)), (2, .int (iI b)), (3, .ref ou)] := hl
  have hTab : c.exceptionTable.toList = tableOf [(0, 10, 13, 13)] := vx_table (x := yL_owner) B (hts (.codeWith yL_owner cL_owner 5 (some .int) [(0, 10, 13, 13)]) List.mem_cons_self)
  refine lv_aload_n hx hb dL_owner_0 rfl (lv_at hl 3 rfl) ?_
  refine r_iconst hx hb dL_owner_1 ?_
  refine lv_aload_n hx hb dL_owner_2 rfl (lv_at hl 0 rfl) ?_
  refine lv_iload_n hx hb dL_owner_3 rfl (lv_at hl 1 rfl) ?_
  refine lv_iload_n hx hb dL_owner_4 rfl (lv_at hl 2 rfl) ?_
  have hPx := hP.sub (ws' := (wX ad ca gL gB gD gN gS ((n : Int)) ((r : Int)) x)) [0, 1, 2, 3, 4, 5] rfl
  have hDx := hD.sub (ws' := (wX ad ca gL gB gD gN gS ((n : Int)) ((r : Int)) x)) [0, 1, 2, 3, 4, 5] (by decide) rfl
  have hKx := hK.sub (tys' := yX ca) [0, 1, 2, 3, 4] rfl
  refine vr_i (vx_runV (As := [.int (iI v), .int (iI b)]) (rest := [.int (iI 0), .ref ou]) ⟨hx, hb, hml, hown, hts⟩ (m_owner l hl9 dC dI ad ca gL gB gD gN gS n r x L S lo hok hT v b hv hb0) (cwV 2 hts (gV wlL_36 wo_X0_owner wz_X0_owner wi_1 wcX0_owner) rfl rfl rfl (by decide +kernel) ⟨Nat.le_of_ble_eq_true rfl, Nat.le_of_ble_eq_true rfl⟩) (PXe_V (q0 := 0) (ci := 0) hPx hKx hDx hE (fun a h1 h2 => hS.2.1 a h1 (by rw [hAe]; exact h2)) (fun q h => inW_left h) rfl rfl) rfl rfl hl.1 rfl (lv_room (Nat.le_of_ble_eq_true rfl)) dL_owner_5 ⟨Nat.le_of_ble_eq_true rfl, Nat.le_of_ble_eq_true rfl⟩) hS hP (fun E ce q9 H locs hPE hP hS hce hcv hcl => ?_) (fun r9 H locs h8 hP hS => ?_)
  · obtain ⟨rfl, hx9⟩ := hPE
    refine vx_catch (own := RL) (name := eIA) (E := eIA) hown [] ⟨0, 10, 13, 13⟩ [] (by rw [hTab]; rfl) (fun z hz => nomatch hz) (by decide) (by decide) (hw _ wkL_13) (va_Nw.use rfl (hE.2.1 eIA (by simp))) hce hcv hcl ?_
    refine lv_astore hx hb dL_owner_13 hl (by decide) rfl (fun ls hl => ?_)
    have hl : lv_has ls 5 [(4, .ref q9), (0, .ref (ad 0)), (1, .int (iI v)), (2, .int (iI b)), (3, .ref ou)] := hl
    refine r_iconst hx hb dL_owner_15 ?_
    subst hAe
    refine W.widen (k := 2) (n := 12) (by decide) (by decide) ?_
    exact W.iret (v := iI 1) hx hb hr (fun t ht hW => ⟨⟨_, (((gL, gB, gD, gN, gS), (n : Int), (r : Int), x), fo), rfl, ⟨⟨hT, rfl, rfl⟩, Or.inr ⟨hx9, rfl⟩⟩, by subst ht; exact hP⟩, hS.F ht⟩) hS.2.2 dL_owner_16
  · obtain ⟨h1, rfl⟩ := h8
    refine lv_i2l hx hb dL_owner_8 rfl ?_
    refine r_last hx hb hK hP hD hS 6 5 rfl rfl (by omega) (by omega) (by decide) dL_owner_9 (fun H locs hP hD hS => ?_)
    have hP : va_P (dC, dI) vwCl (wX ad ca gL gB gD gN gS ((n : Int)) ((r : Int)) x ++ wO ou co (vp_updL fo (0 : Int).toNat ((iI (if b = 0 then -1 else (ow S (v * (r : Int) + b - 1).toNat n : Int) - 1)).toInt64))) H := hP
    have hD : va_D A (wX ad ca gL gB gD gN gS ((n : Int)) ((r : Int)) x ++ wO ou co (vp_updL fo (0 : Int).toNat ((iI (if b = 0 then -1 else (ow S (v * (r : Int) + b - 1).toNat n : Int) - 1)).toInt64))) := hD
    refine lv_goto hx hb dL_owner_10 (tgt := 17) (by decide) ?_
    refine r_iconst hx hb dL_owner_17 ?_
    subst hAe
    refine W.widen (k := 2) (n := 12) (by decide) (by decide) ?_
    exact W.iret (v := iI 0) hx hb hr (fun t ht hW => ⟨⟨_, (((gL, gB, gD, gN, gS), (n : Int), (r : Int), x), vp_updL fo (0 : Int).toNat ((iI (if b = 0 then -1 else (ow S (v * (r : Int) + b - 1).toNat n : Int) - 1)).toInt64)), rfl, ⟨⟨hT, rfl, rfl⟩, Or.inl ⟨h1, rfl, rfl⟩⟩, by subst ht; exact hP⟩, hS.F ht⟩) hS.2.2 dL_owner_18
set_option maxHeartbeats 4000000 in
set_option maxRecDepth 100000 in
theorem w_needs (l : Launch) (hl9 : l.stackTraces = false) (dC : Nat → ClassId) (dI : Nat → Nat → Nat) (ad : Nat → Nat) (ca : Nat → ClassId) (gL gB gD : Nat → Int) (gN : Nat → Int64) (gS : Nat → Int) (n r : Nat) (x : Int64) (L S : Nat → Nat) (lo : Nat → Bool) (hok : okS n L S r) (hT : tX n L S r lo gL gB gD gN gS x) (ou : Nat) (co : ClassId) (fo : Nat → Int64) (q : Int) (hq : iR q) : Met l yL_needs wsL_needs { frames := 8, cells := 2, slots := 12, locals := 128 } (PXe (dC, dI) vwCl (yXo ca co) (wX ad ca gL gB gD gN gS ((n : Int)) ((r : Int)) x ++ wO ou co fo) [.ref (ad 0), .int (iI q), .ref ou]) (va_Qi (fun (y : Int32) (u : CU × (Nat → Int64)) => XS n L S r lo u.1 ∧ (((0 ≤ q ∧ q < (n : Int)) ∧ y = iI 0 ∧ ∀ v, v < 64 → bL (u.2 0) v = nd L S r v (q.toNat + 1)) ∨ (¬ (0 ≤ q ∧ q < (n : Int)) ∧ y = iI 1))) (fun u t => va_P (dC, dI) vwCl (wXc ad ca u.1 ++ wO ou co u.2) t.heap) (inW (wX ad ca gL gB gD gN gS ((n : Int)) ((r : Int)) x ++ wO ou co fo))) 2 12 (inW (wX ad ca gL gB gD gN gS ((n : Int)) ((r : Int)) x ++ wO ou co fo)) := by
  refine va_MetW (cc := cL_needs) (maxL := 4) (ret := (some .int)) (by decide) rfl ?_
  intro p e s m args below meth c s₁ B hml hv
  obtain ⟨rfl, hP, hK, hD0, hE⟩ := hv
  have hx := B.exec
  have hb := B.bytes
  have hr := B.returns
  have hts := atoms_spec (ws := wsL_needs) B.pre
  have hown : s.vm.findClass RL = some m.cls := findClass_of_methodNamed B.named
  have hlocks := B.notSynchronized
  have hw := fun w h => hts w (List.mem_cons_of_mem _ h)
  have hD := wD_own hD0
  obtain ⟨A, hAe⟩ : ∃ A, A = inW (wX ad ca gL gB gD gN gS ((n : Int)) ((r : Int)) x ++ wO ou co fo) := ⟨_, rfl⟩
  rw [← hAe] at hD
  obtain ⟨H, hH⟩ : ∃ H, H = s.heap := ⟨_, rfl⟩
  obtain ⟨locs, hlc⟩ : ∃ L : List Loc, L = [] := ⟨_, rfl⟩
  have hS : va_S A s.heap H locs := by rw [hH, hlc]; exact va_S.rf
  rw [← hH] at hP ⊢
  rw [← hlc]
  have hl := lv_entry ([.ref (ad 0), .int (iI q), .ref ou]) (n := 4) (Nat.le_of_ble_eq_true rfl)
  rw [lg_entry_eq]
  generalize (lg_sl ([.ref (ad 0), .int (iI q), .ref ou]) ++ List.replicate (4 - (lg_sl ([.ref (ad 0), .int (iI q), .ref ou])).length) Slot.unset).toArray = ls at hl ⊢
  have hl : lv_has ls 4 [(0, .ref (ad 0)), (1, .int (iI q)), (2, .ref ou)] := hl
  have hTab : c.exceptionTable.toList = tableOf [(0, 8, 11, 27)] := vx_table (x := yL_needs) B (hts (.codeWith yL_needs cL_needs 4 (some .int) [(0, 8, 11, 27)]) List.mem_cons_self)
  refine lv_aload_n hx hb dL_needs_0 rfl (lv_at hl 2 rfl) ?_
  refine r_iconst hx hb dL_needs_1 ?_
  refine lv_aload_n hx hb dL_needs_2 rfl (lv_at hl 0 rfl) ?_
  refine lv_iload_n hx hb dL_needs_3 rfl (lv_at hl 1 rfl) ?_
  have hPx := hP.sub (ws' := (wX ad ca gL gB gD gN gS ((n : Int)) ((r : Int)) x)) [0, 1, 2, 3, 4, 5] rfl
  have hDx := hD.sub (ws' := (wX ad ca gL gB gD gN gS ((n : Int)) ((r : Int)) x)) [0, 1, 2, 3, 4, 5] (by decide) rfl
  have hKx := hK.sub (tys' := yX ca) [0, 1, 2, 3, 4] rfl
  refine vr_l (vx_runV (As := [.int (iI q)]) (rest := [.int (iI 0), .ref ou]) ⟨hx, hb, hml, hown, hts⟩ (m_needs l hl9 dC dI ad ca gL gB gD gN gS n r x L S lo hok hT q hq) (cwV 1 hts (gV wlL_39 wo_X0_needs wz_X0_needs wi_1 wcX0_needs) rfl rfl rfl (by decide +kernel) ⟨Nat.le_of_ble_eq_true rfl, Nat.le_of_ble_eq_true rfl⟩) (PXe_V (q0 := 0) (ci := 0) hPx hKx hDx hE (fun a h1 h2 => hS.2.1 a h1 (by rw [hAe]; exact h2)) (fun q h => inW_left h) rfl rfl) rfl rfl hl.1 rfl (lv_room (Nat.le_of_ble_eq_true rfl)) dL_needs_4 ⟨Nat.le_of_ble_eq_true rfl, Nat.le_of_ble_eq_true rfl⟩) hS hP (fun E ce q9 H locs hPE hP hS hce hcv hcl => ?_) (fun r9 H locs h8 hP hS => ?_)
  · obtain ⟨rfl, hx9⟩ := hPE
    refine vx_catch (own := RL) (name := eIX) (E := eIX) hown [] ⟨0, 8, 11, 27⟩ [] (by rw [hTab]; rfl) (fun z hz => nomatch hz) (by decide) (by decide) (hw _ wkL_27) (va_Nw.use rfl (hE.2.1 eIX (by simp))) hce hcv hcl ?_
    refine lv_astore_n hx hb dL_needs_11 rfl hl (by decide) rfl (fun ls hl => ?_)
    have hl : lv_has ls 4 [(3, .ref q9), (0, .ref (ad 0)), (1, .int (iI q)), (2, .ref ou)] := hl
    refine r_iconst hx hb dL_needs_12 ?_
    subst hAe
    refine W.widen (k := 2) (n := 12) (by decide) (by decide) ?_
    exact W.iret (v := iI 1) hx hb hr (fun t ht hW => ⟨⟨_, (((gL, gB, gD, gN, gS), (n : Int), (r : Int), x), fo), rfl, ⟨⟨hT, rfl, rfl⟩, Or.inr ⟨by omega, rfl⟩⟩, by subst ht; exact hP⟩, hS.F ht⟩) hS.2.2 dL_needs_13
  · obtain ⟨h1, h2⟩ := h8
    refine r_last hx hb hK hP hD hS 6 5 rfl rfl (by omega) (by omega) (by decide) dL_needs_7 (fun H locs hP hD hS => ?_)
    have hP : va_P (dC, dI) vwCl (wX ad ca gL gB gD gN gS ((n : Int)) ((r : Int)) x ++ wO ou co (vp_updL fo (0 : Int).toNat r9)) H := hP
    have hD : va_D A (wX ad ca gL gB gD gN gS ((n : Int)) ((r : Int)) x ++ wO ou co (vp_updL fo (0 : Int).toNat r9)) := hD
    refine lv_goto hx hb dL_needs_8 (tgt := 14) (by decide) ?_
    refine r_iconst hx hb dL_needs_14 ?_
    subst hAe
    refine W.widen (k := 2) (n := 12) (by decide) (by decide) ?_
    exact W.iret (v := iI 0) hx hb hr (fun t ht hW => ⟨⟨_, (((gL, gB, gD, gN, gS), (n : Int), (r : Int), x), vp_updL fo (0 : Int).toNat r9), rfl, ⟨⟨hT, rfl, rfl⟩, Or.inl ⟨h1, rfl, h2⟩⟩, by subst ht; exact hP⟩, hS.F ht⟩) hS.2.2 dL_needs_15
set_option maxHeartbeats 4000000 in
set_option maxRecDepth 100000 in
theorem w_good (l : Launch) (hl9 : l.stackTraces = false) (dC : Nat → ClassId) (dI : Nat → Nat → Nat) (ad : Nat → Nat) (ca : Nat → ClassId) (gL gB gD : Nat → Int) (gN : Nat → Int64) (gS : Nat → Int) (n r : Nat) (x : Int64) (L S : Nat → Nat) (lo : Nat → Bool) (hok : okS n L S r) (hT : tX n L S r lo gL gB gD gN gS x) (ou : Nat) (co : ClassId) (fo : Nat → Int64) (q : Int) (hq : iR q) : Met l yL_good wsL_good { frames := 8, cells := 2, slots := 12, locals := 128 } (PXe (dC, dI) vwCl (yXo ca co) (wX ad ca gL gB gD gN gS ((n : Int)) ((r : Int)) x ++ wO ou co fo) [.ref (ad 0), .int (iI q), .ref ou]) (va_Qi (fun (y : Int32) (u : CU × (Nat → Int64)) => XS n L S r lo u.1 ∧ (((0 ≤ q ∧ q < (n : Int)) ∧ y = iI 0 ∧ u.2 0 = bJ (gd L S r lo q.toNat)) ∨ (¬ (0 ≤ q ∧ q < (n : Int)) ∧ y = iI 1))) (fun u t => va_P (dC, dI) vwCl (wXc ad ca u.1 ++ wO ou co u.2) t.heap) (inW (wX ad ca gL gB gD gN gS ((n : Int)) ((r : Int)) x ++ wO ou co fo))) 2 12 (inW (wX ad ca gL gB gD gN gS ((n : Int)) ((r : Int)) x ++ wO ou co fo)) := by
  refine va_MetW (cc := cL_good) (maxL := 4) (ret := (some .int)) (by decide) rfl ?_
  intro p e s m args below meth c s₁ B hml hv
  obtain ⟨rfl, hP, hK, hD0, hE⟩ := hv
  have hx := B.exec
  have hb := B.bytes
  have hr := B.returns
  have hts := atoms_spec (ws := wsL_good) B.pre
  have hown : s.vm.findClass RL = some m.cls := findClass_of_methodNamed B.named
  have hlocks := B.notSynchronized
  have hw := fun w h => hts w (List.mem_cons_of_mem _ h)
  have hD := wD_own hD0
  obtain ⟨A, hAe⟩ : ∃ A, A = inW (wX ad ca gL gB gD gN gS ((n : Int)) ((r : Int)) x ++ wO ou co fo) := ⟨_, rfl⟩
  rw [← hAe] at hD
  obtain ⟨H, hH⟩ : ∃ H, H = s.heap := ⟨_, rfl⟩
  obtain ⟨locs, hlc⟩ : ∃ L : List Loc, L = [] := ⟨_, rfl⟩
  have hS : va_S A s.heap H locs := by rw [hH, hlc]; exact va_S.rf
  rw [← hH] at hP ⊢
  rw [← hlc]
  have hl := lv_entry ([.ref (ad 0), .int (iI q), .ref ou]) (n := 4) (Nat.le_of_ble_eq_true rfl)
  rw [lg_entry_eq]
  generalize (lg_sl ([.ref (ad 0), .int (iI q), .ref ou]) ++ List.replicate (4 - (lg_sl ([.ref (ad 0), .int (iI q), .ref ou])).length) Slot.unset).toArray = ls at hl ⊢
  have hl : lv_has ls 4 [(0, .ref (ad 0)), (1, .int (iI q)), (2, .ref ou)] := hl
  have hTab : c.exceptionTable.toList = tableOf [(0, 16, 19, 27)] := vx_table (x := yL_good) B (hts (.codeWith yL_good cL_good 4 (some .int) [(0, 16, 19, 27)]) List.mem_cons_self)
  refine lv_aload_n hx hb dL_good_0 rfl (lv_at hl 2 rfl) ?_
  refine r_iconst hx hb dL_good_1 ?_
  refine lv_aload_n hx hb dL_good_2 rfl (lv_at hl 0 rfl) ?_
  refine lv_iload_n hx hb dL_good_3 rfl (lv_at hl 1 rfl) ?_
  have hPx := hP.sub (ws' := (wX ad ca gL gB gD gN gS ((n : Int)) ((r : Int)) x)) [0, 1, 2, 3, 4, 5] rfl
  have hDx := hD.sub (ws' := (wX ad ca gL gB gD gN gS ((n : Int)) ((r : Int)) x)) [0, 1, 2, 3, 4, 5] (by decide) rfl
  have hKx := hK.sub (tys' := yX ca) [0, 1, 2, 3, 4] rfl
  refine vr_i (vx_runV (As := [.int (iI q)]) (rest := [.int (iI 0), .ref ou]) ⟨hx, hb, hml, hown, hts⟩ (m_good l hl9 dC dI ad ca gL gB gD gN gS n r x L S lo hok hT q hq) (cwV 1 hts (gV wlL_47 wo_X0_good wz_X0_good wi_1 wcX0_good) rfl rfl rfl (by decide +kernel) ⟨Nat.le_of_ble_eq_true rfl, Nat.le_of_ble_eq_true rfl⟩) (PXe_V (q0 := 0) (ci := 0) hPx hKx hDx hE (fun a h1 h2 => hS.2.1 a h1 (by rw [hAe]; exact h2)) (fun q h => inW_left h) rfl rfl) rfl rfl hl.1 rfl (lv_room (Nat.le_of_ble_eq_true rfl)) dL_good_4 ⟨Nat.le_of_ble_eq_true rfl, Nat.le_of_ble_eq_true rfl⟩) hS hP (fun E ce q9 H locs hPE hP hS hce hcv hcl => ?_) (fun r9 H locs h8 hP hS => ?_)
  · obtain ⟨rfl, hx9⟩ := hPE
    refine vx_catch (own := RL) (name := eIX) (E := eIX) hown [] ⟨0, 16, 19, 27⟩ [] (by rw [hTab]; rfl) (fun z hz => nomatch hz) (by decide) (by decide) (hw _ wkL_27) (va_Nw.use rfl (hE.2.1 eIX (by simp))) hce hcv hcl ?_
    refine lv_astore_n hx hb dL_good_19 rfl hl (by decide) rfl (fun ls hl => ?_)
    have hl : lv_has ls 4 [(3, .ref q9), (0, .ref (ad 0)), (1, .int (iI q)), (2, .ref ou)] := hl
    refine r_iconst hx hb dL_good_20 ?_
    subst hAe
    refine W.widen (k := 2) (n := 12) (by decide) (by decide) ?_
    exact W.iret (v := iI 1) hx hb hr (fun t ht hW => ⟨⟨_, (((gL, gB, gD, gN, gS), (n : Int), (r : Int), x), fo), rfl, ⟨⟨hT, rfl, rfl⟩, Or.inr ⟨by omega, rfl⟩⟩, by subst ht; exact hP⟩, hS.F ht⟩) hS.2.2 dL_good_21
  · obtain ⟨h1, rfl⟩ := h8
    have h01 := b2_01 (gd L S r lo q.toNat)
    refine r_if_eq hx hb dL_good_7 (tgt := 14) (by decide) (by omega) (fun hz => ?_) (fun hnz => ?_)
    · refine lv_lconst hx hb dL_good_14 rfl ?_
      refine r_last hx hb hK hP hD hS 6 5 rfl rfl (by omega) (by omega) (by decide) dL_good_15 (fun H locs hP hD hS => ?_)
      have hP : va_P (dC, dI) vwCl (wX ad ca gL gB gD gN gS ((n : Int)) ((r : Int)) x ++ wO ou co (vp_updL fo (0 : Int).toNat (Int64.ofNat 0))) H := hP
      have hD : va_D A (wX ad ca gL gB gD gN gS ((n : Int)) ((r : Int)) x ++ wO ou co (vp_updL fo (0 : Int).toNat (Int64.ofNat 0))) := hD
      refine lv_goto hx hb dL_good_16 (tgt := 22) (by decide) ?_
      refine r_iconst hx hb dL_good_22 ?_
      subst hAe
      refine W.widen (k := 2) (n := 12) (by decide) (by decide) ?_
      exact W.iret (v := iI 0) hx hb hr (fun t ht hW => ⟨⟨_, (((gL, gB, gD, gN, gS), (n : Int), (r : Int), x), vp_updL fo (0 : Int).toNat (Int64.ofNat 0)), rfl, ⟨⟨hT, rfl, rfl⟩, Or.inl ⟨h1, rfl, by rw [b2_0 hz]; rfl⟩⟩, by subst ht; exact hP⟩, hS.F ht⟩) hS.2.2 dL_good_23
    · refine lv_lconst hx hb dL_good_10 rfl ?_
      refine lv_goto hx hb dL_good_11 (tgt := 15) (by decide) ?_
      refine r_last hx hb hK hP hD hS 6 5 rfl rfl (by omega) (by omega) (by decide) dL_good_15 (fun H locs hP hD hS => ?_)
      have hP : va_P (dC, dI) vwCl (wX ad ca gL gB gD gN gS ((n : Int)) ((r : Int)) x ++ wO ou co (vp_updL fo (0 : Int).toNat (Int64.ofNat 1))) H := hP
      have hD : va_D A (wX ad ca gL gB gD gN gS ((n : Int)) ((r : Int)) x ++ wO ou co (vp_updL fo (0 : Int).toNat (Int64.ofNat 1))) := hD
      refine lv_goto hx hb dL_good_16 (tgt := 22) (by decide) ?_
      refine r_iconst hx hb dL_good_22 ?_
      subst hAe
      refine W.widen (k := 2) (n := 12) (by decide) (by decide) ?_
      exact W.iret (v := iI 0) hx hb hr (fun t ht hW => ⟨⟨_, (((gL, gB, gD, gN, gS), (n : Int), (r : Int), x), vp_updL fo (0 : Int).toNat (Int64.ofNat 1)), rfl, ⟨⟨hT, rfl, rfl⟩, Or.inl ⟨h1, rfl, by rw [b2_1 hnz]; rfl⟩⟩, by subst ht; exact hP⟩, hS.F ht⟩) hS.2.2 dL_good_23
set_option maxHeartbeats 4000000 in
set_option maxRecDepth 100000 in
theorem w_latest (l : Launch) (hl9 : l.stackTraces = false) (dC : Nat → ClassId) (dI : Nat → Nat → Nat) (ad : Nat → Nat) (ca : Nat → ClassId) (gL gB gD : Nat → Int) (gN : Nat → Int64) (gS : Nat → Int) (n r : Nat) (x : Int64) (L S : Nat → Nat) (lo : Nat → Bool) (hok : okS n L S r) (hT : tX n L S r lo gL gB gD gN gS x) (ou : Nat) (co : ClassId) (fo : Nat → Int64) (q : Int) (hq : iR q) : Met l yL_latest wsL_latest { frames := 8, cells := 2, slots := 12, locals := 128 } (PXe (dC, dI) vwCl (yXo ca co) (wX ad ca gL gB gD gN gS ((n : Int)) ((r : Int)) x ++ wO ou co fo) [.ref (ad 0), .int (iI q), .ref ou]) (va_Qi (fun (y : Int32) (u : CU × (Nat → Int64)) => XS n L S r lo u.1 ∧ (((0 ≤ q ∧ q < (n : Int)) ∧ y = iI 0 ∧ u.2 0 = (iI ((la (gd L S r lo) (q.toNat + 1) : Int) - 1)).toInt64) ∨ (¬ (0 ≤ q ∧ q < (n : Int)) ∧ y = iI 1))) (fun u t => va_P (dC, dI) vwCl (wXc ad ca u.1 ++ wO ou co u.2) t.heap) (inW (wX ad ca gL gB gD gN gS ((n : Int)) ((r : Int)) x ++ wO ou co fo))) 2 12 (inW (wX ad ca gL gB gD gN gS ((n : Int)) ((r : Int)) x ++ wO ou co fo)) := by
  refine va_MetW (cc := cL_latest) (maxL := 4) (ret := (some .int)) (by decide) rfl ?_
  intro p e s m args below meth c s₁ B hml hv
  obtain ⟨rfl, hP, hK, hD0, hE⟩ := hv
  have hx := B.exec
  have hb := B.bytes
  have hr := B.returns
  have hts := atoms_spec (ws := wsL_latest) B.pre
  have hown : s.vm.findClass RL = some m.cls := findClass_of_methodNamed B.named
  have hlocks := B.notSynchronized
  have hw := fun w h => hts w (List.mem_cons_of_mem _ h)
  have hD := wD_own hD0
  obtain ⟨A, hAe⟩ : ∃ A, A = inW (wX ad ca gL gB gD gN gS ((n : Int)) ((r : Int)) x ++ wO ou co fo) := ⟨_, rfl⟩
  rw [← hAe] at hD
  obtain ⟨H, hH⟩ : ∃ H, H = s.heap := ⟨_, rfl⟩
  obtain ⟨locs, hlc⟩ : ∃ L : List Loc, L = [] := ⟨_, rfl⟩
  have hS : va_S A s.heap H locs := by rw [hH, hlc]; exact va_S.rf
  rw [← hH] at hP ⊢
  rw [← hlc]
  have hl := lv_entry ([.ref (ad 0), .int (iI q), .ref ou]) (n := 4) (Nat.le_of_ble_eq_true rfl)
  rw [lg_entry_eq]
  generalize (lg_sl ([.ref (ad 0), .int (iI q), .ref ou]) ++ List.replicate (4 - (lg_sl ([.ref (ad 0), .int (iI q), .ref ou])).length) Slot.unset).toArray = ls at hl ⊢
  have hl : lv_has ls 4 [(0, .ref (ad 0)), (1, .int (iI q)), (2, .ref ou)] := hl
  have hTab : c.exceptionTable.toList = tableOf [(0, 9, 12, 27)] := vx_table (x := yL_latest) B (hts (.codeWith yL_latest cL_latest 4 (some .int) [(0, 9, 12, 27)]) List.mem_cons_self)
  refine lv_aload_n hx hb dL_latest_0 rfl (lv_at hl 2 rfl) ?_
  refine r_iconst hx hb dL_latest_1 ?_
  refine lv_aload_n hx hb dL_latest_2 rfl (lv_at hl 0 rfl) ?_
  refine lv_iload_n hx hb dL_latest_3 rfl (lv_at hl 1 rfl) ?_
  have hPx := hP.sub (ws' := (wX ad ca gL gB gD gN gS ((n : Int)) ((r : Int)) x)) [0, 1, 2, 3, 4, 5] rfl
  have hDx := hD.sub (ws' := (wX ad ca gL gB gD gN gS ((n : Int)) ((r : Int)) x)) [0, 1, 2, 3, 4, 5] (by decide) rfl
  have hKx := hK.sub (tys' := yX ca) [0, 1, 2, 3, 4] rfl
  refine vr_i (vx_runV (As := [.int (iI q)]) (rest := [.int (iI 0), .ref ou]) ⟨hx, hb, hml, hown, hts⟩ (m_latest l hl9 dC dI ad ca gL gB gD gN gS n r x L S lo hok hT q hq) (cwV 1 hts (gV wlL_51 wo_X0_latest wz_X0_latest wi_1 wcX0_latest) rfl rfl rfl (by decide +kernel) ⟨Nat.le_of_ble_eq_true rfl, Nat.le_of_ble_eq_true rfl⟩) (PXe_V (q0 := 0) (ci := 0) hPx hKx hDx hE (fun a h1 h2 => hS.2.1 a h1 (by rw [hAe]; exact h2)) (fun q h => inW_left h) rfl rfl) rfl rfl hl.1 rfl (lv_room (Nat.le_of_ble_eq_true rfl)) dL_latest_4 ⟨Nat.le_of_ble_eq_true rfl, Nat.le_of_ble_eq_true rfl⟩) hS hP (fun E ce q9 H locs hPE hP hS hce hcv hcl => ?_) (fun r9 H locs h8 hP hS => ?_)
  · obtain ⟨rfl, hx9⟩ := hPE
    refine vx_catch (own := RL) (name := eIX) (E := eIX) hown [] ⟨0, 9, 12, 27⟩ [] (by rw [hTab]; rfl) (fun z hz => nomatch hz) (by decide) (by decide) (hw _ wkL_27) (va_Nw.use rfl (hE.2.1 eIX (by simp))) hce hcv hcl ?_
    refine lv_astore_n hx hb dL_latest_12 rfl hl (by decide) rfl (fun ls hl => ?_)
    have hl : lv_has ls 4 [(3, .ref q9), (0, .ref (ad 0)), (1, .int (iI q)), (2, .ref ou)] := hl
    refine r_iconst hx hb dL_latest_13 ?_
    subst hAe
    refine W.widen (k := 2) (n := 12) (by decide) (by decide) ?_
    exact W.iret (v := iI 1) hx hb hr (fun t ht hW => ⟨⟨_, (((gL, gB, gD, gN, gS), (n : Int), (r : Int), x), fo), rfl, ⟨⟨hT, rfl, rfl⟩, Or.inr ⟨by omega, rfl⟩⟩, by subst ht; exact hP⟩, hS.F ht⟩) hS.2.2 dL_latest_14
  · obtain ⟨h1, rfl⟩ := h8
    refine lv_i2l hx hb dL_latest_7 rfl ?_
    refine r_last hx hb hK hP hD hS 6 5 rfl rfl (by omega) (by omega) (by decide) dL_latest_8 (fun H locs hP hD hS => ?_)
    have hP : va_P (dC, dI) vwCl (wX ad ca gL gB gD gN gS ((n : Int)) ((r : Int)) x ++ wO ou co (vp_updL fo (0 : Int).toNat ((iI ((la (gd L S r lo) (q.toNat + 1) : Int) - 1)).toInt64))) H := hP
    have hD : va_D A (wX ad ca gL gB gD gN gS ((n : Int)) ((r : Int)) x ++ wO ou co (vp_updL fo (0 : Int).toNat ((iI ((la (gd L S r lo) (q.toNat + 1) : Int) - 1)).toInt64))) := hD
    refine lv_goto hx hb dL_latest_9 (tgt := 15) (by decide) ?_
    refine r_iconst hx hb dL_latest_15 ?_
    subst hAe
    refine W.widen (k := 2) (n := 12) (by decide) (by decide) ?_
    exact W.iret (v := iI 0) hx hb hr (fun t ht hW => ⟨⟨_, (((gL, gB, gD, gN, gS), (n : Int), (r : Int), x), vp_updL fo (0 : Int).toNat ((iI ((la (gd L S r lo) (q.toNat + 1) : Int) - 1)).toInt64)), rfl, ⟨⟨hT, rfl, rfl⟩, Or.inl ⟨h1, rfl, rfl⟩⟩, by subst ht; exact hP⟩, hS.F ht⟩) hS.2.2 dL_latest_16
set_option maxHeartbeats 4000000 in
set_option maxRecDepth 100000 in
theorem w_spare (l : Launch) (hl9 : l.stackTraces = false) (dC : Nat → ClassId) (dI : Nat → Nat → Nat) (ad : Nat → Nat) (ca : Nat → ClassId) (gL gB gD : Nat → Int) (gN : Nat → Int64) (gS : Nat → Int) (n r : Nat) (x : Int64) (L S : Nat → Nat) (lo : Nat → Bool) (hok : okS n L S r) (hT : tX n L S r lo gL gB gD gN gS x) (ou : Nat) (co : ClassId) (fo : Nat → Int64) (q : Int) (hq : iR q) : Met l yL_spare wsL_spare { frames := 8, cells := 2, slots := 12, locals := 128 } (PXe (dC, dI) vwCl (yXo ca co) (wX ad ca gL gB gD gN gS ((n : Int)) ((r : Int)) x ++ wO ou co fo) [.ref (ad 0), .int (iI q), .ref ou]) (va_Qi (fun (y : Int32) (u : CU × (Nat → Int64)) => XS n L S r lo u.1 ∧ ((0 ≤ q ∧ y = iI 0 ∧ ∀ v, v < 64 → bL (u.2 0) v = sp L S r n q.toNat v) ∨ (¬ 0 ≤ q ∧ y = iI 1))) (fun u t => va_P (dC, dI) vwCl (wXc ad ca u.1 ++ wO ou co u.2) t.heap) (inW (wX ad ca gL gB gD gN gS ((n : Int)) ((r : Int)) x ++ wO ou co fo))) 2 12 (inW (wX ad ca gL gB gD gN gS ((n : Int)) ((r : Int)) x ++ wO ou co fo)) := by
  refine va_MetW (cc := cL_spare) (maxL := 4) (ret := (some .int)) (by decide) rfl ?_
  intro p e s m args below meth c s₁ B hml hv
  obtain ⟨rfl, hP, hK, hD0, hE⟩ := hv
  have hx := B.exec
  have hb := B.bytes
  have hr := B.returns
  have hts := atoms_spec (ws := wsL_spare) B.pre
  have hown : s.vm.findClass RL = some m.cls := findClass_of_methodNamed B.named
  have hlocks := B.notSynchronized
  have hw := fun w h => hts w (List.mem_cons_of_mem _ h)
  have hD := wD_own hD0
  obtain ⟨A, hAe⟩ : ∃ A, A = inW (wX ad ca gL gB gD gN gS ((n : Int)) ((r : Int)) x ++ wO ou co fo) := ⟨_, rfl⟩
  rw [← hAe] at hD
  obtain ⟨H, hH⟩ : ∃ H, H = s.heap := ⟨_, rfl⟩
  obtain ⟨locs, hlc⟩ : ∃ L : List Loc, L = [] := ⟨_, rfl⟩
  have hS : va_S A s.heap H locs := by rw [hH, hlc]; exact va_S.rf
  rw [← hH] at hP ⊢
  rw [← hlc]
  have hl := lv_entry ([.ref (ad 0), .int (iI q), .ref ou]) (n := 4) (Nat.le_of_ble_eq_true rfl)
  rw [lg_entry_eq]
  generalize (lg_sl ([.ref (ad 0), .int (iI q), .ref ou]) ++ List.replicate (4 - (lg_sl ([.ref (ad 0), .int (iI q), .ref ou])).length) Slot.unset).toArray = ls at hl ⊢
  have hl : lv_has ls 4 [(0, .ref (ad 0)), (1, .int (iI q)), (2, .ref ou)] := hl
  have hTab : c.exceptionTable.toList = tableOf [(0, 8, 11, 13)] := vx_table (x := yL_spare) B (hts (.codeWith yL_spare cL_spare 4 (some .int) [(0, 8, 11, 13)]) List.mem_cons_self)
  refine lv_aload_n hx hb dL_spare_0 rfl (lv_at hl 2 rfl) ?_
  refine r_iconst hx hb dL_spare_1 ?_
  refine lv_aload_n hx hb dL_spare_2 rfl (lv_at hl 0 rfl) ?_
  refine lv_iload_n hx hb dL_spare_3 rfl (lv_at hl 1 rfl) ?_
  have hPx := hP.sub (ws' := (wX ad ca gL gB gD gN gS ((n : Int)) ((r : Int)) x)) [0, 1, 2, 3, 4, 5] rfl
  have hDx := hD.sub (ws' := (wX ad ca gL gB gD gN gS ((n : Int)) ((r : Int)) x)) [0, 1, 2, 3, 4, 5] (by decide) rfl
  have hKx := hK.sub (tys' := yX ca) [0, 1, 2, 3, 4] rfl
  refine vr_l (vx_runV (As := [.int (iI q)]) (rest := [.int (iI 0), .ref ou]) ⟨hx, hb, hml, hown, hts⟩ (m_spare l hl9 dC dI ad ca gL gB gD gN gS n r x L S lo hok hT q hq) (cwV 1 hts (gV wlL_54 wo_X0_spare wz_X0_spare wi_1 wcX0_spare) rfl rfl rfl (by decide +kernel) ⟨Nat.le_of_ble_eq_true rfl, Nat.le_of_ble_eq_true rfl⟩) (PXe_V (q0 := 0) (ci := 0) hPx hKx hDx hE (fun a h1 h2 => hS.2.1 a h1 (by rw [hAe]; exact h2)) (fun q h => inW_left h) rfl rfl) rfl rfl hl.1 rfl (lv_room (Nat.le_of_ble_eq_true rfl)) dL_spare_4 ⟨Nat.le_of_ble_eq_true rfl, Nat.le_of_ble_eq_true rfl⟩) hS hP (fun E ce q9 H locs hPE hP hS hce hcv hcl => ?_) (fun r9 H locs h8 hP hS => ?_)
  · obtain ⟨rfl, hx9⟩ := hPE
    refine vx_catch (own := RL) (name := eIA) (E := eIA) hown [] ⟨0, 8, 11, 13⟩ [] (by rw [hTab]; rfl) (fun z hz => nomatch hz) (by decide) (by decide) (hw _ wkL_13) (va_Nw.use rfl (hE.2.1 eIA (by simp))) hce hcv hcl ?_
    refine lv_astore_n hx hb dL_spare_11 rfl hl (by decide) rfl (fun ls hl => ?_)
    have hl : lv_has ls 4 [(3, .ref q9), (0, .ref (ad 0)), (1, .int (iI q)), (2, .ref ou)] := hl
    refine r_iconst hx hb dL_spare_12 ?_
    subst hAe
    refine W.widen (k := 2) (n := 12) (by decide) (by decide) ?_
    exact W.iret (v := iI 1) hx hb hr (fun t ht hW => ⟨⟨_, (((gL, gB, gD, gN, gS), (n : Int), (r : Int), x), fo), rfl, ⟨⟨hT, rfl, rfl⟩, Or.inr ⟨by omega, rfl⟩⟩, by subst ht; exact hP⟩, hS.F ht⟩) hS.2.2 dL_spare_13
  · obtain ⟨h1, h2⟩ := h8
    refine r_last hx hb hK hP hD hS 6 5 rfl rfl (by omega) (by omega) (by decide) dL_spare_7 (fun H locs hP hD hS => ?_)
    have hP : va_P (dC, dI) vwCl (wX ad ca gL gB gD gN gS ((n : Int)) ((r : Int)) x ++ wO ou co (vp_updL fo (0 : Int).toNat r9)) H := hP
    have hD : va_D A (wX ad ca gL gB gD gN gS ((n : Int)) ((r : Int)) x ++ wO ou co (vp_updL fo (0 : Int).toNat r9)) := hD
    refine lv_goto hx hb dL_spare_8 (tgt := 14) (by decide) ?_
    refine r_iconst hx hb dL_spare_14 ?_
    subst hAe
    refine W.widen (k := 2) (n := 12) (by decide) (by decide) ?_
    exact W.iret (v := iI 0) hx hb hr (fun t ht hW => ⟨⟨_, (((gL, gB, gD, gN, gS), (n : Int), (r : Int), x), vp_updL fo (0 : Int).toNat r9), rfl, ⟨⟨hT, rfl, rfl⟩, Or.inl ⟨h1, rfl, h2⟩⟩, by subst ht; exact hP⟩, hS.F ht⟩) hS.2.2 dL_spare_15
set_option maxHeartbeats 4000000 in
set_option maxRecDepth 100000 in
theorem w_count (l : Launch) (hl9 : l.stackTraces = false) (dC : Nat → ClassId) (dI : Nat → Nat → Nat) (ad : Nat → Nat) (ca : Nat → ClassId) (gL gB gD : Nat → Int) (gN : Nat → Int64) (gS : Nat → Int) (n r : Nat) (x : Int64) (L S : Nat → Nat) (lo : Nat → Bool) (hok : okS n L S r) (hT : tX n L S r lo gL gB gD gN gS x) (ou : Nat) (co : ClassId) (fo : Nat → Int64) (q : Int) (hq : iR q) : Met l yL_count wsL_count { frames := 8, cells := 2, slots := 12, locals := 128 } (PXe (dC, dI) vwCl (yXo ca co) (wX ad ca gL gB gD gN gS ((n : Int)) ((r : Int)) x ++ wO ou co fo) [.ref (ad 0), .int (iI q), .ref ou]) (va_Qi (fun (y : Int32) (u : CU × (Nat → Int64)) => XS n L S r lo u.1 ∧ (((0 ≤ q ∧ q ≤ 5) ∧ y = iI 0 ∧ u.2 0 = (iI (ct L S r n lo q.toNat : Int)).toInt64) ∨ (¬ (0 ≤ q ∧ q ≤ 5) ∧ y = iI 1))) (fun u t => va_P (dC, dI) vwCl (wXc ad ca u.1 ++ wO ou co u.2) t.heap) (inW (wX ad ca gL gB gD gN gS ((n : Int)) ((r : Int)) x ++ wO ou co fo))) 2 12 (inW (wX ad ca gL gB gD gN gS ((n : Int)) ((r : Int)) x ++ wO ou co fo)) := by
  refine va_MetW (cc := cL_count) (maxL := 4) (ret := (some .int)) (by decide) rfl ?_
  intro p e s m args below meth c s₁ B hml hv
  obtain ⟨rfl, hP, hK, hD0, hE⟩ := hv
  have hx := B.exec
  have hb := B.bytes
  have hr := B.returns
  have hts := atoms_spec (ws := wsL_count) B.pre
  have hown : s.vm.findClass RL = some m.cls := findClass_of_methodNamed B.named
  have hlocks := B.notSynchronized
  have hw := fun w h => hts w (List.mem_cons_of_mem _ h)
  have hD := wD_own hD0
  obtain ⟨A, hAe⟩ : ∃ A, A = inW (wX ad ca gL gB gD gN gS ((n : Int)) ((r : Int)) x ++ wO ou co fo) := ⟨_, rfl⟩
  rw [← hAe] at hD
  obtain ⟨H, hH⟩ : ∃ H, H = s.heap := ⟨_, rfl⟩
  obtain ⟨locs, hlc⟩ : ∃ L : List Loc, L = [] := ⟨_, rfl⟩
  have hS : va_S A s.heap H locs := by rw [hH, hlc]; exact va_S.rf
  rw [← hH] at hP ⊢
  rw [← hlc]
  have hl := lv_entry ([.ref (ad 0), .int (iI q), .ref ou]) (n := 4) (Nat.le_of_ble_eq_true rfl)
  rw [lg_entry_eq]
  generalize (lg_sl ([.ref (ad 0), .int (iI q), .ref ou]) ++ List.replicate (4 - (lg_sl ([.ref (ad 0), .int (iI q), .ref ou])).length) Slot.unset).toArray = ls at hl ⊢
  have hl : lv_has ls 4 [(0, .ref (ad 0)), (1, .int (iI q)), (2, .ref ou)] := hl
  have hTab : c.exceptionTable.toList = tableOf [(0, 9, 12, 13)] := vx_table (x := yL_count) B (hts (.codeWith yL_count cL_count 4 (some .int) [(0, 9, 12, 13)]) List.mem_cons_self)
  refine lv_aload_n hx hb dL_count_0 rfl (lv_at hl 2 rfl) ?_
  refine r_iconst hx hb dL_count_1 ?_
  refine lv_aload_n hx hb dL_count_2 rfl (lv_at hl 0 rfl) ?_
  refine lv_iload_n hx hb dL_count_3 rfl (lv_at hl 1 rfl) ?_
  have hPx := hP.sub (ws' := (wX ad ca gL gB gD gN gS ((n : Int)) ((r : Int)) x)) [0, 1, 2, 3, 4, 5] rfl
  have hDx := hD.sub (ws' := (wX ad ca gL gB gD gN gS ((n : Int)) ((r : Int)) x)) [0, 1, 2, 3, 4, 5] (by decide) rfl
  have hKx := hK.sub (tys' := yX ca) [0, 1, 2, 3, 4] rfl
  refine vr_i (vx_runV (As := [.int (iI q)]) (rest := [.int (iI 0), .ref ou]) ⟨hx, hb, hml, hown, hts⟩ (m_count l hl9 dC dI ad ca gL gB gD gN gS n r x L S lo hok hT q hq) (cwV 1 hts (gV wlL_57 wo_X0_count wz_X0_count wi_1 wcX0_count) rfl rfl rfl (by decide +kernel) ⟨Nat.le_of_ble_eq_true rfl, Nat.le_of_ble_eq_true rfl⟩) (PXe_V (q0 := 0) (ci := 0) hPx hKx hDx hE (fun a h1 h2 => hS.2.1 a h1 (by rw [hAe]; exact h2)) (fun q h => inW_left h) rfl rfl) rfl rfl hl.1 rfl (lv_room (Nat.le_of_ble_eq_true rfl)) dL_count_4 ⟨Nat.le_of_ble_eq_true rfl, Nat.le_of_ble_eq_true rfl⟩) hS hP (fun E ce q9 H locs hPE hP hS hce hcv hcl => ?_) (fun r9 H locs h8 hP hS => ?_)
  · obtain ⟨rfl, hx9⟩ := hPE
    refine vx_catch (own := RL) (name := eIA) (E := eIA) hown [] ⟨0, 9, 12, 13⟩ [] (by rw [hTab]; rfl) (fun z hz => nomatch hz) (by decide) (by decide) (hw _ wkL_13) (va_Nw.use rfl (hE.2.1 eIA (by simp))) hce hcv hcl ?_
    refine lv_astore_n hx hb dL_count_12 rfl hl (by decide) rfl (fun ls hl => ?_)
    have hl : lv_has ls 4 [(3, .ref q9), (0, .ref (ad 0)), (1, .int (iI q)), (2, .ref ou)] := hl
    refine r_iconst hx hb dL_count_13 ?_
    subst hAe
    refine W.widen (k := 2) (n := 12) (by decide) (by decide) ?_
    exact W.iret (v := iI 1) hx hb hr (fun t ht hW => ⟨⟨_, (((gL, gB, gD, gN, gS), (n : Int), (r : Int), x), fo), rfl, ⟨⟨hT, rfl, rfl⟩, Or.inr ⟨hx9, rfl⟩⟩, by subst ht; exact hP⟩, hS.F ht⟩) hS.2.2 dL_count_14
  · obtain ⟨h1, rfl⟩ := h8
    refine lv_i2l hx hb dL_count_7 rfl ?_
    refine r_last hx hb hK hP hD hS 6 5 rfl rfl (by omega) (by omega) (by decide) dL_count_8 (fun H locs hP hD hS => ?_)
    have hP : va_P (dC, dI) vwCl (wX ad ca gL gB gD gN gS ((n : Int)) ((r : Int)) x ++ wO ou co (vp_updL fo (0 : Int).toNat ((iI ((ct L S r n lo q.toNat : Int))).toInt64))) H := hP
    have hD : va_D A (wX ad ca gL gB gD gN gS ((n : Int)) ((r : Int)) x ++ wO ou co (vp_updL fo (0 : Int).toNat ((iI ((ct L S r n lo q.toNat : Int))).toInt64))) := hD
    refine lv_goto hx hb dL_count_9 (tgt := 15) (by decide) ?_
    refine r_iconst hx hb dL_count_15 ?_
    subst hAe
    refine W.widen (k := 2) (n := 12) (by decide) (by decide) ?_
    exact W.iret (v := iI 0) hx hb hr (fun t ht hW => ⟨⟨_, (((gL, gB, gD, gN, gS), (n : Int), (r : Int), x), vp_updL fo (0 : Int).toNat ((iI ((ct L S r n lo q.toNat : Int))).toInt64)), rfl, ⟨⟨hT, rfl, rfl⟩, Or.inl ⟨h1, rfl, rfl⟩⟩, by subst ht; exact hP⟩, hS.F ht⟩) hS.2.2 dL_count_16
set_option maxHeartbeats 4000000 in
set_option maxRecDepth 100000 in
theorem w_lose (l : Launch) (hl9 : l.stackTraces = false) (dC : Nat → ClassId) (dI : Nat → Nat → Nat) (ad : Nat → Nat) (ca : Nat → ClassId) (gL gB gD : Nat → Int) (gN : Nat → Int64) (gS : Nat → Int) (n r : Nat) (x : Int64) (L S : Nat → Nat) (lo : Nat → Bool) (hok : okS n L S r) (hT : tX n L S r lo gL gB gD gN gS x) (ou : Nat) (co : ClassId) (fo : Nat → Int64) (v f : Int) (hv : iR v) (hf : f = 0 ∨ f = 1) : Met l yL_lose wsL_lose { frames := 8, cells := 2, slots := 12, locals := 128 } (PXe (dC, dI) vwCl (yXo ca co) (wX ad ca gL gB gD gN gS ((n : Int)) ((r : Int)) x ++ wO ou co fo) [.ref (ad 0), .int (iI v), .int (iI f), .ref ou]) (va_Qi (fun (y : Int32) (u : CU × (Nat → Int64)) => ((0 ≤ v ∧ v < 64) ∧ y = iI 0 ∧ XS n L S r (lsU lo v.toNat (decide (f = 1))) u.1 ∧ u.2 0 = bJ (lo v.toNat)) ∨ (¬ (0 ≤ v ∧ v < 64) ∧ y = iI 1 ∧ XS n L S r lo u.1)) (fun u t => va_P (dC, dI) vwCl (wXc ad ca u.1 ++ wO ou co u.2) t.heap) (inW (wX ad ca gL gB gD gN gS ((n : Int)) ((r : Int)) x ++ wO ou co fo))) 2 12 (inW (wX ad ca gL gB gD gN gS ((n : Int)) ((r : Int)) x ++ wO ou co fo)) := by
  refine va_MetW (cc := cL_lose) (maxL := 5) (ret := (some .int)) (by decide) rfl ?_
  intro p e s m args below meth c s₁ B hml hv
  obtain ⟨rfl, hP, hK, hD0, hE⟩ := hv
  have hx := B.exec
  have hb := B.bytes
  have hr := B.returns
  have hts := atoms_spec (ws := wsL_lose) B.pre
  have hown : s.vm.findClass RL = some m.cls := findClass_of_methodNamed B.named
  have hlocks := B.notSynchronized
  have hw := fun w h => hts w (List.mem_cons_of_mem _ h)
  have hD := wD_own hD0
  obtain ⟨A, hAe⟩ : ∃ A, A = inW (wX ad ca gL gB gD gN gS ((n : Int)) ((r : Int)) x ++ wO ou co fo) := ⟨_, rfl⟩
  rw [← hAe] at hD
  obtain ⟨H, hH⟩ : ∃ H, H = s.heap := ⟨_, rfl⟩
  obtain ⟨locs, hlc⟩ : ∃ L : List Loc, L = [] := ⟨_, rfl⟩
  have hS : va_S A s.heap H locs := by rw [hH, hlc]; exact va_S.rf
  rw [← hH] at hP ⊢
  rw [← hlc]
  have hl := lv_entry ([.ref (ad 0), .int (iI v), .int (iI f), .ref ou]) (n := 5) (Nat.le_of_ble_eq_true rfl)
  rw [lg_entry_eq]
  generalize (lg_sl ([.ref (ad 0), .int (iI v), .int (iI f), .ref ou]) ++ List.replicate (5 - (lg_sl ([.ref (ad 0), .int (iI v), .int (iI f), .ref ou])).length) Slot.unset).toArray = ls at hl ⊢
  have hl : lv_has ls 5 [(0, .ref (ad 0)), (1, .int (iI v)), (2, .int (iI f)), (3, .ref ou)] := hl
  have hTab : c.exceptionTable.toList = tableOf [(0, 17, 20, 13)] := vx_table (x := yL_lose) B (hts (.codeWith yL_lose cL_lose 5 (some .int) [(0, 17, 20, 13)]) List.mem_cons_self)
  refine lv_aload_n hx hb dL_lose_0 rfl (lv_at hl 3 rfl) ?_
  refine r_iconst hx hb dL_lose_1 ?_
  refine lv_aload_n hx hb dL_lose_2 rfl (lv_at hl 0 rfl) ?_
  refine lv_iload_n hx hb dL_lose_3 rfl (lv_at hl 1 rfl) ?_
  refine lv_iload_n hx hb dL_lose_4 rfl (lv_at hl 2 rfl) ?_
  have hPx := hP.sub (ws' := (wX ad ca gL gB gD gN gS ((n : Int)) ((r : Int)) x)) [0, 1, 2, 3, 4, 5] rfl
  have hDx := hD.sub (ws' := (wX ad ca gL gB gD gN gS ((n : Int)) ((r : Int)) x)) [0, 1, 2, 3, 4, 5] (by decide) rfl
  have hKx := hK.sub (tys' := yX ca) [0, 1, 2, 3, 4] rfl
  refine vw_i (vx_runV (As := [.int (iI v), .int (iI f)]) (rest := [.int (iI 0), .ref ou]) ⟨hx, hb, hml, hown, hts⟩ (m_lose l hl9 dC dI ad ca gL gB gD gN gS n r x L S lo hok hT v f hv hf) (cwV 2 hts (gV wlL_43 wo_X0_lose wz_X0_lose wi_1 wcX0_lose) rfl rfl rfl (by decide +kernel) ⟨Nat.le_of_ble_eq_true rfl, Nat.le_of_ble_eq_true rfl⟩) (PXe_V (q0 := 0) (ci := 0) hPx hKx hDx hE (fun a h1 h2 => hS.2.1 a h1 (by rw [hAe]; exact h2)) (fun q h => inW_left h) rfl rfl) rfl rfl hl.1 rfl (lv_room (Nat.le_of_ble_eq_true rfl)) dL_lose_5 ⟨Nat.le_of_ble_eq_true rfl, Nat.le_of_ble_eq_true rfl⟩) hS (by rw [hAe]; exact fun q h => inW_left h) (fun E ce q9 H1 locs hPE hS hkp hce hcv hcl => ?_) (fun r9 u9 H1 locs h8 hP1 hS hk9 => ?_)
  · have hP := hP.kept (fun k q hq => hkp q.1 (hP k q hq).lt)
    generalize H1 = H at hP hS hce ⊢
    obtain ⟨rfl, hx9⟩ := hPE
    refine vx_catch (own := RL) (name := eIA) (E := eIA) hown [] ⟨0, 17, 20, 13⟩ [] (by rw [hTab]; rfl) (fun z hz => nomatch hz) (by decide) (by decide) (hw _ wkL_13) (va_Nw.use rfl (hE.2.1 eIA (by simp))) hce hcv hcl ?_
    refine lv_astore hx hb dL_lose_20 hl (by decide) rfl (fun ls hl => ?_)
    have hl : lv_has ls 5 [(4, .ref q9), (0, .ref (ad 0)), (1, .int (iI v)), (2, .int (iI f)), (3, .ref ou)] := hl
    refine r_iconst hx hb dL_lose_22 ?_
    subst hAe
    refine W.widen (k := 2) (n := 12) (by decide) (by decide) ?_
    exact W.iret (v := iI 1) hx hb hr (fun t ht hW => ⟨⟨_, (((gL, gB, gD, gN, gS), (n : Int), (r : Int), x), fo), rfl, Or.inr ⟨by omega, rfl, ⟨hT, rfl, rfl⟩⟩, by subst ht; exact hP⟩, hS.F ht⟩) hS.2.2 dL_lose_23
  · obtain ⟨h1, rfl, h2⟩ := h8
    have h01 := b2_01 (lo v.toNat)
    have hTn : tX n L S r (lsU lo v.toNat (decide (f = 1))) gL gB gD gN gS u9 := ⟨hT.1, hT.2.1, h2⟩
    have hP := wjoin hP hD hk9 hP1
    generalize H1 = H at hP hS ⊢
    have hP : va_P (dC, dI) vwCl (wX ad ca gL gB gD gN gS ((n : Int)) ((r : Int)) u9 ++ wO ou co fo) H := hP
    have hD : va_D A (wX ad ca gL gB gD gN gS ((n : Int)) ((r : Int)) u9 ++ wO ou co fo) := wD_same hD rfl
    refine r_if_eq hx hb dL_lose_8 (tgt := 15) (by decide) (by omega) (fun hz => ?_) (fun hnz => ?_)
    · refine lv_lconst hx hb dL_lose_15 rfl ?_
      refine r_last hx hb hK hP hD hS 6 5 rfl rfl (by omega) (by omega) (by decide) dL_lose_16 (fun H locs hP hD hS => ?_)
      have hP : va_P (dC, dI) vwCl (wX ad ca gL gB gD gN gS ((n : Int)) ((r : Int)) u9 ++ wO ou co (vp_updL fo (0 : Int).toNat (Int64.ofNat 0))) H := hP
      have hD : va_D A (wX ad ca gL gB gD gN gS ((n : Int)) ((r : Int)) u9 ++ wO ou co (vp_updL fo (0 : Int).toNat (Int64.ofNat 0))) := hD
      refine lv_goto hx hb dL_lose_17 (tgt := 24) (by decide) ?_
      refine r_iconst hx hb dL_lose_24 ?_
      subst hAe
      refine W.widen (k := 2) (n := 12) (by decide) (by decide) ?_
      exact W.iret (v := iI 0) hx hb hr (fun t ht hW => ⟨⟨_, (((gL, gB, gD, gN, gS), (n : Int), (r : Int), u9), vp_updL fo (0 : Int).toNat (Int64.ofNat 0)), rfl, Or.inl ⟨h1, rfl, ⟨hTn, rfl, rfl⟩, by rw [b2_0 hz]; rfl⟩, by subst ht; exact hP⟩, hS.F ht⟩) hS.2.2 dL_lose_25
    · refine lv_lconst hx hb dL_lose_11 rfl ?_
      refine lv_goto hx hb dL_lose_12 (tgt := 16) (by decide) ?_
      refine r_last hx hb hK hP hD hS 6 5 rfl rfl (by omega) (by omega) (by decide) dL_lose_16 (fun H locs hP hD hS => ?_)
      have hP : va_P (dC, dI) vwCl (wX ad ca gL gB gD gN gS ((n : Int)) ((r : Int)) u9 ++ wO ou co (vp_updL fo (0 : Int).toNat (Int64.ofNat 1))) H := hP
      have hD : va_D A (wX ad ca gL gB gD gN gS ((n : Int)) ((r : Int)) u9 ++ wO ou co (vp_updL fo (0 : Int).toNat (Int64.ofNat 1))) := hD
      refine lv_goto hx hb dL_lose_17 (tgt := 24) (by decide) ?_
      refine r_iconst hx hb dL_lose_24 ?_
      subst hAe
      refine W.widen (k := 2) (n := 12) (by decide) (by decide) ?_
      exact W.iret (v := iI 0) hx hb hr (fun t ht hW => ⟨⟨_, (((gL, gB, gD, gN, gS), (n : Int), (r : Int), u9), vp_updL fo (0 : Int).toNat (Int64.ofNat 1)), rfl, Or.inl ⟨h1, rfl, ⟨hTn, rfl, rfl⟩, by rw [b2_1 hnz]; rfl⟩, by subst ht; exact hP⟩, hS.F ht⟩) hS.2.2 dL_lose_25
