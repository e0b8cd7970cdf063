/-! the law's cases: class and reference at one call -/
set_option maxHeartbeats 4000000 in
set_option maxRecDepth 100000 in
theorem k_chain {p : Program} {l : Launch} {e : Env} {s : State} {m : MethodId} {below : List Frame} {meth : Method} {c : Code} {b Lz : Nat} {xs : Nat → Int32} {Q : State → Prop} {dC : Nat → ClassId} {dI : Nat → Nat → Nat} {ad : Nat → Nat} {ca : Nat → ClassId} {ou : Nat} {co : ClassId} {bd : Nat → Nat} {cb : Nat → ClassId} (C : LC p l s m c b Lz xs dC dI ad ca ou co bd cb) {n r : Nat} {L S : Nat → Nat} {lo : Nat → Bool} {H : Heap} {locs : List Loc} {kc ks : Nat} {ls : Array Slot} {j : Int} (hI : LI dC dI ad ca ou co bd cb n r L S lo H) (hS : va_S (fun q => s.heap.size ≤ q) s.heap H locs) (hl : lv_has ls 8 [(4, .int (iI j)), (3, .ref ou), (2, .ref (bd 0)), (1, .ref (ad 0)), (0, .ref b)]) (hj0 : 0 ≤ j) (hj : j + 2 < (Lz : Int)) (hc0 : kc + 2 ≤ 1049) (hs0 : ks + 12 ≤ 10515) (kk : ∀ (n r : Nat) (L S : Nat → Nat) (lo : Nat → Bool) (H : Heap) (locs : List Loc) (ls : Array Slot), LI dC dI ad ca ou co bd cb n r L S lo H → va_S (fun q => s.heap.size ≤ q) s.heap H locs → lv_has ls 8 [(4, .int (iI j)), (3, .ref ou), (2, .ref (bd 0)), (1, .ref (ad 0)), (0, .ref b)] → W p l e room_1 s m #[Value.ref b] below meth c H locs (kc + 2) (ks + 12) Q (F0 m 880 ls [])) : W p l e room_1 s m #[Value.ref b] below meth c H locs kc ks Q (F0 m 244 ls []) := by
  obtain ⟨hx, hb, hml, hown, hts, hX, hbl, hL9, hK, hE, hDz, hl9⟩ := C
  obtain ⟨gL, gB, gD, gN, gS, x, fo, er, gl, gz, go, gw, hok, hT, hM, hP⟩ := hI
  have hD := wD_same hDz (w' := (wX ad ca gL gB gD gN gS (n : Int) (r : Int) x ++ wO ou co fo) ++ wM bd cb er gl gz go gw (n : Int) ((r : Int) + 1)) rfl
  obtain ⟨p1, hp1, ep1⟩ := iI_of (xs (j + 1).toNat)
  obtain ⟨p2, hp2, ep2⟩ := iI_of (xs (j + 2).toNat)
  have hK9 := hK
  refine lv_aload_n hx hb dL_law_244 rfl (lv_at hl 3 rfl) ?_
  refine lv_aload_n hx hb dL_law_245 rfl (lv_at hl 4 rfl) ?_
  refine lv_iload hx hb dL_law_246 (lv_at hl 0 rfl) ?_
  refine r_iconst hx hb dL_law_248 ?_
  refine r_iadd hx hb dL_law_249 ?_
  refine r_sld hx hb hX hbl (Nat.not_le.mpr hbl) hS (by omega) (by omega) hL9 ep1 dL_law_250 ?_
  refine lv_aload_n hx hb dL_law_251 rfl (lv_at hl 4 rfl) ?_
  refine lv_iload hx hb dL_law_252 (lv_at hl 0 rfl) ?_
  refine r_iconst hx hb dL_law_254 ?_
  refine r_iadd hx hb dL_law_255 ?_
  refine r_sld hx hb hX hbl (Nat.not_le.mpr hbl) hS (by omega) (by omega) hL9 ep2 dL_law_256 ?_
  refine lv_aload_n hx hb dL_law_257 rfl (lv_at hl 1 rfl) ?_
  have hPx := hP.sub (ws' := (wX ad ca gL gB gD gN gS (n : Int) (r : Int) x ++ wO ou co fo)) [0, 1, 2, 3, 4, 5, 6] rfl
  have hDx := hD.sub (ws' := (wX ad ca gL gB gD gN gS (n : Int) (r : Int) x ++ wO ou co fo)) [0, 1, 2, 3, 4, 5, 6] (by decide) rfl
  have hKx := hK.sub (tys' := yXo ca co) [0, 1, 2, 3, 4, 5] rfl
  refine wc_i (vx_runSW (As := [.ref (ad 0), .int (iI p1), .int (iI p2), .ref ou]) (rest := []) ⟨hx, hb, hml, hown, hts⟩ (w_chain l hl9 dC dI ad ca gL gB gD gN gS n r x L S lo hok hT ou co fo p1 p2 hp1 hp2) (vx_cwSW 4 hts (gSt wlL_81 wt_L_chain wi_0 wcL_chain) rfl rfl rfl (by decide +kernel) ⟨Nat.le_of_ble_eq_true rfl, Nat.le_of_ble_eq_true rfl⟩) (PXe_S hPx hKx hDx hE hS.2.1 (wD_in hDx)) rfl rfl hl.1 rfl (lv_room (Nat.le_of_ble_eq_true rfl)) dL_law_258 ⟨hc0, hs0⟩) hS (wD_in hDx) (fun r9 u9 H1 locs h8 hP1 hS hk9 => ?_)
  have hP := wjoin hP hD hk9 hP1
  generalize H1 = H at hP hS ⊢
  obtain ⟨⟨⟨xL, xB, xD, xN, xS⟩, xn, xr, xx⟩, fo9⟩ := u9
  have hP : va_P (dC, dI) vwCl ((wX ad ca xL xB xD xN xS xn xr xx ++ wO ou co fo9) ++ wM bd cb er gl gz go gw (n : Int) ((r : Int) + 1)) H := hP
  have hD := wD_same hDz (w' := (wX ad ca xL xB xD xN xS xn xr xx ++ wO ou co fo9) ++ wM bd cb er gl gz go gw (n : Int) ((r : Int) + 1)) rfl
  refine lv_istore hx hb dL_law_261 hl (by decide) rfl (fun ls hl => ?_)
  have hl : lv_has ls 8 [(5, .int r9), (4, .int (iI j)), (3, .ref ou), (2, .ref (bd 0)), (1, .ref (ad 0)), (0, .ref b)] := hl
  refine lv_aload_n hx hb dL_law_263 rfl (lv_at hl 3 rfl) ?_
  refine lv_aload_n hx hb dL_law_264 rfl (lv_at hl 5 rfl) ?_
  refine lv_iload hx hb dL_law_265 (lv_at hl 1 rfl) ?_
  refine r_iconst hx hb dL_law_267 ?_
  refine r_iadd hx hb dL_law_268 ?_
  refine r_sld hx hb hX hbl (Nat.not_le.mpr hbl) hS (by omega) (by omega) hL9 ep1 dL_law_269 ?_
  refine lv_aload_n hx hb dL_law_270 rfl (lv_at hl 5 rfl) ?_
  refine lv_iload hx hb dL_law_271 (lv_at hl 1 rfl) ?_
  refine r_iconst hx hb dL_law_273 ?_
  refine r_iadd hx hb dL_law_274 ?_
  refine r_sld hx hb hX hbl (Nat.not_le.mpr hbl) hS (by omega) (by omega) hL9 ep2 dL_law_275 ?_
  have hPm := hP.sub (ws' := wM bd cb er gl gz go gw (n : Int) ((r : Int) + 1) ++ (wX ad ca xL xB xD xN xS xn xr xx ++ wO ou co fo9)) [7, 8, 9, 10, 11, 0, 1, 2, 3, 4, 5, 6] rfl
  have hDm := hD.sub (ws' := wM bd cb er gl gz go gw (n : Int) ((r : Int) + 1) ++ (wX ad ca xL xB xD xN xS xn xr xx ++ wO ou co fo9)) [7, 8, 9, 10, 11, 0, 1, 2, 3, 4, 5, 6] (by decide) rfl
  have hPc := hPm.sub (ws' := wM bd cb er gl gz go gw (n : Int) ((r : Int) + 1)) [0, 1, 2, 3, 4] rfl
  have hDc := hDm.sub (ws' := wM bd cb er gl gz go gw (n : Int) ((r : Int) + 1)) [0, 1, 2, 3, 4] (by decide) rfl
  have hKc := hK.sub (tys' := yM cb) [6, 7, 8, 9] rfl
  refine wc_i (va_runV (As := [.int (iI p1), .int (iI p2)]) (rest := []) ⟨hx, hb, hml, hown, hts⟩ (n_chain l dC dI bd cb er gl gz go gw n r L S lo hok hM p1 p2 hp1 hp2) (cwV 2 hts (gV wlL_83 wo_X1_chain wz_X1_chain wi_2 wcX1_chain) rfl rfl rfl (by decide +kernel) ⟨Nat.le_of_ble_eq_true rfl, Nat.le_of_ble_eq_true rfl⟩) (PX_V (q0 := 0) (ci := 1) hPc hKc hDc rfl rfl) rfl rfl hl.1 rfl (lv_room (Nat.le_of_ble_eq_true rfl)) dL_law_276 ⟨by show kc + 2 + 0 ≤ 1049; omega, by show ks + 12 + 0 ≤ 10515; omega⟩) hS (wD_in hDc) (fun r8 u8 H1 locs h7 hP1 hS hk9 => ?_)
  have hP := wjoin hPm hDm hk9 hP1
  generalize H1 = H at hP hS ⊢
  obtain ⟨er8, yl, yz, yo, yw, yn, yv⟩ := u8
  have hP : va_P (dC, dI) vwCl (wM bd cb er8 yl yz yo yw yn yv ++ (wX ad ca xL xB xD xN xS xn xr xx ++ wO ou co fo9)) H := hP
  have hD := hDz.sub (ws' := wM bd cb 0 (fun _ => 0) (fun _ => 0) (fun _ => 0) (fun _ => 0) 0 0 ++ (wX ad ca (fun _ => 0) (fun _ => 0) (fun _ => 0) (fun _ => 0) (fun _ => 0) 0 0 0 ++ wO ou co (fun _ => 0))) [7, 8, 9, 10, 11, 0, 1, 2, 3, 4, 5, 6] (by decide) rfl
  have hD := wD_same hD (w' := wM bd cb er8 yl yz yo yw yn yv ++ (wX ad ca xL xB xD xN xS xn xr xx ++ wO ou co fo9)) rfl
  refine lv_istore hx hb dL_law_279 hl (by decide) rfl (fun ls hl => ?_)
  have hl : lv_has ls 8 [(6, .int r8), (5, .int r9), (4, .int (iI j)), (3, .ref ou), (2, .ref (bd 0)), (1, .ref (ad 0)), (0, .ref b)] := hl
  simp only [XS, MS] at h8 h7
  obtain ⟨⟨hT9, hn9, hr9⟩, h8⟩ := h8
  subst hn9 hr9
  obtain ⟨⟨hM9, hn8, hv8⟩, h7⟩ := h7
  subst hn8 hv8
  rcases h8 with ⟨hc1, hc2, rfl, hv⟩ | ⟨hc1, rfl⟩ | ⟨hc1, hc2, rfl⟩
  · rcases h7 with ⟨hd1, hd2, rfl, rfl⟩ | ⟨hd1, rfl⟩ | ⟨hd1, hd2, rfl⟩
    · dsimp only at *
      try subst_vars
      have hP : va_P (dC, dI) vwCl (wM bd cb 0 yl yz yo yw (n : Int) ((r : Int) + 1) ++ (wX ad ca xL xB xD xN xS (n : Int) (r : Int) xx ++ wO ou co fo9)) H := hP
      have hl : lv_has ls 8 [(6, .int (iI ((ch L (p1.toNat + 1) p2.toNat : Int) - 1))), (5, .int (iI 0)), (4, .int (iI j)), (3, .ref ou), (2, .ref (bd 0)), (1, .ref (ad 0)), (0, .ref b)] := hl
      refine lv_aload_n hx hb dL_law_281 rfl (lv_at hl 4 rfl) ?_
      have hPt := hP.sub (ws' := wM bd cb 0 yl yz yo yw (n : Int) ((r : Int) + 1)) [0, 1, 2, 3, 4] rfl
      have hDt := (wD_same hD (w' := wM bd cb 0 yl yz yo yw (n : Int) ((r : Int) + 1) ++ (wX ad ca xL xB xD xN xS (n : Int) (r : Int) xx ++ wO ou co fo9)) rfl).sub (ws' := wM bd cb 0 yl yz yo yw (n : Int) ((r : Int) + 1)) [0, 1, 2, 3, 4] (by decide) rfl
      refine ro_z (z := 0) (va_runV (As := []) (rest := []) ⟨hx, hb, hml, hown, hts⟩ (n_thrown l dC dI bd cb 0 yl yz yo yw ((n : Int)) (((r : Int) + 1))) (cwV 0 hts (gV wlL_70 wo_X1_thrown wz_X1_thrown wi_2 wcX1_thrown) rfl rfl rfl (by decide +kernel) ⟨Nat.le_of_ble_eq_true rfl, Nat.le_of_ble_eq_true rfl⟩) (PX_V (q0 := 0) (ci := 1) hPt hKc hDt rfl rfl) rfl rfl hl.1 rfl (lv_room (Nat.le_of_ble_eq_true rfl)) dL_law_282 ⟨by show kc + 2 + 0 + 0 ≤ 1049; omega, by show ks + 12 + 0 + 0 ≤ 10515; omega⟩) hS hP (fun H locs hP hS => ?_)
      refine lv_iload hx hb dL_law_285 (lv_at hl 1 rfl) ?_
      refine r_icmp_eq hx hb dL_law_287 (tgt := 292) (by decide) (by omega) (by omega) (fun he => ?_) (fun hne => ?_)
      · refine lv_iload hx hb dL_law_292 (lv_at hl 1 rfl) ?_
        refine r_if_ne hx hb dL_law_294 (tgt := 309) (by decide) (by omega) (fun hz => ?_) (fun hz => ?_)
        · exact absurd rfl hz
        · refine lv_aload_n hx hb dL_law_297 rfl (lv_at hl 3 rfl) ?_
          refine r_iconst hx hb dL_law_298 ?_
          refine r_lald hx hb hK9 hP 11 5 rfl rfl (by omega) (by omega) (by decide) dL_law_299 ?_
          refine r_top (w := .long ((iI ((ch L (p1.toNat + 1) p2.toNat : Int) - 1)).toInt64)) (congrArg Value.long (hv)) ?_
          refine lv_iload hx hb dL_law_300 (lv_at hl 0 rfl) ?_
          refine lv_i2l hx hb dL_law_302 rfl ?_
          refine r_lcmp_eq hx hb dL_law_303 dL_law_304 (tgt := 309) (by decide) (fun hq => ?_) (fun hq => ?_)
          · refine lv_goto hx hb dL_law_309 (tgt := 880) (by decide) ?_
            have hl := lv_sub (l' := [(4, .int (iI j)), (3, .ref ou), (2, .ref (bd 0)), (1, .ref (ad 0)), (0, .ref b)]) hl [2, 3, 4, 5, 6] rfl
            have hPe := hP.sub (ws' := (wX ad ca xL xB xD xN xS (n : Int) (r : Int) xx ++ wO ou co fo9) ++ wM bd cb 0 yl yz yo yw (n : Int) ((r : Int) + 1)) [5, 6, 7, 8, 9, 10, 11, 0, 1, 2, 3, 4] rfl
            exact kk n r L S lo H locs ls ⟨xL, xB, xD, xN, xS, xx, fo9, 0, yl, yz, yo, yw, hok, hT9, hM9, hPe⟩ hS hl
          · exact absurd (rfl) hq
      · exact absurd rfl hne
    · exact (by omega : False).elim
    · exact (by omega : False).elim
  · rcases h7 with ⟨hd1, hd2, rfl, rfl⟩ | ⟨hd1, rfl⟩ | ⟨hd1, hd2, rfl⟩
    · exact (by omega : False).elim
    · dsimp only at *
      try subst_vars
      have hP : va_P (dC, dI) vwCl (wM bd cb 1 yl yz yo yw (n : Int) ((r : Int) + 1) ++ (wX ad ca xL xB xD xN xS (n : Int) (r : Int) xx ++ wO ou co fo9)) H := hP
      have hl : lv_has ls 8 [(6, .int r8), (5, .int (iI 1)), (4, .int (iI j)), (3, .ref ou), (2, .ref (bd 0)), (1, .ref (ad 0)), (0, .ref b)] := hl
      refine lv_aload_n hx hb dL_law_281 rfl (lv_at hl 4 rfl) ?_
      have hPt := hP.sub (ws' := wM bd cb 1 yl yz yo yw (n : Int) ((r : Int) + 1)) [0, 1, 2, 3, 4] rfl
      have hDt := (wD_same hD (w' := wM bd cb 1 yl yz yo yw (n : Int) ((r : Int) + 1) ++ (wX ad ca xL xB xD xN xS (n : Int) (r : Int) xx ++ wO ou co fo9)) rfl).sub (ws' := wM bd cb 1 yl yz yo yw (n : Int) ((r : Int) + 1)) [0, 1, 2, 3, 4] (by decide) rfl
      refine ro_z (z := 1) (va_runV (As := []) (rest := []) ⟨hx, hb, hml, hown, hts⟩ (n_thrown l dC dI bd cb 1 yl yz yo yw ((n : Int)) (((r : Int) + 1))) (cwV 0 hts (gV wlL_70 wo_X1_thrown wz_X1_thrown wi_2 wcX1_thrown) rfl rfl rfl (by decide +kernel) ⟨Nat.le_of_ble_eq_true rfl, Nat.le_of_ble_eq_true rfl⟩) (PX_V (q0 := 0) (ci := 1) hPt hKc hDt rfl rfl) rfl rfl hl.1 rfl (lv_room (Nat.le_of_ble_eq_true rfl)) dL_law_282 ⟨by show kc + 2 + 0 + 0 ≤ 1049; omega, by show ks + 12 + 0 + 0 ≤ 10515; omega⟩) hS hP (fun H locs hP hS => ?_)
      refine lv_iload hx hb dL_law_285 (lv_at hl 1 rfl) ?_
      refine r_icmp_eq hx hb dL_law_287 (tgt := 292) (by decide) (by omega) (by omega) (fun he => ?_) (fun hne => ?_)
      · refine lv_iload hx hb dL_law_292 (lv_at hl 1 rfl) ?_
        refine r_if_ne hx hb dL_law_294 (tgt := 309) (by decide) (by omega) (fun hz => ?_) (fun hz => ?_)
        · refine lv_goto hx hb dL_law_309 (tgt := 880) (by decide) ?_
          have hl := lv_sub (l' := [(4, .int (iI j)), (3, .ref ou), (2, .ref (bd 0)), (1, .ref (ad 0)), (0, .ref b)]) hl [2, 3, 4, 5, 6] rfl
          have hPe := hP.sub (ws' := (wX ad ca xL xB xD xN xS (n : Int) (r : Int) xx ++ wO ou co fo9) ++ wM bd cb 1 yl yz yo yw (n : Int) ((r : Int) + 1)) [5, 6, 7, 8, 9, 10, 11, 0, 1, 2, 3, 4] rfl
          exact kk n r L S lo H locs ls ⟨xL, xB, xD, xN, xS, xx, fo9, 1, yl, yz, yo, yw, hok, hT9, hM9, hPe⟩ hS hl
        · exact absurd hz (by decide)
      · exact absurd rfl hne
    · exact (by omega : False).elim
  · rcases h7 with ⟨hd1, hd2, rfl, rfl⟩ | ⟨hd1, rfl⟩ | ⟨hd1, hd2, rfl⟩
    · exact (by omega : False).elim
    · exact (by omega : False).elim
    · dsimp only at *
      try subst_vars
      have hP : va_P (dC, dI) vwCl (wM bd cb 2 yl yz yo yw (n : Int) ((r : Int) + 1) ++ (wX ad ca xL xB xD xN xS (n : Int) (r : Int) xx ++ wO ou co fo9)) H := hP
      have hl : lv_has ls 8 [(6, .int r8), (5, .int (iI 2)), (4, .int (iI j)), (3, .ref ou), (2, .ref (bd 0)), (1, .ref (ad 0)), (0, .ref b)] := hl
      refine lv_aload_n hx hb dL_law_281 rfl (lv_at hl 4 rfl) ?_
      have hPt := hP.sub (ws' := wM bd cb 2 yl yz yo yw (n : Int) ((r : Int) + 1)) [0, 1, 2, 3, 4] rfl
      have hDt := (wD_same hD (w' := wM bd cb 2 yl yz yo yw (n : Int) ((r : Int) + 1) ++ (wX ad ca xL xB xD xN xS (n : Int) (r : Int) xx ++ wO ou co fo9)) rfl).sub (ws' := wM bd cb 2 yl yz yo yw (n : Int) ((r : Int) + 1)) [0, 1, 2, 3, 4] (by decide) rfl
      refine ro_z (z := 2) (va_runV (As := []) (rest := []) ⟨hx, hb, hml, hown, hts⟩ (n_thrown l dC dI bd cb 2 yl yz yo yw ((n : Int)) (((r : Int) + 1))) (cwV 0 hts (gV wlL_70 wo_X1_thrown wz_X1_thrown wi_2 wcX1_thrown) rfl rfl rfl (by decide +kernel) ⟨Nat.le_of_ble_eq_true rfl, Nat.le_of_ble_eq_true rfl⟩) (PX_V (q0 := 0) (ci := 1) hPt hKc hDt rfl rfl) rfl rfl hl.1 rfl (lv_room (Nat.le_of_ble_eq_true rfl)) dL_law_282 ⟨by show kc + 2 + 0 + 0 ≤ 1049; omega, by show ks + 12 + 0 + 0 ≤ 10515; omega⟩) hS hP (fun H locs hP hS => ?_)
      refine lv_iload hx hb dL_law_285 (lv_at hl 1 rfl) ?_
      refine r_icmp_eq hx hb dL_law_287 (tgt := 292) (by decide) (by omega) (by omega) (fun he => ?_) (fun hne => ?_)
      · refine lv_iload hx hb dL_law_292 (lv_at hl 1 rfl) ?_
        refine r_if_ne hx hb dL_law_294 (tgt := 309) (by decide) (by omega) (fun hz => ?_) (fun hz => ?_)
        · refine lv_goto hx hb dL_law_309 (tgt := 880) (by decide) ?_
          have hl := lv_sub (l' := [(4, .int (iI j)), (3, .ref ou), (2, .ref (bd 0)), (1, .ref (ad 0)), (0, .ref b)]) hl [2, 3, 4, 5, 6] rfl
          have hPe := hP.sub (ws' := (wX ad ca xL xB xD xN xS (n : Int) (r : Int) xx ++ wO ou co fo9) ++ wM bd cb 2 yl yz yo yw (n : Int) ((r : Int) + 1)) [5, 6, 7, 8, 9, 10, 11, 0, 1, 2, 3, 4] rfl
          exact kk n r L S lo H locs ls ⟨xL, xB, xD, xN, xS, xx, fo9, 2, yl, yz, yo, yw, hok, hT9, hM9, hPe⟩ hS hl
        · exact absurd hz (by decide)
      · exact absurd rfl hne
set_option maxHeartbeats 4000000 in
set_option maxRecDepth 100000 in
theorem k_depth {p : Program} {l : Launch} {e : Env} {s : State} {m : MethodId} {below : List Frame} {meth : Method} {c : Code} {b Lz : Nat} {xs : Nat → Int32} {Q : State → Prop} {dC : Nat → ClassId} {dI : Nat → Nat → Nat} {ad : Nat → Nat} {ca : Nat → ClassId} {ou : Nat} {co : ClassId} {bd : Nat → Nat} {cb : Nat → ClassId} (C : LC p l s m c b Lz xs dC dI ad ca ou co bd cb) {n r : Nat} {L S : Nat → Nat} {lo : Nat → Bool} {H : Heap} {locs : List Loc} {kc ks : Nat} {ls : Array Slot} {j : Int} (hI : LI dC dI ad ca ou co bd cb n r L S lo H) (hS : va_S (fun q => s.heap.size ≤ q) s.heap H locs) (hl : lv_has ls 8 [(4, .int (iI j)), (3, .ref ou), (2, .ref (bd 0)), (1, .ref (ad 0)), (0, .ref b)]) (hj0 : 0 ≤ j) (hj : j + 2 < (Lz : Int)) (hc0 : kc + 2 ≤ 1049) (hs0 : ks + 12 ≤ 10515) (kk : ∀ (n r : Nat) (L S : Nat → Nat) (lo : Nat → Bool) (H : Heap) (locs : List Loc) (ls : Array Slot), LI dC dI ad ca ou co bd cb n r L S lo H → va_S (fun q => s.heap.size ≤ q) s.heap H locs → lv_has ls 8 [(4, .int (iI j)), (3, .ref ou), (2, .ref (bd 0)), (1, .ref (ad 0)), (0, .ref b)] → W p l e room_1 s m #[Value.ref b] below meth c H locs (kc + 2) (ks + 12) Q (F0 m 880 ls [])) : W p l e room_1 s m #[Value.ref b] below meth c H locs kc ks Q (F0 m 312 ls []) := by
  obtain ⟨hx, hb, hml, hown, hts, hX, hbl, hL9, hK, hE, hDz, hl9⟩ := C
  obtain ⟨gL, gB, gD, gN, gS, x, fo, er, gl, gz, go, gw, hok, hT, hM, hP⟩ := hI
  have hD := wD_same hDz (w' := (wX ad ca gL gB gD gN gS (n : Int) (r : Int) x ++ wO ou co fo) ++ wM bd cb er gl gz go gw (n : Int) ((r : Int) + 1)) rfl
  obtain ⟨p1, hp1, ep1⟩ := iI_of (xs (j + 1).toNat)
  obtain ⟨p2, hp2, ep2⟩ := iI_of (xs (j + 2).toNat)
  have hK9 := hK
  refine lv_aload_n hx hb dL_law_312 rfl (lv_at hl 3 rfl) ?_
  refine lv_aload_n hx hb dL_law_313 rfl (lv_at hl 4 rfl) ?_
  refine lv_iload hx hb dL_law_314 (lv_at hl 0 rfl) ?_
  refine r_iconst hx hb dL_law_316 ?_
  refine r_iadd hx hb dL_law_317 ?_
  refine r_sld hx hb hX hbl (Nat.not_le.mpr hbl) hS (by omega) (by omega) hL9 ep1 dL_law_318 ?_
  refine lv_aload_n hx hb dL_law_319 rfl (lv_at hl 1 rfl) ?_
  have hPx := hP.sub (ws' := (wX ad ca gL gB gD gN gS (n : Int) (r : Int) x ++ wO ou co fo)) [0, 1, 2, 3, 4, 5, 6] rfl
  have hDx := hD.sub (ws' := (wX ad ca gL gB gD gN gS (n : Int) (r : Int) x ++ wO ou co fo)) [0, 1, 2, 3, 4, 5, 6] (by decide) rfl
  have hKx := hK.sub (tys' := yXo ca co) [0, 1, 2, 3, 4, 5] rfl
  refine wc_i (vx_runSW (As := [.ref (ad 0), .int (iI p1), .ref ou]) (rest := []) ⟨hx, hb, hml, hown, hts⟩ (w_depth l hl9 dC dI ad ca gL gB gD gN gS n r x L S lo hok hT ou co fo p1 hp1) (vx_cwSW 3 hts (gSt wlL_84 wt_L_depth wi_0 wcL_depth) rfl rfl rfl (by decide +kernel) ⟨Nat.le_of_ble_eq_true rfl, Nat.le_of_ble_eq_true rfl⟩) (PXe_S hPx hKx hDx hE hS.2.1 (wD_in hDx)) rfl rfl hl.1 rfl (lv_room (Nat.le_of_ble_eq_true rfl)) dL_law_320 ⟨hc0, hs0⟩) hS (wD_in hDx) (fun r9 u9 H1 locs h8 hP1 hS hk9 => ?_)
  have hP := wjoin hP hD hk9 hP1
  generalize H1 = H at hP hS ⊢
  obtain ⟨⟨⟨xL, xB, xD, xN, xS⟩, xn, xr, xx⟩, fo9⟩ := u9
  have hP : va_P (dC, dI) vwCl ((wX ad ca xL xB xD xN xS xn xr xx ++ wO ou co fo9) ++ wM bd cb er gl gz go gw (n : Int) ((r : Int) + 1)) H := hP
  have hD := wD_same hDz (w' := (wX ad ca xL xB xD xN xS xn xr xx ++ wO ou co fo9) ++ wM bd cb er gl gz go gw (n : Int) ((r : Int) + 1)) rfl
  refine lv_istore hx hb dL_law_323 hl (by decide) rfl (fun ls hl => ?_)
  have hl : lv_has ls 8 [(5, .int r9), (4, .int (iI j)), (3, .ref ou), (2, .ref (bd 0)), (1, .ref (ad 0)), (0, .ref b)] := hl
  refine lv_aload_n hx hb dL_law_325 rfl (lv_at hl 3 rfl) ?_
  refine lv_aload_n hx hb dL_law_326 rfl (lv_at hl 5 rfl) ?_
  refine lv_iload hx hb dL_law_327 (lv_at hl 1 rfl) ?_
  refine r_iconst hx hb dL_law_329 ?_
  refine r_iadd hx hb dL_law_330 ?_
  refine r_sld hx hb hX hbl (Nat.not_le.mpr hbl) hS (by omega) (by omega) hL9 ep1 dL_law_331 ?_
  have hPm := hP.sub (ws' := wM bd cb er gl gz go gw (n : Int) ((r : Int) + 1) ++ (wX ad ca xL xB xD xN xS xn xr xx ++ wO ou co fo9)) [7, 8, 9, 10, 11, 0, 1, 2, 3, 4, 5, 6] rfl
  have hDm := hD.sub (ws' := wM bd cb er gl gz go gw (n : Int) ((r : Int) + 1) ++ (wX ad ca xL xB xD xN xS xn xr xx ++ wO ou co fo9)) [7, 8, 9, 10, 11, 0, 1, 2, 3, 4, 5, 6] (by decide) rfl
  have hPc := hPm.sub (ws' := wM bd cb er gl gz go gw (n : Int) ((r : Int) + 1)) [0, 1, 2, 3, 4] rfl
  have hDc := hDm.sub (ws' := wM bd cb er gl gz go gw (n : Int) ((r : Int) + 1)) [0, 1, 2, 3, 4] (by decide) rfl
  have hKc := hK.sub (tys' := yM cb) [6, 7, 8, 9] rfl
  refine wc_i (va_runV (As := [.int (iI p1)]) (rest := []) ⟨hx, hb, hml, hown, hts⟩ (n_depth l dC dI bd cb er gl gz go gw n r L S lo hok hM p1 hp1) (cwV 1 hts (gV wlL_87 wo_X1_depth wz_X1_depth wi_2 wcX1_depth) rfl rfl rfl (by decide +kernel) ⟨Nat.le_of_ble_eq_true rfl, Nat.le_of_ble_eq_true rfl⟩) (PX_V (q0 := 0) (ci := 1) hPc hKc hDc rfl rfl) rfl rfl hl.1 rfl (lv_room (Nat.le_of_ble_eq_true rfl)) dL_law_332 ⟨by show kc + 2 + 0 ≤ 1049; omega, by show ks + 12 + 0 ≤ 10515; omega⟩) hS (wD_in hDc) (fun r8 u8 H1 locs h7 hP1 hS hk9 => ?_)
  have hP := wjoin hPm hDm hk9 hP1
  generalize H1 = H at hP hS ⊢
  obtain ⟨er8, yl, yz, yo, yw, yn, yv⟩ := u8
  have hP : va_P (dC, dI) vwCl (wM bd cb er8 yl yz yo yw yn yv ++ (wX ad ca xL xB xD xN xS xn xr xx ++ wO ou co fo9)) H := hP
  have hD := hDz.sub (ws' := wM bd cb 0 (fun _ => 0) (fun _ => 0) (fun _ => 0) (fun _ => 0) 0 0 ++ (wX ad ca (fun _ => 0) (fun _ => 0) (fun _ => 0) (fun _ => 0) (fun _ => 0) 0 0 0 ++ wO ou co (fun _ => 0))) [7, 8, 9, 10, 11, 0, 1, 2, 3, 4, 5, 6] (by decide) rfl
  have hD := wD_same hD (w' := wM bd cb er8 yl yz yo yw yn yv ++ (wX ad ca xL xB xD xN xS xn xr xx ++ wO ou co fo9)) rfl
  refine lv_istore hx hb dL_law_335 hl (by decide) rfl (fun ls hl => ?_)
  have hl : lv_has ls 8 [(6, .int r8), (5, .int r9), (4, .int (iI j)), (3, .ref ou), (2, .ref (bd 0)), (1, .ref (ad 0)), (0, .ref b)] := hl
  simp only [XS, MS] at h8 h7
  obtain ⟨⟨hT9, hn9, hr9⟩, h8⟩ := h8
  subst hn9 hr9
  obtain ⟨⟨hM9, hn8, hv8⟩, h7⟩ := h7
  subst hn8 hv8
  rcases h8 with ⟨hc1, rfl, hv⟩ | ⟨hc1, rfl⟩
  · rcases h7 with ⟨hd1, rfl, rfl⟩ | ⟨hd1, rfl⟩
    · dsimp only at *
      try subst_vars
      have hP : va_P (dC, dI) vwCl (wM bd cb 0 yl yz yo yw (n : Int) ((r : Int) + 1) ++ (wX ad ca xL xB xD xN xS (n : Int) (r : Int) xx ++ wO ou co fo9)) H := hP
      have hl : lv_has ls 8 [(6, .int (iI ((dp L (p1.toNat + 1) : Int)))), (5, .int (iI 0)), (4, .int (iI j)), (3, .ref ou), (2, .ref (bd 0)), (1, .ref (ad 0)), (0, .ref b)] := hl
      refine lv_aload_n hx hb dL_law_337 rfl (lv_at hl 4 rfl) ?_
      have hPt := hP.sub (ws' := wM bd cb 0 yl yz yo yw (n : Int) ((r : Int) + 1)) [0, 1, 2, 3, 4] rfl
      have hDt := (wD_same hD (w' := wM bd cb 0 yl yz yo yw (n : Int) ((r : Int) + 1) ++ (wX ad ca xL xB xD xN xS (n : Int) (r : Int) xx ++ wO ou co fo9)) rfl).sub (ws' := wM bd cb 0 yl yz yo yw (n : Int) ((r : Int) + 1)) [0, 1, 2, 3, 4] (by decide) rfl
      refine ro_z (z := 0) (va_runV (As := []) (rest := []) ⟨hx, hb, hml, hown, hts⟩ (n_thrown l dC dI bd cb 0 yl yz yo yw ((n : Int)) (((r : Int) + 1))) (cwV 0 hts (gV wlL_70 wo_X1_thrown wz_X1_thrown wi_2 wcX1_thrown) rfl rfl rfl (by decide +kernel) ⟨Nat.le_of_ble_eq_true rfl, Nat.le_of_ble_eq_true rfl⟩) (PX_V (q0 := 0) (ci := 1) hPt hKc hDt rfl rfl) rfl rfl hl.1 rfl (lv_room (Nat.le_of_ble_eq_true rfl)) dL_law_338 ⟨by show kc + 2 + 0 + 0 ≤ 1049; omega, by show ks + 12 + 0 + 0 ≤ 10515; omega⟩) hS hP (fun H locs hP hS => ?_)
      refine lv_iload hx hb dL_law_341 (lv_at hl 1 rfl) ?_
      refine r_icmp_eq hx hb dL_law_343 (tgt := 348) (by decide) (by omega) (by omega) (fun he => ?_) (fun hne => ?_)
      · refine lv_iload hx hb dL_law_348 (lv_at hl 1 rfl) ?_
        refine r_if_ne hx hb dL_law_350 (tgt := 365) (by decide) (by omega) (fun hz => ?_) (fun hz => ?_)
        · exact absurd rfl hz
        · refine lv_aload_n hx hb dL_law_353 rfl (lv_at hl 3 rfl) ?_
          refine r_iconst hx hb dL_law_354 ?_
          refine r_lald hx hb hK9 hP 11 5 rfl rfl (by omega) (by omega) (by decide) dL_law_355 ?_
          refine r_top (w := .long ((iI ((dp L (p1.toNat + 1) : Int))).toInt64)) (congrArg Value.long (hv)) ?_
          refine lv_iload hx hb dL_law_356 (lv_at hl 0 rfl) ?_
          refine lv_i2l hx hb dL_law_358 rfl ?_
          refine r_lcmp_eq hx hb dL_law_359 dL_law_360 (tgt := 365) (by decide) (fun hq => ?_) (fun hq => ?_)
          · refine lv_goto hx hb dL_law_365 (tgt := 880) (by decide) ?_
            have hl := lv_sub (l' := [(4, .int (iI j)), (3, .ref ou), (2, .ref (bd 0)), (1, .ref (ad 0)), (0, .ref b)]) hl [2, 3, 4, 5, 6] rfl
            have hPe := hP.sub (ws' := (wX ad ca xL xB xD xN xS (n : Int) (r : Int) xx ++ wO ou co fo9) ++ wM bd cb 0 yl yz yo yw (n : Int) ((r : Int) + 1)) [5, 6, 7, 8, 9, 10, 11, 0, 1, 2, 3, 4] rfl
            exact kk n r L S lo H locs ls ⟨xL, xB, xD, xN, xS, xx, fo9, 0, yl, yz, yo, yw, hok, hT9, hM9, hPe⟩ hS hl
          · exact absurd (rfl) hq
      · exact absurd rfl hne
    · exact (by omega : False).elim
  · rcases h7 with ⟨hd1, rfl, rfl⟩ | ⟨hd1, rfl⟩
    · exact (by omega : False).elim
    · dsimp only at *
      try subst_vars
      have hP : va_P (dC, dI) vwCl (wM bd cb 1 yl yz yo yw (n : Int) ((r : Int) + 1) ++ (wX ad ca xL xB xD xN xS (n : Int) (r : Int) xx ++ wO ou co fo9)) H := hP
      have hl : lv_has ls 8 [(6, .int r8), (5, .int (iI 1)), (4, .int (iI j)), (3, .ref ou), (2, .ref (bd 0)), (1, .ref (ad 0)), (0, .ref b)] := hl
      refine lv_aload_n hx hb dL_law_337 rfl (lv_at hl 4 rfl) ?_
      have hPt := hP.sub (ws' := wM bd cb 1 yl yz yo yw (n : Int) ((r : Int) + 1)) [0, 1, 2, 3, 4] rfl
      have hDt := (wD_same hD (w' := wM bd cb 1 yl yz yo yw (n : Int) ((r : Int) + 1) ++ (wX ad ca xL xB xD xN xS (n : Int) (r : Int) xx ++ wO ou co fo9)) rfl).sub (ws' := wM bd cb 1 yl yz yo yw (n : Int) ((r : Int) + 1)) [0, 1, 2, 3, 4] (by decide) rfl
      refine ro_z (z := 1) (va_runV (As := []) (rest := []) ⟨hx, hb, hml, hown, hts⟩ (n_thrown l dC dI bd cb 1 yl yz yo yw ((n : Int)) (((r : Int) + 1))) (cwV 0 hts (gV wlL_70 wo_X1_thrown wz_X1_thrown wi_2 wcX1_thrown) rfl rfl rfl (by decide +kernel) ⟨Nat.le_of_ble_eq_true rfl, Nat.le_of_ble_eq_true rfl⟩) (PX_V (q0 := 0) (ci := 1) hPt hKc hDt rfl rfl) rfl rfl hl.1 rfl (lv_room (Nat.le_of_ble_eq_true rfl)) dL_law_338 ⟨by show kc + 2 + 0 + 0 ≤ 1049; omega, by show ks + 12 + 0 + 0 ≤ 10515; omega⟩) hS hP (fun H locs hP hS => ?_)
      refine lv_iload hx hb dL_law_341 (lv_at hl 1 rfl) ?_
      refine r_icmp_eq hx hb dL_law_343 (tgt := 348) (by decide) (by omega) (by omega) (fun he => ?_) (fun hne => ?_)
      · refine lv_iload hx hb dL_law_348 (lv_at hl 1 rfl) ?_
        refine r_if_ne hx hb dL_law_350 (tgt := 365) (by decide) (by omega) (fun hz => ?_) (fun hz => ?_)
        · refine lv_goto hx hb dL_law_365 (tgt := 880) (by decide) ?_
          have hl := lv_sub (l' := [(4, .int (iI j)), (3, .ref ou), (2, .ref (bd 0)), (1, .ref (ad 0)), (0, .ref b)]) hl [2, 3, 4, 5, 6] rfl
          have hPe := hP.sub (ws' := (wX ad ca xL xB xD xN xS (n : Int) (r : Int) xx ++ wO ou co fo9) ++ wM bd cb 1 yl yz yo yw (n : Int) ((r : Int) + 1)) [5, 6, 7, 8, 9, 10, 11, 0, 1, 2, 3, 4] rfl
          exact kk n r L S lo H locs ls ⟨xL, xB, xD, xN, xS, xx, fo9, 1, yl, yz, yo, yw, hok, hT9, hM9, hPe⟩ hS hl
        · exact absurd hz (by decide)
      · exact absurd rfl hne
set_option maxHeartbeats 4000000 in
set_option maxRecDepth 100000 in
theorem k_place {p : Program} {l : Launch} {e : Env} {s : State} {m : MethodId} {below : List Frame} {meth : Method} {c : Code} {b Lz : Nat} {xs : Nat → Int32} {Q : State → Prop} {dC : Nat → ClassId} {dI : Nat → Nat → Nat} {ad : Nat → Nat} {ca : Nat → ClassId} {ou : Nat} {co : ClassId} {bd : Nat → Nat} {cb : Nat → ClassId} (C : LC p l s m c b Lz xs dC dI ad ca ou co bd cb) {n r : Nat} {L S : Nat → Nat} {lo : Nat → Bool} {H : Heap} {locs : List Loc} {kc ks : Nat} {ls : Array Slot} {j : Int} (hI : LI dC dI ad ca ou co bd cb n r L S lo H) (hS : va_S (fun q => s.heap.size ≤ q) s.heap H locs) (hl : lv_has ls 8 [(4, .int (iI j)), (3, .ref ou), (2, .ref (bd 0)), (1, .ref (ad 0)), (0, .ref b)]) (hj0 : 0 ≤ j) (hj : j + 2 < (Lz : Int)) (hc0 : kc + 2 ≤ 1049) (hs0 : ks + 12 ≤ 10515) (kk : ∀ (n r : Nat) (L S : Nat → Nat) (lo : Nat → Bool) (H : Heap) (locs : List Loc) (ls : Array Slot), LI dC dI ad ca ou co bd cb n r L S lo H → va_S (fun q => s.heap.size ≤ q) s.heap H locs → lv_has ls 8 [(4, .int (iI j)), (3, .ref ou), (2, .ref (bd 0)), (1, .ref (ad 0)), (0, .ref b)] → W p l e room_1 s m #[Value.ref b] below meth c H locs (kc + 2) (ks + 12) Q (F0 m 880 ls [])) : W p l e room_1 s m #[Value.ref b] below meth c H locs kc ks Q (F0 m 368 ls []) := by
  obtain ⟨hx, hb, hml, hown, hts, hX, hbl, hL9, hK, hE, hDz, hl9⟩ := C
  obtain ⟨gL, gB, gD, gN, gS, x, fo, er, gl, gz, go, gw, hok, hT, hM, hP⟩ := hI
  have hD := wD_same hDz (w' := (wX ad ca gL gB gD gN gS (n : Int) (r : Int) x ++ wO ou co fo) ++ wM bd cb er gl gz go gw (n : Int) ((r : Int) + 1)) rfl
  obtain ⟨p1, hp1, ep1⟩ := iI_of (xs (j + 1).toNat)
  obtain ⟨p2, hp2, ep2⟩ := iI_of (xs (j + 2).toNat)
  have hK9 := hK
  refine lv_aload_n hx hb dL_law_368 rfl (lv_at hl 3 rfl) ?_
  refine lv_aload_n hx hb dL_law_369 rfl (lv_at hl 4 rfl) ?_
  refine lv_iload hx hb dL_law_370 (lv_at hl 0 rfl) ?_
  refine r_iconst hx hb dL_law_372 ?_
  refine r_iadd hx hb dL_law_373 ?_
  refine r_sld hx hb hX hbl (Nat.not_le.mpr hbl) hS (by omega) (by omega) hL9 ep1 dL_law_374 ?_
  refine lv_aload_n hx hb dL_law_375 rfl (lv_at hl 4 rfl) ?_
  refine lv_iload hx hb dL_law_376 (lv_at hl 0 rfl) ?_
  refine r_iconst hx hb dL_law_378 ?_
  refine r_iadd hx hb dL_law_379 ?_
  refine r_sld hx hb hX hbl (Nat.not_le.mpr hbl) hS (by omega) (by omega) hL9 ep2 dL_law_380 ?_
  refine lv_aload_n hx hb dL_law_381 rfl (lv_at hl 1 rfl) ?_
  have hPx := hP.sub (ws' := (wX ad ca gL gB gD gN gS (n : Int) (r : Int) x ++ wO ou co fo)) [0, 1, 2, 3, 4, 5, 6] rfl
  have hDx := hD.sub (ws' := (wX ad ca gL gB gD gN gS (n : Int) (r : Int) x ++ wO ou co fo)) [0, 1, 2, 3, 4, 5, 6] (by decide) rfl
  have hKx := hK.sub (tys' := yXo ca co) [0, 1, 2, 3, 4, 5] rfl
  refine wc_i (vx_runSW (As := [.ref (ad 0), .int (iI p1), .int (iI p2), .ref ou]) (rest := []) ⟨hx, hb, hml, hown, hts⟩ (w_place l hl9 dC dI ad ca gL gB gD gN gS n r x L S lo hok hT ou co fo p1 p2 hp1 hp2) (vx_cwSW 4 hts (gSt wlL_88 wt_L_place wi_0 wcL_place) rfl rfl rfl (by decide +kernel) ⟨Nat.le_of_ble_eq_true rfl, Nat.le_of_ble_eq_true rfl⟩) (PXe_S hPx hKx hDx hE hS.2.1 (wD_in hDx)) rfl rfl hl.1 rfl (lv_room (Nat.le_of_ble_eq_true rfl)) dL_law_382 ⟨hc0, hs0⟩) hS (wD_in hDx) (fun r9 u9 H1 locs h8 hP1 hS hk9 => ?_)
  have hP := wjoin hP hD hk9 hP1
  generalize H1 = H at hP hS ⊢
  obtain ⟨⟨⟨xL, xB, xD, xN, xS⟩, xn, xr, xx⟩, fo9⟩ := u9
  have hP : va_P (dC, dI) vwCl ((wX ad ca xL xB xD xN xS xn xr xx ++ wO ou co fo9) ++ wM bd cb er gl gz go gw (n : Int) ((r : Int) + 1)) H := hP
  have hD := wD_same hDz (w' := (wX ad ca xL xB xD xN xS xn xr xx ++ wO ou co fo9) ++ wM bd cb er gl gz go gw (n : Int) ((r : Int) + 1)) rfl
  refine lv_istore hx hb dL_law_385 hl (by decide) rfl (fun ls hl => ?_)
  have hl : lv_has ls 8 [(5, .int r9), (4, .int (iI j)), (3, .ref ou), (2, .ref (bd 0)), (1, .ref (ad 0)), (0, .ref b)] := hl
  refine lv_aload_n hx hb dL_law_387 rfl (lv_at hl 3 rfl) ?_
  refine lv_aload_n hx hb dL_law_388 rfl (lv_at hl 5 rfl) ?_
  refine lv_iload hx hb dL_law_389 (lv_at hl 1 rfl) ?_
  refine r_iconst hx hb dL_law_391 ?_
  refine r_iadd hx hb dL_law_392 ?_
  refine r_sld hx hb hX hbl (Nat.not_le.mpr hbl) hS (by omega) (by omega) hL9 ep1 dL_law_393 ?_
  refine lv_aload_n hx hb dL_law_394 rfl (lv_at hl 5 rfl) ?_
  refine lv_iload hx hb dL_law_395 (lv_at hl 1 rfl) ?_
  refine r_iconst hx hb dL_law_397 ?_
  refine r_iadd hx hb dL_law_398 ?_
  refine r_sld hx hb hX hbl (Nat.not_le.mpr hbl) hS (by omega) (by omega) hL9 ep2 dL_law_399 ?_
  have hPm := hP.sub (ws' := wM bd cb er gl gz go gw (n : Int) ((r : Int) + 1) ++ (wX ad ca xL xB xD xN xS xn xr xx ++ wO ou co fo9)) [7, 8, 9, 10, 11, 0, 1, 2, 3, 4, 5, 6] rfl
  have hDm := hD.sub (ws' := wM bd cb er gl gz go gw (n : Int) ((r : Int) + 1) ++ (wX ad ca xL xB xD xN xS xn xr xx ++ wO ou co fo9)) [7, 8, 9, 10, 11, 0, 1, 2, 3, 4, 5, 6] (by decide) rfl
  have hPc := hPm.sub (ws' := wM bd cb er gl gz go gw (n : Int) ((r : Int) + 1)) [0, 1, 2, 3, 4] rfl
  have hDc := hDm.sub (ws' := wM bd cb er gl gz go gw (n : Int) ((r : Int) + 1)) [0, 1, 2, 3, 4] (by decide) rfl
  have hKc := hK.sub (tys' := yM cb) [6, 7, 8, 9] rfl
  refine wc_i (va_runV (As := [.int (iI p1), .int (iI p2)]) (rest := []) ⟨hx, hb, hml, hown, hts⟩ (n_place l dC dI bd cb er gl gz go gw n r L S lo hok hM p1 p2 hp1 hp2) (cwV 2 hts (gV wlL_90 wo_X1_place wz_X1_place wi_2 wcX1_place) rfl rfl rfl (by decide +kernel) ⟨Nat.le_of_ble_eq_true rfl, Nat.le_of_ble_eq_true rfl⟩) (PX_V (q0 := 0) (ci := 1) hPc hKc hDc rfl rfl) rfl rfl hl.1 rfl (lv_room (Nat.le_of_ble_eq_true rfl)) dL_law_400 ⟨by show kc + 2 + 0 ≤ 1049; omega, by show ks + 12 + 0 ≤ 10515; omega⟩) hS (wD_in hDc) (fun r8 u8 H1 locs h7 hP1 hS hk9 => ?_)
  have hP := wjoin hPm hDm hk9 hP1
  generalize H1 = H at hP hS ⊢
  obtain ⟨er8, yl, yz, yo, yw, yn, yv⟩ := u8
  have hP : va_P (dC, dI) vwCl (wM bd cb er8 yl yz yo yw yn yv ++ (wX ad ca xL xB xD xN xS xn xr xx ++ wO ou co fo9)) H := hP
  have hD := hDz.sub (ws' := wM bd cb 0 (fun _ => 0) (fun _ => 0) (fun _ => 0) (fun _ => 0) 0 0 ++ (wX ad ca (fun _ => 0) (fun _ => 0) (fun _ => 0) (fun _ => 0) (fun _ => 0) 0 0 0 ++ wO ou co (fun _ => 0))) [7, 8, 9, 10, 11, 0, 1, 2, 3, 4, 5, 6] (by decide) rfl
  have hD := wD_same hD (w' := wM bd cb er8 yl yz yo yw yn yv ++ (wX ad ca xL xB xD xN xS xn xr xx ++ wO ou co fo9)) rfl
  refine lv_istore hx hb dL_law_403 hl (by decide) rfl (fun ls hl => ?_)
  have hl : lv_has ls 8 [(6, .int r8), (5, .int r9), (4, .int (iI j)), (3, .ref ou), (2, .ref (bd 0)), (1, .ref (ad 0)), (0, .ref b)] := hl
  simp only [XS, MS] at h8 h7
  obtain ⟨⟨hT9, hn9, hr9⟩, h8⟩ := h8
  subst hn9 hr9
  obtain ⟨⟨hM9, hn8, hv8⟩, h7⟩ := h7
  subst hn8 hv8
  rcases h8 with ⟨hc1, hc2, rfl, hv⟩ | ⟨hc1, rfl⟩ | ⟨hc1, hc2, rfl⟩
  · rcases h7 with ⟨hd1, hd2, rfl, rfl⟩ | ⟨hd1, rfl⟩ | ⟨hd1, hd2, rfl⟩
    · dsimp only at *
      try subst_vars
      have hP : va_P (dC, dI) vwCl (wM bd cb 0 yl yz yo yw (n : Int) ((r : Int) + 1) ++ (wX ad ca xL xB xD xN xS (n : Int) (r : Int) xx ++ wO ou co fo9)) H := hP
      have hl : lv_has ls 8 [(6, .int (iI (1000 * (((sm S p1.toNat : Int) + p2) / (r : Int)) + 1 + ((sm S p1.toNat : Int) + p2) % (r : Int)))), (5, .int (iI 0)), (4, .int (iI j)), (3, .ref ou), (2, .ref (bd 0)), (1, .ref (ad 0)), (0, .ref b)] := hl
      refine lv_aload_n hx hb dL_law_405 rfl (lv_at hl 4 rfl) ?_
      have hPt := hP.sub (ws' := wM bd cb 0 yl yz yo yw (n : Int) ((r : Int) + 1)) [0, 1, 2, 3, 4] rfl
      have hDt := (wD_same hD (w' := wM bd cb 0 yl yz yo yw (n : Int) ((r : Int) + 1) ++ (wX ad ca xL xB xD xN xS (n : Int) (r : Int) xx ++ wO ou co fo9)) rfl).sub (ws' := wM bd cb 0 yl yz yo yw (n : Int) ((r : Int) + 1)) [0, 1, 2, 3, 4] (by decide) rfl
      refine ro_z (z := 0) (va_runV (As := []) (rest := []) ⟨hx, hb, hml, hown, hts⟩ (n_thrown l dC dI bd cb 0 yl yz yo yw ((n : Int)) (((r : Int) + 1))) (cwV 0 hts (gV wlL_70 wo_X1_thrown wz_X1_thrown wi_2 wcX1_thrown) rfl rfl rfl (by decide +kernel) ⟨Nat.le_of_ble_eq_true rfl, Nat.le_of_ble_eq_true rfl⟩) (PX_V (q0 := 0) (ci := 1) hPt hKc hDt rfl rfl) rfl rfl hl.1 rfl (lv_room (Nat.le_of_ble_eq_true rfl)) dL_law_406 ⟨by show kc + 2 + 0 + 0 ≤ 1049; omega, by show ks + 12 + 0 + 0 ≤ 10515; omega⟩) hS hP (fun H locs hP hS => ?_)
      refine lv_iload hx hb dL_law_409 (lv_at hl 1 rfl) ?_
      refine r_icmp_eq hx hb dL_law_411 (tgt := 416) (by decide) (by omega) (by omega) (fun he => ?_) (fun hne => ?_)
      · refine lv_iload hx hb dL_law_416 (lv_at hl 1 rfl) ?_
        refine r_if_ne hx hb dL_law_418 (tgt := 433) (by decide) (by omega) (fun hz => ?_) (fun hz => ?_)
        · exact absurd rfl hz
        · refine lv_aload_n hx hb dL_law_421 rfl (lv_at hl 3 rfl) ?_
          refine r_iconst hx hb dL_law_422 ?_
          refine r_lald hx hb hK9 hP 11 5 rfl rfl (by omega) (by omega) (by decide) dL_law_423 ?_
          refine r_top (w := .long ((iI (1000 * (((sm S p1.toNat : Int) + p2) / (r : Int)) + 1 + ((sm S p1.toNat : Int) + p2) % (r : Int))).toInt64)) (congrArg Value.long (hv)) ?_
          refine lv_iload hx hb dL_law_424 (lv_at hl 0 rfl) ?_
          refine lv_i2l hx hb dL_law_426 rfl ?_
          refine r_lcmp_eq hx hb dL_law_427 dL_law_428 (tgt := 433) (by decide) (fun hq => ?_) (fun hq => ?_)
          · refine lv_goto hx hb dL_law_433 (tgt := 880) (by decide) ?_
            have hl := lv_sub (l' := [(4, .int (iI j)), (3, .ref ou), (2, .ref (bd 0)), (1, .ref (ad 0)), (0, .ref b)]) hl [2, 3, 4, 5, 6] rfl
            have hPe := hP.sub (ws' := (wX ad ca xL xB xD xN xS (n : Int) (r : Int) xx ++ wO ou co fo9) ++ wM bd cb 0 yl yz yo yw (n : Int) ((r : Int) + 1)) [5, 6, 7, 8, 9, 10, 11, 0, 1, 2, 3, 4] rfl
            exact kk n r L S lo H locs ls ⟨xL, xB, xD, xN, xS, xx, fo9, 0, yl, yz, yo, yw, hok, hT9, hM9, hPe⟩ hS hl
          · exact absurd (rfl) hq
      · exact absurd rfl hne
    · exact (by omega : False).elim
    · exact (by omega : False).elim
  · rcases h7 with ⟨hd1, hd2, rfl, rfl⟩ | ⟨hd1, rfl⟩ | ⟨hd1, hd2, rfl⟩
    · exact (by omega : False).elim
    · dsimp only at *
      try subst_vars
      have hP : va_P (dC, dI) vwCl (wM bd cb 1 yl yz yo yw (n : Int) ((r : Int) + 1) ++ (wX ad ca xL xB xD xN xS (n : Int) (r : Int) xx ++ wO ou co fo9)) H := hP
      have hl : lv_has ls 8 [(6, .int r8), (5, .int (iI 1)), (4, .int (iI j)), (3, .ref ou), (2, .ref (bd 0)), (1, .ref (ad 0)), (0, .ref b)] := hl
      refine lv_aload_n hx hb dL_law_405 rfl (lv_at hl 4 rfl) ?_
      have hPt := hP.sub (ws' := wM bd cb 1 yl yz yo yw (n : Int) ((r : Int) + 1)) [0, 1, 2, 3, 4] rfl
      have hDt := (wD_same hD (w' := wM bd cb 1 yl yz yo yw (n : Int) ((r : Int) + 1) ++ (wX ad ca xL xB xD xN xS (n : Int) (r : Int) xx ++ wO ou co fo9)) rfl).sub (ws' := wM bd cb 1 yl yz yo yw (n : Int) ((r : Int) + 1)) [0, 1, 2, 3, 4] (by decide) rfl
      refine ro_z (z := 1) (va_runV (As := []) (rest := []) ⟨hx, hb, hml, hown, hts⟩ (n_thrown l dC dI bd cb 1 yl yz yo yw ((n : Int)) (((r : Int) + 1))) (cwV 0 hts (gV wlL_70 wo_X1_thrown wz_X1_thrown wi_2 wcX1_thrown) rfl rfl rfl (by decide +kernel) ⟨Nat.le_of_ble_eq_true rfl, Nat.le_of_ble_eq_true rfl⟩) (PX_V (q0 := 0) (ci := 1) hPt hKc hDt rfl rfl) rfl rfl hl.1 rfl (lv_room (Nat.le_of_ble_eq_true rfl)) dL_law_406 ⟨by show kc + 2 + 0 + 0 ≤ 1049; omega, by show ks + 12 + 0 + 0 ≤ 10515; omega⟩) hS hP (fun H locs hP hS => ?_)
      refine lv_iload hx hb dL_law_409 (lv_at hl 1 rfl) ?_
      refine r_icmp_eq hx hb dL_law_411 (tgt := 416) (by decide) (by omega) (by omega) (fun he => ?_) (fun hne => ?_)
      · refine lv_iload hx hb dL_law_416 (lv_at hl 1 rfl) ?_
        refine r_if_ne hx hb dL_law_418 (tgt := 433) (by decide) (by omega) (fun hz => ?_) (fun hz => ?_)
        · refine lv_goto hx hb dL_law_433 (tgt := 880) (by decide) ?_
          have hl := lv_sub (l' := [(4, .int (iI j)), (3, .ref ou), (2, .ref (bd 0)), (1, .ref (ad 0)), (0, .ref b)]) hl [2, 3, 4, 5, 6] rfl
          have hPe := hP.sub (ws' := (wX ad ca xL xB xD xN xS (n : Int) (r : Int) xx ++ wO ou co fo9) ++ wM bd cb 1 yl yz yo yw (n : Int) ((r : Int) + 1)) [5, 6, 7, 8, 9, 10, 11, 0, 1, 2, 3, 4] rfl
          exact kk n r L S lo H locs ls ⟨xL, xB, xD, xN, xS, xx, fo9, 1, yl, yz, yo, yw, hok, hT9, hM9, hPe⟩ hS hl
        · exact absurd hz (by decide)
      · exact absurd rfl hne
    · exact (by omega : False).elim
  · rcases h7 with ⟨hd1, hd2, rfl, rfl⟩ | ⟨hd1, rfl⟩ | ⟨hd1, hd2, rfl⟩
    · exact (by omega : False).elim
    · exact (by omega : False).elim
    · dsimp only at *
      try subst_vars
      have hP : va_P (dC, dI) vwCl (wM bd cb 2 yl yz yo yw (n : Int) ((r : Int) + 1) ++ (wX ad ca xL xB xD xN xS (n : Int) (r : Int) xx ++ wO ou co fo9)) H := hP
      have hl : lv_has ls 8 [(6, .int r8), (5, .int (iI 2)), (4, .int (iI j)), (3, .ref ou), (2, .ref (bd 0)), (1, .ref (ad 0)), (0, .ref b)] := hl
      refine lv_aload_n hx hb dL_law_405 rfl (lv_at hl 4 rfl) ?_
      have hPt := hP.sub (ws' := wM bd cb 2 yl yz yo yw (n : Int) ((r : Int) + 1)) [0, 1, 2, 3, 4] rfl
      have hDt := (wD_same hD (w' := wM bd cb 2 yl yz yo yw (n : Int) ((r : Int) + 1) ++ (wX ad ca xL xB xD xN xS (n : Int) (r : Int) xx ++ wO ou co fo9)) rfl).sub (ws' := wM bd cb 2 yl yz yo yw (n : Int) ((r : Int) + 1)) [0, 1, 2, 3, 4] (by decide) rfl
      refine ro_z (z := 2) (va_runV (As := []) (rest := []) ⟨hx, hb, hml, hown, hts⟩ (n_thrown l dC dI bd cb 2 yl yz yo yw ((n : Int)) (((r : Int) + 1))) (cwV 0 hts (gV wlL_70 wo_X1_thrown wz_X1_thrown wi_2 wcX1_thrown) rfl rfl rfl (by decide +kernel) ⟨Nat.le_of_ble_eq_true rfl, Nat.le_of_ble_eq_true rfl⟩) (PX_V (q0 := 0) (ci := 1) hPt hKc hDt rfl rfl) rfl rfl hl.1 rfl (lv_room (Nat.le_of_ble_eq_true rfl)) dL_law_406 ⟨by show kc + 2 + 0 + 0 ≤ 1049; omega, by show ks + 12 + 0 + 0 ≤ 10515; omega⟩) hS hP (fun H locs hP hS => ?_)
      refine lv_iload hx hb dL_law_409 (lv_at hl 1 rfl) ?_
      refine r_icmp_eq hx hb dL_law_411 (tgt := 416) (by decide) (by omega) (by omega) (fun he => ?_) (fun hne => ?_)
      · refine lv_iload hx hb dL_law_416 (lv_at hl 1 rfl) ?_
        refine r_if_ne hx hb dL_law_418 (tgt := 433) (by decide) (by omega) (fun hz => ?_) (fun hz => ?_)
        · refine lv_goto hx hb dL_law_433 (tgt := 880) (by decide) ?_
          have hl := lv_sub (l' := [(4, .int (iI j)), (3, .ref ou), (2, .ref (bd 0)), (1, .ref (ad 0)), (0, .ref b)]) hl [2, 3, 4, 5, 6] rfl
          have hPe := hP.sub (ws' := (wX ad ca xL xB xD xN xS (n : Int) (r : Int) xx ++ wO ou co fo9) ++ wM bd cb 2 yl yz yo yw (n : Int) ((r : Int) + 1)) [5, 6, 7, 8, 9, 10, 11, 0, 1, 2, 3, 4] rfl
          exact kk n r L S lo H locs ls ⟨xL, xB, xD, xN, xS, xx, fo9, 2, yl, yz, yo, yw, hok, hT9, hM9, hPe⟩ hS hl
        · exact absurd hz (by decide)
      · exact absurd rfl hne
set_option maxHeartbeats 4000000 in
set_option maxRecDepth 100000 in
theorem k_owner {p : Program} {l : Launch} {e : Env} {s : State} {m : MethodId} {below : List Frame} {meth : Method} {c : Code} {b Lz : Nat} {xs : Nat → Int32} {Q : State → Prop} {dC : Nat → ClassId} {dI : Nat → Nat → Nat} {ad : Nat → Nat} {ca : Nat → ClassId} {ou : Nat} {co : ClassId} {bd : Nat → Nat} {cb : Nat → ClassId} (C : LC p l s m c b Lz xs dC dI ad ca ou co bd cb) {n r : Nat} {L S : Nat → Nat} {lo : Nat → Bool} {H : Heap} {locs : List Loc} {kc ks : Nat} {ls : Array Slot} {j : Int} (hI : LI dC dI ad ca ou co bd cb n r L S lo H) (hS : va_S (fun q => s.heap.size ≤ q) s.heap H locs) (hl : lv_has ls 8 [(4, .int (iI j)), (3, .ref ou), (2, .ref (bd 0)), (1, .ref (ad 0)), (0, .ref b)]) (hj0 : 0 ≤ j) (hj : j + 2 < (Lz : Int)) (hc0 : kc + 2 ≤ 1049) (hs0 : ks + 12 ≤ 10515) (kk : ∀ (n r : Nat) (L S : Nat → Nat) (lo : Nat → Bool) (H : Heap) (locs : List Loc) (ls : Array Slot), LI dC dI ad ca ou co bd cb n r L S lo H → va_S (fun q => s.heap.size ≤ q) s.heap H locs → lv_has ls 8 [(4, .int (iI j)), (3, .ref ou), (2, .ref (bd 0)), (1, .ref (ad 0)), (0, .ref b)] → W p l e room_1 s m #[Value.ref b] below meth c H locs (kc + 2) (ks + 12) Q (F0 m 880 ls [])) : W p l e room_1 s m #[Value.ref b] below meth c H locs kc ks Q (F0 m 436 ls []) := by
  obtain ⟨hx, hb, hml, hown, hts, hX, hbl, hL9, hK, hE, hDz, hl9⟩ := C
  obtain ⟨gL, gB, gD, gN, gS, x, fo, er, gl, gz, go, gw, hok, hT, hM, hP⟩ := hI
  have hD := wD_same hDz (w' := (wX ad ca gL gB gD gN gS (n : Int) (r : Int) x ++ wO ou co fo) ++ wM bd cb er gl gz go gw (n : Int) ((r : Int) + 1)) rfl
  obtain ⟨p1, hp1, ep1⟩ := iI_of (xs (j + 1).toNat)
  obtain ⟨p2, hp2, ep2⟩ := iI_of (xs (j + 2).toNat)
  have hK9 := hK
  refine lv_aload_n hx hb dL_law_436 rfl (lv_at hl 3 rfl) ?_
  refine lv_aload_n hx hb dL_law_437 rfl (lv_at hl 4 rfl) ?_
  refine lv_iload hx hb dL_law_438 (lv_at hl 0 rfl) ?_
  refine r_iconst hx hb dL_law_440 ?_
  refine r_iadd hx hb dL_law_441 ?_
  refine r_sld hx hb hX hbl (Nat.not_le.mpr hbl) hS (by omega) (by omega) hL9 ep1 dL_law_442 ?_
  refine lv_aload_n hx hb dL_law_443 rfl (lv_at hl 4 rfl) ?_
  refine lv_iload hx hb dL_law_444 (lv_at hl 0 rfl) ?_
  refine r_iconst hx hb dL_law_446 ?_
  refine r_iadd hx hb dL_law_447 ?_
  refine r_sld hx hb hX hbl (Nat.not_le.mpr hbl) hS (by omega) (by omega) hL9 ep2 dL_law_448 ?_
  refine lv_aload_n hx hb dL_law_449 rfl (lv_at hl 1 rfl) ?_
  have hPx := hP.sub (ws' := (wX ad ca gL gB gD gN gS (n : Int) (r : Int) x ++ wO ou co fo)) [0, 1, 2, 3, 4, 5, 6] rfl
  have hDx := hD.sub (ws' := (wX ad ca gL gB gD gN gS (n : Int) (r : Int) x ++ wO ou co fo)) [0, 1, 2, 3, 4, 5, 6] (by decide) rfl
  have hKx := hK.sub (tys' := yXo ca co) [0, 1, 2, 3, 4, 5] rfl
  refine wc_i (vx_runSW (As := [.ref (ad 0), .int (iI p1), .int (iI p2), .ref ou]) (rest := []) ⟨hx, hb, hml, hown, hts⟩ (w_owner l hl9 dC dI ad ca gL gB gD gN gS n r x L S lo hok hT ou co fo p1 p2 hp1 hp2) (vx_cwSW 4 hts (gSt wlL_91 wt_L_owner wi_0 wcL_owner) rfl rfl rfl (by decide +kernel) ⟨Nat.le_of_ble_eq_true rfl, Nat.le_of_ble_eq_true rfl⟩) (PXe_S hPx hKx hDx hE hS.2.1 (wD_in hDx)) rfl rfl hl.1 rfl (lv_room (Nat.le_of_ble_eq_true rfl)) dL_law_450 ⟨hc0, hs0⟩) hS (wD_in hDx) (fun r9 u9 H1 locs h8 hP1 hS hk9 => ?_)
  have hP := wjoin hP hD hk9 hP1
  generalize H1 = H at hP hS ⊢
  obtain ⟨⟨⟨xL, xB, xD, xN, xS⟩, xn, xr, xx⟩, fo9⟩ := u9
  have hP : va_P (dC, dI) vwCl ((wX ad ca xL xB xD xN xS xn xr xx ++ wO ou co fo9) ++ wM bd cb er gl gz go gw (n : Int) ((r : Int) + 1)) H := hP
  have hD := wD_same hDz (w' := (wX ad ca xL xB xD xN xS xn xr xx ++ wO ou co fo9) ++ wM bd cb er gl gz go gw (n : Int) ((r : Int) + 1)) rfl
  refine lv_istore hx hb dL_law_453 hl (by decide) rfl (fun ls hl => ?_)
  have hl : lv_has ls 8 [(5, .int r9), (4, .int (iI j)), (3, .ref ou), (2, .ref (bd 0)), (1, .ref (ad 0)), (0, .ref b)] := hl
  refine lv_aload_n hx hb dL_law_455 rfl (lv_at hl 3 rfl) ?_
  refine lv_aload_n hx hb dL_law_456 rfl (lv_at hl 5 rfl) ?_
  refine lv_iload hx hb dL_law_457 (lv_at hl 1 rfl) ?_
  refine r_iconst hx hb dL_law_459 ?_
  refine r_iadd hx hb dL_law_460 ?_
  refine r_sld hx hb hX hbl (Nat.not_le.mpr hbl) hS (by omega) (by omega) hL9 ep1 dL_law_461 ?_
  refine lv_aload_n hx hb dL_law_462 rfl (lv_at hl 5 rfl) ?_
  refine lv_iload hx hb dL_law_463 (lv_at hl 1 rfl) ?_
  refine r_iconst hx hb dL_law_465 ?_
  refine r_iadd hx hb dL_law_466 ?_
  refine r_sld hx hb hX hbl (Nat.not_le.mpr hbl) hS (by omega) (by omega) hL9 ep2 dL_law_467 ?_
  have hPm := hP.sub (ws' := wM bd cb er gl gz go gw (n : Int) ((r : Int) + 1) ++ (wX ad ca xL xB xD xN xS xn xr xx ++ wO ou co fo9)) [7, 8, 9, 10, 11, 0, 1, 2, 3, 4, 5, 6] rfl
  have hDm := hD.sub (ws' := wM bd cb er gl gz go gw (n : Int) ((r : Int) + 1) ++ (wX ad ca xL xB xD xN xS xn xr xx ++ wO ou co fo9)) [7, 8, 9, 10, 11, 0, 1, 2, 3, 4, 5, 6] (by decide) rfl
  have hPc := hPm.sub (ws' := wM bd cb er gl gz go gw (n : Int) ((r : Int) + 1)) [0, 1, 2, 3, 4] rfl
  have hDc := hDm.sub (ws' := wM bd cb er gl gz go gw (n : Int) ((r : Int) + 1)) [0, 1, 2, 3, 4] (by decide) rfl
  have hKc := hK.sub (tys' := yM cb) [6, 7, 8, 9] rfl
  refine wc_i (va_runV (As := [.int (iI p1), .int (iI p2)]) (rest := []) ⟨hx, hb, hml, hown, hts⟩ (n_owner l dC dI bd cb er gl gz go gw n r L S lo hok hM p1 p2 hp1 hp2) (cwV 2 hts (gV wlL_93 wo_X1_owner wz_X1_owner wi_2 wcX1_owner) rfl rfl rfl (by decide +kernel) ⟨Nat.le_of_ble_eq_true rfl, Nat.le_of_ble_eq_true rfl⟩) (PX_V (q0 := 0) (ci := 1) hPc hKc hDc rfl rfl) rfl rfl hl.1 rfl (lv_room (Nat.le_of_ble_eq_true rfl)) dL_law_468 ⟨by show kc + 2 + 0 ≤ 1049; omega, by show ks + 12 + 0 ≤ 10515; omega⟩) hS (wD_in hDc) (fun r8 u8 H1 locs h7 hP1 hS hk9 => ?_)
  have hP := wjoin hPm hDm hk9 hP1
  generalize H1 = H at hP hS ⊢
  obtain ⟨er8, yl, yz, yo, yw, yn, yv⟩ := u8
  have hP : va_P (dC, dI) vwCl (wM bd cb er8 yl yz yo yw yn yv ++ (wX ad ca xL xB xD xN xS xn xr xx ++ wO ou co fo9)) H := hP
  have hD := hDz.sub (ws' := wM bd cb 0 (fun _ => 0) (fun _ => 0) (fun _ => 0) (fun _ => 0) 0 0 ++ (wX ad ca (fun _ => 0) (fun _ => 0) (fun _ => 0) (fun _ => 0) (fun _ => 0) 0 0 0 ++ wO ou co (fun _ => 0))) [7, 8, 9, 10, 11, 0, 1, 2, 3, 4, 5, 6] (by decide) rfl
  have hD := wD_same hD (w' := wM bd cb er8 yl yz yo yw yn yv ++ (wX ad ca xL xB xD xN xS xn xr xx ++ wO ou co fo9)) rfl
  refine lv_istore hx hb dL_law_471 hl (by decide) rfl (fun ls hl => ?_)
  have hl : lv_has ls 8 [(6, .int r8), (5, .int r9), (4, .int (iI j)), (3, .ref ou), (2, .ref (bd 0)), (1, .ref (ad 0)), (0, .ref b)] := hl
  simp only [XS, MS] at h8 h7
  obtain ⟨⟨hT9, hn9, hr9⟩, h8⟩ := h8
  subst hn9 hr9
  obtain ⟨⟨hM9, hn8, hv8⟩, h7⟩ := h7
  subst hn8 hv8
  rcases h8 with ⟨hc1, rfl, hv⟩ | ⟨hc1, rfl⟩
  · rcases h7 with ⟨hd1, rfl, rfl⟩ | ⟨hd1, rfl⟩
    · dsimp only at *
      try subst_vars
      have hP : va_P (dC, dI) vwCl (wM bd cb 0 yl yz yo yw (n : Int) ((r : Int) + 1) ++ (wX ad ca xL xB xD xN xS (n : Int) (r : Int) xx ++ wO ou co fo9)) H := hP
      have hl : lv_has ls 8 [(6, .int (iI (if p2 = 0 then -1 else (ow S (p1 * (r : Int) + p2 - 1).toNat n : Int) - 1))), (5, .int (iI 0)), (4, .int (iI j)), (3, .ref ou), (2, .ref (bd 0)), (1, .ref (ad 0)), (0, .ref b)] := hl
      refine lv_aload_n hx hb dL_law_473 rfl (lv_at hl 4 rfl) ?_
      have hPt := hP.sub (ws' := wM bd cb 0 yl yz yo yw (n : Int) ((r : Int) + 1)) [0, 1, 2, 3, 4] rfl
      have hDt := (wD_same hD (w' := wM bd cb 0 yl yz yo yw (n : Int) ((r : Int) + 1) ++ (wX ad ca xL xB xD xN xS (n : Int) (r : Int) xx ++ wO ou co fo9)) rfl).sub (ws' := wM bd cb 0 yl yz yo yw (n : Int) ((r : Int) + 1)) [0, 1, 2, 3, 4] (by decide) rfl
      refine ro_z (z := 0) (va_runV (As := []) (rest := []) ⟨hx, hb, hml, hown, hts⟩ (n_thrown l dC dI bd cb 0 yl yz yo yw ((n : Int)) (((r : Int) + 1))) (cwV 0 hts (gV wlL_70 wo_X1_thrown wz_X1_thrown wi_2 wcX1_thrown) rfl rfl rfl (by decide +kernel) ⟨Nat.le_of_ble_eq_true rfl, Nat.le_of_ble_eq_true rfl⟩) (PX_V (q0 := 0) (ci := 1) hPt hKc hDt rfl rfl) rfl rfl hl.1 rfl (lv_room (Nat.le_of_ble_eq_true rfl)) dL_law_474 ⟨by show kc + 2 + 0 + 0 ≤ 1049; omega, by show ks + 12 + 0 + 0 ≤ 10515; omega⟩) hS hP (fun H locs hP hS => ?_)
      refine lv_iload hx hb dL_law_477 (lv_at hl 1 rfl) ?_
      refine r_icmp_eq hx hb dL_law_479 (tgt := 484) (by decide) (by omega) (by omega) (fun he => ?_) (fun hne => ?_)
      · refine lv_iload hx hb dL_law_484 (lv_at hl 1 rfl) ?_
        refine r_if_ne hx hb dL_law_486 (tgt := 501) (by decide) (by omega) (fun hz => ?_) (fun hz => ?_)
        · exact absurd rfl hz
        · refine lv_aload_n hx hb dL_law_489 rfl (lv_at hl 3 rfl) ?_
          refine r_iconst hx hb dL_law_490 ?_
          refine r_lald hx hb hK9 hP 11 5 rfl rfl (by omega) (by omega) (by decide) dL_law_491 ?_
          refine r_top (w := .long ((iI (if p2 = 0 then -1 else (ow S (p1 * (r : Int) + p2 - 1).toNat n : Int) - 1)).toInt64)) (congrArg Value.long (hv)) ?_
          refine lv_iload hx hb dL_law_492 (lv_at hl 0 rfl) ?_
          refine lv_i2l hx hb dL_law_494 rfl ?_
          refine r_lcmp_eq hx hb dL_law_495 dL_law_496 (tgt := 501) (by decide) (fun hq => ?_) (fun hq => ?_)
          · refine lv_goto hx hb dL_law_501 (tgt := 880) (by decide) ?_
            have hl := lv_sub (l' := [(4, .int (iI j)), (3, .ref ou), (2, .ref (bd 0)), (1, .ref (ad 0)), (0, .ref b)]) hl [2, 3, 4, 5, 6] rfl
            have hPe := hP.sub (ws' := (wX ad ca xL xB xD xN xS (n : Int) (r : Int) xx ++ wO ou co fo9) ++ wM bd cb 0 yl yz yo yw (n : Int) ((r : Int) + 1)) [5, 6, 7, 8, 9, 10, 11, 0, 1, 2, 3, 4] rfl
            exact kk n r L S lo H locs ls ⟨xL, xB, xD, xN, xS, xx, fo9, 0, yl, yz, yo, yw, hok, hT9, hM9, hPe⟩ hS hl
          · exact absurd (rfl) hq
      · exact absurd rfl hne
    · exact (by omega : False).elim
  · rcases h7 with ⟨hd1, rfl, rfl⟩ | ⟨hd1, rfl⟩
    · exact (by omega : False).elim
    · dsimp only at *
      try subst_vars
      have hP : va_P (dC, dI) vwCl (wM bd cb 1 yl yz yo yw (n : Int) ((r : Int) + 1) ++ (wX ad ca xL xB xD xN xS (n : Int) (r : Int) xx ++ wO ou co fo9)) H := hP
      have hl : lv_has ls 8 [(6, .int r8), (5, .int (iI 1)), (4, .int (iI j)), (3, .ref ou), (2, .ref (bd 0)), (1, .ref (ad 0)), (0, .ref b)] := hl
      refine lv_aload_n hx hb dL_law_473 rfl (lv_at hl 4 rfl) ?_
      have hPt := hP.sub (ws' := wM bd cb 1 yl yz yo yw (n : Int) ((r : Int) + 1)) [0, 1, 2, 3, 4] rfl
      have hDt := (wD_same hD (w' := wM bd cb 1 yl yz yo yw (n : Int) ((r : Int) + 1) ++ (wX ad ca xL xB xD xN xS (n : Int) (r : Int) xx ++ wO ou co fo9)) rfl).sub (ws' := wM bd cb 1 yl yz yo yw (n : Int) ((r : Int) + 1)) [0, 1, 2, 3, 4] (by decide) rfl
      refine ro_z (z := 1) (va_runV (As := []) (rest := []) ⟨hx, hb, hml, hown, hts⟩ (n_thrown l dC dI bd cb 1 yl yz yo yw ((n : Int)) (((r : Int) + 1))) (cwV 0 hts (gV wlL_70 wo_X1_thrown wz_X1_thrown wi_2 wcX1_thrown) rfl rfl rfl (by decide +kernel) ⟨Nat.le_of_ble_eq_true rfl, Nat.le_of_ble_eq_true rfl⟩) (PX_V (q0 := 0) (ci := 1) hPt hKc hDt rfl rfl) rfl rfl hl.1 rfl (lv_room (Nat.le_of_ble_eq_true rfl)) dL_law_474 ⟨by show kc + 2 + 0 + 0 ≤ 1049; omega, by show ks + 12 + 0 + 0 ≤ 10515; omega⟩) hS hP (fun H locs hP hS => ?_)
      refine lv_iload hx hb dL_law_477 (lv_at hl 1 rfl) ?_
      refine r_icmp_eq hx hb dL_law_479 (tgt := 484) (by decide) (by omega) (by omega) (fun he => ?_) (fun hne => ?_)
      · refine lv_iload hx hb dL_law_484 (lv_at hl 1 rfl) ?_
        refine r_if_ne hx hb dL_law_486 (tgt := 501) (by decide) (by omega) (fun hz => ?_) (fun hz => ?_)
        · refine lv_goto hx hb dL_law_501 (tgt := 880) (by decide) ?_
          have hl := lv_sub (l' := [(4, .int (iI j)), (3, .ref ou), (2, .ref (bd 0)), (1, .ref (ad 0)), (0, .ref b)]) hl [2, 3, 4, 5, 6] rfl
          have hPe := hP.sub (ws' := (wX ad ca xL xB xD xN xS (n : Int) (r : Int) xx ++ wO ou co fo9) ++ wM bd cb 1 yl yz yo yw (n : Int) ((r : Int) + 1)) [5, 6, 7, 8, 9, 10, 11, 0, 1, 2, 3, 4] rfl
          exact kk n r L S lo H locs ls ⟨xL, xB, xD, xN, xS, xx, fo9, 1, yl, yz, yo, yw, hok, hT9, hM9, hPe⟩ hS hl
        · exact absurd hz (by decide)
      · exact absurd rfl hne
set_option maxHeartbeats 4000000 in
set_option maxRecDepth 100000 in
theorem k_latest {p : Program} {l : Launch} {e : Env} {s : State} {m : MethodId} {below : List Frame} {meth : Method} {c : Code} {b Lz : Nat} {xs : Nat → Int32} {Q : State → Prop} {dC : Nat → ClassId} {dI : Nat → Nat → Nat} {ad : Nat → Nat} {ca : Nat → ClassId} {ou : Nat} {co : ClassId} {bd : Nat → Nat} {cb : Nat → ClassId} (C : LC p l s m c b Lz xs dC dI ad ca ou co bd cb) {n r : Nat} {L S : Nat → Nat} {lo : Nat → Bool} {H : Heap} {locs : List Loc} {kc ks : Nat} {ls : Array Slot} {j : Int} (hI : LI dC dI ad ca ou co bd cb n r L S lo H) (hS : va_S (fun q => s.heap.size ≤ q) s.heap H locs) (hl : lv_has ls 8 [(4, .int (iI j)), (3, .ref ou), (2, .ref (bd 0)), (1, .ref (ad 0)), (0, .ref b)]) (hj0 : 0 ≤ j) (hj : j + 2 < (Lz : Int)) (hc0 : kc + 2 ≤ 1049) (hs0 : ks + 12 ≤ 10515) (kk : ∀ (n r : Nat) (L S : Nat → Nat) (lo : Nat → Bool) (H : Heap) (locs : List Loc) (ls : Array Slot), LI dC dI ad ca ou co bd cb n r L S lo H → va_S (fun q => s.heap.size ≤ q) s.heap H locs → lv_has ls 8 [(4, .int (iI j)), (3, .ref ou), (2, .ref (bd 0)), (1, .ref (ad 0)), (0, .ref b)] → W p l e room_1 s m #[Value.ref b] below meth c H locs (kc + 2) (ks + 12) Q (F0 m 880 ls [])) : W p l e room_1 s m #[Value.ref b] below meth c H locs kc ks Q (F0 m 713 ls []) := by
  obtain ⟨hx, hb, hml, hown, hts, hX, hbl, hL9, hK, hE, hDz, hl9⟩ := C
  obtain ⟨gL, gB, gD, gN, gS, x, fo, er, gl, gz, go, gw, hok, hT, hM, hP⟩ := hI
  have hD := wD_same hDz (w' := (wX ad ca gL gB gD gN gS (n : Int) (r : Int) x ++ wO ou co fo) ++ wM bd cb er gl gz go gw (n : Int) ((r : Int) + 1)) rfl
  obtain ⟨p1, hp1, ep1⟩ := iI_of (xs (j + 1).toNat)
  obtain ⟨p2, hp2, ep2⟩ := iI_of (xs (j + 2).toNat)
  have hK9 := hK
  refine lv_aload_n hx hb dL_law_713 rfl (lv_at hl 3 rfl) ?_
  refine lv_aload_n hx hb dL_law_714 rfl (lv_at hl 4 rfl) ?_
  refine lv_iload hx hb dL_law_715 (lv_at hl 0 rfl) ?_
  refine r_iconst hx hb dL_law_717 ?_
  refine r_iadd hx hb dL_law_718 ?_
  refine r_sld hx hb hX hbl (Nat.not_le.mpr hbl) hS (by omega) (by omega) hL9 ep1 dL_law_719 ?_
  refine lv_aload_n hx hb dL_law_720 rfl (lv_at hl 1 rfl) ?_
  have hPx := hP.sub (ws' := (wX ad ca gL gB gD gN gS (n : Int) (r : Int) x ++ wO ou co fo)) [0, 1, 2, 3, 4, 5, 6] rfl
  have hDx := hD.sub (ws' := (wX ad ca gL gB gD gN gS (n : Int) (r : Int) x ++ wO ou co fo)) [0, 1, 2, 3, 4, 5, 6] (by decide) rfl
  have hKx := hK.sub (tys' := yXo ca co) [0, 1, 2, 3, 4, 5] rfl
  refine wc_i (vx_runSW (As := [.ref (ad 0), .int (iI p1), .ref ou]) (rest := []) ⟨hx, hb, hml, hown, hts⟩ (w_latest l hl9 dC dI ad ca gL gB gD gN gS n r x L S lo hok hT ou co fo p1 hp1) (vx_cwSW 3 hts (gSt wlL_104 wt_L_latest wi_0 wcL_latest) rfl rfl rfl (by decide +kernel) ⟨Nat.le_of_ble_eq_true rfl, Nat.le_of_ble_eq_true rfl⟩) (PXe_S hPx hKx hDx hE hS.2.1 (wD_in hDx)) rfl rfl hl.1 rfl (lv_room (Nat.le_of_ble_eq_true rfl)) dL_law_721 ⟨hc0, hs0⟩) hS (wD_in hDx) (fun r9 u9 H1 locs h8 hP1 hS hk9 => ?_)
  have hP := wjoin hP hD hk9 hP1
  generalize H1 = H at hP hS ⊢
  obtain ⟨⟨⟨xL, xB, xD, xN, xS⟩, xn, xr, xx⟩, fo9⟩ := u9
  have hP : va_P (dC, dI) vwCl ((wX ad ca xL xB xD xN xS xn xr xx ++ wO ou co fo9) ++ wM bd cb er gl gz go gw (n : Int) ((r : Int) + 1)) H := hP
  have hD := wD_same hDz (w' := (wX ad ca xL xB xD xN xS xn xr xx ++ wO ou co fo9) ++ wM bd cb er gl gz go gw (n : Int) ((r : Int) + 1)) rfl
  refine lv_istore hx hb dL_law_724 hl (by decide) rfl (fun ls hl => ?_)
  have hl : lv_has ls 8 [(5, .int r9), (4, .int (iI j)), (3, .ref ou), (2, .ref (bd 0)), (1, .ref (ad 0)), (0, .ref b)] := hl
  refine lv_aload_n hx hb dL_law_726 rfl (lv_at hl 3 rfl) ?_
  refine lv_aload_n hx hb dL_law_727 rfl (lv_at hl 5 rfl) ?_
  refine lv_iload hx hb dL_law_728 (lv_at hl 1 rfl) ?_
  refine r_iconst hx hb dL_law_730 ?_
  refine r_iadd hx hb dL_law_731 ?_
  refine r_sld hx hb hX hbl (Nat.not_le.mpr hbl) hS (by omega) (by omega) hL9 ep1 dL_law_732 ?_
  have hPm := hP.sub (ws' := wM bd cb er gl gz go gw (n : Int) ((r : Int) + 1) ++ (wX ad ca xL xB xD xN xS xn xr xx ++ wO ou co fo9)) [7, 8, 9, 10, 11, 0, 1, 2, 3, 4, 5, 6] rfl
  have hDm := hD.sub (ws' := wM bd cb er gl gz go gw (n : Int) ((r : Int) + 1) ++ (wX ad ca xL xB xD xN xS xn xr xx ++ wO ou co fo9)) [7, 8, 9, 10, 11, 0, 1, 2, 3, 4, 5, 6] (by decide) rfl
  have hPc := hPm.sub (ws' := wM bd cb er gl gz go gw (n : Int) ((r : Int) + 1)) [0, 1, 2, 3, 4] rfl
  have hDc := hDm.sub (ws' := wM bd cb er gl gz go gw (n : Int) ((r : Int) + 1)) [0, 1, 2, 3, 4] (by decide) rfl
  have hKc := hK.sub (tys' := yM cb) [6, 7, 8, 9] rfl
  refine wc_i (va_runV (As := [.int (iI p1)]) (rest := []) ⟨hx, hb, hml, hown, hts⟩ (n_latest l dC dI bd cb er gl gz go gw n r L S lo hok hM p1 hp1) (cwV 1 hts (gV wlL_106 wo_X1_latest wz_X1_latest wi_2 wcX1_latest) rfl rfl rfl (by decide +kernel) ⟨Nat.le_of_ble_eq_true rfl, Nat.le_of_ble_eq_true rfl⟩) (PX_V (q0 := 0) (ci := 1) hPc hKc hDc rfl rfl) rfl rfl hl.1 rfl (lv_room (Nat.le_of_ble_eq_true rfl)) dL_law_733 ⟨by show kc + 2 + 0 ≤ 1049; omega, by show ks + 12 + 0 ≤ 10515; omega⟩) hS (wD_in hDc) (fun r8 u8 H1 locs h7 hP1 hS hk9 => ?_)
  have hP := wjoin hPm hDm hk9 hP1
  generalize H1 = H at hP hS ⊢
  obtain ⟨er8, yl, yz, yo, yw, yn, yv⟩ := u8
  have hP : va_P (dC, dI) vwCl (wM bd cb er8 yl yz yo yw yn yv ++ (wX ad ca xL xB xD xN xS xn xr xx ++ wO ou co fo9)) H := hP
  have hD := hDz.sub (ws' := wM bd cb 0 (fun _ => 0) (fun _ => 0) (fun _ => 0) (fun _ => 0) 0 0 ++ (wX ad ca (fun _ => 0) (fun _ => 0) (fun _ => 0) (fun _ => 0) (fun _ => 0) 0 0 0 ++ wO ou co (fun _ => 0))) [7, 8, 9, 10, 11, 0, 1, 2, 3, 4, 5, 6] (by decide) rfl
  have hD := wD_same hD (w' := wM bd cb er8 yl yz yo yw yn yv ++ (wX ad ca xL xB xD xN xS xn xr xx ++ wO ou co fo9)) rfl
  refine lv_istore hx hb dL_law_736 hl (by decide) rfl (fun ls hl => ?_)
  have hl : lv_has ls 8 [(6, .int r8), (5, .int r9), (4, .int (iI j)), (3, .ref ou), (2, .ref (bd 0)), (1, .ref (ad 0)), (0, .ref b)] := hl
  simp only [XS, MS] at h8 h7
  obtain ⟨⟨hT9, hn9, hr9⟩, h8⟩ := h8
  subst hn9 hr9
  obtain ⟨⟨hM9, hn8, hv8⟩, h7⟩ := h7
  subst hn8 hv8
  rcases h8 with ⟨hc1, rfl, hv⟩ | ⟨hc1, rfl⟩
  · rcases h7 with ⟨hd1, rfl, rfl⟩ | ⟨hd1, rfl⟩
    · dsimp only at *
      try subst_vars
      have hP : va_P (dC, dI) vwCl (wM bd cb 0 yl yz yo yw (n : Int) ((r : Int) + 1) ++ (wX ad ca xL xB xD xN xS (n : Int) (r : Int) xx ++ wO ou co fo9)) H := hP
      have hl : lv_has ls 8 [(6, .int (iI ((la (gd L S r lo) (p1.toNat + 1) : Int) - 1))), (5, .int (iI 0)), (4, .int (iI j)), (3, .ref ou), (2, .ref (bd 0)), (1, .ref (ad 0)), (0, .ref b)] := hl
      refine lv_aload_n hx hb dL_law_738 rfl (lv_at hl 4 rfl) ?_
      have hPt := hP.sub (ws' := wM bd cb 0 yl yz yo yw (n : Int) ((r : Int) + 1)) [0, 1, 2, 3, 4] rfl
      have hDt := (wD_same hD (w' := wM bd cb 0 yl yz yo yw (n : Int) ((r : Int) + 1) ++ (wX ad ca xL xB xD xN xS (n : Int) (r : Int) xx ++ wO ou co fo9)) rfl).sub (ws' := wM bd cb 0 yl yz yo yw (n : Int) ((r : Int) + 1)) [0, 1, 2, 3, 4] (by decide) rfl
      refine ro_z (z := 0) (va_runV (As := []) (rest := []) ⟨hx, hb, hml, hown, hts⟩ (n_thrown l dC dI bd cb 0 yl yz yo yw ((n : Int)) (((r : Int) + 1))) (cwV 0 hts (gV wlL_70 wo_X1_thrown wz_X1_thrown wi_2 wcX1_thrown) rfl rfl rfl (by decide +kernel) ⟨Nat.le_of_ble_eq_true rfl, Nat.le_of_ble_eq_true rfl⟩) (PX_V (q0 := 0) (ci := 1) hPt hKc hDt rfl rfl) rfl rfl hl.1 rfl (lv_room (Nat.le_of_ble_eq_true rfl)) dL_law_739 ⟨by show kc + 2 + 0 + 0 ≤ 1049; omega, by show ks + 12 + 0 + 0 ≤ 10515; omega⟩) hS hP (fun H locs hP hS => ?_)
      refine lv_iload hx hb dL_law_742 (lv_at hl 1 rfl) ?_
      refine r_icmp_eq hx hb dL_law_744 (tgt := 749) (by decide) (by omega) (by omega) (fun he => ?_) (fun hne => ?_)
      · refine lv_iload hx hb dL_law_749 (lv_at hl 1 rfl) ?_
        refine r_if_ne hx hb dL_law_751 (tgt := 766) (by decide) (by omega) (fun hz => ?_) (fun hz => ?_)
        · exact absurd rfl hz
        · refine lv_aload_n hx hb dL_law_754 rfl (lv_at hl 3 rfl) ?_
          refine r_iconst hx hb dL_law_755 ?_
          refine r_lald hx hb hK9 hP 11 5 rfl rfl (by omega) (by omega) (by decide) dL_law_756 ?_
          refine r_top (w := .long ((iI ((la (gd L S r lo) (p1.toNat + 1) : Int) - 1)).toInt64)) (congrArg Value.long (hv)) ?_
          refine lv_iload hx hb dL_law_757 (lv_at hl 0 rfl) ?_
          refine lv_i2l hx hb dL_law_759 rfl ?_
          refine r_lcmp_eq hx hb dL_law_760 dL_law_761 (tgt := 766) (by decide) (fun hq => ?_) (fun hq => ?_)
          · refine lv_goto hx hb dL_law_766 (tgt := 880) (by decide) ?_
            have hl := lv_sub (l' := [(4, .int (iI j)), (3, .ref ou), (2, .ref (bd 0)), (1, .ref (ad 0)), (0, .ref b)]) hl [2, 3, 4, 5, 6] rfl
            have hPe := hP.sub (ws' := (wX ad ca xL xB xD xN xS (n : Int) (r : Int) xx ++ wO ou co fo9) ++ wM bd cb 0 yl yz yo yw (n : Int) ((r : Int) + 1)) [5, 6, 7, 8, 9, 10, 11, 0, 1, 2, 3, 4] rfl
            exact kk n r L S lo H locs ls ⟨xL, xB, xD, xN, xS, xx, fo9, 0, yl, yz, yo, yw, hok, hT9, hM9, hPe⟩ hS hl
          · exact absurd (rfl) hq
      · exact absurd rfl hne
    · exact (by omega : False).elim
  · rcases h7 with ⟨hd1, rfl, rfl⟩ | ⟨hd1, rfl⟩
    · exact (by omega : False).elim
    · dsimp only at *
      try subst_vars
      have hP : va_P (dC, dI) vwCl (wM bd cb 1 yl yz yo yw (n : Int) ((r : Int) + 1) ++ (wX ad ca xL xB xD xN xS (n : Int) (r : Int) xx ++ wO ou co fo9)) H := hP
      have hl : lv_has ls 8 [(6, .int r8), (5, .int (iI 1)), (4, .int (iI j)), (3, .ref ou), (2, .ref (bd 0)), (1, .ref (ad 0)), (0, .ref b)] := hl
      refine lv_aload_n hx hb dL_law_738 rfl (lv_at hl 4 rfl) ?_
      have hPt := hP.sub (ws' := wM bd cb 1 yl yz yo yw (n : Int) ((r : Int) + 1)) [0, 1, 2, 3, 4] rfl
      have hDt := (wD_same hD (w' := wM bd cb 1 yl yz yo yw (n : Int) ((r : Int) + 1) ++ (wX ad ca xL xB xD xN xS (n : Int) (r : Int) xx ++ wO ou co fo9)) rfl).sub (ws' := wM bd cb 1 yl yz yo yw (n : Int) ((r : Int) + 1)) [0, 1, 2, 3, 4] (by decide) rfl
      refine ro_z (z := 1) (va_runV (As := []) (rest := []) ⟨hx, hb, hml, hown, hts⟩ (n_thrown l dC dI bd cb 1 yl yz yo yw ((n : Int)) (((r : Int) + 1))) (cwV 0 hts (gV wlL_70 wo_X1_thrown wz_X1_thrown wi_2 wcX1_thrown) rfl rfl rfl (by decide +kernel) ⟨Nat.le_of_ble_eq_true rfl, Nat.le_of_ble_eq_true rfl⟩) (PX_V (q0 := 0) (ci := 1) hPt hKc hDt rfl rfl) rfl rfl hl.1 rfl (lv_room (Nat.le_of_ble_eq_true rfl)) dL_law_739 ⟨by show kc + 2 + 0 + 0 ≤ 1049; omega, by show ks + 12 + 0 + 0 ≤ 10515; omega⟩) hS hP (fun H locs hP hS => ?_)
      refine lv_iload hx hb dL_law_742 (lv_at hl 1 rfl) ?_
      refine r_icmp_eq hx hb dL_law_744 (tgt := 749) (by decide) (by omega) (by omega) (fun he => ?_) (fun hne => ?_)
      · refine lv_iload hx hb dL_law_749 (lv_at hl 1 rfl) ?_
        refine r_if_ne hx hb dL_law_751 (tgt := 766) (by decide) (by omega) (fun hz => ?_) (fun hz => ?_)
        · refine lv_goto hx hb dL_law_766 (tgt := 880) (by decide) ?_
          have hl := lv_sub (l' := [(4, .int (iI j)), (3, .ref ou), (2, .ref (bd 0)), (1, .ref (ad 0)), (0, .ref b)]) hl [2, 3, 4, 5, 6] rfl
          have hPe := hP.sub (ws' := (wX ad ca xL xB xD xN xS (n : Int) (r : Int) xx ++ wO ou co fo9) ++ wM bd cb 1 yl yz yo yw (n : Int) ((r : Int) + 1)) [5, 6, 7, 8, 9, 10, 11, 0, 1, 2, 3, 4] rfl
          exact kk n r L S lo H locs ls ⟨xL, xB, xD, xN, xS, xx, fo9, 1, yl, yz, yo, yw, hok, hT9, hM9, hPe⟩ hS hl
        · exact absurd hz (by decide)
      · exact absurd rfl hne
set_option maxHeartbeats 4000000 in
set_option maxRecDepth 100000 in
theorem k_count {p : Program} {l : Launch} {e : Env} {s : State} {m : MethodId} {below : List Frame} {meth : Method} {c : Code} {b Lz : Nat} {xs : Nat → Int32} {Q : State → Prop} {dC : Nat → ClassId} {dI : Nat → Nat → Nat} {ad : Nat → Nat} {ca : Nat → ClassId} {ou : Nat} {co : ClassId} {bd : Nat → Nat} {cb : Nat → ClassId} (C : LC p l s m c b Lz xs dC dI ad ca ou co bd cb) {n r : Nat} {L S : Nat → Nat} {lo : Nat → Bool} {H : Heap} {locs : List Loc} {kc ks : Nat} {ls : Array Slot} {j : Int} (hI : LI dC dI ad ca ou co bd cb n r L S lo H) (hS : va_S (fun q => s.heap.size ≤ q) s.heap H locs) (hl : lv_has ls 8 [(4, .int (iI j)), (3, .ref ou), (2, .ref (bd 0)), (1, .ref (ad 0)), (0, .ref b)]) (hj0 : 0 ≤ j) (hj : j + 2 < (Lz : Int)) (hc0 : kc + 2 ≤ 1049) (hs0 : ks + 12 ≤ 10515) (kk : ∀ (n r : Nat) (L S : Nat → Nat) (lo : Nat → Bool) (H : Heap) (locs : List Loc) (ls : Array Slot), LI dC dI ad ca ou co bd cb n r L S lo H → va_S (fun q => s.heap.size ≤ q) s.heap H locs → lv_has ls 8 [(4, .int (iI j)), (3, .ref ou), (2, .ref (bd 0)), (1, .ref (ad 0)), (0, .ref b)] → W p l e room_1 s m #[Value.ref b] below meth c H locs (kc + 2) (ks + 12) Q (F0 m 880 ls [])) : W p l e room_1 s m #[Value.ref b] below meth c H locs kc ks Q (F0 m 824 ls []) := by
  obtain ⟨hx, hb, hml, hown, hts, hX, hbl, hL9, hK, hE, hDz, hl9⟩ := C
  obtain ⟨gL, gB, gD, gN, gS, x, fo, er, gl, gz, go, gw, hok, hT, hM, hP⟩ := hI
  have hD := wD_same hDz (w' := (wX ad ca gL gB gD gN gS (n : Int) (r : Int) x ++ wO ou co fo) ++ wM bd cb er gl gz go gw (n : Int) ((r : Int) + 1)) rfl
  obtain ⟨p1, hp1, ep1⟩ := iI_of (xs (j + 1).toNat)
  obtain ⟨p2, hp2, ep2⟩ := iI_of (xs (j + 2).toNat)
  have hK9 := hK
  refine lv_aload_n hx hb dL_law_824 rfl (lv_at hl 3 rfl) ?_
  refine lv_aload_n hx hb dL_law_825 rfl (lv_at hl 4 rfl) ?_
  refine lv_iload hx hb dL_law_826 (lv_at hl 0 rfl) ?_
  refine r_iconst hx hb dL_law_828 ?_
  refine r_iadd hx hb dL_law_829 ?_
  refine r_sld hx hb hX hbl (Nat.not_le.mpr hbl) hS (by omega) (by omega) hL9 ep1 dL_law_830 ?_
  refine lv_aload_n hx hb dL_law_831 rfl (lv_at hl 1 rfl) ?_
  have hPx := hP.sub (ws' := (wX ad ca gL gB gD gN gS (n : Int) (r : Int) x ++ wO ou co fo)) [0, 1, 2, 3, 4, 5, 6] rfl
  have hDx := hD.sub (ws' := (wX ad ca gL gB gD gN gS (n : Int) (r : Int) x ++ wO ou co fo)) [0, 1, 2, 3, 4, 5, 6] (by decide) rfl
  have hKx := hK.sub (tys' := yXo ca co) [0, 1, 2, 3, 4, 5] rfl
  refine wc_i (vx_runSW (As := [.ref (ad 0), .int (iI p1), .ref ou]) (rest := []) ⟨hx, hb, hml, hown, hts⟩ (w_count l hl9 dC dI ad ca gL gB gD gN gS n r x L S lo hok hT ou co fo p1 hp1) (vx_cwSW 3 hts (gSt wlL_110 wt_L_count wi_0 wcL_count) rfl rfl rfl (by decide +kernel) ⟨Nat.le_of_ble_eq_true rfl, Nat.le_of_ble_eq_true rfl⟩) (PXe_S hPx hKx hDx hE hS.2.1 (wD_in hDx)) rfl rfl hl.1 rfl (lv_room (Nat.le_of_ble_eq_true rfl)) dL_law_832 ⟨hc0, hs0⟩) hS (wD_in hDx) (fun r9 u9 H1 locs h8 hP1 hS hk9 => ?_)
  have hP := wjoin hP hD hk9 hP1
  generalize H1 = H at hP hS ⊢
  obtain ⟨⟨⟨xL, xB, xD, xN, xS⟩, xn, xr, xx⟩, fo9⟩ := u9
  have hP : va_P (dC, dI) vwCl ((wX ad ca xL xB xD xN xS xn xr xx ++ wO ou co fo9) ++ wM bd cb er gl gz go gw (n : Int) ((r : Int) + 1)) H := hP
  have hD := wD_same hDz (w' := (wX ad ca xL xB xD xN xS xn xr xx ++ wO ou co fo9) ++ wM bd cb er gl gz go gw (n : Int) ((r : Int) + 1)) rfl
  refine lv_istore hx hb dL_law_835 hl (by decide) rfl (fun ls hl => ?_)
  have hl : lv_has ls 8 [(5, .int r9), (4, .int (iI j)), (3, .ref ou), (2, .ref (bd 0)), (1, .ref (ad 0)), (0, .ref b)] := hl
  refine lv_aload_n hx hb dL_law_837 rfl (lv_at hl 3 rfl) ?_
  refine lv_aload_n hx hb dL_law_838 rfl (lv_at hl 5 rfl) ?_
  refine lv_iload hx hb dL_law_839 (lv_at hl 1 rfl) ?_
  refine r_iconst hx hb dL_law_841 ?_
  refine r_iadd hx hb dL_law_842 ?_
  refine r_sld hx hb hX hbl (Nat.not_le.mpr hbl) hS (by omega) (by omega) hL9 ep1 dL_law_843 ?_
  have hPm := hP.sub (ws' := wM bd cb er gl gz go gw (n : Int) ((r : Int) + 1) ++ (wX ad ca xL xB xD xN xS xn xr xx ++ wO ou co fo9)) [7, 8, 9, 10, 11, 0, 1, 2, 3, 4, 5, 6] rfl
  have hDm := hD.sub (ws' := wM bd cb er gl gz go gw (n : Int) ((r : Int) + 1) ++ (wX ad ca xL xB xD xN xS xn xr xx ++ wO ou co fo9)) [7, 8, 9, 10, 11, 0, 1, 2, 3, 4, 5, 6] (by decide) rfl
  have hPc := hPm.sub (ws' := wM bd cb er gl gz go gw (n : Int) ((r : Int) + 1)) [0, 1, 2, 3, 4] rfl
  have hDc := hDm.sub (ws' := wM bd cb er gl gz go gw (n : Int) ((r : Int) + 1)) [0, 1, 2, 3, 4] (by decide) rfl
  have hKc := hK.sub (tys' := yM cb) [6, 7, 8, 9] rfl
  refine wc_i (va_runV (As := [.int (iI p1)]) (rest := []) ⟨hx, hb, hml, hown, hts⟩ (n_count l dC dI bd cb er gl gz go gw n r L S lo hok hM p1 hp1) (cwV 1 hts (gV wlL_112 wo_X1_count wz_X1_count wi_2 wcX1_count) rfl rfl rfl (by decide +kernel) ⟨Nat.le_of_ble_eq_true rfl, Nat.le_of_ble_eq_true rfl⟩) (PX_V (q0 := 0) (ci := 1) hPc hKc hDc rfl rfl) rfl rfl hl.1 rfl (lv_room (Nat.le_of_ble_eq_true rfl)) dL_law_844 ⟨by show kc + 2 + 0 ≤ 1049; omega, by show ks + 12 + 0 ≤ 10515; omega⟩) hS (wD_in hDc) (fun r8 u8 H1 locs h7 hP1 hS hk9 => ?_)
  have hP := wjoin hPm hDm hk9 hP1
  generalize H1 = H at hP hS ⊢
  obtain ⟨er8, yl, yz, yo, yw, yn, yv⟩ := u8
  have hP : va_P (dC, dI) vwCl (wM bd cb er8 yl yz yo yw yn yv ++ (wX ad ca xL xB xD xN xS xn xr xx ++ wO ou co fo9)) H := hP
  have hD := hDz.sub (ws' := wM bd cb 0 (fun _ => 0) (fun _ => 0) (fun _ => 0) (fun _ => 0) 0 0 ++ (wX ad ca (fun _ => 0) (fun _ => 0) (fun _ => 0) (fun _ => 0) (fun _ => 0) 0 0 0 ++ wO ou co (fun _ => 0))) [7, 8, 9, 10, 11, 0, 1, 2, 3, 4, 5, 6] (by decide) rfl
  have hD := wD_same hD (w' := wM bd cb er8 yl yz yo yw yn yv ++ (wX ad ca xL xB xD xN xS xn xr xx ++ wO ou co fo9)) rfl
  refine lv_istore hx hb dL_law_847 hl (by decide) rfl (fun ls hl => ?_)
  have hl : lv_has ls 8 [(6, .int r8), (5, .int r9), (4, .int (iI j)), (3, .ref ou), (2, .ref (bd 0)), (1, .ref (ad 0)), (0, .ref b)] := hl
  simp only [XS, MS] at h8 h7
  obtain ⟨⟨hT9, hn9, hr9⟩, h8⟩ := h8
  subst hn9 hr9
  obtain ⟨⟨hM9, hn8, hv8⟩, h7⟩ := h7
  subst hn8 hv8
  rcases h8 with ⟨hc1, rfl, hv⟩ | ⟨hc1, rfl⟩
  · rcases h7 with ⟨hd1, rfl, rfl⟩ | ⟨hd1, rfl⟩
    · dsimp only at *
      try subst_vars
      have hP : va_P (dC, dI) vwCl (wM bd cb 0 yl yz yo yw (n : Int) ((r : Int) + 1) ++ (wX ad ca xL xB xD xN xS (n : Int) (r : Int) xx ++ wO ou co fo9)) H := hP
      have hl : lv_has ls 8 [(6, .int (iI ((ct L S r n lo p1.toNat : Int)))), (5, .int (iI 0)), (4, .int (iI j)), (3, .ref ou), (2, .ref (bd 0)), (1, .ref (ad 0)), (0, .ref b)] := hl
      refine lv_aload_n hx hb dL_law_849 rfl (lv_at hl 4 rfl) ?_
      have hPt := hP.sub (ws' := wM bd cb 0 yl yz yo yw (n : Int) ((r : Int) + 1)) [0, 1, 2, 3, 4] rfl
      have hDt := (wD_same hD (w' := wM bd cb 0 yl yz yo yw (n : Int) ((r : Int) + 1) ++ (wX ad ca xL xB xD xN xS (n : Int) (r : Int) xx ++ wO ou co fo9)) rfl).sub (ws' := wM bd cb 0 yl yz yo yw (n : Int) ((r : Int) + 1)) [0, 1, 2, 3, 4] (by decide) rfl
      refine ro_z (z := 0) (va_runV (As := []) (rest := []) ⟨hx, hb, hml, hown, hts⟩ (n_thrown l dC dI bd cb 0 yl yz yo yw ((n : Int)) (((r : Int) + 1))) (cwV 0 hts (gV wlL_70 wo_X1_thrown wz_X1_thrown wi_2 wcX1_thrown) rfl rfl rfl (by decide +kernel) ⟨Nat.le_of_ble_eq_true rfl, Nat.le_of_ble_eq_true rfl⟩) (PX_V (q0 := 0) (ci := 1) hPt hKc hDt rfl rfl) rfl rfl hl.1 rfl (lv_room (Nat.le_of_ble_eq_true rfl)) dL_law_850 ⟨by show kc + 2 + 0 + 0 ≤ 1049; omega, by show ks + 12 + 0 + 0 ≤ 10515; omega⟩) hS hP (fun H locs hP hS => ?_)
      refine lv_iload hx hb dL_law_853 (lv_at hl 1 rfl) ?_
      refine r_icmp_eq hx hb dL_law_855 (tgt := 860) (by decide) (by omega) (by omega) (fun he => ?_) (fun hne => ?_)
      · refine lv_iload hx hb dL_law_860 (lv_at hl 1 rfl) ?_
        refine r_if_ne hx hb dL_law_862 (tgt := 877) (by decide) (by omega) (fun hz => ?_) (fun hz => ?_)
        · exact absurd rfl hz
        · refine lv_aload_n hx hb dL_law_865 rfl (lv_at hl 3 rfl) ?_
          refine r_iconst hx hb dL_law_866 ?_
          refine r_lald hx hb hK9 hP 11 5 rfl rfl (by omega) (by omega) (by decide) dL_law_867 ?_
          refine r_top (w := .long ((iI ((ct L S r n lo p1.toNat : Int))).toInt64)) (congrArg Value.long (hv)) ?_
          refine lv_iload hx hb dL_law_868 (lv_at hl 0 rfl) ?_
          refine lv_i2l hx hb dL_law_870 rfl ?_
          refine r_lcmp_eq hx hb dL_law_871 dL_law_872 (tgt := 877) (by decide) (fun hq => ?_) (fun hq => ?_)
          · refine lv_goto hx hb dL_law_877 (tgt := 880) (by decide) ?_
            have hl := lv_sub (l' := [(4, .int (iI j)), (3, .ref ou), (2, .ref (bd 0)), (1, .ref (ad 0)), (0, .ref b)]) hl [2, 3, 4, 5, 6] rfl
            have hPe := hP.sub (ws' := (wX ad ca xL xB xD xN xS (n : Int) (r : Int) xx ++ wO ou co fo9) ++ wM bd cb 0 yl yz yo yw (n : Int) ((r : Int) + 1)) [5, 6, 7, 8, 9, 10, 11, 0, 1, 2, 3, 4] rfl
            exact kk n r L S lo H locs ls ⟨xL, xB, xD, xN, xS, xx, fo9, 0, yl, yz, yo, yw, hok, hT9, hM9, hPe⟩ hS hl
          · exact absurd (rfl) hq
      · exact absurd rfl hne
    · exact (by omega : False).elim
  · rcases h7 with ⟨hd1, rfl, rfl⟩ | ⟨hd1, rfl⟩
    · exact (by omega : False).elim
    · dsimp only at *
      try subst_vars
      have hP : va_P (dC, dI) vwCl (wM bd cb 1 yl yz yo yw (n : Int) ((r : Int) + 1) ++ (wX ad ca xL xB xD xN xS (n : Int) (r : Int) xx ++ wO ou co fo9)) H := hP
      have hl : lv_has ls 8 [(6, .int r8), (5, .int (iI 1)), (4, .int (iI j)), (3, .ref ou), (2, .ref (bd 0)), (1, .ref (ad 0)), (0, .ref b)] := hl
      refine lv_aload_n hx hb dL_law_849 rfl (lv_at hl 4 rfl) ?_
      have hPt := hP.sub (ws' := wM bd cb 1 yl yz yo yw (n : Int) ((r : Int) + 1)) [0, 1, 2, 3, 4] rfl
      have hDt := (wD_same hD (w' := wM bd cb 1 yl yz yo yw (n : Int) ((r : Int) + 1) ++ (wX ad ca xL xB xD xN xS (n : Int) (r : Int) xx ++ wO ou co fo9)) rfl).sub (ws' := wM bd cb 1 yl yz yo yw (n : Int) ((r : Int) + 1)) [0, 1, 2, 3, 4] (by decide) rfl
      refine ro_z (z := 1) (va_runV (As := []) (rest := []) ⟨hx, hb, hml, hown, hts⟩ (n_thrown l dC dI bd cb 1 yl yz yo yw ((n : Int)) (((r : Int) + 1))) (cwV 0 hts (gV wlL_70 wo_X1_thrown wz_X1_thrown wi_2 wcX1_thrown) rfl rfl rfl (by decide +kernel) ⟨Nat.le_of_ble_eq_true rfl, Nat.le_of_ble_eq_true rfl⟩) (PX_V (q0 := 0) (ci := 1) hPt hKc hDt rfl rfl) rfl rfl hl.1 rfl (lv_room (Nat.le_of_ble_eq_true rfl)) dL_law_850 ⟨by show kc + 2 + 0 + 0 ≤ 1049; omega, by show ks + 12 + 0 + 0 ≤ 10515; omega⟩) hS hP (fun H locs hP hS => ?_)
      refine lv_iload hx hb dL_law_853 (lv_at hl 1 rfl) ?_
      refine r_icmp_eq hx hb dL_law_855 (tgt := 860) (by decide) (by omega) (by omega) (fun he => ?_) (fun hne => ?_)
      · refine lv_iload hx hb dL_law_860 (lv_at hl 1 rfl) ?_
        refine r_if_ne hx hb dL_law_862 (tgt := 877) (by decide) (by omega) (fun hz => ?_) (fun hz => ?_)
        · refine lv_goto hx hb dL_law_877 (tgt := 880) (by decide) ?_
          have hl := lv_sub (l' := [(4, .int (iI j)), (3, .ref ou), (2, .ref (bd 0)), (1, .ref (ad 0)), (0, .ref b)]) hl [2, 3, 4, 5, 6] rfl
          have hPe := hP.sub (ws' := (wX ad ca xL xB xD xN xS (n : Int) (r : Int) xx ++ wO ou co fo9) ++ wM bd cb 1 yl yz yo yw (n : Int) ((r : Int) + 1)) [5, 6, 7, 8, 9, 10, 11, 0, 1, 2, 3, 4] rfl
          exact kk n r L S lo H locs ls ⟨xL, xB, xD, xN, xS, xx, fo9, 1, yl, yz, yo, yw, hok, hT9, hM9, hPe⟩ hS hl
        · exact absurd hz (by decide)
      · exact absurd rfl hne
set_option maxHeartbeats 4000000 in
set_option maxRecDepth 100000 in
theorem k_needs {p : Program} {l : Launch} {e : Env} {s : State} {m : MethodId} {below : List Frame} {meth : Method} {c : Code} {b Lz : Nat} {xs : Nat → Int32} {Q : State → Prop} {dC : Nat → ClassId} {dI : Nat → Nat → Nat} {ad : Nat → Nat} {ca : Nat → ClassId} {ou : Nat} {co : ClassId} {bd : Nat → Nat} {cb : Nat → ClassId} (C : LC p l s m c b Lz xs dC dI ad ca ou co bd cb) {n r : Nat} {L S : Nat → Nat} {lo : Nat → Bool} {H : Heap} {locs : List Loc} {kc ks : Nat} {ls : Array Slot} {j : Int} (hI : LI dC dI ad ca ou co bd cb n r L S lo H) (hS : va_S (fun q => s.heap.size ≤ q) s.heap H locs) (hl : lv_has ls 8 [(4, .int (iI j)), (3, .ref ou), (2, .ref (bd 0)), (1, .ref (ad 0)), (0, .ref b)]) (hj0 : 0 ≤ j) (hj : j + 2 < (Lz : Int)) (hc0 : kc + 2 ≤ 1049) (hs0 : ks + 12 ≤ 10515) (kk : ∀ (n r : Nat) (L S : Nat → Nat) (lo : Nat → Bool) (H : Heap) (locs : List Loc) (ls : Array Slot), LI dC dI ad ca ou co bd cb n r L S lo H → va_S (fun q => s.heap.size ≤ q) s.heap H locs → lv_has ls 8 [(4, .int (iI j)), (3, .ref ou), (2, .ref (bd 0)), (1, .ref (ad 0)), (0, .ref b)] → W p l e room_1 s m #[Value.ref b] below meth c H locs (kc + 2) (ks + 12) Q (F0 m 880 ls [])) : W p l e room_1 s m #[Value.ref b] below meth c H locs kc ks Q (F0 m 504 ls []) := by
  obtain ⟨hx, hb, hml, hown, hts, hX, hbl, hL9, hK, hE, hDz, hl9⟩ := C
  obtain ⟨gL, gB, gD, gN, gS, x, fo, er, gl, gz, go, gw, hok, hT, hM, hP⟩ := hI
  have hD := wD_same hDz (w' := (wX ad ca gL gB gD gN gS (n : Int) (r : Int) x ++ wO ou co fo) ++ wM bd cb er gl gz go gw (n : Int) ((r : Int) + 1)) rfl
  obtain ⟨p1, hp1, ep1⟩ := iI_of (xs (j + 1).toNat)
  obtain ⟨p2, hp2, ep2⟩ := iI_of (xs (j + 2).toNat)
  have hK9 := hK
  refine lv_aload_n hx hb dL_law_504 rfl (lv_at hl 3 rfl) ?_
  refine lv_aload_n hx hb dL_law_505 rfl (lv_at hl 4 rfl) ?_
  refine lv_iload hx hb dL_law_506 (lv_at hl 0 rfl) ?_
  refine r_iconst hx hb dL_law_508 ?_
  refine r_iadd hx hb dL_law_509 ?_
  refine r_sld hx hb hX hbl (Nat.not_le.mpr hbl) hS (by omega) (by omega) hL9 ep1 dL_law_510 ?_
  refine lv_aload_n hx hb dL_law_511 rfl (lv_at hl 1 rfl) ?_
  have hPx := hP.sub (ws' := (wX ad ca gL gB gD gN gS (n : Int) (r : Int) x ++ wO ou co fo)) [0, 1, 2, 3, 4, 5, 6] rfl
  have hDx := hD.sub (ws' := (wX ad ca gL gB gD gN gS (n : Int) (r : Int) x ++ wO ou co fo)) [0, 1, 2, 3, 4, 5, 6] (by decide) rfl
  have hKx := hK.sub (tys' := yXo ca co) [0, 1, 2, 3, 4, 5] rfl
  refine wc_i (vx_runSW (As := [.ref (ad 0), .int (iI p1), .ref ou]) (rest := []) ⟨hx, hb, hml, hown, hts⟩ (w_needs l hl9 dC dI ad ca gL gB gD gN gS n r x L S lo hok hT ou co fo p1 hp1) (vx_cwSW 3 hts (gSt wlL_94 wt_L_needs wi_0 wcL_needs) rfl rfl rfl (by decide +kernel) ⟨Nat.le_of_ble_eq_true rfl, Nat.le_of_ble_eq_true rfl⟩) (PXe_S hPx hKx hDx hE hS.2.1 (wD_in hDx)) rfl rfl hl.1 rfl (lv_room (Nat.le_of_ble_eq_true rfl)) dL_law_512 ⟨hc0, hs0⟩) hS (wD_in hDx) (fun r9 u9 H1 locs h8 hP1 hS hk9 => ?_)
  have hP := wjoin hP hD hk9 hP1
  generalize H1 = H at hP hS ⊢
  obtain ⟨⟨⟨xL, xB, xD, xN, xS⟩, xn, xr, xx⟩, fo9⟩ := u9
  have hP : va_P (dC, dI) vwCl ((wX ad ca xL xB xD xN xS xn xr xx ++ wO ou co fo9) ++ wM bd cb er gl gz go gw (n : Int) ((r : Int) + 1)) H := hP
  have hD := wD_same hDz (w' := (wX ad ca xL xB xD xN xS xn xr xx ++ wO ou co fo9) ++ wM bd cb er gl gz go gw (n : Int) ((r : Int) + 1)) rfl
  refine lv_istore hx hb dL_law_515 hl (by decide) rfl (fun ls hl => ?_)
  have hl : lv_has ls 8 [(5, .int r9), (4, .int (iI j)), (3, .ref ou), (2, .ref (bd 0)), (1, .ref (ad 0)), (0, .ref b)] := hl
  refine lv_aload_n hx hb dL_law_517 rfl (lv_at hl 3 rfl) ?_
  refine lv_aload_n hx hb dL_law_518 rfl (lv_at hl 5 rfl) ?_
  refine lv_iload hx hb dL_law_519 (lv_at hl 1 rfl) ?_
  refine r_iconst hx hb dL_law_521 ?_
  refine r_iadd hx hb dL_law_522 ?_
  refine r_sld hx hb hX hbl (Nat.not_le.mpr hbl) hS (by omega) (by omega) hL9 ep1 dL_law_523 ?_
  have hPm := hP.sub (ws' := wM bd cb er gl gz go gw (n : Int) ((r : Int) + 1) ++ (wX ad ca xL xB xD xN xS xn xr xx ++ wO ou co fo9)) [7, 8, 9, 10, 11, 0, 1, 2, 3, 4, 5, 6] rfl
  have hDm := hD.sub (ws' := wM bd cb er gl gz go gw (n : Int) ((r : Int) + 1) ++ (wX ad ca xL xB xD xN xS xn xr xx ++ wO ou co fo9)) [7, 8, 9, 10, 11, 0, 1, 2, 3, 4, 5, 6] (by decide) rfl
  have hPc := hPm.sub (ws' := wM bd cb er gl gz go gw (n : Int) ((r : Int) + 1)) [0, 1, 2, 3, 4] rfl
  have hDc := hDm.sub (ws' := wM bd cb er gl gz go gw (n : Int) ((r : Int) + 1)) [0, 1, 2, 3, 4] (by decide) rfl
  have hKc := hK.sub (tys' := yM cb) [6, 7, 8, 9] rfl
  refine wc_l (va_runV (As := [.int (iI p1)]) (rest := []) ⟨hx, hb, hml, hown, hts⟩ (n_needs l dC dI bd cb er gl gz go gw n r L S lo hok hM p1 hp1) (cwV 1 hts (gV wlL_96 wo_X1_needs wz_X1_needs wi_2 wcX1_needs) rfl rfl rfl (by decide +kernel) ⟨Nat.le_of_ble_eq_true rfl, Nat.le_of_ble_eq_true rfl⟩) (PX_V (q0 := 0) (ci := 1) hPc hKc hDc rfl rfl) rfl rfl hl.1 rfl (lv_room (Nat.le_of_ble_eq_true rfl)) dL_law_524 ⟨by show kc + 2 + 0 ≤ 1049; omega, by show ks + 12 + 0 ≤ 10515; omega⟩) hS (wD_in hDc) (fun r8 u8 H1 locs h7 hP1 hS hk9 => ?_)
  have hP := wjoin hPm hDm hk9 hP1
  generalize H1 = H at hP hS ⊢
  obtain ⟨er8, yl, yz, yo, yw, yn, yv⟩ := u8
  have hP : va_P (dC, dI) vwCl (wM bd cb er8 yl yz yo yw yn yv ++ (wX ad ca xL xB xD xN xS xn xr xx ++ wO ou co fo9)) H := hP
  have hD := hDz.sub (ws' := wM bd cb 0 (fun _ => 0) (fun _ => 0) (fun _ => 0) (fun _ => 0) 0 0 ++ (wX ad ca (fun _ => 0) (fun _ => 0) (fun _ => 0) (fun _ => 0) (fun _ => 0) 0 0 0 ++ wO ou co (fun _ => 0))) [7, 8, 9, 10, 11, 0, 1, 2, 3, 4, 5, 6] (by decide) rfl
  have hD := wD_same hD (w' := wM bd cb er8 yl yz yo yw yn yv ++ (wX ad ca xL xB xD xN xS xn xr xx ++ wO ou co fo9)) rfl
  refine lv_lstore hx hb dL_law_527 hl (by decide) rfl (fun ls hl => ?_)
  have hl : lv_has ls 8 [(6, .long r8), (5, .int r9), (4, .int (iI j)), (3, .ref ou), (2, .ref (bd 0)), (1, .ref (ad 0)), (0, .ref b)] := hl
  simp only [XS, MS] at h8 h7
  obtain ⟨⟨hT9, hn9, hr9⟩, h8⟩ := h8
  subst hn9 hr9
  obtain ⟨⟨hM9, hn8, hv8⟩, h7⟩ := h7
  subst hn8 hv8
  rcases h8 with ⟨hc1, rfl, hv⟩ | ⟨hc1, rfl⟩
  · rcases h7 with ⟨hd1, rfl, hm⟩ | ⟨hd1, rfl⟩
    · dsimp only at *
      try subst_vars
      have hP : va_P (dC, dI) vwCl (wM bd cb 0 yl yz yo yw (n : Int) ((r : Int) + 1) ++ (wX ad ca xL xB xD xN xS (n : Int) (r : Int) xx ++ wO ou co fo9)) H := hP
      have hl : lv_has ls 8 [(6, .long r8), (5, .int (iI 0)), (4, .int (iI j)), (3, .ref ou), (2, .ref (bd 0)), (1, .ref (ad 0)), (0, .ref b)] := hl
      refine lv_aload_n hx hb dL_law_529 rfl (lv_at hl 4 rfl) ?_
      have hPt := hP.sub (ws' := wM bd cb 0 yl yz yo yw (n : Int) ((r : Int) + 1)) [0, 1, 2, 3, 4] rfl
      have hDt := (wD_same hD (w' := wM bd cb 0 yl yz yo yw (n : Int) ((r : Int) + 1) ++ (wX ad ca xL xB xD xN xS (n : Int) (r : Int) xx ++ wO ou co fo9)) rfl).sub (ws' := wM bd cb 0 yl yz yo yw (n : Int) ((r : Int) + 1)) [0, 1, 2, 3, 4] (by decide) rfl
      refine ro_z (z := 0) (va_runV (As := []) (rest := []) ⟨hx, hb, hml, hown, hts⟩ (n_thrown l dC dI bd cb 0 yl yz yo yw ((n : Int)) (((r : Int) + 1))) (cwV 0 hts (gV wlL_70 wo_X1_thrown wz_X1_thrown wi_2 wcX1_thrown) rfl rfl rfl (by decide +kernel) ⟨Nat.le_of_ble_eq_true rfl, Nat.le_of_ble_eq_true rfl⟩) (PX_V (q0 := 0) (ci := 1) hPt hKc hDt rfl rfl) rfl rfl hl.1 rfl (lv_room (Nat.le_of_ble_eq_true rfl)) dL_law_530 ⟨by show kc + 2 + 0 + 0 ≤ 1049; omega, by show ks + 12 + 0 + 0 ≤ 10515; omega⟩) hS hP (fun H locs hP hS => ?_)
      refine lv_iload hx hb dL_law_533 (lv_at hl 1 rfl) ?_
      refine r_icmp_eq hx hb dL_law_535 (tgt := 540) (by decide) (by omega) (by omega) (fun he => ?_) (fun hne => ?_)
      · refine lv_iload hx hb dL_law_540 (lv_at hl 1 rfl) ?_
        refine r_if_ne hx hb dL_law_542 (tgt := 556) (by decide) (by omega) (fun hz => ?_) (fun hz => ?_)
        · exact absurd rfl hz
        · refine lv_aload_n hx hb dL_law_545 rfl (lv_at hl 3 rfl) ?_
          refine r_iconst hx hb dL_law_546 ?_
          refine r_lald hx hb hK9 hP 11 5 rfl rfl (by omega) (by omega) (by decide) dL_law_547 ?_
          refine r_top (w := .long (fo9 0)) (congrArg Value.long (rfl)) ?_
          refine lv_lload hx hb dL_law_548 (lv_at hl 0 rfl) ?_
          refine r_lcmp_eq hx hb dL_law_550 dL_law_551 (tgt := 556) (by decide) (fun hq => ?_) (fun hq => ?_)
          · refine lv_goto hx hb dL_law_556 (tgt := 880) (by decide) ?_
            have hl := lv_sub (l' := [(4, .int (iI j)), (3, .ref ou), (2, .ref (bd 0)), (1, .ref (ad 0)), (0, .ref b)]) hl [2, 3, 4, 5, 6] rfl
            have hPe := hP.sub (ws' := (wX ad ca xL xB xD xN xS (n : Int) (r : Int) xx ++ wO ou co fo9) ++ wM bd cb 0 yl yz yo yw (n : Int) ((r : Int) + 1)) [5, 6, 7, 8, 9, 10, 11, 0, 1, 2, 3, 4] rfl
            exact kk n r L S lo H locs ls ⟨xL, xB, xD, xN, xS, xx, fo9, 0, yl, yz, yo, yw, hok, hT9, hM9, hPe⟩ hS hl
          · exact absurd (bL_ext (fun v hv9 => (hv v hv9).trans (hm v hv9).symm)) hq
      · exact absurd rfl hne
    · exact (by omega : False).elim
  · rcases h7 with ⟨hd1, rfl, hm⟩ | ⟨hd1, rfl⟩
    · exact (by omega : False).elim
    · dsimp only at *
      try subst_vars
      have hP : va_P (dC, dI) vwCl (wM bd cb 1 yl yz yo yw (n : Int) ((r : Int) + 1) ++ (wX ad ca xL xB xD xN xS (n : Int) (r : Int) xx ++ wO ou co fo9)) H := hP
      have hl : lv_has ls 8 [(6, .long r8), (5, .int (iI 1)), (4, .int (iI j)), (3, .ref ou), (2, .ref (bd 0)), (1, .ref (ad 0)), (0, .ref b)] := hl
      refine lv_aload_n hx hb dL_law_529 rfl (lv_at hl 4 rfl) ?_
      have hPt := hP.sub (ws' := wM bd cb 1 yl yz yo yw (n : Int) ((r : Int) + 1)) [0, 1, 2, 3, 4] rfl
      have hDt := (wD_same hD (w' := wM bd cb 1 yl yz yo yw (n : Int) ((r : Int) + 1) ++ (wX ad ca xL xB xD xN xS (n : Int) (r : Int) xx ++ wO ou co fo9)) rfl).sub (ws' := wM bd cb 1 yl yz yo yw (n : Int) ((r : Int) + 1)) [0, 1, 2, 3, 4] (by decide) rfl
      refine ro_z (z := 1) (va_runV (As := []) (rest := []) ⟨hx, hb, hml, hown, hts⟩ (n_thrown l dC dI bd cb 1 yl yz yo yw ((n : Int)) (((r : Int) + 1))) (cwV 0 hts (gV wlL_70 wo_X1_thrown wz_X1_thrown wi_2 wcX1_thrown) rfl rfl rfl (by decide +kernel) ⟨Nat.le_of_ble_eq_true rfl, Nat.le_of_ble_eq_true rfl⟩) (PX_V (q0 := 0) (ci := 1) hPt hKc hDt rfl rfl) rfl rfl hl.1 rfl (lv_room (Nat.le_of_ble_eq_true rfl)) dL_law_530 ⟨by show kc + 2 + 0 + 0 ≤ 1049; omega, by show ks + 12 + 0 + 0 ≤ 10515; omega⟩) hS hP (fun H locs hP hS => ?_)
      refine lv_iload hx hb dL_law_533 (lv_at hl 1 rfl) ?_
      refine r_icmp_eq hx hb dL_law_535 (tgt := 540) (by decide) (by omega) (by omega) (fun he => ?_) (fun hne => ?_)
      · refine lv_iload hx hb dL_law_540 (lv_at hl 1 rfl) ?_
        refine r_if_ne hx hb dL_law_542 (tgt := 556) (by decide) (by omega) (fun hz => ?_) (fun hz => ?_)
        · refine lv_goto hx hb dL_law_556 (tgt := 880) (by decide) ?_
          have hl := lv_sub (l' := [(4, .int (iI j)), (3, .ref ou), (2, .ref (bd 0)), (1, .ref (ad 0)), (0, .ref b)]) hl [2, 3, 4, 5, 6] rfl
          have hPe := hP.sub (ws' := (wX ad ca xL xB xD xN xS (n : Int) (r : Int) xx ++ wO ou co fo9) ++ wM bd cb 1 yl yz yo yw (n : Int) ((r : Int) + 1)) [5, 6, 7, 8, 9, 10, 11, 0, 1, 2, 3, 4] rfl
          exact kk n r L S lo H locs ls ⟨xL, xB, xD, xN, xS, xx, fo9, 1, yl, yz, yo, yw, hok, hT9, hM9, hPe⟩ hS hl
        · exact absurd hz (by decide)
      · exact absurd rfl hne
set_option maxHeartbeats 4000000 in
set_option maxRecDepth 100000 in
theorem k_spare {p : Program} {l : Launch} {e : Env} {s : State} {m : MethodId} {below : List Frame} {meth : Method} {c : Code} {b Lz : Nat} {xs : Nat → Int32} {Q : State → Prop} {dC : Nat → ClassId} {dI : Nat → Nat → Nat} {ad : Nat → Nat} {ca : Nat → ClassId} {ou : Nat} {co : ClassId} {bd : Nat → Nat} {cb : Nat → ClassId} (C : LC p l s m c b Lz xs dC dI ad ca ou co bd cb) {n r : Nat} {L S : Nat → Nat} {lo : Nat → Bool} {H : Heap} {locs : List Loc} {kc ks : Nat} {ls : Array Slot} {j : Int} (hI : LI dC dI ad ca ou co bd cb n r L S lo H) (hS : va_S (fun q => s.heap.size ≤ q) s.heap H locs) (hl : lv_has ls 8 [(4, .int (iI j)), (3, .ref ou), (2, .ref (bd 0)), (1, .ref (ad 0)), (0, .ref b)]) (hj0 : 0 ≤ j) (hj : j + 2 < (Lz : Int)) (hc0 : kc + 2 ≤ 1049) (hs0 : ks + 12 ≤ 10515) (kk : ∀ (n r : Nat) (L S : Nat → Nat) (lo : Nat → Bool) (H : Heap) (locs : List Loc) (ls : Array Slot), LI dC dI ad ca ou co bd cb n r L S lo H → va_S (fun q => s.heap.size ≤ q) s.heap H locs → lv_has ls 8 [(4, .int (iI j)), (3, .ref ou), (2, .ref (bd 0)), (1, .ref (ad 0)), (0, .ref b)] → W p l e room_1 s m #[Value.ref b] below meth c H locs (kc + 2) (ks + 12) Q (F0 m 880 ls [])) : W p l e room_1 s m #[Value.ref b] below meth c H locs kc ks Q (F0 m 769 ls []) := by
  obtain ⟨hx, hb, hml, hown, hts, hX, hbl, hL9, hK, hE, hDz, hl9⟩ := C
  obtain ⟨gL, gB, gD, gN, gS, x, fo, er, gl, gz, go, gw, hok, hT, hM, hP⟩ := hI
  have hD := wD_same hDz (w' := (wX ad ca gL gB gD gN gS (n : Int) (r : Int) x ++ wO ou co fo) ++ wM bd cb er gl gz go gw (n : Int) ((r : Int) + 1)) rfl
  obtain ⟨p1, hp1, ep1⟩ := iI_of (xs (j + 1).toNat)
  obtain ⟨p2, hp2, ep2⟩ := iI_of (xs (j + 2).toNat)
  have hK9 := hK
  refine lv_aload_n hx hb dL_law_769 rfl (lv_at hl 3 rfl) ?_
  refine lv_aload_n hx hb dL_law_770 rfl (lv_at hl 4 rfl) ?_
  refine lv_iload hx hb dL_law_771 (lv_at hl 0 rfl) ?_
  refine r_iconst hx hb dL_law_773 ?_
  refine r_iadd hx hb dL_law_774 ?_
  refine r_sld hx hb hX hbl (Nat.not_le.mpr hbl) hS (by omega) (by omega) hL9 ep1 dL_law_775 ?_
  refine lv_aload_n hx hb dL_law_776 rfl (lv_at hl 1 rfl) ?_
  have hPx := hP.sub (ws' := (wX ad ca gL gB gD gN gS (n : Int) (r : Int) x ++ wO ou co fo)) [0, 1, 2, 3, 4, 5, 6] rfl
  have hDx := hD.sub (ws' := (wX ad ca gL gB gD gN gS (n : Int) (r : Int) x ++ wO ou co fo)) [0, 1, 2, 3, 4, 5, 6] (by decide) rfl
  have hKx := hK.sub (tys' := yXo ca co) [0, 1, 2, 3, 4, 5] rfl
  refine wc_i (vx_runSW (As := [.ref (ad 0), .int (iI p1), .ref ou]) (rest := []) ⟨hx, hb, hml, hown, hts⟩ (w_spare l hl9 dC dI ad ca gL gB gD gN gS n r x L S lo hok hT ou co fo p1 hp1) (vx_cwSW 3 hts (gSt wlL_107 wt_L_spare wi_0 wcL_spare) rfl rfl rfl (by decide +kernel) ⟨Nat.le_of_ble_eq_true rfl, Nat.le_of_ble_eq_true rfl⟩) (PXe_S hPx hKx hDx hE hS.2.1 (wD_in hDx)) rfl rfl hl.1 rfl (lv_room (Nat.le_of_ble_eq_true rfl)) dL_law_777 ⟨hc0, hs0⟩) hS (wD_in hDx) (fun r9 u9 H1 locs h8 hP1 hS hk9 => ?_)
  have hP := wjoin hP hD hk9 hP1
  generalize H1 = H at hP hS ⊢
  obtain ⟨⟨⟨xL, xB, xD, xN, xS⟩, xn, xr, xx⟩, fo9⟩ := u9
  have hP : va_P (dC, dI) vwCl ((wX ad ca xL xB xD xN xS xn xr xx ++ wO ou co fo9) ++ wM bd cb er gl gz go gw (n : Int) ((r : Int) + 1)) H := hP
  have hD := wD_same hDz (w' := (wX ad ca xL xB xD xN xS xn xr xx ++ wO ou co fo9) ++ wM bd cb er gl gz go gw (n : Int) ((r : Int) + 1)) rfl
  refine lv_istore hx hb dL_law_780 hl (by decide) rfl (fun ls hl => ?_)
  have hl : lv_has ls 8 [(5, .int r9), (4, .int (iI j)), (3, .ref ou), (2, .ref (bd 0)), (1, .ref (ad 0)), (0, .ref b)] := hl
  refine lv_aload_n hx hb dL_law_782 rfl (lv_at hl 3 rfl) ?_
  refine lv_aload_n hx hb dL_law_783 rfl (lv_at hl 5 rfl) ?_
  refine lv_iload hx hb dL_law_784 (lv_at hl 1 rfl) ?_
  refine r_iconst hx hb dL_law_786 ?_
  refine r_iadd hx hb dL_law_787 ?_
  refine r_sld hx hb hX hbl (Nat.not_le.mpr hbl) hS (by omega) (by omega) hL9 ep1 dL_law_788 ?_
  have hPm := hP.sub (ws' := wM bd cb er gl gz go gw (n : Int) ((r : Int) + 1) ++ (wX ad ca xL xB xD xN xS xn xr xx ++ wO ou co fo9)) [7, 8, 9, 10, 11, 0, 1, 2, 3, 4, 5, 6] rfl
  have hDm := hD.sub (ws' := wM bd cb er gl gz go gw (n : Int) ((r : Int) + 1) ++ (wX ad ca xL xB xD xN xS xn xr xx ++ wO ou co fo9)) [7, 8, 9, 10, 11, 0, 1, 2, 3, 4, 5, 6] (by decide) rfl
  have hPc := hPm.sub (ws' := wM bd cb er gl gz go gw (n : Int) ((r : Int) + 1)) [0, 1, 2, 3, 4] rfl
  have hDc := hDm.sub (ws' := wM bd cb er gl gz go gw (n : Int) ((r : Int) + 1)) [0, 1, 2, 3, 4] (by decide) rfl
  have hKc := hK.sub (tys' := yM cb) [6, 7, 8, 9] rfl
  refine wc_l (va_runV (As := [.int (iI p1)]) (rest := []) ⟨hx, hb, hml, hown, hts⟩ (n_spare l dC dI bd cb er gl gz go gw n r L S lo hok hM p1 hp1) (cwV 1 hts (gV wlL_109 wo_X1_spare wz_X1_spare wi_2 wcX1_spare) rfl rfl rfl (by decide +kernel) ⟨Nat.le_of_ble_eq_true rfl, Nat.le_of_ble_eq_true rfl⟩) (PX_V (q0 := 0) (ci := 1) hPc hKc hDc rfl rfl) rfl rfl hl.1 rfl (lv_room (Nat.le_of_ble_eq_true rfl)) dL_law_789 ⟨by show kc + 2 + 0 ≤ 1049; omega, by show ks + 12 + 0 ≤ 10515; omega⟩) hS (wD_in hDc) (fun r8 u8 H1 locs h7 hP1 hS hk9 => ?_)
  have hP := wjoin hPm hDm hk9 hP1
  generalize H1 = H at hP hS ⊢
  obtain ⟨er8, yl, yz, yo, yw, yn, yv⟩ := u8
  have hP : va_P (dC, dI) vwCl (wM bd cb er8 yl yz yo yw yn yv ++ (wX ad ca xL xB xD xN xS xn xr xx ++ wO ou co fo9)) H := hP
  have hD := hDz.sub (ws' := wM bd cb 0 (fun _ => 0) (fun _ => 0) (fun _ => 0) (fun _ => 0) 0 0 ++ (wX ad ca (fun _ => 0) (fun _ => 0) (fun _ => 0) (fun _ => 0) (fun _ => 0) 0 0 0 ++ wO ou co (fun _ => 0))) [7, 8, 9, 10, 11, 0, 1, 2, 3, 4, 5, 6] (by decide) rfl
  have hD := wD_same hD (w' := wM bd cb er8 yl yz yo yw yn yv ++ (wX ad ca xL xB xD xN xS xn xr xx ++ wO ou co fo9)) rfl
  refine lv_lstore hx hb dL_law_792 hl (by decide) rfl (fun ls hl => ?_)
  have hl : lv_has ls 8 [(6, .long r8), (5, .int r9), (4, .int (iI j)), (3, .ref ou), (2, .ref (bd 0)), (1, .ref (ad 0)), (0, .ref b)] := hl
  simp only [XS, MS] at h8 h7
  obtain ⟨⟨hT9, hn9, hr9⟩, h8⟩ := h8
  subst hn9 hr9
  obtain ⟨⟨hM9, hn8, hv8⟩, h7⟩ := h7
  subst hn8 hv8
  rcases h8 with ⟨hc1, rfl, hv⟩ | ⟨hc1, rfl⟩
  · rcases h7 with ⟨hd1, rfl, hm⟩ | ⟨hd1, rfl⟩
    · dsimp only at *
      try subst_vars
      have hP : va_P (dC, dI) vwCl (wM bd cb 0 yl yz yo yw (n : Int) ((r : Int) + 1) ++ (wX ad ca xL xB xD xN xS (n : Int) (r : Int) xx ++ wO ou co fo9)) H := hP
      have hl : lv_has ls 8 [(6, .long r8), (5, .int (iI 0)), (4, .int (iI j)), (3, .ref ou), (2, .ref (bd 0)), (1, .ref (ad 0)), (0, .ref b)] := hl
      refine lv_aload_n hx hb dL_law_794 rfl (lv_at hl 4 rfl) ?_
      have hPt := hP.sub (ws' := wM bd cb 0 yl yz yo yw (n : Int) ((r : Int) + 1)) [0, 1, 2, 3, 4] rfl
      have hDt := (wD_same hD (w' := wM bd cb 0 yl yz yo yw (n : Int) ((r : Int) + 1) ++ (wX ad ca xL xB xD xN xS (n : Int) (r : Int) xx ++ wO ou co fo9)) rfl).sub (ws' := wM bd cb 0 yl yz yo yw (n : Int) ((r : Int) + 1)) [0, 1, 2, 3, 4] (by decide) rfl
      refine ro_z (z := 0) (va_runV (As := []) (rest := []) ⟨hx, hb, hml, hown, hts⟩ (n_thrown l dC dI bd cb 0 yl yz yo yw ((n : Int)) (((r : Int) + 1))) (cwV 0 hts (gV wlL_70 wo_X1_thrown wz_X1_thrown wi_2 wcX1_thrown) rfl rfl rfl (by decide +kernel) ⟨Nat.le_of_ble_eq_true rfl, Nat.le_of_ble_eq_true rfl⟩) (PX_V (q0 := 0) (ci := 1) hPt hKc hDt rfl rfl) rfl rfl hl.1 rfl (lv_room (Nat.le_of_ble_eq_true rfl)) dL_law_795 ⟨by show kc + 2 + 0 + 0 ≤ 1049; omega, by show ks + 12 + 0 + 0 ≤ 10515; omega⟩) hS hP (fun H locs hP hS => ?_)
      refine lv_iload hx hb dL_law_798 (lv_at hl 1 rfl) ?_
      refine r_icmp_eq hx hb dL_law_800 (tgt := 805) (by decide) (by omega) (by omega) (fun he => ?_) (fun hne => ?_)
      · refine lv_iload hx hb dL_law_805 (lv_at hl 1 rfl) ?_
        refine r_if_ne hx hb dL_law_807 (tgt := 821) (by decide) (by omega) (fun hz => ?_) (fun hz => ?_)
        · exact absurd rfl hz
        · refine lv_aload_n hx hb dL_law_810 rfl (lv_at hl 3 rfl) ?_
          refine r_iconst hx hb dL_law_811 ?_
          refine r_lald hx hb hK9 hP 11 5 rfl rfl (by omega) (by omega) (by decide) dL_law_812 ?_
          refine r_top (w := .long (fo9 0)) (congrArg Value.long (rfl)) ?_
          refine lv_lload hx hb dL_law_813 (lv_at hl 0 rfl) ?_
          refine r_lcmp_eq hx hb dL_law_815 dL_law_816 (tgt := 821) (by decide) (fun hq => ?_) (fun hq => ?_)
          · refine lv_goto hx hb dL_law_821 (tgt := 880) (by decide) ?_
            have hl := lv_sub (l' := [(4, .int (iI j)), (3, .ref ou), (2, .ref (bd 0)), (1, .ref (ad 0)), (0, .ref b)]) hl [2, 3, 4, 5, 6] rfl
            have hPe := hP.sub (ws' := (wX ad ca xL xB xD xN xS (n : Int) (r : Int) xx ++ wO ou co fo9) ++ wM bd cb 0 yl yz yo yw (n : Int) ((r : Int) + 1)) [5, 6, 7, 8, 9, 10, 11, 0, 1, 2, 3, 4] rfl
            exact kk n r L S lo H locs ls ⟨xL, xB, xD, xN, xS, xx, fo9, 0, yl, yz, yo, yw, hok, hT9, hM9, hPe⟩ hS hl
          · exact absurd (bL_ext (fun v hv9 => (hv v hv9).trans (hm v hv9).symm)) hq
      · exact absurd rfl hne
    · exact (by omega : False).elim
  · rcases h7 with ⟨hd1, rfl, hm⟩ | ⟨hd1, rfl⟩
    · exact (by omega : False).elim
    · dsimp only at *
      try subst_vars
      have hP : va_P (dC, dI) vwCl (wM bd cb 1 yl yz yo yw (n : Int) ((r : Int) + 1) ++ (wX ad ca xL xB xD xN xS (n : Int) (r : Int) xx ++ wO ou co fo9)) H := hP
      have hl : lv_has ls 8 [(6, .long r8), (5, .int (iI 1)), (4, .int (iI j)), (3, .ref ou), (2, .ref (bd 0)), (1, .ref (ad 0)), (0, .ref b)] := hl
      refine lv_aload_n hx hb dL_law_794 rfl (lv_at hl 4 rfl) ?_
      have hPt := hP.sub (ws' := wM bd cb 1 yl yz yo yw (n : Int) ((r : Int) + 1)) [0, 1, 2, 3, 4] rfl
      have hDt := (wD_same hD (w' := wM bd cb 1 yl yz yo yw (n : Int) ((r : Int) + 1) ++ (wX ad ca xL xB xD xN xS (n : Int) (r : Int) xx ++ wO ou co fo9)) rfl).sub (ws' := wM bd cb 1 yl yz yo yw (n : Int) ((r : Int) + 1)) [0, 1, 2, 3, 4] (by decide) rfl
      refine ro_z (z := 1) (va_runV (As := []) (rest := []) ⟨hx, hb, hml, hown, hts⟩ (n_thrown l dC dI bd cb 1 yl yz yo yw ((n : Int)) (((r : Int) + 1))) (cwV 0 hts (gV wlL_70 wo_X1_thrown wz_X1_thrown wi_2 wcX1_thrown) rfl rfl rfl (by decide +kernel) ⟨Nat.le_of_ble_eq_true rfl, Nat.le_of_ble_eq_true rfl⟩) (PX_V (q0 := 0) (ci := 1) hPt hKc hDt rfl rfl) rfl rfl hl.1 rfl (lv_room (Nat.le_of_ble_eq_true rfl)) dL_law_795 ⟨by show kc + 2 + 0 + 0 ≤ 1049; omega, by show ks + 12 + 0 + 0 ≤ 10515; omega⟩) hS hP (fun H locs hP hS => ?_)
      refine lv_iload hx hb dL_law_798 (lv_at hl 1 rfl) ?_
      refine r_icmp_eq hx hb dL_law_800 (tgt := 805) (by decide) (by omega) (by omega) (fun he => ?_) (fun hne => ?_)
      · refine lv_iload hx hb dL_law_805 (lv_at hl 1 rfl) ?_
        refine r_if_ne hx hb dL_law_807 (tgt := 821) (by decide) (by omega) (fun hz => ?_) (fun hz => ?_)
        · refine lv_goto hx hb dL_law_821 (tgt := 880) (by decide) ?_
          have hl := lv_sub (l' := [(4, .int (iI j)), (3, .ref ou), (2, .ref (bd 0)), (1, .ref (ad 0)), (0, .ref b)]) hl [2, 3, 4, 5, 6] rfl
          have hPe := hP.sub (ws' := (wX ad ca xL xB xD xN xS (n : Int) (r : Int) xx ++ wO ou co fo9) ++ wM bd cb 1 yl yz yo yw (n : Int) ((r : Int) + 1)) [5, 6, 7, 8, 9, 10, 11, 0, 1, 2, 3, 4] rfl
          exact kk n r L S lo H locs ls ⟨xL, xB, xD, xN, xS, xx, fo9, 1, yl, yz, yo, yw, hok, hT9, hM9, hPe⟩ hS hl
        · exact absurd hz (by decide)
      · exact absurd rfl hne
set_option maxHeartbeats 4000000 in
set_option maxRecDepth 100000 in
theorem k_good {p : Program} {l : Launch} {e : Env} {s : State} {m : MethodId} {below : List Frame} {meth : Method} {c : Code} {b Lz : Nat} {xs : Nat → Int32} {Q : State → Prop} {dC : Nat → ClassId} {dI : Nat → Nat → Nat} {ad : Nat → Nat} {ca : Nat → ClassId} {ou : Nat} {co : ClassId} {bd : Nat → Nat} {cb : Nat → ClassId} (C : LC p l s m c b Lz xs dC dI ad ca ou co bd cb) {n r : Nat} {L S : Nat → Nat} {lo : Nat → Bool} {H : Heap} {locs : List Loc} {kc ks : Nat} {ls : Array Slot} {j : Int} (hI : LI dC dI ad ca ou co bd cb n r L S lo H) (hS : va_S (fun q => s.heap.size ≤ q) s.heap H locs) (hl : lv_has ls 8 [(4, .int (iI j)), (3, .ref ou), (2, .ref (bd 0)), (1, .ref (ad 0)), (0, .ref b)]) (hj0 : 0 ≤ j) (hj : j + 2 < (Lz : Int)) (hc0 : kc + 2 ≤ 1049) (hs0 : ks + 12 ≤ 10515) (kk : ∀ (n r : Nat) (L S : Nat → Nat) (lo : Nat → Bool) (H : Heap) (locs : List Loc) (ls : Array Slot), LI dC dI ad ca ou co bd cb n r L S lo H → va_S (fun q => s.heap.size ≤ q) s.heap H locs → lv_has ls 8 [(4, .int (iI j)), (3, .ref ou), (2, .ref (bd 0)), (1, .ref (ad 0)), (0, .ref b)] → W p l e room_1 s m #[Value.ref b] below meth c H locs (kc + 2) (ks + 12) Q (F0 m 880 ls [])) : W p l e room_1 s m #[Value.ref b] below meth c H locs kc ks Q (F0 m 650 ls []) := by
  obtain ⟨hx, hb, hml, hown, hts, hX, hbl, hL9, hK, hE, hDz, hl9⟩ := C
  obtain ⟨gL, gB, gD, gN, gS, x, fo, er, gl, gz, go, gw, hok, hT, hM, hP⟩ := hI
  have hD := wD_same hDz (w' := (wX ad ca gL gB gD gN gS (n : Int) (r : Int) x ++ wO ou co fo) ++ wM bd cb er gl gz go gw (n : Int) ((r : Int) + 1)) rfl
  obtain ⟨p1, hp1, ep1⟩ := iI_of (xs (j + 1).toNat)
  obtain ⟨p2, hp2, ep2⟩ := iI_of (xs (j + 2).toNat)
  have hK9 := hK
  refine lv_aload_n hx hb dL_law_650 rfl (lv_at hl 3 rfl) ?_
  refine lv_aload_n hx hb dL_law_651 rfl (lv_at hl 4 rfl) ?_
  refine lv_iload hx hb dL_law_652 (lv_at hl 0 rfl) ?_
  refine r_iconst hx hb dL_law_654 ?_
  refine r_iadd hx hb dL_law_655 ?_
  refine r_sld hx hb hX hbl (Nat.not_le.mpr hbl) hS (by omega) (by omega) hL9 ep1 dL_law_656 ?_
  refine lv_aload_n hx hb dL_law_657 rfl (lv_at hl 1 rfl) ?_
  have hPx := hP.sub (ws' := (wX ad ca gL gB gD gN gS (n : Int) (r : Int) x ++ wO ou co fo)) [0, 1, 2, 3, 4, 5, 6] rfl
  have hDx := hD.sub (ws' := (wX ad ca gL gB gD gN gS (n : Int) (r : Int) x ++ wO ou co fo)) [0, 1, 2, 3, 4, 5, 6] (by decide) rfl
  have hKx := hK.sub (tys' := yXo ca co) [0, 1, 2, 3, 4, 5] rfl
  refine wc_i (vx_runSW (As := [.ref (ad 0), .int (iI p1), .ref ou]) (rest := []) ⟨hx, hb, hml, hown, hts⟩ (w_good l hl9 dC dI ad ca gL gB gD gN gS n r x L S lo hok hT ou co fo p1 hp1) (vx_cwSW 3 hts (gSt wlL_101 wt_L_good wi_0 wcL_good) rfl rfl rfl (by decide +kernel) ⟨Nat.le_of_ble_eq_true rfl, Nat.le_of_ble_eq_true rfl⟩) (PXe_S hPx hKx hDx hE hS.2.1 (wD_in hDx)) rfl rfl hl.1 rfl (lv_room (Nat.le_of_ble_eq_true rfl)) dL_law_658 ⟨hc0, hs0⟩) hS (wD_in hDx) (fun r9 u9 H1 locs h8 hP1 hS hk9 => ?_)
  have hP := wjoin hP hD hk9 hP1
  generalize H1 = H at hP hS ⊢
  obtain ⟨⟨⟨xL, xB, xD, xN, xS⟩, xn, xr, xx⟩, fo9⟩ := u9
  have hP : va_P (dC, dI) vwCl ((wX ad ca xL xB xD xN xS xn xr xx ++ wO ou co fo9) ++ wM bd cb er gl gz go gw (n : Int) ((r : Int) + 1)) H := hP
  have hD := wD_same hDz (w' := (wX ad ca xL xB xD xN xS xn xr xx ++ wO ou co fo9) ++ wM bd cb er gl gz go gw (n : Int) ((r : Int) + 1)) rfl
  refine lv_istore hx hb dL_law_661 hl (by decide) rfl (fun ls hl => ?_)
  have hl : lv_has ls 8 [(5, .int r9), (4, .int (iI j)), (3, .ref ou), (2, .ref (bd 0)), (1, .ref (ad 0)), (0, .ref b)] := hl
  refine lv_aload_n hx hb dL_law_663 rfl (lv_at hl 3 rfl) ?_
  refine lv_aload_n hx hb dL_law_664 rfl (lv_at hl 5 rfl) ?_
  refine lv_iload hx hb dL_law_665 (lv_at hl 1 rfl) ?_
  refine r_iconst hx hb dL_law_667 ?_
  refine r_iadd hx hb dL_law_668 ?_
  refine r_sld hx hb hX hbl (Nat.not_le.mpr hbl) hS (by omega) (by omega) hL9 ep1 dL_law_669 ?_
  have hPm := hP.sub (ws' := wM bd cb er gl gz go gw (n : Int) ((r : Int) + 1) ++ (wX ad ca xL xB xD xN xS xn xr xx ++ wO ou co fo9)) [7, 8, 9, 10, 11, 0, 1, 2, 3, 4, 5, 6] rfl
  have hDm := hD.sub (ws' := wM bd cb er gl gz go gw (n : Int) ((r : Int) + 1) ++ (wX ad ca xL xB xD xN xS xn xr xx ++ wO ou co fo9)) [7, 8, 9, 10, 11, 0, 1, 2, 3, 4, 5, 6] (by decide) rfl
  have hPc := hPm.sub (ws' := wM bd cb er gl gz go gw (n : Int) ((r : Int) + 1)) [0, 1, 2, 3, 4] rfl
  have hDc := hDm.sub (ws' := wM bd cb er gl gz go gw (n : Int) ((r : Int) + 1)) [0, 1, 2, 3, 4] (by decide) rfl
  have hKc := hK.sub (tys' := yM cb) [6, 7, 8, 9] rfl
  refine wc_i (va_runV (As := [.int (iI p1)]) (rest := []) ⟨hx, hb, hml, hown, hts⟩ (n_good l dC dI bd cb er gl gz go gw n r L S lo hok hM p1 hp1) (cwV 1 hts (gV wlL_103 wo_X1_good wz_X1_good wi_2 wcX1_good) rfl rfl rfl (by decide +kernel) ⟨Nat.le_of_ble_eq_true rfl, Nat.le_of_ble_eq_true rfl⟩) (PX_V (q0 := 0) (ci := 1) hPc hKc hDc rfl rfl) rfl rfl hl.1 rfl (lv_room (Nat.le_of_ble_eq_true rfl)) dL_law_670 ⟨by show kc + 2 + 0 ≤ 1049; omega, by show ks + 12 + 0 ≤ 10515; omega⟩) hS (wD_in hDc) (fun r8 u8 H1 locs h7 hP1 hS hk9 => ?_)
  have hP := wjoin hPm hDm hk9 hP1
  generalize H1 = H at hP hS ⊢
  obtain ⟨er8, yl, yz, yo, yw, yn, yv⟩ := u8
  have hP : va_P (dC, dI) vwCl (wM bd cb er8 yl yz yo yw yn yv ++ (wX ad ca xL xB xD xN xS xn xr xx ++ wO ou co fo9)) H := hP
  have hD := hDz.sub (ws' := wM bd cb 0 (fun _ => 0) (fun _ => 0) (fun _ => 0) (fun _ => 0) 0 0 ++ (wX ad ca (fun _ => 0) (fun _ => 0) (fun _ => 0) (fun _ => 0) (fun _ => 0) 0 0 0 ++ wO ou co (fun _ => 0))) [7, 8, 9, 10, 11, 0, 1, 2, 3, 4, 5, 6] (by decide) rfl
  have hD := wD_same hD (w' := wM bd cb er8 yl yz yo yw yn yv ++ (wX ad ca xL xB xD xN xS xn xr xx ++ wO ou co fo9)) rfl
  refine lv_istore hx hb dL_law_673 hl (by decide) rfl (fun ls hl => ?_)
  have hl : lv_has ls 8 [(6, .int r8), (5, .int r9), (4, .int (iI j)), (3, .ref ou), (2, .ref (bd 0)), (1, .ref (ad 0)), (0, .ref b)] := hl
  simp only [XS, MS] at h8 h7
  obtain ⟨⟨hT9, hn9, hr9⟩, h8⟩ := h8
  subst hn9 hr9
  obtain ⟨⟨hM9, hn8, hv8⟩, h7⟩ := h7
  subst hn8 hv8
  rcases h8 with ⟨hc1, rfl, hv⟩ | ⟨hc1, rfl⟩
  · rcases h7 with ⟨hd1, rfl, rfl⟩ | ⟨hd1, rfl⟩
    · dsimp only at *
      try subst_vars
      have hP : va_P (dC, dI) vwCl (wM bd cb 0 yl yz yo yw (n : Int) ((r : Int) + 1) ++ (wX ad ca xL xB xD xN xS (n : Int) (r : Int) xx ++ wO ou co fo9)) H := hP
      have hl : lv_has ls 8 [(6, .int (iI (b2 (gd L S r lo p1.toNat)))), (5, .int (iI 0)), (4, .int (iI j)), (3, .ref ou), (2, .ref (bd 0)), (1, .ref (ad 0)), (0, .ref b)] := hl
      refine lv_aload_n hx hb dL_law_675 rfl (lv_at hl 4 rfl) ?_
      have hPt := hP.sub (ws' := wM bd cb 0 yl yz yo yw (n : Int) ((r : Int) + 1)) [0, 1, 2, 3, 4] rfl
      have hDt := (wD_same hD (w' := wM bd cb 0 yl yz yo yw (n : Int) ((r : Int) + 1) ++ (wX ad ca xL xB xD xN xS (n : Int) (r : Int) xx ++ wO ou co fo9)) rfl).sub (ws' := wM bd cb 0 yl yz yo yw (n : Int) ((r : Int) + 1)) [0, 1, 2, 3, 4] (by decide) rfl
      refine ro_z (z := 0) (va_runV (As := []) (rest := []) ⟨hx, hb, hml, hown, hts⟩ (n_thrown l dC dI bd cb 0 yl yz yo yw ((n : Int)) (((r : Int) + 1))) (cwV 0 hts (gV wlL_70 wo_X1_thrown wz_X1_thrown wi_2 wcX1_thrown) rfl rfl rfl (by decide +kernel) ⟨Nat.le_of_ble_eq_true rfl, Nat.le_of_ble_eq_true rfl⟩) (PX_V (q0 := 0) (ci := 1) hPt hKc hDt rfl rfl) rfl rfl hl.1 rfl (lv_room (Nat.le_of_ble_eq_true rfl)) dL_law_676 ⟨by show kc + 2 + 0 + 0 ≤ 1049; omega, by show ks + 12 + 0 + 0 ≤ 10515; omega⟩) hS hP (fun H locs hP hS => ?_)
      refine lv_iload hx hb dL_law_679 (lv_at hl 1 rfl) ?_
      refine r_icmp_eq hx hb dL_law_681 (tgt := 686) (by decide) (by omega) (by omega) (fun he => ?_) (fun hne => ?_)
      · refine lv_iload hx hb dL_law_686 (lv_at hl 1 rfl) ?_
        refine r_if_ne hx hb dL_law_688 (tgt := 710) (by decide) (by omega) (fun hz => ?_) (fun hz => ?_)
        · exact absurd rfl hz
        · refine lv_aload_n hx hb dL_law_691 rfl (lv_at hl 3 rfl) ?_
          refine r_iconst hx hb dL_law_692 ?_
          refine r_lald hx hb hK9 hP 11 5 rfl rfl (by omega) (by omega) (by decide) dL_law_693 ?_
          refine r_top (w := .long (bJ (gd L S r lo p1.toNat))) (congrArg Value.long (hv)) ?_
          have h01 := b2_01 (gd L S r lo p1.toNat)
          refine lv_iload hx hb dL_law_694 (lv_at hl 0 rfl) ?_
          refine r_if_eq hx hb dL_law_696 (tgt := 703) (by decide) (by omega) (fun hq0 => ?_) (fun hq1 => ?_)
          · refine lv_lconst hx hb dL_law_703 rfl ?_
            refine r_lcmp_eq hx hb dL_law_704 dL_law_705 (tgt := 710) (by decide) (fun hq => ?_) (fun hq => ?_)
            · refine lv_goto hx hb dL_law_710 (tgt := 880) (by decide) ?_
              have hl := lv_sub (l' := [(4, .int (iI j)), (3, .ref ou), (2, .ref (bd 0)), (1, .ref (ad 0)), (0, .ref b)]) hl [2, 3, 4, 5, 6] rfl
              have hPe := hP.sub (ws' := (wX ad ca xL xB xD xN xS (n : Int) (r : Int) xx ++ wO ou co fo9) ++ wM bd cb 0 yl yz yo yw (n : Int) ((r : Int) + 1)) [5, 6, 7, 8, 9, 10, 11, 0, 1, 2, 3, 4] rfl
              exact kk n r L S lo H locs ls ⟨xL, xB, xD, xN, xS, xx, fo9, 0, yl, yz, yo, yw, hok, hT9, hM9, hPe⟩ hS hl
            · exact absurd (by rw [b2_0 hq0]; rfl) hq
          · refine lv_lconst hx hb dL_law_699 rfl ?_
            refine lv_goto hx hb dL_law_700 (tgt := 704) (by decide) ?_
            refine r_lcmp_eq hx hb dL_law_704 dL_law_705 (tgt := 710) (by decide) (fun hq => ?_) (fun hq => ?_)
            · refine lv_goto hx hb dL_law_710 (tgt := 880) (by decide) ?_
              have hl := lv_sub (l' := [(4, .int (iI j)), (3, .ref ou), (2, .ref (bd 0)), (1, .ref (ad 0)), (0, .ref b)]) hl [2, 3, 4, 5, 6] rfl
              have hPe := hP.sub (ws' := (wX ad ca xL xB xD xN xS (n : Int) (r : Int) xx ++ wO ou co fo9) ++ wM bd cb 0 yl yz yo yw (n : Int) ((r : Int) + 1)) [5, 6, 7, 8, 9, 10, 11, 0, 1, 2, 3, 4] rfl
              exact kk n r L S lo H locs ls ⟨xL, xB, xD, xN, xS, xx, fo9, 0, yl, yz, yo, yw, hok, hT9, hM9, hPe⟩ hS hl
            · exact absurd (by rw [b2_1 hq1]; rfl) hq
      · exact absurd rfl hne
    · exact (by omega : False).elim
  · rcases h7 with ⟨hd1, rfl, rfl⟩ | ⟨hd1, rfl⟩
    · exact (by omega : False).elim
    · dsimp only at *
      try subst_vars
      have hP : va_P (dC, dI) vwCl (wM bd cb 1 yl yz yo yw (n : Int) ((r : Int) + 1) ++ (wX ad ca xL xB xD xN xS (n : Int) (r : Int) xx ++ wO ou co fo9)) H := hP
      have hl : lv_has ls 8 [(6, .int r8), (5, .int (iI 1)), (4, .int (iI j)), (3, .ref ou), (2, .ref (bd 0)), (1, .ref (ad 0)), (0, .ref b)] := hl
      refine lv_aload_n hx hb dL_law_675 rfl (lv_at hl 4 rfl) ?_
      have hPt := hP.sub (ws' := wM bd cb 1 yl yz yo yw (n : Int) ((r : Int) + 1)) [0, 1, 2, 3, 4] rfl
      have hDt := (wD_same hD (w' := wM bd cb 1 yl yz yo yw (n : Int) ((r : Int) + 1) ++ (wX ad ca xL xB xD xN xS (n : Int) (r : Int) xx ++ wO ou co fo9)) rfl).sub (ws' := wM bd cb 1 yl yz yo yw (n : Int) ((r : Int) + 1)) [0, 1, 2, 3, 4] (by decide) rfl
      refine ro_z (z := 1) (va_runV (As := []) (rest := []) ⟨hx, hb, hml, hown, hts⟩ (n_thrown l dC dI bd cb 1 yl yz yo yw ((n : Int)) (((r : Int) + 1))) (cwV 0 hts (gV wlL_70 wo_X1_thrown wz_X1_thrown wi_2 wcX1_thrown) rfl rfl rfl (by decide +kernel) ⟨Nat.le_of_ble_eq_true rfl, Nat.le_of_ble_eq_true rfl⟩) (PX_V (q0 := 0) (ci := 1) hPt hKc hDt rfl rfl) rfl rfl hl.1 rfl (lv_room (Nat.le_of_ble_eq_true rfl)) dL_law_676 ⟨by show kc + 2 + 0 + 0 ≤ 1049; omega, by show ks + 12 + 0 + 0 ≤ 10515; omega⟩) hS hP (fun H locs hP hS => ?_)
      refine lv_iload hx hb dL_law_679 (lv_at hl 1 rfl) ?_
      refine r_icmp_eq hx hb dL_law_681 (tgt := 686) (by decide) (by omega) (by omega) (fun he => ?_) (fun hne => ?_)
      · refine lv_iload hx hb dL_law_686 (lv_at hl 1 rfl) ?_
        refine r_if_ne hx hb dL_law_688 (tgt := 710) (by decide) (by omega) (fun hz => ?_) (fun hz => ?_)
        · refine lv_goto hx hb dL_law_710 (tgt := 880) (by decide) ?_
          have hl := lv_sub (l' := [(4, .int (iI j)), (3, .ref ou), (2, .ref (bd 0)), (1, .ref (ad 0)), (0, .ref b)]) hl [2, 3, 4, 5, 6] rfl
          have hPe := hP.sub (ws' := (wX ad ca xL xB xD xN xS (n : Int) (r : Int) xx ++ wO ou co fo9) ++ wM bd cb 1 yl yz yo yw (n : Int) ((r : Int) + 1)) [5, 6, 7, 8, 9, 10, 11, 0, 1, 2, 3, 4] rfl
          exact kk n r L S lo H locs ls ⟨xL, xB, xD, xN, xS, xx, fo9, 1, yl, yz, yo, yw, hok, hT9, hM9, hPe⟩ hS hl
        · exact absurd hz (by decide)
      · exact absurd rfl hne
set_option maxHeartbeats 4000000 in
set_option maxRecDepth 100000 in
theorem k_begin {p : Program} {l : Launch} {e : Env} {s : State} {m : MethodId} {below : List Frame} {meth : Method} {c : Code} {b Lz : Nat} {xs : Nat → Int32} {Q : State → Prop} {dC : Nat → ClassId} {dI : Nat → Nat → Nat} {ad : Nat → Nat} {ca : Nat → ClassId} {ou : Nat} {co : ClassId} {bd : Nat → Nat} {cb : Nat → ClassId} (C : LC p l s m c b Lz xs dC dI ad ca ou co bd cb) {n r : Nat} {L S : Nat → Nat} {lo : Nat → Bool} {H : Heap} {locs : List Loc} {kc ks : Nat} {ls : Array Slot} {j : Int} (hI : LI dC dI ad ca ou co bd cb n r L S lo H) (hS : va_S (fun q => s.heap.size ≤ q) s.heap H locs) (hl : lv_has ls 8 [(4, .int (iI j)), (3, .ref ou), (2, .ref (bd 0)), (1, .ref (ad 0)), (0, .ref b)]) (hj0 : 0 ≤ j) (hj : j + 2 < (Lz : Int)) (hc0 : kc + 2 ≤ 1049) (hs0 : ks + 12 ≤ 10515) (kk : ∀ (n r : Nat) (L S : Nat → Nat) (lo : Nat → Bool) (H : Heap) (locs : List Loc) (ls : Array Slot), LI dC dI ad ca ou co bd cb n r L S lo H → va_S (fun q => s.heap.size ≤ q) s.heap H locs → lv_has ls 8 [(4, .int (iI j)), (3, .ref ou), (2, .ref (bd 0)), (1, .ref (ad 0)), (0, .ref b)] → W p l e room_1 s m #[Value.ref b] below meth c H locs (kc + 2) (ks + 12) Q (F0 m 880 ls [])) : W p l e room_1 s m #[Value.ref b] below meth c H locs kc ks Q (F0 m 104 ls []) := by
  obtain ⟨hx, hb, hml, hown, hts, hX, hbl, hL9, hK, hE, hDz, hl9⟩ := C
  obtain ⟨gL, gB, gD, gN, gS, x, fo, er, gl, gz, go, gw, hok, hT, hM, hP⟩ := hI
  have hD := wD_same hDz (w' := (wX ad ca gL gB gD gN gS (n : Int) (r : Int) x ++ wO ou co fo) ++ wM bd cb er gl gz go gw (n : Int) ((r : Int) + 1)) rfl
  obtain ⟨p1, hp1, ep1⟩ := iI_of (xs (j + 1).toNat)
  obtain ⟨p2, hp2, ep2⟩ := iI_of (xs (j + 2).toNat)
  have hK9 := hK
  refine lv_aload_n hx hb dL_law_104 rfl (lv_at hl 3 rfl) ?_
  refine lv_aload_n hx hb dL_law_105 rfl (lv_at hl 4 rfl) ?_
  refine lv_iload hx hb dL_law_106 (lv_at hl 0 rfl) ?_
  refine r_iconst hx hb dL_law_108 ?_
  refine r_iadd hx hb dL_law_109 ?_
  refine r_sld hx hb hX hbl (Nat.not_le.mpr hbl) hS (by omega) (by omega) hL9 ep1 dL_law_110 ?_
  have hPx := hP.sub (ws' := (wX ad ca gL gB gD gN gS (n : Int) (r : Int) x ++ wO ou co fo)) [0, 1, 2, 3, 4, 5, 6] rfl
  have hDx := hD.sub (ws' := (wX ad ca gL gB gD gN gS (n : Int) (r : Int) x ++ wO ou co fo)) [0, 1, 2, 3, 4, 5, 6] (by decide) rfl
  have hKx := hK.sub (tys' := yXo ca co) [0, 1, 2, 3, 4, 5] rfl
  refine wc_i (vx_runSW (As := [.ref (ad 0), .int (iI p1)]) (rest := []) ⟨hx, hb, hml, hown, hts⟩ (w_begin l hl9 dC dI ad ca gL gB gD gN gS n r x L S lo hok hT ou co fo p1 hp1) (vx_cwSW 2 hts (gSt wlL_64 wt_L_begin wi_0 wcL_begin) rfl rfl rfl (by decide +kernel) ⟨Nat.le_of_ble_eq_true rfl, Nat.le_of_ble_eq_true rfl⟩) (PXe_S hPx hKx hDx hE hS.2.1 (wD_in hDx)) rfl rfl hl.1 rfl (lv_room (Nat.le_of_ble_eq_true rfl)) dL_law_111 ⟨hc0, hs0⟩) hS (wD_in hDx) (fun r9 u9 H1 locs h8 hP1 hS hk9 => ?_)
  have hP := wjoin hP hD hk9 hP1
  generalize H1 = H at hP hS ⊢
  obtain ⟨⟨⟨xL, xB, xD, xN, xS⟩, xn, xr, xx⟩, fo9⟩ := u9
  have hP : va_P (dC, dI) vwCl ((wX ad ca xL xB xD xN xS xn xr xx ++ wO ou co fo9) ++ wM bd cb er gl gz go gw (n : Int) ((r : Int) + 1)) H := hP
  have hD := wD_same hDz (w' := (wX ad ca xL xB xD xN xS xn xr xx ++ wO ou co fo9) ++ wM bd cb er gl gz go gw (n : Int) ((r : Int) + 1)) rfl
  refine lv_istore hx hb dL_law_114 hl (by decide) rfl (fun ls hl => ?_)
  have hl : lv_has ls 8 [(5, .int r9), (4, .int (iI j)), (3, .ref ou), (2, .ref (bd 0)), (1, .ref (ad 0)), (0, .ref b)] := hl
  refine lv_aload_n hx hb dL_law_116 rfl (lv_at hl 3 rfl) ?_
  refine lv_aload_n hx hb dL_law_117 rfl (lv_at hl 5 rfl) ?_
  refine lv_iload hx hb dL_law_118 (lv_at hl 1 rfl) ?_
  refine r_iconst hx hb dL_law_120 ?_
  refine r_iadd hx hb dL_law_121 ?_
  refine r_sld hx hb hX hbl (Nat.not_le.mpr hbl) hS (by omega) (by omega) hL9 ep1 dL_law_122 ?_
  have hPm := hP.sub (ws' := wM bd cb er gl gz go gw (n : Int) ((r : Int) + 1) ++ (wX ad ca xL xB xD xN xS xn xr xx ++ wO ou co fo9)) [7, 8, 9, 10, 11, 0, 1, 2, 3, 4, 5, 6] rfl
  have hDm := hD.sub (ws' := wM bd cb er gl gz go gw (n : Int) ((r : Int) + 1) ++ (wX ad ca xL xB xD xN xS xn xr xx ++ wO ou co fo9)) [7, 8, 9, 10, 11, 0, 1, 2, 3, 4, 5, 6] (by decide) rfl
  have hPc := hPm.sub (ws' := wM bd cb er gl gz go gw (n : Int) ((r : Int) + 1)) [0, 1, 2, 3, 4] rfl
  have hDc := hDm.sub (ws' := wM bd cb er gl gz go gw (n : Int) ((r : Int) + 1)) [0, 1, 2, 3, 4] (by decide) rfl
  have hKc := hK.sub (tys' := yM cb) [6, 7, 8, 9] rfl
  refine wc_v (va_runV (As := [.int (iI p1)]) (rest := []) ⟨hx, hb, hml, hown, hts⟩ (n_begin l dC dI bd cb er gl gz go gw n r L S lo hok hM p1 hp1) (cwV 1 hts (gV wlL_69 wo_X1_begin wz_X1_begin wi_2 wcX1_begin) rfl rfl rfl (by decide +kernel) ⟨Nat.le_of_ble_eq_true rfl, Nat.le_of_ble_eq_true rfl⟩) (PX_V (q0 := 0) (ci := 1) hPc hKc hDc rfl rfl) rfl rfl hl.1 rfl (lv_room (Nat.le_of_ble_eq_true rfl)) dL_law_123 ⟨by show kc + 2 + 0 ≤ 1049; omega, by show ks + 12 + 0 ≤ 10515; omega⟩) hS (wD_in hDc) (fun u8 H1 locs h7 hP1 hS hk9 => ?_)
  have hP := wjoin hPm hDm hk9 hP1
  generalize H1 = H at hP hS ⊢
  obtain ⟨er8, yl, yz, yo, yw, yn, yv⟩ := u8
  have hP : va_P (dC, dI) vwCl (wM bd cb er8 yl yz yo yw yn yv ++ (wX ad ca xL xB xD xN xS xn xr xx ++ wO ou co fo9)) H := hP
  have hD := hDz.sub (ws' := wM bd cb 0 (fun _ => 0) (fun _ => 0) (fun _ => 0) (fun _ => 0) 0 0 ++ (wX ad ca (fun _ => 0) (fun _ => 0) (fun _ => 0) (fun _ => 0) (fun _ => 0) 0 0 0 ++ wO ou co (fun _ => 0))) [7, 8, 9, 10, 11, 0, 1, 2, 3, 4, 5, 6] (by decide) rfl
  have hD := wD_same hD (w' := wM bd cb er8 yl yz yo yw yn yv ++ (wX ad ca xL xB xD xN xS xn xr xx ++ wO ou co fo9)) rfl
  simp only [XS, MS] at h8 h7
  rcases h8 with ⟨hc1, rfl, hT9, hn9, hr9⟩ | ⟨hc1, rfl, hT9, hn9, hr9⟩
  · rcases h7 with ⟨hd1, he8, hM9, hn8, hv8⟩ | ⟨hd1, he8, hM9, hn8, hv8⟩
    · dsimp only at *
      try subst_vars
      have hP : va_P (dC, dI) vwCl (wM bd cb 0 yl yz yo yw ((0 : Nat) : Int) (((p1 - 1).toNat : Int) + 1) ++ (wX ad ca xL xB xD xN xS ((0 : Nat) : Int) ((p1 - 1).toNat : Int) xx ++ wO ou co fo9)) H := hP
      have hl : lv_has ls 8 [(5, .int (iI 0)), (4, .int (iI j)), (3, .ref ou), (2, .ref (bd 0)), (1, .ref (ad 0)), (0, .ref b)] := hl
      refine lv_aload_n hx hb dL_law_126 rfl (lv_at hl 3 rfl) ?_
      have hPt := hP.sub (ws' := wM bd cb 0 yl yz yo yw ((0 : Nat) : Int) (((p1 - 1).toNat : Int) + 1)) [0, 1, 2, 3, 4] rfl
      have hDt := (wD_same hD (w' := wM bd cb 0 yl yz yo yw ((0 : Nat) : Int) (((p1 - 1).toNat : Int) + 1) ++ (wX ad ca xL xB xD xN xS ((0 : Nat) : Int) ((p1 - 1).toNat : Int) xx ++ wO ou co fo9)) rfl).sub (ws' := wM bd cb 0 yl yz yo yw ((0 : Nat) : Int) (((p1 - 1).toNat : Int) + 1)) [0, 1, 2, 3, 4] (by decide) rfl
      refine ro_z (z := 0) (va_runV (As := []) (rest := []) ⟨hx, hb, hml, hown, hts⟩ (n_thrown l dC dI bd cb 0 yl yz yo yw (((0 : Nat) : Int)) ((((p1 - 1).toNat : Int) + 1))) (cwV 0 hts (gV wlL_70 wo_X1_thrown wz_X1_thrown wi_2 wcX1_thrown) rfl rfl rfl (by decide +kernel) ⟨Nat.le_of_ble_eq_true rfl, Nat.le_of_ble_eq_true rfl⟩) (PX_V (q0 := 0) (ci := 1) hPt hKc hDt rfl rfl) rfl rfl hl.1 rfl (lv_room (Nat.le_of_ble_eq_true rfl)) dL_law_127 ⟨by show kc + 2 + 0 + 0 ≤ 1049; omega, by show ks + 12 + 0 + 0 ≤ 10515; omega⟩) hS hP (fun H locs hP hS => ?_)
      refine lv_iload hx hb dL_law_130 (lv_at hl 0 rfl) ?_
      refine r_icmp_eq hx hb dL_law_132 (tgt := 137) (by decide) (by omega) (by omega) (fun he => ?_) (fun hne => ?_)
      · refine lv_goto hx hb dL_law_137 (tgt := 880) (by decide) ?_
        have hl := lv_sub (l' := [(4, .int (iI j)), (3, .ref ou), (2, .ref (bd 0)), (1, .ref (ad 0)), (0, .ref b)]) hl [1, 2, 3, 4, 5] rfl
        have hPe := hP.sub (ws' := (wX ad ca xL xB xD xN xS ((0 : Nat) : Int) ((p1 - 1).toNat : Int) xx ++ wO ou co fo9) ++ wM bd cb 0 yl yz yo yw ((0 : Nat) : Int) (((p1 - 1).toNat : Int) + 1)) [5, 6, 7, 8, 9, 10, 11, 0, 1, 2, 3, 4] rfl
        exact kk 0 ((p1 - 1).toNat) L S ((fun _ => false)) H locs ls ⟨xL, xB, xD, xN, xS, xx, fo9, 0, yl, yz, yo, yw, ⟨by omega, by omega, by omega, fun d h => absurd h (Nat.not_lt_zero d), Nat.zero_le _⟩, hT9, hM9, hPe⟩ hS hl
      · exact absurd rfl hne
    · exact (by omega : False).elim
  · rcases h7 with ⟨hd1, he8, hM9, hn8, hv8⟩ | ⟨hd1, he8, hM9, hn8, hv8⟩
    · exact (by omega : False).elim
    · dsimp only at *
      try subst_vars
      have hP : va_P (dC, dI) vwCl (wM bd cb 1 yl yz yo yw (n : Int) ((r : Int) + 1) ++ (wX ad ca xL xB xD xN xS (n : Int) (r : Int) xx ++ wO ou co fo9)) H := hP
      have hl : lv_has ls 8 [(5, .int (iI 1)), (4, .int (iI j)), (3, .ref ou), (2, .ref (bd 0)), (1, .ref (ad 0)), (0, .ref b)] := hl
      refine lv_aload_n hx hb dL_law_126 rfl (lv_at hl 3 rfl) ?_
      have hPt := hP.sub (ws' := wM bd cb 1 yl yz yo yw (n : Int) ((r : Int) + 1)) [0, 1, 2, 3, 4] rfl
      have hDt := (wD_same hD (w' := wM bd cb 1 yl yz yo yw (n : Int) ((r : Int) + 1) ++ (wX ad ca xL xB xD xN xS (n : Int) (r : Int) xx ++ wO ou co fo9)) rfl).sub (ws' := wM bd cb 1 yl yz yo yw (n : Int) ((r : Int) + 1)) [0, 1, 2, 3, 4] (by decide) rfl
      refine ro_z (z := 1) (va_runV (As := []) (rest := []) ⟨hx, hb, hml, hown, hts⟩ (n_thrown l dC dI bd cb 1 yl yz yo yw ((n : Int)) (((r : Int) + 1))) (cwV 0 hts (gV wlL_70 wo_X1_thrown wz_X1_thrown wi_2 wcX1_thrown) rfl rfl rfl (by decide +kernel) ⟨Nat.le_of_ble_eq_true rfl, Nat.le_of_ble_eq_true rfl⟩) (PX_V (q0 := 0) (ci := 1) hPt hKc hDt rfl rfl) rfl rfl hl.1 rfl (lv_room (Nat.le_of_ble_eq_true rfl)) dL_law_127 ⟨by show kc + 2 + 0 + 0 ≤ 1049; omega, by show ks + 12 + 0 + 0 ≤ 10515; omega⟩) hS hP (fun H locs hP hS => ?_)
      refine lv_iload hx hb dL_law_130 (lv_at hl 0 rfl) ?_
      refine r_icmp_eq hx hb dL_law_132 (tgt := 137) (by decide) (by omega) (by omega) (fun he => ?_) (fun hne => ?_)
      · refine lv_goto hx hb dL_law_137 (tgt := 880) (by decide) ?_
        have hl := lv_sub (l' := [(4, .int (iI j)), (3, .ref ou), (2, .ref (bd 0)), (1, .ref (ad 0)), (0, .ref b)]) hl [1, 2, 3, 4, 5] rfl
        have hPe := hP.sub (ws' := (wX ad ca xL xB xD xN xS (n : Int) (r : Int) xx ++ wO ou co fo9) ++ wM bd cb 1 yl yz yo yw (n : Int) ((r : Int) + 1)) [5, 6, 7, 8, 9, 10, 11, 0, 1, 2, 3, 4] rfl
        exact kk n r L S lo H locs ls ⟨xL, xB, xD, xN, xS, xx, fo9, 1, yl, yz, yo, yw, hok, hT9, hM9, hPe⟩ hS hl
      · exact absurd rfl hne
set_option maxHeartbeats 4000000 in
set_option maxRecDepth 100000 in
theorem k_drop {p : Program} {l : Launch} {e : Env} {s : State} {m : MethodId} {below : List Frame} {meth : Method} {c : Code} {b Lz : Nat} {xs : Nat → Int32} {Q : State → Prop} {dC : Nat → ClassId} {dI : Nat → Nat → Nat} {ad : Nat → Nat} {ca : Nat → ClassId} {ou : Nat} {co : ClassId} {bd : Nat → Nat} {cb : Nat → ClassId} (C : LC p l s m c b Lz xs dC dI ad ca ou co bd cb) {n r : Nat} {L S : Nat → Nat} {lo : Nat → Bool} {H : Heap} {locs : List Loc} {kc ks : Nat} {ls : Array Slot} {j : Int} (hI : LI dC dI ad ca ou co bd cb n r L S lo H) (hS : va_S (fun q => s.heap.size ≤ q) s.heap H locs) (hl : lv_has ls 8 [(4, .int (iI j)), (3, .ref ou), (2, .ref (bd 0)), (1, .ref (ad 0)), (0, .ref b)]) (hj0 : 0 ≤ j) (hj : j + 2 < (Lz : Int)) (hc0 : kc + 2 ≤ 1049) (hs0 : ks + 12 ≤ 10515) (kk : ∀ (n r : Nat) (L S : Nat → Nat) (lo : Nat → Bool) (H : Heap) (locs : List Loc) (ls : Array Slot), LI dC dI ad ca ou co bd cb n r L S lo H → va_S (fun q => s.heap.size ≤ q) s.heap H locs → lv_has ls 8 [(4, .int (iI j)), (3, .ref ou), (2, .ref (bd 0)), (1, .ref (ad 0)), (0, .ref b)] → W p l e room_1 s m #[Value.ref b] below meth c H locs (kc + 2) (ks + 12) Q (F0 m 880 ls [])) : W p l e room_1 s m #[Value.ref b] below meth c H locs kc ks Q (F0 m 208 ls []) := by
  obtain ⟨hx, hb, hml, hown, hts, hX, hbl, hL9, hK, hE, hDz, hl9⟩ := C
  obtain ⟨gL, gB, gD, gN, gS, x, fo, er, gl, gz, go, gw, hok, hT, hM, hP⟩ := hI
  have hD := wD_same hDz (w' := (wX ad ca gL gB gD gN gS (n : Int) (r : Int) x ++ wO ou co fo) ++ wM bd cb er gl gz go gw (n : Int) ((r : Int) + 1)) rfl
  obtain ⟨p1, hp1, ep1⟩ := iI_of (xs (j + 1).toNat)
  obtain ⟨p2, hp2, ep2⟩ := iI_of (xs (j + 2).toNat)
  have hK9 := hK
  refine lv_aload_n hx hb dL_law_208 rfl (lv_at hl 3 rfl) ?_
  refine lv_aload_n hx hb dL_law_209 rfl (lv_at hl 4 rfl) ?_
  refine lv_iload hx hb dL_law_210 (lv_at hl 0 rfl) ?_
  refine r_iconst hx hb dL_law_212 ?_
  refine r_iadd hx hb dL_law_213 ?_
  refine r_sld hx hb hX hbl (Nat.not_le.mpr hbl) hS (by omega) (by omega) hL9 ep1 dL_law_214 ?_
  have hPx := hP.sub (ws' := (wX ad ca gL gB gD gN gS (n : Int) (r : Int) x ++ wO ou co fo)) [0, 1, 2, 3, 4, 5, 6] rfl
  have hDx := hD.sub (ws' := (wX ad ca gL gB gD gN gS (n : Int) (r : Int) x ++ wO ou co fo)) [0, 1, 2, 3, 4, 5, 6] (by decide) rfl
  have hKx := hK.sub (tys' := yXo ca co) [0, 1, 2, 3, 4, 5] rfl
  refine wc_i (vx_runSW (As := [.ref (ad 0), .int (iI p1)]) (rest := []) ⟨hx, hb, hml, hown, hts⟩ (w_drop l hl9 dC dI ad ca gL gB gD gN gS n r x L S lo hok hT ou co fo p1 hp1) (vx_cwSW 2 hts (gSt wlL_78 wt_L_drop wi_0 wcL_drop) rfl rfl rfl (by decide +kernel) ⟨Nat.le_of_ble_eq_true rfl, Nat.le_of_ble_eq_true rfl⟩) (PXe_S hPx hKx hDx hE hS.2.1 (wD_in hDx)) rfl rfl hl.1 rfl (lv_room (Nat.le_of_ble_eq_true rfl)) dL_law_215 ⟨hc0, hs0⟩) hS (wD_in hDx) (fun r9 u9 H1 locs h8 hP1 hS hk9 => ?_)
  have hP := wjoin hP hD hk9 hP1
  generalize H1 = H at hP hS ⊢
  obtain ⟨⟨⟨xL, xB, xD, xN, xS⟩, xn, xr, xx⟩, fo9⟩ := u9
  have hP : va_P (dC, dI) vwCl ((wX ad ca xL xB xD xN xS xn xr xx ++ wO ou co fo9) ++ wM bd cb er gl gz go gw (n : Int) ((r : Int) + 1)) H := hP
  have hD := wD_same hDz (w' := (wX ad ca xL xB xD xN xS xn xr xx ++ wO ou co fo9) ++ wM bd cb er gl gz go gw (n : Int) ((r : Int) + 1)) rfl
  refine lv_istore hx hb dL_law_218 hl (by decide) rfl (fun ls hl => ?_)
  have hl : lv_has ls 8 [(5, .int r9), (4, .int (iI j)), (3, .ref ou), (2, .ref (bd 0)), (1, .ref (ad 0)), (0, .ref b)] := hl
  refine lv_aload_n hx hb dL_law_220 rfl (lv_at hl 3 rfl) ?_
  refine lv_aload_n hx hb dL_law_221 rfl (lv_at hl 5 rfl) ?_
  refine lv_iload hx hb dL_law_222 (lv_at hl 1 rfl) ?_
  refine r_iconst hx hb dL_law_224 ?_
  refine r_iadd hx hb dL_law_225 ?_
  refine r_sld hx hb hX hbl (Nat.not_le.mpr hbl) hS (by omega) (by omega) hL9 ep1 dL_law_226 ?_
  have hPm := hP.sub (ws' := wM bd cb er gl gz go gw (n : Int) ((r : Int) + 1) ++ (wX ad ca xL xB xD xN xS xn xr xx ++ wO ou co fo9)) [7, 8, 9, 10, 11, 0, 1, 2, 3, 4, 5, 6] rfl
  have hDm := hD.sub (ws' := wM bd cb er gl gz go gw (n : Int) ((r : Int) + 1) ++ (wX ad ca xL xB xD xN xS xn xr xx ++ wO ou co fo9)) [7, 8, 9, 10, 11, 0, 1, 2, 3, 4, 5, 6] (by decide) rfl
  have hPc := hPm.sub (ws' := wM bd cb er gl gz go gw (n : Int) ((r : Int) + 1)) [0, 1, 2, 3, 4] rfl
  have hDc := hDm.sub (ws' := wM bd cb er gl gz go gw (n : Int) ((r : Int) + 1)) [0, 1, 2, 3, 4] (by decide) rfl
  have hKc := hK.sub (tys' := yM cb) [6, 7, 8, 9] rfl
  refine wc_v (va_runV (As := [.int (iI p1)]) (rest := []) ⟨hx, hb, hml, hown, hts⟩ (n_drop l dC dI bd cb er gl gz go gw n r L S lo hok hM p1 hp1) (cwV 1 hts (gV wlL_80 wo_X1_drop wz_X1_drop wi_2 wcX1_drop) rfl rfl rfl (by decide +kernel) ⟨Nat.le_of_ble_eq_true rfl, Nat.le_of_ble_eq_true rfl⟩) (PX_V (q0 := 0) (ci := 1) hPc hKc hDc rfl rfl) rfl rfl hl.1 rfl (lv_room (Nat.le_of_ble_eq_true rfl)) dL_law_227 ⟨by show kc + 2 + 0 ≤ 1049; omega, by show ks + 12 + 0 ≤ 10515; omega⟩) hS (wD_in hDc) (fun u8 H1 locs h7 hP1 hS hk9 => ?_)
  have hP := wjoin hPm hDm hk9 hP1
  generalize H1 = H at hP hS ⊢
  obtain ⟨er8, yl, yz, yo, yw, yn, yv⟩ := u8
  have hP : va_P (dC, dI) vwCl (wM bd cb er8 yl yz yo yw yn yv ++ (wX ad ca xL xB xD xN xS xn xr xx ++ wO ou co fo9)) H := hP
  have hD := hDz.sub (ws' := wM bd cb 0 (fun _ => 0) (fun _ => 0) (fun _ => 0) (fun _ => 0) 0 0 ++ (wX ad ca (fun _ => 0) (fun _ => 0) (fun _ => 0) (fun _ => 0) (fun _ => 0) 0 0 0 ++ wO ou co (fun _ => 0))) [7, 8, 9, 10, 11, 0, 1, 2, 3, 4, 5, 6] (by decide) rfl
  have hD := wD_same hD (w' := wM bd cb er8 yl yz yo yw yn yv ++ (wX ad ca xL xB xD xN xS xn xr xx ++ wO ou co fo9)) rfl
  simp only [XS, MS] at h8 h7
  rcases h8 with ⟨hc1, rfl, hT9, hn9, hr9⟩ | ⟨hc1, rfl, hT9, hn9, hr9⟩
  · rcases h7 with ⟨hd1, he8, hM9, hn8, hv8⟩ | ⟨hd1, he8, hM9, hn8, hv8⟩
    · dsimp only at *
      try subst_vars
      have hP : va_P (dC, dI) vwCl (wM bd cb 0 yl yz yo yw ((n - p1.toNat : Nat) : Int) ((r : Int) + 1) ++ (wX ad ca xL xB xD xN xS ((n - p1.toNat : Nat) : Int) (r : Int) xx ++ wO ou co fo9)) H := hP
      have hl : lv_has ls 8 [(5, .int (iI 0)), (4, .int (iI j)), (3, .ref ou), (2, .ref (bd 0)), (1, .ref (ad 0)), (0, .ref b)] := hl
      refine lv_aload_n hx hb dL_law_230 rfl (lv_at hl 3 rfl) ?_
      have hPt := hP.sub (ws' := wM bd cb 0 yl yz yo yw ((n - p1.toNat : Nat) : Int) ((r : Int) + 1)) [0, 1, 2, 3, 4] rfl
      have hDt := (wD_same hD (w' := wM bd cb 0 yl yz yo yw ((n - p1.toNat : Nat) : Int) ((r : Int) + 1) ++ (wX ad ca xL xB xD xN xS ((n - p1.toNat : Nat) : Int) (r : Int) xx ++ wO ou co fo9)) rfl).sub (ws' := wM bd cb 0 yl yz yo yw ((n - p1.toNat : Nat) : Int) ((r : Int) + 1)) [0, 1, 2, 3, 4] (by decide) rfl
      refine ro_z (z := 0) (va_runV (As := []) (rest := []) ⟨hx, hb, hml, hown, hts⟩ (n_thrown l dC dI bd cb 0 yl yz yo yw (((n - p1.toNat : Nat) : Int)) (((r : Int) + 1))) (cwV 0 hts (gV wlL_70 wo_X1_thrown wz_X1_thrown wi_2 wcX1_thrown) rfl rfl rfl (by decide +kernel) ⟨Nat.le_of_ble_eq_true rfl, Nat.le_of_ble_eq_true rfl⟩) (PX_V (q0 := 0) (ci := 1) hPt hKc hDt rfl rfl) rfl rfl hl.1 rfl (lv_room (Nat.le_of_ble_eq_true rfl)) dL_law_231 ⟨by show kc + 2 + 0 + 0 ≤ 1049; omega, by show ks + 12 + 0 + 0 ≤ 10515; omega⟩) hS hP (fun H locs hP hS => ?_)
      refine lv_iload hx hb dL_law_234 (lv_at hl 0 rfl) ?_
      refine r_icmp_eq hx hb dL_law_236 (tgt := 241) (by decide) (by omega) (by omega) (fun he => ?_) (fun hne => ?_)
      · refine lv_goto hx hb dL_law_241 (tgt := 880) (by decide) ?_
        have hl := lv_sub (l' := [(4, .int (iI j)), (3, .ref ou), (2, .ref (bd 0)), (1, .ref (ad 0)), (0, .ref b)]) hl [1, 2, 3, 4, 5] rfl
        have hPe := hP.sub (ws' := (wX ad ca xL xB xD xN xS ((n - p1.toNat : Nat) : Int) (r : Int) xx ++ wO ou co fo9) ++ wM bd cb 0 yl yz yo yw ((n - p1.toNat : Nat) : Int) ((r : Int) + 1)) [5, 6, 7, 8, 9, 10, 11, 0, 1, 2, 3, 4] rfl
        exact kk ((n - p1.toNat)) r L S lo H locs ls ⟨xL, xB, xD, xN, xS, xx, fo9, 0, yl, yz, yo, yw, okS_drop (Nat.sub_le _ _) hok, hT9, hM9, hPe⟩ hS hl
      · exact absurd rfl hne
    · exact (by omega : False).elim
  · rcases h7 with ⟨hd1, he8, hM9, hn8, hv8⟩ | ⟨hd1, he8, hM9, hn8, hv8⟩
    · exact (by omega : False).elim
    · dsimp only at *
      try subst_vars
      have hP : va_P (dC, dI) vwCl (wM bd cb 1 yl yz yo yw (n : Int) ((r : Int) + 1) ++ (wX ad ca xL xB xD xN xS (n : Int) (r : Int) xx ++ wO ou co fo9)) H := hP
      have hl : lv_has ls 8 [(5, .int (iI 1)), (4, .int (iI j)), (3, .ref ou), (2, .ref (bd 0)), (1, .ref (ad 0)), (0, .ref b)] := hl
      refine lv_aload_n hx hb dL_law_230 rfl (lv_at hl 3 rfl) ?_
      have hPt := hP.sub (ws' := wM bd cb 1 yl yz yo yw (n : Int) ((r : Int) + 1)) [0, 1, 2, 3, 4] rfl
      have hDt := (wD_same hD (w' := wM bd cb 1 yl yz yo yw (n : Int) ((r : Int) + 1) ++ (wX ad ca xL xB xD xN xS (n : Int) (r : Int) xx ++ wO ou co fo9)) rfl).sub (ws' := wM bd cb 1 yl yz yo yw (n : Int) ((r : Int) + 1)) [0, 1, 2, 3, 4] (by decide) rfl
      refine ro_z (z := 1) (va_runV (As := []) (rest := []) ⟨hx, hb, hml, hown, hts⟩ (n_thrown l dC dI bd cb 1 yl yz yo yw ((n : Int)) (((r : Int) + 1))) (cwV 0 hts (gV wlL_70 wo_X1_thrown wz_X1_thrown wi_2 wcX1_thrown) rfl rfl rfl (by decide +kernel) ⟨Nat.le_of_ble_eq_true rfl, Nat.le_of_ble_eq_true rfl⟩) (PX_V (q0 := 0) (ci := 1) hPt hKc hDt rfl rfl) rfl rfl hl.1 rfl (lv_room (Nat.le_of_ble_eq_true rfl)) dL_law_231 ⟨by show kc + 2 + 0 + 0 ≤ 1049; omega, by show ks + 12 + 0 + 0 ≤ 10515; omega⟩) hS hP (fun H locs hP hS => ?_)
      refine lv_iload hx hb dL_law_234 (lv_at hl 0 rfl) ?_
      refine r_icmp_eq hx hb dL_law_236 (tgt := 241) (by decide) (by omega) (by omega) (fun he => ?_) (fun hne => ?_)
      · refine lv_goto hx hb dL_law_241 (tgt := 880) (by decide) ?_
        have hl := lv_sub (l' := [(4, .int (iI j)), (3, .ref ou), (2, .ref (bd 0)), (1, .ref (ad 0)), (0, .ref b)]) hl [1, 2, 3, 4, 5] rfl
        have hPe := hP.sub (ws' := (wX ad ca xL xB xD xN xS (n : Int) (r : Int) xx ++ wO ou co fo9) ++ wM bd cb 1 yl yz yo yw (n : Int) ((r : Int) + 1)) [5, 6, 7, 8, 9, 10, 11, 0, 1, 2, 3, 4] rfl
        exact kk n r L S lo H locs ls ⟨xL, xB, xD, xN, xS, xx, fo9, 1, yl, yz, yo, yw, hok, hT9, hM9, hPe⟩ hS hl
      · exact absurd rfl hne
set_option maxHeartbeats 4000000 in
set_option maxRecDepth 100000 in
theorem k_dump {p : Program} {l : Launch} {e : Env} {s : State} {m : MethodId} {below : List Frame} {meth : Method} {c : Code} {b Lz : Nat} {xs : Nat → Int32} {Q : State → Prop} {dC : Nat → ClassId} {dI : Nat → Nat → Nat} {ad : Nat → Nat} {ca : Nat → ClassId} {ou : Nat} {co : ClassId} {bd : Nat → Nat} {cb : Nat → ClassId} (C : LC p l s m c b Lz xs dC dI ad ca ou co bd cb) {n r : Nat} {L S : Nat → Nat} {lo : Nat → Bool} {H : Heap} {locs : List Loc} {kc ks : Nat} {ls : Array Slot} {j : Int} (hI : LI dC dI ad ca ou co bd cb n r L S lo H) (hS : va_S (fun q => s.heap.size ≤ q) s.heap H locs) (hl : lv_has ls 8 [(4, .int (iI j)), (3, .ref ou), (2, .ref (bd 0)), (1, .ref (ad 0)), (0, .ref b)]) (hj0 : 0 ≤ j) (hj : j + 2 < (Lz : Int)) (hc0 : kc + 2 ≤ 1049) (hs0 : ks + 12 ≤ 10515) (kk : ∀ (n r : Nat) (L S : Nat → Nat) (lo : Nat → Bool) (H : Heap) (locs : List Loc) (ls : Array Slot), LI dC dI ad ca ou co bd cb n r L S lo H → va_S (fun q => s.heap.size ≤ q) s.heap H locs → lv_has ls 8 [(4, .int (iI j)), (3, .ref ou), (2, .ref (bd 0)), (1, .ref (ad 0)), (0, .ref b)] → W p l e room_1 s m #[Value.ref b] below meth c H locs (kc + 2) (ks + 12) Q (F0 m 880 ls [])) : W p l e room_1 s m #[Value.ref b] below meth c H locs kc ks Q (F0 m 140 ls []) := by
  obtain ⟨hx, hb, hml, hown, hts, hX, hbl, hL9, hK, hE, hDz, hl9⟩ := C
  obtain ⟨gL, gB, gD, gN, gS, x, fo, er, gl, gz, go, gw, hok, hT, hM, hP⟩ := hI
  have hD := wD_same hDz (w' := (wX ad ca gL gB gD gN gS (n : Int) (r : Int) x ++ wO ou co fo) ++ wM bd cb er gl gz go gw (n : Int) ((r : Int) + 1)) rfl
  obtain ⟨p1, hp1, ep1⟩ := iI_of (xs (j + 1).toNat)
  obtain ⟨p2, hp2, ep2⟩ := iI_of (xs (j + 2).toNat)
  have hK9 := hK
  refine lv_aload_n hx hb dL_law_140 rfl (lv_at hl 3 rfl) ?_
  refine lv_aload_n hx hb dL_law_141 rfl (lv_at hl 4 rfl) ?_
  refine lv_iload hx hb dL_law_142 (lv_at hl 0 rfl) ?_
  refine r_iconst hx hb dL_law_144 ?_
  refine r_iadd hx hb dL_law_145 ?_
  refine r_sld hx hb hX hbl (Nat.not_le.mpr hbl) hS (by omega) (by omega) hL9 ep1 dL_law_146 ?_
  refine lv_aload_n hx hb dL_law_147 rfl (lv_at hl 4 rfl) ?_
  refine lv_iload hx hb dL_law_148 (lv_at hl 0 rfl) ?_
  refine r_iconst hx hb dL_law_150 ?_
  refine r_iadd hx hb dL_law_151 ?_
  refine r_sld hx hb hX hbl (Nat.not_le.mpr hbl) hS (by omega) (by omega) hL9 ep2 dL_law_152 ?_
  refine lv_aload_n hx hb dL_law_153 rfl (lv_at hl 1 rfl) ?_
  have hPx := hP.sub (ws' := (wX ad ca gL gB gD gN gS (n : Int) (r : Int) x ++ wO ou co fo)) [0, 1, 2, 3, 4, 5, 6] rfl
  have hDx := hD.sub (ws' := (wX ad ca gL gB gD gN gS (n : Int) (r : Int) x ++ wO ou co fo)) [0, 1, 2, 3, 4, 5, 6] (by decide) rfl
  have hKx := hK.sub (tys' := yXo ca co) [0, 1, 2, 3, 4, 5] rfl
  refine wc_i (vx_runSW (As := [.ref (ad 0), .int (iI p1), .int (iI p2), .ref ou]) (rest := []) ⟨hx, hb, hml, hown, hts⟩ (w_dump l hl9 dC dI ad ca gL gB gD gN gS n r x L S lo hok hT ou co fo p1 p2 hp1 hp2) (vx_cwSW 4 hts (gSt wlL_74 wt_L_dump wi_0 wcL_dump) rfl rfl rfl (by decide +kernel) ⟨Nat.le_of_ble_eq_true rfl, Nat.le_of_ble_eq_true rfl⟩) (PXe_S hPx hKx hDx hE hS.2.1 (wD_in hDx)) rfl rfl hl.1 rfl (lv_room (Nat.le_of_ble_eq_true rfl)) dL_law_154 ⟨hc0, hs0⟩) hS (wD_in hDx) (fun r9 u9 H1 locs h8 hP1 hS hk9 => ?_)
  have hP := wjoin hP hD hk9 hP1
  generalize H1 = H at hP hS ⊢
  obtain ⟨⟨⟨xL, xB, xD, xN, xS⟩, xn, xr, xx⟩, fo9⟩ := u9
  have hP : va_P (dC, dI) vwCl ((wX ad ca xL xB xD xN xS xn xr xx ++ wO ou co fo9) ++ wM bd cb er gl gz go gw (n : Int) ((r : Int) + 1)) H := hP
  have hD := wD_same hDz (w' := (wX ad ca xL xB xD xN xS xn xr xx ++ wO ou co fo9) ++ wM bd cb er gl gz go gw (n : Int) ((r : Int) + 1)) rfl
  refine lv_istore hx hb dL_law_157 hl (by decide) rfl (fun ls hl => ?_)
  have hl : lv_has ls 8 [(5, .int r9), (4, .int (iI j)), (3, .ref ou), (2, .ref (bd 0)), (1, .ref (ad 0)), (0, .ref b)] := hl
  refine lv_aload_n hx hb dL_law_159 rfl (lv_at hl 3 rfl) ?_
  refine lv_aload_n hx hb dL_law_160 rfl (lv_at hl 5 rfl) ?_
  refine lv_iload hx hb dL_law_161 (lv_at hl 1 rfl) ?_
  refine r_iconst hx hb dL_law_163 ?_
  refine r_iadd hx hb dL_law_164 ?_
  refine r_sld hx hb hX hbl (Nat.not_le.mpr hbl) hS (by omega) (by omega) hL9 ep1 dL_law_165 ?_
  refine lv_aload_n hx hb dL_law_166 rfl (lv_at hl 5 rfl) ?_
  refine lv_iload hx hb dL_law_167 (lv_at hl 1 rfl) ?_
  refine r_iconst hx hb dL_law_169 ?_
  refine r_iadd hx hb dL_law_170 ?_
  refine r_sld hx hb hX hbl (Nat.not_le.mpr hbl) hS (by omega) (by omega) hL9 ep2 dL_law_171 ?_
  have hPm := hP.sub (ws' := wM bd cb er gl gz go gw (n : Int) ((r : Int) + 1) ++ (wX ad ca xL xB xD xN xS xn xr xx ++ wO ou co fo9)) [7, 8, 9, 10, 11, 0, 1, 2, 3, 4, 5, 6] rfl
  have hDm := hD.sub (ws' := wM bd cb er gl gz go gw (n : Int) ((r : Int) + 1) ++ (wX ad ca xL xB xD xN xS xn xr xx ++ wO ou co fo9)) [7, 8, 9, 10, 11, 0, 1, 2, 3, 4, 5, 6] (by decide) rfl
  have hPc := hPm.sub (ws' := wM bd cb er gl gz go gw (n : Int) ((r : Int) + 1)) [0, 1, 2, 3, 4] rfl
  have hDc := hDm.sub (ws' := wM bd cb er gl gz go gw (n : Int) ((r : Int) + 1)) [0, 1, 2, 3, 4] (by decide) rfl
  have hKc := hK.sub (tys' := yM cb) [6, 7, 8, 9] rfl
  refine wc_i (va_runV (As := [.int (iI p1), .int (iI p2)]) (rest := []) ⟨hx, hb, hml, hown, hts⟩ (n_dump l dC dI bd cb er gl gz go gw n r L S lo hok hM p1 p2 hp1 hp2) (cwV 2 hts (gV wlL_77 wo_X1_dump wz_X1_dump wi_2 wcX1_dump) rfl rfl rfl (by decide +kernel) ⟨Nat.le_of_ble_eq_true rfl, Nat.le_of_ble_eq_true rfl⟩) (PX_V (q0 := 0) (ci := 1) hPc hKc hDc rfl rfl) rfl rfl hl.1 rfl (lv_room (Nat.le_of_ble_eq_true rfl)) dL_law_172 ⟨by show kc + 2 + 0 ≤ 1049; omega, by show ks + 12 + 0 ≤ 10515; omega⟩) hS (wD_in hDc) (fun r8 u8 H1 locs h7 hP1 hS hk9 => ?_)
  have hP := wjoin hPm hDm hk9 hP1
  generalize H1 = H at hP hS ⊢
  obtain ⟨er8, yl, yz, yo, yw, yn, yv⟩ := u8
  have hP : va_P (dC, dI) vwCl (wM bd cb er8 yl yz yo yw yn yv ++ (wX ad ca xL xB xD xN xS xn xr xx ++ wO ou co fo9)) H := hP
  have hD := hDz.sub (ws' := wM bd cb 0 (fun _ => 0) (fun _ => 0) (fun _ => 0) (fun _ => 0) 0 0 ++ (wX ad ca (fun _ => 0) (fun _ => 0) (fun _ => 0) (fun _ => 0) (fun _ => 0) 0 0 0 ++ wO ou co (fun _ => 0))) [7, 8, 9, 10, 11, 0, 1, 2, 3, 4, 5, 6] (by decide) rfl
  have hD := wD_same hD (w' := wM bd cb er8 yl yz yo yw yn yv ++ (wX ad ca xL xB xD xN xS xn xr xx ++ wO ou co fo9)) rfl
  refine lv_istore hx hb dL_law_175 hl (by decide) rfl (fun ls hl => ?_)
  have hl : lv_has ls 8 [(6, .int r8), (5, .int r9), (4, .int (iI j)), (3, .ref ou), (2, .ref (bd 0)), (1, .ref (ad 0)), (0, .ref b)] := hl
  simp only [XS, MS] at h8 h7
  rcases h8 with ⟨hc1, hc2, rfl, ⟨hT9, hn9, hr9⟩, hv⟩ | ⟨hc1, rfl, hT9, hn9, hr9⟩ | ⟨hc1, hc2, rfl, hT9, hn9, hr9⟩
  · rcases h7 with ⟨hd1, hd2, he8, rfl, hM9, hn8, hv8⟩ | ⟨hd1, he8, hM9, hn8, hv8⟩ | ⟨hd1, hd2, he8, hM9, hn8, hv8⟩
    · dsimp only at *
      try subst_vars
      have hP : va_P (dC, dI) vwCl (wM bd cb 0 yl yz yo yw ((n + 1 : Nat) : Int) ((r : Int) + 1) ++ (wX ad ca xL xB xD xN xS ((n + 1 : Nat) : Int) (r : Int) xx ++ wO ou co fo9)) H := hP
      have hl : lv_has ls 8 [(6, .int (iI ((n : Int)))), (5, .int (iI 0)), (4, .int (iI j)), (3, .ref ou), (2, .ref (bd 0)), (1, .ref (ad 0)), (0, .ref b)] := hl
      refine lv_aload_n hx hb dL_law_177 rfl (lv_at hl 4 rfl) ?_
      have hPt := hP.sub (ws' := wM bd cb 0 yl yz yo yw ((n + 1 : Nat) : Int) ((r : Int) + 1)) [0, 1, 2, 3, 4] rfl
      have hDt := (wD_same hD (w' := wM bd cb 0 yl yz yo yw ((n + 1 : Nat) : Int) ((r : Int) + 1) ++ (wX ad ca xL xB xD xN xS ((n + 1 : Nat) : Int) (r : Int) xx ++ wO ou co fo9)) rfl).sub (ws' := wM bd cb 0 yl yz yo yw ((n + 1 : Nat) : Int) ((r : Int) + 1)) [0, 1, 2, 3, 4] (by decide) rfl
      refine ro_z (z := 0) (va_runV (As := []) (rest := []) ⟨hx, hb, hml, hown, hts⟩ (n_thrown l dC dI bd cb 0 yl yz yo yw (((n + 1 : Nat) : Int)) (((r : Int) + 1))) (cwV 0 hts (gV wlL_70 wo_X1_thrown wz_X1_thrown wi_2 wcX1_thrown) rfl rfl rfl (by decide +kernel) ⟨Nat.le_of_ble_eq_true rfl, Nat.le_of_ble_eq_true rfl⟩) (PX_V (q0 := 0) (ci := 1) hPt hKc hDt rfl rfl) rfl rfl hl.1 rfl (lv_room (Nat.le_of_ble_eq_true rfl)) dL_law_178 ⟨by show kc + 2 + 0 + 0 ≤ 1049; omega, by show ks + 12 + 0 + 0 ≤ 10515; omega⟩) hS hP (fun H locs hP hS => ?_)
      refine lv_iload hx hb dL_law_181 (lv_at hl 1 rfl) ?_
      refine r_icmp_eq hx hb dL_law_183 (tgt := 188) (by decide) (by omega) (by omega) (fun he => ?_) (fun hne => ?_)
      · refine lv_iload hx hb dL_law_188 (lv_at hl 1 rfl) ?_
        refine r_if_ne hx hb dL_law_190 (tgt := 205) (by decide) (by omega) (fun hz => ?_) (fun hz => ?_)
        · exact absurd rfl hz
        · refine lv_aload_n hx hb dL_law_193 rfl (lv_at hl 3 rfl) ?_
          refine r_iconst hx hb dL_law_194 ?_
          refine r_lald hx hb hK9 hP 11 5 rfl rfl (by omega) (by omega) (by decide) dL_law_195 ?_
          refine r_top (w := .long ((iI (n : Int)).toInt64)) (congrArg Value.long (hv)) ?_
          refine lv_iload hx hb dL_law_196 (lv_at hl 0 rfl) ?_
          refine lv_i2l hx hb dL_law_198 rfl ?_
          refine r_lcmp_eq hx hb dL_law_199 dL_law_200 (tgt := 205) (by decide) (fun hq => ?_) (fun hq => ?_)
          · refine lv_goto hx hb dL_law_205 (tgt := 880) (by decide) ?_
            have hl := lv_sub (l' := [(4, .int (iI j)), (3, .ref ou), (2, .ref (bd 0)), (1, .ref (ad 0)), (0, .ref b)]) hl [2, 3, 4, 5, 6] rfl
            have hPe := hP.sub (ws' := (wX ad ca xL xB xD xN xS ((n + 1 : Nat) : Int) (r : Int) xx ++ wO ou co fo9) ++ wM bd cb 0 yl yz yo yw ((n + 1 : Nat) : Int) ((r : Int) + 1)) [5, 6, 7, 8, 9, 10, 11, 0, 1, 2, 3, 4] rfl
            exact kk (n + 1) r ((uN L n p1.toNat)) ((uN S n p2.toNat)) lo H locs ls ⟨xL, xB, xD, xN, xS, xx, fo9, 0, yl, yz, yo, yw, okS_push hok (by omega) (by omega) (by omega) (by omega) (by omega), hT9, hM9, hPe⟩ hS hl
          · exact absurd (rfl) hq
      · exact absurd rfl hne
    · exact (by omega : False).elim
    · exact (by omega : False).elim
  · rcases h7 with ⟨hd1, hd2, he8, rfl, hM9, hn8, hv8⟩ | ⟨hd1, he8, hM9, hn8, hv8⟩ | ⟨hd1, hd2, he8, hM9, hn8, hv8⟩
    · exact (by omega : False).elim
    · dsimp only at *
      try subst_vars
      have hP : va_P (dC, dI) vwCl (wM bd cb 1 yl yz yo yw (n : Int) ((r : Int) + 1) ++ (wX ad ca xL xB xD xN xS (n : Int) (r : Int) xx ++ wO ou co fo9)) H := hP
      have hl : lv_has ls 8 [(6, .int r8), (5, .int (iI 1)), (4, .int (iI j)), (3, .ref ou), (2, .ref (bd 0)), (1, .ref (ad 0)), (0, .ref b)] := hl
      refine lv_aload_n hx hb dL_law_177 rfl (lv_at hl 4 rfl) ?_
      have hPt := hP.sub (ws' := wM bd cb 1 yl yz yo yw (n : Int) ((r : Int) + 1)) [0, 1, 2, 3, 4] rfl
      have hDt := (wD_same hD (w' := wM bd cb 1 yl yz yo yw (n : Int) ((r : Int) + 1) ++ (wX ad ca xL xB xD xN xS (n : Int) (r : Int) xx ++ wO ou co fo9)) rfl).sub (ws' := wM bd cb 1 yl yz yo yw (n : Int) ((r : Int) + 1)) [0, 1, 2, 3, 4] (by decide) rfl
      refine ro_z (z := 1) (va_runV (As := []) (rest := []) ⟨hx, hb, hml, hown, hts⟩ (n_thrown l dC dI bd cb 1 yl yz yo yw ((n : Int)) (((r : Int) + 1))) (cwV 0 hts (gV wlL_70 wo_X1_thrown wz_X1_thrown wi_2 wcX1_thrown) rfl rfl rfl (by decide +kernel) ⟨Nat.le_of_ble_eq_true rfl, Nat.le_of_ble_eq_true rfl⟩) (PX_V (q0 := 0) (ci := 1) hPt hKc hDt rfl rfl) rfl rfl hl.1 rfl (lv_room (Nat.le_of_ble_eq_true rfl)) dL_law_178 ⟨by show kc + 2 + 0 + 0 ≤ 1049; omega, by show ks + 12 + 0 + 0 ≤ 10515; omega⟩) hS hP (fun H locs hP hS => ?_)
      refine lv_iload hx hb dL_law_181 (lv_at hl 1 rfl) ?_
      refine r_icmp_eq hx hb dL_law_183 (tgt := 188) (by decide) (by omega) (by omega) (fun he => ?_) (fun hne => ?_)
      · refine lv_iload hx hb dL_law_188 (lv_at hl 1 rfl) ?_
        refine r_if_ne hx hb dL_law_190 (tgt := 205) (by decide) (by omega) (fun hz => ?_) (fun hz => ?_)
        · refine lv_goto hx hb dL_law_205 (tgt := 880) (by decide) ?_
          have hl := lv_sub (l' := [(4, .int (iI j)), (3, .ref ou), (2, .ref (bd 0)), (1, .ref (ad 0)), (0, .ref b)]) hl [2, 3, 4, 5, 6] rfl
          have hPe := hP.sub (ws' := (wX ad ca xL xB xD xN xS (n : Int) (r : Int) xx ++ wO ou co fo9) ++ wM bd cb 1 yl yz yo yw (n : Int) ((r : Int) + 1)) [5, 6, 7, 8, 9, 10, 11, 0, 1, 2, 3, 4] rfl
          exact kk n r L S lo H locs ls ⟨xL, xB, xD, xN, xS, xx, fo9, 1, yl, yz, yo, yw, hok, hT9, hM9, hPe⟩ hS hl
        · exact absurd hz (by decide)
      · exact absurd rfl hne
    · exact (by omega : False).elim
  · rcases h7 with ⟨hd1, hd2, he8, rfl, hM9, hn8, hv8⟩ | ⟨hd1, he8, hM9, hn8, hv8⟩ | ⟨hd1, hd2, he8, hM9, hn8, hv8⟩
    · exact (by omega : False).elim
    · exact (by omega : False).elim
    · dsimp only at *
      try subst_vars
      have hP : va_P (dC, dI) vwCl (wM bd cb 2 yl yz yo yw (n : Int) ((r : Int) + 1) ++ (wX ad ca xL xB xD xN xS (n : Int) (r : Int) xx ++ wO ou co fo9)) H := hP
      have hl : lv_has ls 8 [(6, .int r8), (5, .int (iI 2)), (4, .int (iI j)), (3, .ref ou), (2, .ref (bd 0)), (1, .ref (ad 0)), (0, .ref b)] := hl
      refine lv_aload_n hx hb dL_law_177 rfl (lv_at hl 4 rfl) ?_
      have hPt := hP.sub (ws' := wM bd cb 2 yl yz yo yw (n : Int) ((r : Int) + 1)) [0, 1, 2, 3, 4] rfl
      have hDt := (wD_same hD (w' := wM bd cb 2 yl yz yo yw (n : Int) ((r : Int) + 1) ++ (wX ad ca xL xB xD xN xS (n : Int) (r : Int) xx ++ wO ou co fo9)) rfl).sub (ws' := wM bd cb 2 yl yz yo yw (n : Int) ((r : Int) + 1)) [0, 1, 2, 3, 4] (by decide) rfl
      refine ro_z (z := 2) (va_runV (As := []) (rest := []) ⟨hx, hb, hml, hown, hts⟩ (n_thrown l dC dI bd cb 2 yl yz yo yw ((n : Int)) (((r : Int) + 1))) (cwV 0 hts (gV wlL_70 wo_X1_thrown wz_X1_thrown wi_2 wcX1_thrown) rfl rfl rfl (by decide +kernel) ⟨Nat.le_of_ble_eq_true rfl, Nat.le_of_ble_eq_true rfl⟩) (PX_V (q0 := 0) (ci := 1) hPt hKc hDt rfl rfl) rfl rfl hl.1 rfl (lv_room (Nat.le_of_ble_eq_true rfl)) dL_law_178 ⟨by show kc + 2 + 0 + 0 ≤ 1049; omega, by show ks + 12 + 0 + 0 ≤ 10515; omega⟩) hS hP (fun H locs hP hS => ?_)
      refine lv_iload hx hb dL_law_181 (lv_at hl 1 rfl) ?_
      refine r_icmp_eq hx hb dL_law_183 (tgt := 188) (by decide) (by omega) (by omega) (fun he => ?_) (fun hne => ?_)
      · refine lv_iload hx hb dL_law_188 (lv_at hl 1 rfl) ?_
        refine r_if_ne hx hb dL_law_190 (tgt := 205) (by decide) (by omega) (fun hz => ?_) (fun hz => ?_)
        · refine lv_goto hx hb dL_law_205 (tgt := 880) (by decide) ?_
          have hl := lv_sub (l' := [(4, .int (iI j)), (3, .ref ou), (2, .ref (bd 0)), (1, .ref (ad 0)), (0, .ref b)]) hl [2, 3, 4, 5, 6] rfl
          have hPe := hP.sub (ws' := (wX ad ca xL xB xD xN xS (n : Int) (r : Int) xx ++ wO ou co fo9) ++ wM bd cb 2 yl yz yo yw (n : Int) ((r : Int) + 1)) [5, 6, 7, 8, 9, 10, 11, 0, 1, 2, 3, 4] rfl
          exact kk n r L S lo H locs ls ⟨xL, xB, xD, xN, xS, xx, fo9, 2, yl, yz, yo, yw, hok, hT9, hM9, hPe⟩ hS hl
        · exact absurd hz (by decide)
      · exact absurd rfl hne
set_option maxHeartbeats 4000000 in
set_option maxRecDepth 100000 in
theorem k_lose {p : Program} {l : Launch} {e : Env} {s : State} {m : MethodId} {below : List Frame} {meth : Method} {c : Code} {b Lz : Nat} {xs : Nat → Int32} {Q : State → Prop} {dC : Nat → ClassId} {dI : Nat → Nat → Nat} {ad : Nat → Nat} {ca : Nat → ClassId} {ou : Nat} {co : ClassId} {bd : Nat → Nat} {cb : Nat → ClassId} (C : LC p l s m c b Lz xs dC dI ad ca ou co bd cb) {n r : Nat} {L S : Nat → Nat} {lo : Nat → Bool} {H : Heap} {locs : List Loc} {kc ks : Nat} {ls : Array Slot} {j : Int} (hI : LI dC dI ad ca ou co bd cb n r L S lo H) (hS : va_S (fun q => s.heap.size ≤ q) s.heap H locs) (hl : lv_has ls 8 [(4, .int (iI j)), (3, .ref ou), (2, .ref (bd 0)), (1, .ref (ad 0)), (0, .ref b)]) (hj0 : 0 ≤ j) (hj : j + 2 < (Lz : Int)) (hc0 : kc + 2 ≤ 1049) (hs0 : ks + 12 ≤ 10515) (kk : ∀ (n r : Nat) (L S : Nat → Nat) (lo : Nat → Bool) (H : Heap) (locs : List Loc) (ls : Array Slot), LI dC dI ad ca ou co bd cb n r L S lo H → va_S (fun q => s.heap.size ≤ q) s.heap H locs → lv_has ls 8 [(4, .int (iI j)), (3, .ref ou), (2, .ref (bd 0)), (1, .ref (ad 0)), (0, .ref b)] → W p l e room_1 s m #[Value.ref b] below meth c H locs (kc + 2) (ks + 12) Q (F0 m 880 ls [])) : W p l e room_1 s m #[Value.ref b] below meth c H locs kc ks Q (F0 m 559 ls []) := by
  obtain ⟨hx, hb, hml, hown, hts, hX, hbl, hL9, hK, hE, hDz, hl9⟩ := C
  obtain ⟨gL, gB, gD, gN, gS, x, fo, er, gl, gz, go, gw, hok, hT, hM, hP⟩ := hI
  have hD := wD_same hDz (w' := (wX ad ca gL gB gD gN gS (n : Int) (r : Int) x ++ wO ou co fo) ++ wM bd cb er gl gz go gw (n : Int) ((r : Int) + 1)) rfl
  obtain ⟨p1, hp1, ep1⟩ := iI_of (xs (j + 1).toNat)
  obtain ⟨p2, hp2, ep2⟩ := iI_of (xs (j + 2).toNat)
  have hK9 := hK
  refine lv_aload_n hx hb dL_law_559 rfl (lv_at hl 3 rfl) ?_
  refine lv_aload_n hx hb dL_law_560 rfl (lv_at hl 4 rfl) ?_
  refine lv_iload hx hb dL_law_561 (lv_at hl 0 rfl) ?_
  refine r_iconst hx hb dL_law_563 ?_
  refine r_iadd hx hb dL_law_564 ?_
  refine r_sld hx hb hX hbl (Nat.not_le.mpr hbl) hS (by omega) (by omega) hL9 ep1 dL_law_565 ?_
  refine lv_aload_n hx hb dL_law_566 rfl (lv_at hl 4 rfl) ?_
  refine lv_iload hx hb dL_law_567 (lv_at hl 0 rfl) ?_
  refine r_iconst hx hb dL_law_569 ?_
  refine r_iadd hx hb dL_law_570 ?_
  refine r_sld hx hb hX hbl (Nat.not_le.mpr hbl) hS (by omega) (by omega) hL9 ep2 dL_law_571 ?_
  refine r_if_eq hx hb dL_law_572 (tgt := 579) (by decide) (by omega) (fun hf0 => ?_) (fun hf1 => ?_)
  · refine r_iconst hx hb dL_law_579 ?_
    refine lv_aload_n hx hb dL_law_580 rfl (lv_at hl 1 rfl) ?_
    have hPx := hP.sub (ws' := (wX ad ca gL gB gD gN gS (n : Int) (r : Int) x ++ wO ou co fo)) [0, 1, 2, 3, 4, 5, 6] rfl
    have hDx := hD.sub (ws' := (wX ad ca gL gB gD gN gS (n : Int) (r : Int) x ++ wO ou co fo)) [0, 1, 2, 3, 4, 5, 6] (by decide) rfl
    have hKx := hK.sub (tys' := yXo ca co) [0, 1, 2, 3, 4, 5] rfl
    refine wc_i (vx_runSW (As := [.ref (ad 0), .int (iI p1), .int (iI 0), .ref ou]) (rest := []) ⟨hx, hb, hml, hown, hts⟩ (w_lose l hl9 dC dI ad ca gL gB gD gN gS n r x L S lo hok hT ou co fo p1 0 hp1 (Or.inl rfl)) (vx_cwSW 4 hts (gSt wlL_97 wt_L_lose wi_0 wcL_lose) rfl rfl rfl (by decide +kernel) ⟨Nat.le_of_ble_eq_true rfl, Nat.le_of_ble_eq_true rfl⟩) (PXe_S hPx hKx hDx hE hS.2.1 (wD_in hDx)) rfl rfl hl.1 rfl (lv_room (Nat.le_of_ble_eq_true rfl)) dL_law_581 ⟨hc0, hs0⟩) hS (wD_in hDx) (fun r9 u9 H1 locs h8 hP1 hS hk9 => ?_)
    have hP := wjoin hP hD hk9 hP1
    generalize H1 = H at hP hS ⊢
    obtain ⟨⟨⟨xL, xB, xD, xN, xS⟩, xn, xr, xx⟩, fo9⟩ := u9
    have hP : va_P (dC, dI) vwCl ((wX ad ca xL xB xD xN xS xn xr xx ++ wO ou co fo9) ++ wM bd cb er gl gz go gw (n : Int) ((r : Int) + 1)) H := hP
    have hD := wD_same hDz (w' := (wX ad ca xL xB xD xN xS xn xr xx ++ wO ou co fo9) ++ wM bd cb er gl gz go gw (n : Int) ((r : Int) + 1)) rfl
    refine lv_istore hx hb dL_law_584 hl (by decide) rfl (fun ls hl => ?_)
    have hl : lv_has ls 8 [(5, .int r9), (4, .int (iI j)), (3, .ref ou), (2, .ref (bd 0)), (1, .ref (ad 0)), (0, .ref b)] := hl
    refine lv_aload_n hx hb dL_law_586 rfl (lv_at hl 3 rfl) ?_
    refine lv_aload_n hx hb dL_law_587 rfl (lv_at hl 5 rfl) ?_
    refine lv_iload hx hb dL_law_588 (lv_at hl 1 rfl) ?_
    refine r_iconst hx hb dL_law_590 ?_
    refine r_iadd hx hb dL_law_591 ?_
    refine r_sld hx hb hX hbl (Nat.not_le.mpr hbl) hS (by omega) (by omega) hL9 ep1 dL_law_592 ?_
    refine lv_aload_n hx hb dL_law_593 rfl (lv_at hl 5 rfl) ?_
    refine lv_iload hx hb dL_law_594 (lv_at hl 1 rfl) ?_
    refine r_iconst hx hb dL_law_596 ?_
    refine r_iadd hx hb dL_law_597 ?_
    refine r_sld hx hb hX hbl (Nat.not_le.mpr hbl) hS (by omega) (by omega) hL9 ep2 dL_law_598 ?_
    refine r_if_eq hx hb dL_law_599 (tgt := 606) (by decide) (by omega) (fun hg0 => ?_) (fun hg1 => ?_)
    · refine r_iconst hx hb dL_law_606 ?_
      have hPm := hP.sub (ws' := wM bd cb er gl gz go gw (n : Int) ((r : Int) + 1) ++ (wX ad ca xL xB xD xN xS xn xr xx ++ wO ou co fo9)) [7, 8, 9, 10, 11, 0, 1, 2, 3, 4, 5, 6] rfl
      have hDm := hD.sub (ws' := wM bd cb er gl gz go gw (n : Int) ((r : Int) + 1) ++ (wX ad ca xL xB xD xN xS xn xr xx ++ wO ou co fo9)) [7, 8, 9, 10, 11, 0, 1, 2, 3, 4, 5, 6] (by decide) rfl
      have hPc := hPm.sub (ws' := wM bd cb er gl gz go gw (n : Int) ((r : Int) + 1)) [0, 1, 2, 3, 4] rfl
      have hDc := hDm.sub (ws' := wM bd cb er gl gz go gw (n : Int) ((r : Int) + 1)) [0, 1, 2, 3, 4] (by decide) rfl
      have hKc := hK.sub (tys' := yM cb) [6, 7, 8, 9] rfl
      refine wc_i (va_runV (As := [.int (iI p1), .int (iI 0)]) (rest := []) ⟨hx, hb, hml, hown, hts⟩ (n_lose l dC dI bd cb er gl gz go gw n r L S lo hok hM p1 0 hp1 (Or.inl rfl)) (cwV 2 hts (gV wlL_100 wo_X1_lose wz_X1_lose wi_2 wcX1_lose) rfl rfl rfl (by decide +kernel) ⟨Nat.le_of_ble_eq_true rfl, Nat.le_of_ble_eq_true rfl⟩) (PX_V (q0 := 0) (ci := 1) hPc hKc hDc rfl rfl) rfl rfl hl.1 rfl (lv_room (Nat.le_of_ble_eq_true rfl)) dL_law_607 ⟨by show kc + 2 + 0 ≤ 1049; omega, by show ks + 12 + 0 ≤ 10515; omega⟩) hS (wD_in hDc) (fun r8 u8 H1 locs h7 hP1 hS hk9 => ?_)
      have hP := wjoin hPm hDm hk9 hP1
      generalize H1 = H at hP hS ⊢
      obtain ⟨er8, yl, yz, yo, yw, yn, yv⟩ := u8
      have hP : va_P (dC, dI) vwCl (wM bd cb er8 yl yz yo yw yn yv ++ (wX ad ca xL xB xD xN xS xn xr xx ++ wO ou co fo9)) H := hP
      have hD := hDz.sub (ws' := wM bd cb 0 (fun _ => 0) (fun _ => 0) (fun _ => 0) (fun _ => 0) 0 0 ++ (wX ad ca (fun _ => 0) (fun _ => 0) (fun _ => 0) (fun _ => 0) (fun _ => 0) 0 0 0 ++ wO ou co (fun _ => 0))) [7, 8, 9, 10, 11, 0, 1, 2, 3, 4, 5, 6] (by decide) rfl
      have hD := wD_same hD (w' := wM bd cb er8 yl yz yo yw yn yv ++ (wX ad ca xL xB xD xN xS xn xr xx ++ wO ou co fo9)) rfl
      refine lv_istore hx hb dL_law_610 hl (by decide) rfl (fun ls hl => ?_)
      have hl : lv_has ls 8 [(6, .int r8), (5, .int r9), (4, .int (iI j)), (3, .ref ou), (2, .ref (bd 0)), (1, .ref (ad 0)), (0, .ref b)] := hl
      simp only [XS, MS] at h8 h7
      rcases h8 with ⟨hc1, rfl, ⟨hT9, hn9, hr9⟩, hv⟩ | ⟨hc1, rfl, hT9, hn9, hr9⟩
      · rcases h7 with ⟨hd1, he8, rfl, hM9, hn8, hv8⟩ | ⟨hd1, he8, hM9, hn8, hv8⟩
        · dsimp only at *
          try subst_vars
          have hP : va_P (dC, dI) vwCl (wM bd cb 0 yl yz yo yw (n : Int) ((r : Int) + 1) ++ (wX ad ca xL xB xD xN xS (n : Int) (r : Int) xx ++ wO ou co fo9)) H := hP
          have hl : lv_has ls 8 [(6, .int (iI (b2 (lo p1.toNat)))), (5, .int (iI 0)), (4, .int (iI j)), (3, .ref ou), (2, .ref (bd 0)), (1, .ref (ad 0)), (0, .ref b)] := hl
          refine lv_aload_n hx hb dL_law_612 rfl (lv_at hl 4 rfl) ?_
          have hPt := hP.sub (ws' := wM bd cb 0 yl yz yo yw (n : Int) ((r : Int) + 1)) [0, 1, 2, 3, 4] rfl
          have hDt := (wD_same hD (w' := wM bd cb 0 yl yz yo yw (n : Int) ((r : Int) + 1) ++ (wX ad ca xL xB xD xN xS (n : Int) (r : Int) xx ++ wO ou co fo9)) rfl).sub (ws' := wM bd cb 0 yl yz yo yw (n : Int) ((r : Int) + 1)) [0, 1, 2, 3, 4] (by decide) rfl
          refine ro_z (z := 0) (va_runV (As := []) (rest := []) ⟨hx, hb, hml, hown, hts⟩ (n_thrown l dC dI bd cb 0 yl yz yo yw ((n : Int)) (((r : Int) + 1))) (cwV 0 hts (gV wlL_70 wo_X1_thrown wz_X1_thrown wi_2 wcX1_thrown) rfl rfl rfl (by decide +kernel) ⟨Nat.le_of_ble_eq_true rfl, Nat.le_of_ble_eq_true rfl⟩) (PX_V (q0 := 0) (ci := 1) hPt hKc hDt rfl rfl) rfl rfl hl.1 rfl (lv_room (Nat.le_of_ble_eq_true rfl)) dL_law_613 ⟨by show kc + 2 + 0 + 0 ≤ 1049; omega, by show ks + 12 + 0 + 0 ≤ 10515; omega⟩) hS hP (fun H locs hP hS => ?_)
          refine lv_iload hx hb dL_law_616 (lv_at hl 1 rfl) ?_
          refine r_icmp_eq hx hb dL_law_618 (tgt := 623) (by decide) (by omega) (by omega) (fun he => ?_) (fun hne => ?_)
          · refine lv_iload hx hb dL_law_623 (lv_at hl 1 rfl) ?_
            refine r_if_ne hx hb dL_law_625 (tgt := 647) (by decide) (by omega) (fun hz => ?_) (fun hz => ?_)
            · exact absurd rfl hz
            · refine lv_aload_n hx hb dL_law_628 rfl (lv_at hl 3 rfl) ?_
              refine r_iconst hx hb dL_law_629 ?_
              refine r_lald hx hb hK9 hP 11 5 rfl rfl (by omega) (by omega) (by decide) dL_law_630 ?_
              refine r_top (w := .long (bJ (lo p1.toNat))) (congrArg Value.long (hv)) ?_
              have h01 := b2_01 (lo p1.toNat)
              refine lv_iload hx hb dL_law_631 (lv_at hl 0 rfl) ?_
              refine r_if_eq hx hb dL_law_633 (tgt := 640) (by decide) (by omega) (fun hq0 => ?_) (fun hq1 => ?_)
              · refine lv_lconst hx hb dL_law_640 rfl ?_
                refine r_lcmp_eq hx hb dL_law_641 dL_law_642 (tgt := 647) (by decide) (fun hq => ?_) (fun hq => ?_)
                · refine lv_goto hx hb dL_law_647 (tgt := 880) (by decide) ?_
                  have hl := lv_sub (l' := [(4, .int (iI j)), (3, .ref ou), (2, .ref (bd 0)), (1, .ref (ad 0)), (0, .ref b)]) hl [2, 3, 4, 5, 6] rfl
                  have hPe := hP.sub (ws' := (wX ad ca xL xB xD xN xS (n : Int) (r : Int) xx ++ wO ou co fo9) ++ wM bd cb 0 yl yz yo yw (n : Int) ((r : Int) + 1)) [5, 6, 7, 8, 9, 10, 11, 0, 1, 2, 3, 4] rfl
                  exact kk n r L S ((lsU lo p1.toNat (decide ((0 : Int) = 1)))) H locs ls ⟨xL, xB, xD, xN, xS, xx, fo9, 0, yl, yz, yo, yw, hok, hT9, hM9, hPe⟩ hS hl
                · exact absurd (by rw [b2_0 hq0]; rfl) hq
              · refine lv_lconst hx hb dL_law_636 rfl ?_
                refine lv_goto hx hb dL_law_637 (tgt := 641) (by decide) ?_
                refine r_lcmp_eq hx hb dL_law_641 dL_law_642 (tgt := 647) (by decide) (fun hq => ?_) (fun hq => ?_)
                · refine lv_goto hx hb dL_law_647 (tgt := 880) (by decide) ?_
                  have hl := lv_sub (l' := [(4, .int (iI j)), (3, .ref ou), (2, .ref (bd 0)), (1, .ref (ad 0)), (0, .ref b)]) hl [2, 3, 4, 5, 6] rfl
                  have hPe := hP.sub (ws' := (wX ad ca xL xB xD xN xS (n : Int) (r : Int) xx ++ wO ou co fo9) ++ wM bd cb 0 yl yz yo yw (n : Int) ((r : Int) + 1)) [5, 6, 7, 8, 9, 10, 11, 0, 1, 2, 3, 4] rfl
                  exact kk n r L S ((lsU lo p1.toNat (decide ((0 : Int) = 1)))) H locs ls ⟨xL, xB, xD, xN, xS, xx, fo9, 0, yl, yz, yo, yw, hok, hT9, hM9, hPe⟩ hS hl
                · exact absurd (by rw [b2_1 hq1]; rfl) hq
          · exact absurd rfl hne
        · exact (by omega : False).elim
      · rcases h7 with ⟨hd1, he8, rfl, hM9, hn8, hv8⟩ | ⟨hd1, he8, hM9, hn8, hv8⟩
        · exact (by omega : False).elim
        · dsimp only at *
          try subst_vars
          have hP : va_P (dC, dI) vwCl (wM bd cb 1 yl yz yo yw (n : Int) ((r : Int) + 1) ++ (wX ad ca xL xB xD xN xS (n : Int) (r : Int) xx ++ wO ou co fo9)) H := hP
          have hl : lv_has ls 8 [(6, .int r8), (5, .int (iI 1)), (4, .int (iI j)), (3, .ref ou), (2, .ref (bd 0)), (1, .ref (ad 0)), (0, .ref b)] := hl
          refine lv_aload_n hx hb dL_law_612 rfl (lv_at hl 4 rfl) ?_
          have hPt := hP.sub (ws' := wM bd cb 1 yl yz yo yw (n : Int) ((r : Int) + 1)) [0, 1, 2, 3, 4] rfl
          have hDt := (wD_same hD (w' := wM bd cb 1 yl yz yo yw (n : Int) ((r : Int) + 1) ++ (wX ad ca xL xB xD xN xS (n : Int) (r : Int) xx ++ wO ou co fo9)) rfl).sub (ws' := wM bd cb 1 yl yz yo yw (n : Int) ((r : Int) + 1)) [0, 1, 2, 3, 4] (by decide) rfl
          refine ro_z (z := 1) (va_runV (As := []) (rest := []) ⟨hx, hb, hml, hown, hts⟩ (n_thrown l dC dI bd cb 1 yl yz yo yw ((n : Int)) (((r : Int) + 1))) (cwV 0 hts (gV wlL_70 wo_X1_thrown wz_X1_thrown wi_2 wcX1_thrown) rfl rfl rfl (by decide +kernel) ⟨Nat.le_of_ble_eq_true rfl, Nat.le_of_ble_eq_true rfl⟩) (PX_V (q0 := 0) (ci := 1) hPt hKc hDt rfl rfl) rfl rfl hl.1 rfl (lv_room (Nat.le_of_ble_eq_true rfl)) dL_law_613 ⟨by show kc + 2 + 0 + 0 ≤ 1049; omega, by show ks + 12 + 0 + 0 ≤ 10515; omega⟩) hS hP (fun H locs hP hS => ?_)
          refine lv_iload hx hb dL_law_616 (lv_at hl 1 rfl) ?_
          refine r_icmp_eq hx hb dL_law_618 (tgt := 623) (by decide) (by omega) (by omega) (fun he => ?_) (fun hne => ?_)
          · refine lv_iload hx hb dL_law_623 (lv_at hl 1 rfl) ?_
            refine r_if_ne hx hb dL_law_625 (tgt := 647) (by decide) (by omega) (fun hz => ?_) (fun hz => ?_)
            · refine lv_goto hx hb dL_law_647 (tgt := 880) (by decide) ?_
              have hl := lv_sub (l' := [(4, .int (iI j)), (3, .ref ou), (2, .ref (bd 0)), (1, .ref (ad 0)), (0, .ref b)]) hl [2, 3, 4, 5, 6] rfl
              have hPe := hP.sub (ws' := (wX ad ca xL xB xD xN xS (n : Int) (r : Int) xx ++ wO ou co fo9) ++ wM bd cb 1 yl yz yo yw (n : Int) ((r : Int) + 1)) [5, 6, 7, 8, 9, 10, 11, 0, 1, 2, 3, 4] rfl
              exact kk n r L S lo H locs ls ⟨xL, xB, xD, xN, xS, xx, fo9, 1, yl, yz, yo, yw, hok, hT9, hM9, hPe⟩ hS hl
            · exact absurd hz (by decide)
          · exact absurd rfl hne
    · exact absurd hf0 hg1
  · refine r_iconst hx hb dL_law_575 ?_
    refine lv_goto hx hb dL_law_576 (tgt := 580) (by decide) ?_
    refine lv_aload_n hx hb dL_law_580 rfl (lv_at hl 1 rfl) ?_
    have hPx := hP.sub (ws' := (wX ad ca gL gB gD gN gS (n : Int) (r : Int) x ++ wO ou co fo)) [0, 1, 2, 3, 4, 5, 6] rfl
    have hDx := hD.sub (ws' := (wX ad ca gL gB gD gN gS (n : Int) (r : Int) x ++ wO ou co fo)) [0, 1, 2, 3, 4, 5, 6] (by decide) rfl
    have hKx := hK.sub (tys' := yXo ca co) [0, 1, 2, 3, 4, 5] rfl
    refine wc_i (vx_runSW (As := [.ref (ad 0), .int (iI p1), .int (iI 1), .ref ou]) (rest := []) ⟨hx, hb, hml, hown, hts⟩ (w_lose l hl9 dC dI ad ca gL gB gD gN gS n r x L S lo hok hT ou co fo p1 1 hp1 (Or.inr rfl)) (vx_cwSW 4 hts (gSt wlL_97 wt_L_lose wi_0 wcL_lose) rfl rfl rfl (by decide +kernel) ⟨Nat.le_of_ble_eq_true rfl, Nat.le_of_ble_eq_true rfl⟩) (PXe_S hPx hKx hDx hE hS.2.1 (wD_in hDx)) rfl rfl hl.1 rfl (lv_room (Nat.le_of_ble_eq_true rfl)) dL_law_581 ⟨hc0, hs0⟩) hS (wD_in hDx) (fun r9 u9 H1 locs h8 hP1 hS hk9 => ?_)
    have hP := wjoin hP hD hk9 hP1
    generalize H1 = H at hP hS ⊢
    obtain ⟨⟨⟨xL, xB, xD, xN, xS⟩, xn, xr, xx⟩, fo9⟩ := u9
    have hP : va_P (dC, dI) vwCl ((wX ad ca xL xB xD xN xS xn xr xx ++ wO ou co fo9) ++ wM bd cb er gl gz go gw (n : Int) ((r : Int) + 1)) H := hP
    have hD := wD_same hDz (w' := (wX ad ca xL xB xD xN xS xn xr xx ++ wO ou co fo9) ++ wM bd cb er gl gz go gw (n : Int) ((r : Int) + 1)) rfl
    refine lv_istore hx hb dL_law_584 hl (by decide) rfl (fun ls hl => ?_)
    have hl : lv_has ls 8 [(5, .int r9), (4, .int (iI j)), (3, .ref ou), (2, .ref (bd 0)), (1, .ref (ad 0)), (0, .ref b)] := hl
    refine lv_aload_n hx hb dL_law_586 rfl (lv_at hl 3 rfl) ?_
    refine lv_aload_n hx hb dL_law_587 rfl (lv_at hl 5 rfl) ?_
    refine lv_iload hx hb dL_law_588 (lv_at hl 1 rfl) ?_
    refine r_iconst hx hb dL_law_590 ?_
    refine r_iadd hx hb dL_law_591 ?_
    refine r_sld hx hb hX hbl (Nat.not_le.mpr hbl) hS (by omega) (by omega) hL9 ep1 dL_law_592 ?_
    refine lv_aload_n hx hb dL_law_593 rfl (lv_at hl 5 rfl) ?_
    refine lv_iload hx hb dL_law_594 (lv_at hl 1 rfl) ?_
    refine r_iconst hx hb dL_law_596 ?_
    refine r_iadd hx hb dL_law_597 ?_
    refine r_sld hx hb hX hbl (Nat.not_le.mpr hbl) hS (by omega) (by omega) hL9 ep2 dL_law_598 ?_
    refine r_if_eq hx hb dL_law_599 (tgt := 606) (by decide) (by omega) (fun hg0 => ?_) (fun hg1 => ?_)
    · exact absurd hg0 hf1
    · refine r_iconst hx hb dL_law_602 ?_
      refine lv_goto hx hb dL_law_603 (tgt := 607) (by decide) ?_
      have hPm := hP.sub (ws' := wM bd cb er gl gz go gw (n : Int) ((r : Int) + 1) ++ (wX ad ca xL xB xD xN xS xn xr xx ++ wO ou co fo9)) [7, 8, 9, 10, 11, 0, 1, 2, 3, 4, 5, 6] rfl
      have hDm := hD.sub (ws' := wM bd cb er gl gz go gw (n : Int) ((r : Int) + 1) ++ (wX ad ca xL xB xD xN xS xn xr xx ++ wO ou co fo9)) [7, 8, 9, 10, 11, 0, 1, 2, 3, 4, 5, 6] (by decide) rfl
      have hPc := hPm.sub (ws' := wM bd cb er gl gz go gw (n : Int) ((r : Int) + 1)) [0, 1, 2, 3, 4] rfl
      have hDc := hDm.sub (ws' := wM bd cb er gl gz go gw (n : Int) ((r : Int) + 1)) [0, 1, 2, 3, 4] (by decide) rfl
      have hKc := hK.sub (tys' := yM cb) [6, 7, 8, 9] rfl
      refine wc_i (va_runV (As := [.int (iI p1), .int (iI 1)]) (rest := []) ⟨hx, hb, hml, hown, hts⟩ (n_lose l dC dI bd cb er gl gz go gw n r L S lo hok hM p1 1 hp1 (Or.inr rfl)) (cwV 2 hts (gV wlL_100 wo_X1_lose wz_X1_lose wi_2 wcX1_lose) rfl rfl rfl (by decide +kernel) ⟨Nat.le_of_ble_eq_true rfl, Nat.le_of_ble_eq_true rfl⟩) (PX_V (q0 := 0) (ci := 1) hPc hKc hDc rfl rfl) rfl rfl hl.1 rfl (lv_room (Nat.le_of_ble_eq_true rfl)) dL_law_607 ⟨by show kc + 2 + 0 ≤ 1049; omega, by show ks + 12 + 0 ≤ 10515; omega⟩) hS (wD_in hDc) (fun r8 u8 H1 locs h7 hP1 hS hk9 => ?_)
      have hP := wjoin hPm hDm hk9 hP1
      generalize H1 = H at hP hS ⊢
      obtain ⟨er8, yl, yz, yo, yw, yn, yv⟩ := u8
      have hP : va_P (dC, dI) vwCl (wM bd cb er8 yl yz yo yw yn yv ++ (wX ad ca xL xB xD xN xS xn xr xx ++ wO ou co fo9)) H := hP
      have hD := hDz.sub (ws' := wM bd cb 0 (fun _ => 0) (fun _ => 0) (fun _ => 0) (fun _ => 0) 0 0 ++ (wX ad ca (fun _ => 0) (fun _ => 0) (fun _ => 0) (fun _ => 0) (fun _ => 0) 0 0 0 ++ wO ou co (fun _ => 0))) [7, 8, 9, 10, 11, 0, 1, 2, 3, 4, 5, 6] (by decide) rfl
      have hD := wD_same hD (w' := wM bd cb er8 yl yz yo yw yn yv ++ (wX ad ca xL xB xD xN xS xn xr xx ++ wO ou co fo9)) rfl
      refine lv_istore hx hb dL_law_610 hl (by decide) rfl (fun ls hl => ?_)
      have hl : lv_has ls 8 [(6, .int r8), (5, .int r9), (4, .int (iI j)), (3, .ref ou), (2, .ref (bd 0)), (1, .ref (ad 0)), (0, .ref b)] := hl
      simp only [XS, MS] at h8 h7
      rcases h8 with ⟨hc1, rfl, ⟨hT9, hn9, hr9⟩, hv⟩ | ⟨hc1, rfl, hT9, hn9, hr9⟩
      · rcases h7 with ⟨hd1, he8, rfl, hM9, hn8, hv8⟩ | ⟨hd1, he8, hM9, hn8, hv8⟩
        · dsimp only at *
          try subst_vars
          have hP : va_P (dC, dI) vwCl (wM bd cb 0 yl yz yo yw (n : Int) ((r : Int) + 1) ++ (wX ad ca xL xB xD xN xS (n : Int) (r : Int) xx ++ wO ou co fo9)) H := hP
          have hl : lv_has ls 8 [(6, .int (iI (b2 (lo p1.toNat)))), (5, .int (iI 0)), (4, .int (iI j)), (3, .ref ou), (2, .ref (bd 0)), (1, .ref (ad 0)), (0, .ref b)] := hl
          refine lv_aload_n hx hb dL_law_612 rfl (lv_at hl 4 rfl) ?_
          have hPt := hP.sub (ws' := wM bd cb 0 yl yz yo yw (n : Int) ((r : Int) + 1)) [0, 1, 2, 3, 4] rfl
          have hDt := (wD_same hD (w' := wM bd cb 0 yl yz yo yw (n : Int) ((r : Int) + 1) ++ (wX ad ca xL xB xD xN xS (n : Int) (r : Int) xx ++ wO ou co fo9)) rfl).sub (ws' := wM bd cb 0 yl yz yo yw (n : Int) ((r : Int) + 1)) [0, 1, 2, 3, 4] (by decide) rfl
          refine ro_z (z := 0) (va_runV (As := []) (rest := []) ⟨hx, hb, hml, hown, hts⟩ (n_thrown l dC dI bd cb 0 yl yz yo yw ((n : Int)) (((r : Int) + 1))) (cwV 0 hts (gV wlL_70 wo_X1_thrown wz_X1_thrown wi_2 wcX1_thrown) rfl rfl rfl (by decide +kernel) ⟨Nat.le_of_ble_eq_true rfl, Nat.le_of_ble_eq_true rfl⟩) (PX_V (q0 := 0) (ci := 1) hPt hKc hDt rfl rfl) rfl rfl hl.1 rfl (lv_room (Nat.le_of_ble_eq_true rfl)) dL_law_613 ⟨by show kc + 2 + 0 + 0 ≤ 1049; omega, by show ks + 12 + 0 + 0 ≤ 10515; omega⟩) hS hP (fun H locs hP hS => ?_)
          refine lv_iload hx hb dL_law_616 (lv_at hl 1 rfl) ?_
          refine r_icmp_eq hx hb dL_law_618 (tgt := 623) (by decide) (by omega) (by omega) (fun he => ?_) (fun hne => ?_)
          · refine lv_iload hx hb dL_law_623 (lv_at hl 1 rfl) ?_
            refine r_if_ne hx hb dL_law_625 (tgt := 647) (by decide) (by omega) (fun hz => ?_) (fun hz => ?_)
            · exact absurd rfl hz
            · refine lv_aload_n hx hb dL_law_628 rfl (lv_at hl 3 rfl) ?_
              refine r_iconst hx hb dL_law_629 ?_
              refine r_lald hx hb hK9 hP 11 5 rfl rfl (by omega) (by omega) (by decide) dL_law_630 ?_
              refine r_top (w := .long (bJ (lo p1.toNat))) (congrArg Value.long (hv)) ?_
              have h01 := b2_01 (lo p1.toNat)
              refine lv_iload hx hb dL_law_631 (lv_at hl 0 rfl) ?_
              refine r_if_eq hx hb dL_law_633 (tgt := 640) (by decide) (by omega) (fun hq0 => ?_) (fun hq1 => ?_)
              · refine lv_lconst hx hb dL_law_640 rfl ?_
                refine r_lcmp_eq hx hb dL_law_641 dL_law_642 (tgt := 647) (by decide) (fun hq => ?_) (fun hq => ?_)
                · refine lv_goto hx hb dL_law_647 (tgt := 880) (by decide) ?_
                  have hl := lv_sub (l' := [(4, .int (iI j)), (3, .ref ou), (2, .ref (bd 0)), (1, .ref (ad 0)), (0, .ref b)]) hl [2, 3, 4, 5, 6] rfl
                  have hPe := hP.sub (ws' := (wX ad ca xL xB xD xN xS (n : Int) (r : Int) xx ++ wO ou co fo9) ++ wM bd cb 0 yl yz yo yw (n : Int) ((r : Int) + 1)) [5, 6, 7, 8, 9, 10, 11, 0, 1, 2, 3, 4] rfl
                  exact kk n r L S ((lsU lo p1.toNat (decide ((1 : Int) = 1)))) H locs ls ⟨xL, xB, xD, xN, xS, xx, fo9, 0, yl, yz, yo, yw, hok, hT9, hM9, hPe⟩ hS hl
                · exact absurd (by rw [b2_0 hq0]; rfl) hq
              · refine lv_lconst hx hb dL_law_636 rfl ?_
                refine lv_goto hx hb dL_law_637 (tgt := 641) (by decide) ?_
                refine r_lcmp_eq hx hb dL_law_641 dL_law_642 (tgt := 647) (by decide) (fun hq => ?_) (fun hq => ?_)
                · refine lv_goto hx hb dL_law_647 (tgt := 880) (by decide) ?_
                  have hl := lv_sub (l' := [(4, .int (iI j)), (3, .ref ou), (2, .ref (bd 0)), (1, .ref (ad 0)), (0, .ref b)]) hl [2, 3, 4, 5, 6] rfl
                  have hPe := hP.sub (ws' := (wX ad ca xL xB xD xN xS (n : Int) (r : Int) xx ++ wO ou co fo9) ++ wM bd cb 0 yl yz yo yw (n : Int) ((r : Int) + 1)) [5, 6, 7, 8, 9, 10, 11, 0, 1, 2, 3, 4] rfl
                  exact kk n r L S ((lsU lo p1.toNat (decide ((1 : Int) = 1)))) H locs ls ⟨xL, xB, xD, xN, xS, xx, fo9, 0, yl, yz, yo, yw, hok, hT9, hM9, hPe⟩ hS hl
                · exact absurd (by rw [b2_1 hq1]; rfl) hq
          · exact absurd rfl hne
        · exact (by omega : False).elim
      · rcases h7 with ⟨hd1, he8, rfl, hM9, hn8, hv8⟩ | ⟨hd1, he8, hM9, hn8, hv8⟩
        · exact (by omega : False).elim
        · dsimp only at *
          try subst_vars
          have hP : va_P (dC, dI) vwCl (wM bd cb 1 yl yz yo yw (n : Int) ((r : Int) + 1) ++ (wX ad ca xL xB xD xN xS (n : Int) (r : Int) xx ++ wO ou co fo9)) H := hP
          have hl : lv_has ls 8 [(6, .int r8), (5, .int (iI 1)), (4, .int (iI j)), (3, .ref ou), (2, .ref (bd 0)), (1, .ref (ad 0)), (0, .ref b)] := hl
          refine lv_aload_n hx hb dL_law_612 rfl (lv_at hl 4 rfl) ?_
          have hPt := hP.sub (ws' := wM bd cb 1 yl yz yo yw (n : Int) ((r : Int) + 1)) [0, 1, 2, 3, 4] rfl
          have hDt := (wD_same hD (w' := wM bd cb 1 yl yz yo yw (n : Int) ((r : Int) + 1) ++ (wX ad ca xL xB xD xN xS (n : Int) (r : Int) xx ++ wO ou co fo9)) rfl).sub (ws' := wM bd cb 1 yl yz yo yw (n : Int) ((r : Int) + 1)) [0, 1, 2, 3, 4] (by decide) rfl
          refine ro_z (z := 1) (va_runV (As := []) (rest := []) ⟨hx, hb, hml, hown, hts⟩ (n_thrown l dC dI bd cb 1 yl yz yo yw ((n : Int)) (((r : Int) + 1))) (cwV 0 hts (gV wlL_70 wo_X1_thrown wz_X1_thrown wi_2 wcX1_thrown) rfl rfl rfl (by decide +kernel) ⟨Nat.le_of_ble_eq_true rfl, Nat.le_of_ble_eq_true rfl⟩) (PX_V (q0 := 0) (ci := 1) hPt hKc hDt rfl rfl) rfl rfl hl.1 rfl (lv_room (Nat.le_of_ble_eq_true rfl)) dL_law_613 ⟨by show kc + 2 + 0 + 0 ≤ 1049; omega, by show ks + 12 + 0 + 0 ≤ 10515; omega⟩) hS hP (fun H locs hP hS => ?_)
          refine lv_iload hx hb dL_law_616 (lv_at hl 1 rfl) ?_
          refine r_icmp_eq hx hb dL_law_618 (tgt := 623) (by decide) (by omega) (by omega) (fun he => ?_) (fun hne => ?_)
          · refine lv_iload hx hb dL_law_623 (lv_at hl 1 rfl) ?_
            refine r_if_ne hx hb dL_law_625 (tgt := 647) (by decide) (by omega) (fun hz => ?_) (fun hz => ?_)
            · refine lv_goto hx hb dL_law_647 (tgt := 880) (by decide) ?_
              have hl := lv_sub (l' := [(4, .int (iI j)), (3, .ref ou), (2, .ref (bd 0)), (1, .ref (ad 0)), (0, .ref b)]) hl [2, 3, 4, 5, 6] rfl
              have hPe := hP.sub (ws' := (wX ad ca xL xB xD xN xS (n : Int) (r : Int) xx ++ wO ou co fo9) ++ wM bd cb 1 yl yz yo yw (n : Int) ((r : Int) + 1)) [5, 6, 7, 8, 9, 10, 11, 0, 1, 2, 3, 4] rfl
              exact kk n r L S lo H locs ls ⟨xL, xB, xD, xN, xS, xx, fo9, 1, yl, yz, yo, yw, hok, hT9, hM9, hPe⟩ hS hl
            · exact absurd hz (by decide)
          · exact absurd rfl hne
