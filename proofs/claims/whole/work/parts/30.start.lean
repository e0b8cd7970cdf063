/-! the law from its entry; the claim -/
theorem tb_of {w : Cond} (i : Nat) (h : tables_1[i]? = some w) : w ∈ lw_tbl := List.mem_append_right _ (List.mem_of_getElem? h)
set_option maxHeartbeats 4000000 in
set_option maxRecDepth 100000 in
theorem ex_start {s : State} {b : Nat} (htbl : ∀ w ∈ lw_tbl, w.before #[Value.ref b] s = true) (hg : (Jvm.Cond.and given_1 narrow_1).before #[Value.ref b] s = true) : exE (fun q => s.heap.size ≤ q) s s.heap := by
  have hs := flat_of_before _ hg
  have hA : ∀ a : Nat, a < s.heap.size → ¬ s.heap.size ≤ a := fun a h => Nat.not_le.mpr h
  have hi : (Cond.initialized "java/lang/Throwable").before #[Value.ref b] s = true := htbl _ (tb_of 3 (by decide +kernel))
  refine ⟨⟨vx_Zqof (C := "java/lang/Throwable") (n := "UNASSIGNED_STACK") (d := "[Ljava/lang/StackTraceElement;") (htbl _ (tb_of 85 (by decide +kernel))) hi (hs _ (by decide +kernel)) hA, vx_Zqof (C := "java/lang/Throwable") (n := "SUPPRESSED_SENTINEL") (d := "Ljava/util/List;") (htbl _ (tb_of 87 (by decide +kernel))) hi (hs _ (by decide +kernel)) hA⟩, fun E h => ?_, fun Y h => ?_, fun q h => ?_, va_Nc.of (hs _ (by decide +kernel)), va_Nc.of (hs _ (by decide +kernel))⟩
  · simp only [List.mem_cons, List.not_mem_nil, or_false] at h
    rcases h with rfl | rfl | rfl
    · exact va_Nw.of rfl (htbl _ (tb_of 60 (by decide +kernel)))
    · exact va_Nw.of rfl (htbl _ (tb_of 138 (by decide +kernel)))
    · exact va_Nw.of rfl (htbl _ (tb_of 191 (by decide +kernel)))
  · simp only [List.mem_cons, List.not_mem_nil, or_false] at h
    rcases h with rfl | rfl | rfl
    · exact va_Nw.of rfl (htbl _ (tb_of 62 (by decide +kernel)))
    · exact va_Nw.of rfl (htbl _ (tb_of 64 (by decide +kernel)))
    · exact va_Nw.of rfl (htbl _ (tb_of 66 (by decide +kernel)))
  · simp only [xTx, List.mem_cons, List.not_mem_nil, or_false] at h
    rcases h with rfl | rfl | rfl | rfl | rfl | rfl | rfl | rfl | rfl | rfl | rfl | rfl | rfl
    · obtain ⟨a, cx, cA, kA, q1, -⟩ := Cond.exactly_spec (args := #[Value.ref b]) (first := s) (o := none) (s := s) (idx := []) (t := .string "TapeChains" 32) (cls := "java/lang/String") (hs _ (by decide +kernel))
      exact ⟨a, vk_R.of (A := #[Value.ref b]) (htbl _ (tb_of 99 (by decide +kernel))) q1⟩
    · obtain ⟨a, cx, cA, kA, q1, -⟩ := Cond.exactly_spec (args := #[Value.ref b]) (first := s) (o := none) (s := s) (idx := []) (t := .string "TapeChains" 37) (cls := "java/lang/String") (hs _ (by decide +kernel))
      exact ⟨a, vk_R.of (A := #[Value.ref b]) (htbl _ (tb_of 134 (by decide +kernel))) q1⟩
    · obtain ⟨a, cx, cA, kA, q1, -⟩ := Cond.exactly_spec (args := #[Value.ref b]) (first := s) (o := none) (s := s) (idx := []) (t := .string "TapeChains" 39) (cls := "java/lang/String") (hs _ (by decide +kernel))
      exact ⟨a, vk_R.of (A := #[Value.ref b]) (htbl _ (tb_of 135 (by decide +kernel))) q1⟩
    · obtain ⟨a, cx, cA, kA, q1, -⟩ := Cond.exactly_spec (args := #[Value.ref b]) (first := s) (o := none) (s := s) (idx := []) (t := .string "TapeChains" 47) (cls := "java/lang/String") (hs _ (by decide +kernel))
      exact ⟨a, vk_R.of (A := #[Value.ref b]) (htbl _ (tb_of 145 (by decide +kernel))) q1⟩
    · obtain ⟨a, cx, cA, kA, q1, -⟩ := Cond.exactly_spec (args := #[Value.ref b]) (first := s) (o := none) (s := s) (idx := []) (t := .string "TapeChains" 53) (cls := "java/lang/String") (hs _ (by decide +kernel))
      exact ⟨a, vk_R.of (A := #[Value.ref b]) (htbl _ (tb_of 152 (by decide +kernel))) q1⟩
    · obtain ⟨a, cx, cA, kA, q1, -⟩ := Cond.exactly_spec (args := #[Value.ref b]) (first := s) (o := none) (s := s) (idx := []) (t := .string "TapeChains" 59) (cls := "java/lang/String") (hs _ (by decide +kernel))
      exact ⟨a, vk_R.of (A := #[Value.ref b]) (htbl _ (tb_of 176 (by decide +kernel))) q1⟩
    · obtain ⟨a, cx, cA, kA, q1, -⟩ := Cond.exactly_spec (args := #[Value.ref b]) (first := s) (o := none) (s := s) (idx := []) (t := .string "TapeChains" 121) (cls := "java/lang/String") (hs _ (by decide +kernel))
      exact ⟨a, vk_R.of (A := #[Value.ref b]) (htbl _ (tb_of 198 (by decide +kernel))) q1⟩
    · obtain ⟨a, cx, cA, kA, q1, -⟩ := Cond.exactly_spec (args := #[Value.ref b]) (first := s) (o := none) (s := s) (idx := []) (t := .string "TapeChains" 64) (cls := "java/lang/String") (hs _ (by decide +kernel))
      exact ⟨a, vk_R.of (A := #[Value.ref b]) (htbl _ (tb_of 205 (by decide +kernel))) q1⟩
    · obtain ⟨a, cx, cA, kA, q1, -⟩ := Cond.exactly_spec (args := #[Value.ref b]) (first := s) (o := none) (s := s) (idx := []) (t := .string "TapeChains" 66) (cls := "java/lang/String") (hs _ (by decide +kernel))
      exact ⟨a, vk_R.of (A := #[Value.ref b]) (htbl _ (tb_of 220 (by decide +kernel))) q1⟩
    · obtain ⟨a, cx, cA, kA, q1, -⟩ := Cond.exactly_spec (args := #[Value.ref b]) (first := s) (o := none) (s := s) (idx := []) (t := .string "TapeChains" 124) (cls := "java/lang/String") (hs _ (by decide +kernel))
      exact ⟨a, vk_R.of (A := #[Value.ref b]) (htbl _ (tb_of 232 (by decide +kernel))) q1⟩
    · obtain ⟨a, cx, cA, kA, q1, -⟩ := Cond.exactly_spec (args := #[Value.ref b]) (first := s) (o := none) (s := s) (idx := []) (t := .string "TapeChains" 75) (cls := "java/lang/String") (hs _ (by decide +kernel))
      exact ⟨a, vk_R.of (A := #[Value.ref b]) (htbl _ (tb_of 233 (by decide +kernel))) q1⟩
    · obtain ⟨a, cx, cA, kA, q1, -⟩ := Cond.exactly_spec (args := #[Value.ref b]) (first := s) (o := none) (s := s) (idx := []) (t := .string "TapeChains" 90) (cls := "java/lang/String") (hs _ (by decide +kernel))
      exact ⟨a, vk_R.of (A := #[Value.ref b]) (htbl _ (tb_of 277 (by decide +kernel))) q1⟩
    · obtain ⟨a, cx, cA, kA, q1, -⟩ := Cond.exactly_spec (args := #[Value.ref b]) (first := s) (o := none) (s := s) (idx := []) (t := .string "TapeChains" 117) (cls := "java/lang/String") (hs _ (by decide +kernel))
      exact ⟨a, vk_R.of (A := #[Value.ref b]) (htbl _ (tb_of 306 (by decide +kernel))) q1⟩
set_option maxHeartbeats 4000000 in
set_option maxRecDepth 100000 in
theorem whole_start {p : Program} {e : Env} {s : State} {m : MethodId} {below : List Frame} {meth : Method} {c : Code} (l : Launch) (hl9 : l.stackTraces = false) {b L : Nat} {xs : Nat → Int32} (hL : L ≤ 1536) (C0 : lw_At p s m meth c b L xs) : W p l e room_1 s m #[Value.ref b] below meth c s.heap [] 0 0 (lw_Z below #[Value.ref b] s) (entryFrame m ([Value.ref b] : List Value).toArray 8) := by
  obtain ⟨hx, hb, hr, hml, hown, htbl, hX, hbl, hlocks, hg⟩ := C0
  have hown : s.vm.findClass RL = some m.cls := hown
  have hE := ex_start htbl hg
  have hw : ∀ w ∈ wAll, w.before #[Value.ref b] s = true := fun w h => htbl w (List.mem_filter.mp h).1
  have hts : ∀ w ∈ (Cond.initialized RL :: wAll), w.before #[Value.ref b] s = true := fun w h => (List.mem_cons.mp h).elim (fun e => by rw [e]; exact hw _ wi_0) (hw w)
  have hinX : ∀ w ∈ u_ws RX0 TX0 8, w ∈ (Cond.initialized RL :: wAll) := wA_u wuX0
  have hinM : ∀ w ∈ u_ws RX1 TX1 7, w ∈ (Cond.initialized RL :: wAll) := wA_u wuX1
  obtain ⟨c0, i0, hk0⟩ := u_known hts hinX (hw _ wnX0)
  obtain ⟨c1, i1, hk1⟩ := u_known hts hinM (hw _ wnX1)
  obtain ⟨dC, hC0, hC1⟩ : ∃ dC : Nat → ClassId, dC 0 = c0 ∧ dC 1 = c1 := ⟨fun k => match k with | 0 => c0 | _ => c1, rfl, rfl⟩
  obtain ⟨dI, hI0, hI1⟩ : ∃ dI : Nat → Nat → Nat, dI 0 = i0 ∧ dI 1 = i1 := ⟨fun k => match k with | 0 => i0 | _ => i1, rfl, rfl⟩
  have hK : va_K (dC, dI) vwCl [] s := by
    refine ⟨fun k q h => ?_, fun k q h => by simp at h⟩
    match k, h with
    | 0, h => cases h; show u_Kn s RX0 TX0 8 (dC 0) (dI 0); rw [hC0, hI0]; exact hk0
    | 1, h => cases h; show u_Kn s RX1 TX1 7 (dC 1) (dI 1); rw [hC1, hI1]; exact hk1
    | k + 2, h => simp at h
  clear hC0 hC1 hI0 hI1 hk0 hk1
  have hP : va_P (dC, dI) vwCl [] s.heap := fun k q h => by simp at h
  have hD : va_D (fun q => s.heap.size ≤ q) [] := ⟨fun i j p q h => by simp at h, fun k q h => by simp at h⟩
  have hA : ∀ q : Nat, s.heap.size ≤ q → (fun q => s.heap.size ≤ q) q := fun q h => h
  have hS : va_S (fun q => s.heap.size ≤ q) s.heap s.heap [] := va_S.rf
  have hl := lv_entry ([.ref b]) (n := 8) (Nat.le_of_ble_eq_true rfl)
  rw [lg_entry_eq]
  generalize (lg_sl ([.ref b]) ++ List.replicate (8 - (lg_sl ([.ref b])).length) Slot.unset).toArray = ls at hl ⊢
  have hl : lv_has ls 8 [(0, .ref b)] := hl
  refine va_new (ci := 0) (fs := [.null, .null, .null, .null, .null, .int (iI 0), .int (iI 0), .long 0]) (C := RX0) (T := TX0) (N := 8) hx hb hts hinX tyX0 tyX0_ok hown (hw _ wkL_8) (hw _ wnX0) (hw _ wi_1) hK hP hD hS hA rfl (fun j hj => by rcases (show j = 0 ∨ j = 1 ∨ j = 2 ∨ j = 3 ∨ j = 4 ∨ j = 5 ∨ j = 6 ∨ j = 7 by omega) with rfl | rfl | rfl | rfl | rfl | rfl | rfl | rfl <;> rfl) (Nat.le_of_ble_eq_true rfl) (Nat.le_of_ble_eq_true rfl) dL_law_0 (fun qx H hP hD hS => ?_)
  have hP : va_P (dC, dI) vwCl [(qx, .inr (0, [.null, .null, .null, .null, .null, .int (iI 0), .int (iI 0), .long 0]))] H := hP
  have hD : va_D (fun q => s.heap.size ≤ q) [(qx, .inr (0, [.null, .null, .null, .null, .null, .int (iI 0), .int (iI 0), .long 0]))] := hD
  refine lv_dup hx hb dL_law_3 rfl ?_
  have hPc := hP
  have hDc := hD
  have hKc := hK
  have hFc := va_free (wc := [(qx, .inr (0, [.null, .null, .null, .null, .null, .int (iI 0), .int (iI 0), .long 0]))]) hD hS hA [0] rfl
  refine va_callv (va_runI (As := []) (rest := [.ref qx]) ⟨hx, hb, hml, hown, hts⟩ (m_init l dC dI qx H.size) (cwI 0 hts (gA wcX0_init) rfl rfl rfl (hw _ wi_1) (hw _ wlL_60) (hw _ wo_X0_init) rfl (by decide +kernel) ⟨Nat.le_of_ble_eq_true rfl, Nat.le_of_ble_eq_true rfl⟩) ⟨fun a U g mk q => by obtain ⟨q0, q1, qP, qK, qD⟩ := q; exact ⟨q0, q1, qP, va_K.moved (u := U) (U := U.calling g mk a) (Vm.Alike.refl U.vm) qK, qD⟩, fun U hU hW => ⟨rfl, by rw [hU], by rw [hU]; exact hPc, va_K.moved hW.alike hKc, hDc.weaken (fun _ _ _ _ => trivial)⟩⟩ rfl rfl hl.1 rfl (lv_room (Nat.le_of_ble_eq_true rfl)) dL_law_4 ⟨Nat.le_of_ble_eq_true rfl, Nat.le_of_ble_eq_true rfl⟩) hS (fun q _ h => hFc q h) hFc (fun u t H1 locs ht hvm h5 hB hz1 hk1 hS => ?_)
  obtain ⟨ad, ca⟩ := u
  have h5 : ad 0 = qx := h5
  subst h5
  obtain ⟨hP1, hK1, hD1⟩ := hB
  rw [ht] at hP1
  have hKX := va_K.moved hvm.symm hK1
  obtain ⟨hP, hD⟩ := va_join (wr := []) (w1 := (wX ad ca (fun _ => 0) (fun _ => 0) (fun _ => 0) (fun _ => 0) (fun _ => 0) 0 99 0)) hP hD [0] [] rfl rfl (by decide) (by decide) hk1 hFc hP1 hD1
  generalize H1 = H at hP hS ⊢
  have hP : va_P (dC, dI) vwCl (wX ad ca (fun _ => 0) (fun _ => 0) (fun _ => 0) (fun _ => 0) (fun _ => 0) 0 99 0) H := hP
  have hD : va_D (fun q => s.heap.size ≤ q) (wX ad ca (fun _ => 0) (fun _ => 0) (fun _ => 0) (fun _ => 0) (fun _ => 0) 0 99 0) := hD
  have hKX : va_K (dC, dI) vwCl (yX ca) s := hKX
  refine lv_astore_n hx hb dL_law_7 rfl hl (by decide) rfl (fun ls hl => ?_)
  have hl : lv_has ls 8 [(1, .ref (ad 0)), (0, .ref b)] := hl
  refine va_new (ci := 1) (fs := [.int (iI 0), .null, .null, .null, .null, .int (iI 0), .int (iI 0)]) (C := RX1) (T := TX1) (N := 7) hx hb hts hinM tyX1 tyX1_ok hown (hw _ wkL_61) (hw _ wnX1) (hw _ wi_2) hKX hP hD hS hA rfl (fun j hj => by rcases (show j = 0 ∨ j = 1 ∨ j = 2 ∨ j = 3 ∨ j = 4 ∨ j = 5 ∨ j = 6 by omega) with rfl | rfl | rfl | rfl | rfl | rfl | rfl <;> rfl) (Nat.le_of_ble_eq_true rfl) (Nat.le_of_ble_eq_true rfl) dL_law_8 (fun qm H hP hD hS => ?_)
  refine lv_dup hx hb dL_law_11 rfl ?_
  have hPc := hP.sub (ws' := [(qm, .inr (1, [.int (iI 0), .null, .null, .null, .null, .int (iI 0), .int (iI 0)]))]) [6] rfl
  have hDc := hD.sub (ws' := [(qm, .inr (1, [.int (iI 0), .null, .null, .null, .null, .int (iI 0), .int (iI 0)]))]) [6] (by decide) rfl
  have hFc := va_free (wc := [(qm, .inr (1, [.int (iI 0), .null, .null, .null, .null, .int (iI 0), .int (iI 0)]))]) hD hS hA [6] rfl
  refine va_callv (va_runI (As := []) (rest := [.ref qm]) ⟨hx, hb, hml, hown, hts⟩ (n_init l dC dI qm H.size) (cwI 0 hts (gA wcX1_init) rfl rfl rfl (hw _ wi_2) (hw _ wlL_63) (hw _ wo_X1_init) rfl (by decide +kernel) ⟨Nat.le_of_ble_eq_true rfl, Nat.le_of_ble_eq_true rfl⟩) ⟨fun a U g mk q => by obtain ⟨q0, q1, qP, qK, qD⟩ := q; exact ⟨q0, q1, qP, va_K.moved (u := U) (U := U.calling g mk a) (Vm.Alike.refl U.vm) qK, qD⟩, fun U hU hW => ⟨rfl, by rw [hU], by rw [hU]; exact hPc, va_K.moved hW.alike hKc, hDc.weaken (fun _ _ _ _ => trivial)⟩⟩ rfl rfl hl.1 rfl (lv_room (Nat.le_of_ble_eq_true rfl)) dL_law_12 ⟨Nat.le_of_ble_eq_true rfl, Nat.le_of_ble_eq_true rfl⟩) hS (fun q _ h => hFc q h) hFc (fun u t H1 locs ht hvm h5 hB hz1 hk1 hS => ?_)
  obtain ⟨bd, cb⟩ := u
  have h5 : bd 0 = qm := h5
  subst h5
  obtain ⟨hP1, hK1, hD1⟩ := hB
  rw [ht] at hP1
  have hKM := va_K.moved hvm.symm hK1
  obtain ⟨hP, hD⟩ := va_join (wr := (wX ad ca (fun _ => 0) (fun _ => 0) (fun _ => 0) (fun _ => 0) (fun _ => 0) 0 99 0)) (w1 := (wM bd cb 0 (fun _ => 0) (fun _ => 0) (fun _ => 0) (fun _ => 0) 0 100)) hP hD [6] [0, 1, 2, 3, 4, 5] rfl rfl (by decide) (by decide) hk1 hFc hP1 hD1
  generalize H1 = H at hP hS ⊢
  have hP : va_P (dC, dI) vwCl ((wX ad ca (fun _ => 0) (fun _ => 0) (fun _ => 0) (fun _ => 0) (fun _ => 0) 0 99 0) ++ (wM bd cb 0 (fun _ => 0) (fun _ => 0) (fun _ => 0) (fun _ => 0) 0 100)) H := hP
  have hD : va_D (fun q => s.heap.size ≤ q) ((wX ad ca (fun _ => 0) (fun _ => 0) (fun _ => 0) (fun _ => 0) (fun _ => 0) 0 99 0) ++ (wM bd cb 0 (fun _ => 0) (fun _ => 0) (fun _ => 0) (fun _ => 0) 0 100)) := hD
  have hKM : va_K (dC, dI) vwCl (yM cb) s := hKM
  have hK2 : va_K (dC, dI) vwCl (yX ca ++ yM cb) s := hKX.app hKM
  refine lv_astore_n hx hb dL_law_15 rfl hl (by decide) rfl (fun ls hl => ?_)
  have hl : lv_has ls 8 [(2, .ref (bd 0)), (1, .ref (ad 0)), (0, .ref b)] := hl
  refine r_iconst hx hb dL_law_16 ?_
  refine va_newa (atype := .long) (ty := .long) (a0 := (1, .inr (.inl (fun _ => 0)))) (N' := 1) hx hb (hw _ wy_long) rfl hK2 hP hD hS hA (z_long 1) (by decide +kernel) (by decide +kernel) (by decide +kernel) (Nat.le_of_ble_eq_true rfl) (Nat.le_of_ble_eq_true rfl) dL_law_17 (fun ou co H hK3 hP hD hS => ?_)
  refine lv_astore_n hx hb dL_law_19 rfl hl (by decide) rfl (fun ls hl => ?_)
  refine r_iconst hx hb dL_law_20 ?_
  refine lv_istore hx hb dL_law_21 hl (by decide) rfl (fun ls hl => ?_)
  have hl : lv_has ls 8 [(4, .int (iI (3 * ((0 : Nat) : Int)))), (3, .ref ou), (2, .ref (bd 0)), (1, .ref (ad 0)), (0, .ref b)] := hl
  have hP : va_P (dC, dI) vwCl (((wX ad ca (fun _ => 0) (fun _ => 0) (fun _ => 0) (fun _ => 0) (fun _ => 0) 0 99 0) ++ wO ou co (fun _ => 0)) ++ (wM bd cb 0 (fun _ => 0) (fun _ => 0) (fun _ => 0) (fun _ => 0) 0 100)) H := hP.sub [0, 1, 2, 3, 4, 5, 11, 6, 7, 8, 9, 10] rfl
  have hDL : va_D (fun q => s.heap.size ≤ q) (((wX ad ca (fun _ => 0) (fun _ => 0) (fun _ => 0) (fun _ => 0) (fun _ => 0) 0 99 0) ++ wO ou co (fun _ => 0)) ++ (wM bd cb 0 (fun _ => 0) (fun _ => 0) (fun _ => 0) (fun _ => 0) 0 100)) := hD.sub [0, 1, 2, 3, 4, 5, 11, 6, 7, 8, 9, 10] (by decide) rfl
  have hKL : va_K (dC, dI) vwCl (tyL ca co cb) s := hK3.sub [0, 1, 2, 3, 4, 9, 5, 6, 7, 8] rfl
  have C : LC p l s m c b L xs dC dI ad ca ou co bd cb := ⟨hx, hb, hml, hown, hts, hX, hbl, hL, hKL, hE, wD_same hDL rfl, hl9⟩
  refine law_loop C hr hlocks 601 0 0 99 (fun _ => 0) (fun _ => 0) (fun _ => false) H _ ls _ _ (by decide) (by decide) (by decide) (by decide) ?_ hS hl
  refine ⟨fun _ => 0, fun _ => 0, fun _ => 0, fun _ => 0, fun _ => 0, 0, fun _ => 0, 0, fun _ => 0, fun _ => 0, fun _ => 0, fun _ => 0, ⟨by decide, by decide, by decide, fun d h => absurd h (Nat.not_lt_zero d), Nat.zero_le _⟩, ⟨fun d h => absurd h (Nat.not_lt_zero d), fun d h => ?_, fun v _ => bL_0 v⟩, ⟨fun d h => absurd h (Nat.not_lt_zero d), fun v _ => rfl⟩, hP⟩
  have hd : d = 0 := by omega
  rw [hd]
  rfl
set_option maxHeartbeats 4000000 in
theorem lw_walk (l : Launch) (hl9 : l.stackTraces = false) (b : Addr) (xs : List Int32) : MetFree l x (headSpec (Jvm.Cond.code x code maxLocals ret :: tables_1) room_1) (lw_P b xs) (fun _ _ _ _ _ => True) lw_Q := by
  refine MetFree.of_bodyS (code := code) (maxLocals := maxLocals) (ret := ret) (by decide) ?_ ?_
  · intro args s m h hn
    obtain ⟨meth, c, h1, h2, h3, h4, h5, h6, -, -⟩ := Cond.code_spec hn (atoms_spec (ws := Jvm.Cond.code x code maxLocals ret :: tables_1) h _ List.mem_cons_self)
    exact ⟨meth, c, h1, h2, h3, h4, h5, h6⟩
  · intro p e s m args below meth c s₁ B hml0 hP _
    obtain ⟨rfl, hx, hbd, hgv⟩ := hP
    obtain ⟨scr, harrAt, hlist, hof, hsmall⟩ := hx
    obtain ⟨hcb, hkn, -, -⟩ := State.arrayAt?_spec harrAt
    have hown : s.vm.findClass R_law = some m.cls := findClass_of_methodNamed B.named
    have hts0 : ∀ c ∈ (Jvm.Cond.code x code maxLocals ret :: tables_1), c.before #[Value.ref b] s = true := atoms_spec (ws := Jvm.Cond.code x code maxLocals ret :: tables_1) B.pre
    have hts : ∀ w ∈ lw_tbl, w.before #[Value.ref b] s = true := k2_hts_sels lw_privs (fun w hw => hts0 w (List.mem_cons_of_mem _ hw)) lw_privs_ok
    have hml : c.maxLocals = 8 := B.maxLocals_eq (hts0 _ List.mem_cons_self)
    have X₀ : Stand p l e room_1 s m #[Value.ref b] below meth c s₁ [] 0 0 := Stand.of_body B
    have hh0 : s₁.heap = s.heap := by rw [B.state]; rfl
    have hsz : scr.slots.size = xs.length := by rw [← Array.length_toList, hlist, List.length_map]
    have hval : ∀ j : Nat, j < xs.length → scr.slots[j]? = some (.int (xs.getD j 0)) := fun j hj => by
      rw [← Array.getElem?_toList, hlist]
      simp [hj]
    have hbl : b < s.heap.size := (Array.getElem?_eq_some_iff.mp hcb).1
    have hX : va_X b xs.length (fun j => xs.getD j 0) s s.heap := ⟨scr, hcb, hof, hkn, hsz, hval⟩
    have K : W p l e room_1 s m #[Value.ref b] below meth c s₁.heap [] 0 0 (lw_Z below #[Value.ref b] s) (entryFrame m ([Value.ref b] : List Value).toArray 8) := by
      rw [hh0]
      exact whole_start l hl9 hbd ⟨B.exec, B.bytes, B.returns, hml, hown, hts, hX, hbl, B.notSynchronized, hgv⟩
    obtain ⟨t, a1, o, b1, b2, b3⟩ := K s₁ rfl X₀
    exact ⟨t, o, a1, b1, b2, b3⟩
theorem lw_pre_spec {args : Array Value} {s : State} (h : (Jvm.Cond.and given_1 narrow_1).before args s = true) (hr : rest_1_c.before args s = true) : ∃ (b : Addr) (xs : List Int32), lw_P b xs args s := by
  have hs := flat_of_before _ h
  have hq := flat_of_before _ hr
  have hc : (Cond.count 1).before args s = true := hs _ (by decide +kernel)
  have harr : (Cond.arrayOf (.arg 0) .int).before args s = true := hs _ (by decide +kernel)
  have hle : (Cond.le (.length (.arg 0)) (.int 1536)).before args s = true := hs _ (by decide +kernel)
  have hlen : (Cond.isInt (.length (.arg 0))).before args s = true := hq _ (by decide +kernel)
  have hall : (Cond.all (.arg 0) (.isInt (.elem (.arg 0) (.index 0)))).before args s = true := hq _ (by decide +kernel)
  obtain ⟨b, xs, hb, hx⟩ := State.ints_of_pre rfl harr hlen hall
  have hsm : xs.length < 2 ^ 31 := hx.choose_spec.2.2.2
  have hev : (Term.length (.arg 0)).eval args s none [] s = some (.int xs.length.toInt32) := hx.length_eval hb
  have hv := Cond.le_ints hev (show (Term.int 1536).eval args s none [] s = some (.int 1536) from rfl)
  have hd : xs.length.toInt32 ≤ 1536 := by
    simpa [Cond.before, Cond.holds, hv] using hle
  have hN : xs.length ≤ 1536 := (Int32.ofNat_le_ofNat hsm (by decide)).mp (show Int32.ofNat xs.length ≤ Int32.ofNat 1536 from hd)
  exact ⟨b, xs, Cond.one_arg hc (show args[0]? = some (.ref b) from hb), hx, hN, h⟩
theorem lw_comes (l : Launch) (hl9 : l.stackTraces = false) : Comes l x (Jvm.Cond.code x code maxLocals ret :: tables_1) room_1 (fun tb e args s => Calls_1 tb e args s ∧ rest_1 tb e args s ∧ Pre_1 tb e args s)
    (fun _ _ args s o t => lw_Q args s o t) := by
  intro p e ha hc hk s m args below hf hfit hheap happ hpre
  obtain ⟨b, xs, hP⟩ := lw_pre_spec hpre.2.2 hpre.2.1
  obtain ⟨k, o, h1, h2, h3, hQ⟩ := lw_walk l hl9 b xs p e ha hc hk s m args below hf ((Spec.applies_iff_loose hf).mp happ).1 hP trivial
  exact ⟨k, o, h1, h2, h3, hQ⟩
theorem lw_frame {s t : State} {o : Outcome} {args : Array Value} (h : Framed s o t [] 1049 10515) :
    Framed s o t (fieldLocs frame_1_writes args s ++ arrayLocs frame_1_arrays args s ++ staticLocs frame_1_statics s) 1049 10515 := h
theorem lw_limb (L : Cond) (hL : ∀ (args : Array Value) (s t : State), L.after args s (.returned (some (.int 1))) t = true) :
    ArmFor flags0 classFile x code maxLocals ret World_1 tables_1 room_1 Calls_1 rest_1 Pre_1
      (fun tb e a s o t => postC L tb e a s o t ∧ Framed s o t (fieldLocs frame_1_writes a s ++ arrayLocs frame_1_arrays a s ++ staticLocs frame_1_statics s) 1049 10515) := by
  intro l hfl _ _ p e ha hc hk s m args below hf hfit hheap happ hpre
  obtain ⟨k, o, h1, h2, h3, rfl, hF⟩ := lw_comes l (by unfold Launch.stackTraces; rw [hfl]; decide) p e ha hc hk s m args below hf hfit hheap happ hpre
  exact ⟨k, _, h1, h2, h3, hL args s _, lw_frame hF⟩
theorem i_vc : Claimed_1_1 ∧ Claimed_1_2 := ⟨lw_limb limb_1_1 (fun args s t => by simp [limb_1_1, Cond.after, Cond.holds, Cond.value]), lw_limb limb_1_2 (fun args s t => Cond.after_iff.mpr (by
  first | (rw [show limb_1_2 = Cond.eq .result (.int 1) from rfl, Cond.eq_ints (x := 1) (y := 1) rfl rfl]; simp; done) | (simp [limb_1_2, Cond.value, Term.eval]; done)))⟩
