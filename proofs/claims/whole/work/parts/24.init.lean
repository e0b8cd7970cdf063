/-! the two constructors -/
theorem z_int (n : Nat) : ∀ cA : ClassId, vp_cell cA (n, .inl (fun j => iI ((fun _ => 0) j))) = arrV cA n (fun _ => defaultValue .int) := fun _ => rfl
theorem z_boolean (n : Nat) : ∀ cA : ClassId, vp_cell cA (n, .inl (fun j => iI ((fun _ => 0) j))) = arrV cA n (fun _ => defaultValue .boolean) := fun _ => rfl
theorem z_long (n : Nat) : ∀ cA : ClassId, vp_cell cA (n, .inr (.inl (fun _ => 0))) = arrV cA n (fun _ => defaultValue .long) := fun _ => rfl
set_option maxHeartbeats 1000000 in
set_option maxRecDepth 100000 in
theorem m_init (l : Launch) (dC : Nat → ClassId) (dI : Nat → Nat → Nat) (h0 sz : Nat) : Met l yX0_init wsX0_init { frames := 1, cells := 5, slots := 1501, locals := 21 } (va_Pc [.ref h0] (fun U => U.heap.size = sz ∧ va_P (dC, dI) vwCl [(h0, .inr (0, [.null, .null, .null, .null, .null, .int (iI 0), .int (iI 0), .long 0]))] U.heap ∧ va_K (dC, dI) vwCl [] U ∧ va_D (fun _ => True) [(h0, .inr (0, [.null, .null, .null, .null, .null, .int (iI 0), .int (iI 0), .long 0]))])) (va_Qv (fun (u : (Nat → Nat) × (Nat → ClassId)) => u.1 0 = h0) (fun u t => va_P (dC, dI) vwCl (wX u.1 u.2 (fun _ => 0) (fun _ => 0) (fun _ => 0) (fun _ => 0) (fun _ => 0) 0 99 0) t.heap ∧ va_K (dC, dI) vwCl (yX u.2) t ∧ va_D (va_A [(h0, .inr (0, [.null, .null, .null, .null, .null, .int (iI 0), .int (iI 0), .long 0]))] sz) (wX u.1 u.2 (fun _ => 0) (fun _ => 0) (fun _ => 0) (fun _ => 0) (fun _ => 0) 0 99 0)) (va_A [(h0, .inr (0, [.null, .null, .null, .null, .null, .int (iI 0), .int (iI 0), .long 0]))] sz)) 5 1501 (va_A [(h0, .inr (0, [.null, .null, .null, .null, .null, .int (iI 0), .int (iI 0), .long 0]))] sz) := by
  refine Met.ofW (cc := cX0_init) (maxL := 1) (ret := none) (by decide) rfl ?_
  intro p e s m args below meth c s₁ B hml hv
  obtain ⟨rfl, hsz, hP, hK, hD0⟩ := hv
  have hx := B.exec
  have hb := B.bytes
  have hr := B.returns
  have hts := atoms_spec (ws := wsX0_init) B.pre
  have hown : s.vm.findClass RX0 = some m.cls := findClass_of_methodNamed B.named
  have hlocks := B.notSynchronized
  have hin : meth.name = "<init>" := (name_of_methodNamed B.named B.method).1
  have hw := fun w h => hts w (List.mem_cons_of_mem _ h)
  have hinTX0 : ∀ w ∈ u_ws RX0 TX0 8, w ∈ wsX0_init := wA_u wuX0
  subst hsz
  have hD := hD0.self (sz := s.heap.size)
  generalize hAe : va_A [(h0, .inr (0, [.null, .null, .null, .null, .null, .int (iI 0), .int (iI 0), .long 0]))] s.heap.size = A at hD ⊢
  have hA : ∀ q : Nat, s.heap.size ≤ q → A q := fun q h => by rw [← hAe]; exact Or.inr h
  have hS : va_S A s.heap s.heap [] := va_S.rf
  have hl := lv_entry ([.ref h0]) (n := 1) (Nat.le_of_ble_eq_true rfl)
  rw [lg_entry_eq]
  generalize (lg_sl ([.ref h0]) ++ List.replicate (1 - (lg_sl ([.ref h0])).length) Slot.unset).toArray = ls at hl ⊢
  have hl : lv_has ls 1 [(0, .ref h0)] := hl
  refine lv_aload_n hx hb dX0_init_0 rfl (lv_at hl 0 rfl) ?_
  refine W.objInit hx hb hown (hw _ wlX0_1) (hw _ wo_objectInit) (hw _ wc_obj) rfl (by rw [hml]; exact hl.1) rfl dX0_init_1 (Nat.le_of_ble_eq_true rfl) (Nat.le_of_ble_eq_true rfl) ?_
  refine W.eq (g2 := F0 m 4 ls []) rfl ?_
  refine lv_aload_n hx hb dX0_init_4 rfl (lv_at hl 0 rfl) ?_
  refine r_sipush hx hb dX0_init_5 (by decide +kernel) ?_
  refine va_newa (atype := .int) (ty := .int) (a0 := (300, .inl (fun j => iI ((fun _ => 0) j)))) (N' := 300) hx hb (hw _ wy_int) rfl hK hP hD hS hA (z_int 300) (by decide +kernel) (by decide +kernel) (by decide +kernel) (Nat.le_of_ble_eq_true rfl) (Nat.le_of_ble_eq_true rfl) dX0_init_8 (fun q1 c1 H hK hP hD hS => ?_)
  have hK : va_K (dC, dI) vwCl [(c1, .int)] s := hK
  have hP : va_P (dC, dI) vwCl [(h0, .inr (0, [.null, .null, .null, .null, .null, .int (iI 0), .int (iI 0), .long 0])), (q1, .inl (c1, 300, .inl (fun j => iI ((fun _ => 0) j))))] H := hP
  have hD : va_D A [(h0, .inr (0, [.null, .null, .null, .null, .null, .int (iI 0), .int (iI 0), .long 0])), (q1, .inl (c1, 300, .inl (fun j => iI ((fun _ => 0) j))))] := hD
  refine va_putF (D := (dC, dI)) (ci := 0) (v := .ref q1) (ty := .array .int) (C := RX0) (T := TX0) (N := 8) hx hb hts hinTX0 tyX0 tyX0_ok nmX0 hown hK hP hD hS 0 rfl rfl 0 (by decide) (hw _ wfX0_9) (fun _ h9 => h9) rfl hin rfl (by decide +kernel) rfl rfl (Nat.le_of_ble_eq_true rfl) dX0_init_10 (fun H locs hP hD hS => ?_)
  have hP : va_P (dC, dI) vwCl [(h0, .inr (0, [.ref q1, .null, .null, .null, .null, .int (iI 0), .int (iI 0), .long 0])), (q1, .inl (c1, 300, .inl (fun j => iI ((fun _ => 0) j))))] H := hP
  have hD : va_D A [(h0, .inr (0, [.ref q1, .null, .null, .null, .null, .int (iI 0), .int (iI 0), .long 0])), (q1, .inl (c1, 300, .inl (fun j => iI ((fun _ => 0) j))))] := hD
  refine lv_aload_n hx hb dX0_init_13 rfl (lv_at hl 0 rfl) ?_
  refine r_sipush hx hb dX0_init_14 (by decide +kernel) ?_
  refine va_newa (atype := .int) (ty := .int) (a0 := (300, .inl (fun j => iI ((fun _ => 0) j)))) (N' := 300) hx hb (hw _ wy_int) rfl hK hP hD hS hA (z_int 300) (by decide +kernel) (by decide +kernel) (by decide +kernel) (Nat.le_of_ble_eq_true rfl) (Nat.le_of_ble_eq_true rfl) dX0_init_17 (fun q2 c2 H hK hP hD hS => ?_)
  have hK : va_K (dC, dI) vwCl [(c1, .int), (c2, .int)] s := hK
  have hP : va_P (dC, dI) vwCl [(h0, .inr (0, [.ref q1, .null, .null, .null, .null, .int (iI 0), .int (iI 0), .long 0])), (q1, .inl (c1, 300, .inl (fun j => iI ((fun _ => 0) j)))), (q2, .inl (c2, 300, .inl (fun j => iI ((fun _ => 0) j))))] H := hP
  have hD : va_D A [(h0, .inr (0, [.ref q1, .null, .null, .null, .null, .int (iI 0), .int (iI 0), .long 0])), (q1, .inl (c1, 300, .inl (fun j => iI ((fun _ => 0) j)))), (q2, .inl (c2, 300, .inl (fun j => iI ((fun _ => 0) j))))] := hD
  refine va_putF (D := (dC, dI)) (ci := 0) (v := .ref q2) (ty := .array .int) (C := RX0) (T := TX0) (N := 8) hx hb hts hinTX0 tyX0 tyX0_ok nmX0 hown hK hP hD hS 0 rfl rfl 1 (by decide) (hw _ wfX0_13) (fun _ h9 => h9) rfl hin rfl (by decide +kernel) rfl rfl (Nat.le_of_ble_eq_true rfl) dX0_init_19 (fun H locs hP hD hS => ?_)
  have hP : va_P (dC, dI) vwCl [(h0, .inr (0, [.ref q1, .ref q2, .null, .null, .null, .int (iI 0), .int (iI 0), .long 0])), (q1, .inl (c1, 300, .inl (fun j => iI ((fun _ => 0) j)))), (q2, .inl (c2, 300, .inl (fun j => iI ((fun _ => 0) j))))] H := hP
  have hD : va_D A [(h0, .inr (0, [.ref q1, .ref q2, .null, .null, .null, .int (iI 0), .int (iI 0), .long 0])), (q1, .inl (c1, 300, .inl (fun j => iI ((fun _ => 0) j)))), (q2, .inl (c2, 300, .inl (fun j => iI ((fun _ => 0) j))))] := hD
  refine lv_aload_n hx hb dX0_init_22 rfl (lv_at hl 0 rfl) ?_
  refine r_sipush hx hb dX0_init_23 (by decide +kernel) ?_
  refine va_newa (atype := .int) (ty := .int) (a0 := (300, .inl (fun j => iI ((fun _ => 0) j)))) (N' := 300) hx hb (hw _ wy_int) rfl hK hP hD hS hA (z_int 300) (by decide +kernel) (by decide +kernel) (by decide +kernel) (Nat.le_of_ble_eq_true rfl) (Nat.le_of_ble_eq_true rfl) dX0_init_26 (fun q3 c3 H hK hP hD hS => ?_)
  have hK : va_K (dC, dI) vwCl [(c1, .int), (c2, .int), (c3, .int)] s := hK
  have hP : va_P (dC, dI) vwCl [(h0, .inr (0, [.ref q1, .ref q2, .null, .null, .null, .int (iI 0), .int (iI 0), .long 0])), (q1, .inl (c1, 300, .inl (fun j => iI ((fun _ => 0) j)))), (q2, .inl (c2, 300, .inl (fun j => iI ((fun _ => 0) j)))), (q3, .inl (c3, 300, .inl (fun j => iI ((fun _ => 0) j))))] H := hP
  have hD : va_D A [(h0, .inr (0, [.ref q1, .ref q2, .null, .null, .null, .int (iI 0), .int (iI 0), .long 0])), (q1, .inl (c1, 300, .inl (fun j => iI ((fun _ => 0) j)))), (q2, .inl (c2, 300, .inl (fun j => iI ((fun _ => 0) j)))), (q3, .inl (c3, 300, .inl (fun j => iI ((fun _ => 0) j))))] := hD
  refine va_putF (D := (dC, dI)) (ci := 0) (v := .ref q3) (ty := .array .int) (C := RX0) (T := TX0) (N := 8) hx hb hts hinTX0 tyX0 tyX0_ok nmX0 hown hK hP hD hS 0 rfl rfl 2 (by decide) (hw _ wfX0_16) (fun _ h9 => h9) rfl hin rfl (by decide +kernel) rfl rfl (Nat.le_of_ble_eq_true rfl) dX0_init_28 (fun H locs hP hD hS => ?_)
  have hP : va_P (dC, dI) vwCl [(h0, .inr (0, [.ref q1, .ref q2, .ref q3, .null, .null, .int (iI 0), .int (iI 0), .long 0])), (q1, .inl (c1, 300, .inl (fun j => iI ((fun _ => 0) j)))), (q2, .inl (c2, 300, .inl (fun j => iI ((fun _ => 0) j)))), (q3, .inl (c3, 300, .inl (fun j => iI ((fun _ => 0) j))))] H := hP
  have hD : va_D A [(h0, .inr (0, [.ref q1, .ref q2, .ref q3, .null, .null, .int (iI 0), .int (iI 0), .long 0])), (q1, .inl (c1, 300, .inl (fun j => iI ((fun _ => 0) j)))), (q2, .inl (c2, 300, .inl (fun j => iI ((fun _ => 0) j)))), (q3, .inl (c3, 300, .inl (fun j => iI ((fun _ => 0) j))))] := hD
  refine lv_aload_n hx hb dX0_init_31 rfl (lv_at hl 0 rfl) ?_
  refine r_sipush hx hb dX0_init_32 (by decide +kernel) ?_
  refine va_newa (atype := .long) (ty := .long) (a0 := (300, .inr (.inl (fun _ => 0)))) (N' := 300) hx hb (hw _ wy_long) rfl hK hP hD hS hA (z_long 300) (by decide +kernel) (by decide +kernel) (by decide +kernel) (Nat.le_of_ble_eq_true rfl) (Nat.le_of_ble_eq_true rfl) dX0_init_35 (fun q4 c4 H hK hP hD hS => ?_)
  have hK : va_K (dC, dI) vwCl [(c1, .int), (c2, .int), (c3, .int), (c4, .long)] s := hK
  have hP : va_P (dC, dI) vwCl [(h0, .inr (0, [.ref q1, .ref q2, .ref q3, .null, .null, .int (iI 0), .int (iI 0), .long 0])), (q1, .inl (c1, 300, .inl (fun j => iI ((fun _ => 0) j)))), (q2, .inl (c2, 300, .inl (fun j => iI ((fun _ => 0) j)))), (q3, .inl (c3, 300, .inl (fun j => iI ((fun _ => 0) j)))), (q4, .inl (c4, 300, .inr (.inl (fun _ => 0))))] H := hP
  have hD : va_D A [(h0, .inr (0, [.ref q1, .ref q2, .ref q3, .null, .null, .int (iI 0), .int (iI 0), .long 0])), (q1, .inl (c1, 300, .inl (fun j => iI ((fun _ => 0) j)))), (q2, .inl (c2, 300, .inl (fun j => iI ((fun _ => 0) j)))), (q3, .inl (c3, 300, .inl (fun j => iI ((fun _ => 0) j)))), (q4, .inl (c4, 300, .inr (.inl (fun _ => 0))))] := hD
  refine va_putF (D := (dC, dI)) (ci := 0) (v := .ref q4) (ty := .array .long) (C := RX0) (T := TX0) (N := 8) hx hb hts hinTX0 tyX0 tyX0_ok nmX0 hown hK hP hD hS 0 rfl rfl 3 (by decide) (hw _ wfX0_19) (fun _ h9 => h9) rfl hin rfl (by decide +kernel) rfl rfl (Nat.le_of_ble_eq_true rfl) dX0_init_37 (fun H locs hP hD hS => ?_)
  have hP : va_P (dC, dI) vwCl [(h0, .inr (0, [.ref q1, .ref q2, .ref q3, .ref q4, .null, .int (iI 0), .int (iI 0), .long 0])), (q1, .inl (c1, 300, .inl (fun j => iI ((fun _ => 0) j)))), (q2, .inl (c2, 300, .inl (fun j => iI ((fun _ => 0) j)))), (q3, .inl (c3, 300, .inl (fun j => iI ((fun _ => 0) j)))), (q4, .inl (c4, 300, .inr (.inl (fun _ => 0))))] H := hP
  have hD : va_D A [(h0, .inr (0, [.ref q1, .ref q2, .ref q3, .ref q4, .null, .int (iI 0), .int (iI 0), .long 0])), (q1, .inl (c1, 300, .inl (fun j => iI ((fun _ => 0) j)))), (q2, .inl (c2, 300, .inl (fun j => iI ((fun _ => 0) j)))), (q3, .inl (c3, 300, .inl (fun j => iI ((fun _ => 0) j)))), (q4, .inl (c4, 300, .inr (.inl (fun _ => 0))))] := hD
  refine lv_aload_n hx hb dX0_init_40 rfl (lv_at hl 0 rfl) ?_
  refine r_sipush hx hb dX0_init_41 (by decide +kernel) ?_
  refine va_newa (atype := .int) (ty := .int) (a0 := (301, .inl (fun j => iI ((fun _ => 0) j)))) (N' := 301) hx hb (hw _ wy_int) rfl hK hP hD hS hA (z_int 301) (by decide +kernel) (by decide +kernel) (by decide +kernel) (Nat.le_of_ble_eq_true rfl) (Nat.le_of_ble_eq_true rfl) dX0_init_44 (fun q5 c5 H hK hP hD hS => ?_)
  have hK : va_K (dC, dI) vwCl [(c1, .int), (c2, .int), (c3, .int), (c4, .long), (c5, .int)] s := hK
  have hP : va_P (dC, dI) vwCl [(h0, .inr (0, [.ref q1, .ref q2, .ref q3, .ref q4, .null, .int (iI 0), .int (iI 0), .long 0])), (q1, .inl (c1, 300, .inl (fun j => iI ((fun _ => 0) j)))), (q2, .inl (c2, 300, .inl (fun j => iI ((fun _ => 0) j)))), (q3, .inl (c3, 300, .inl (fun j => iI ((fun _ => 0) j)))), (q4, .inl (c4, 300, .inr (.inl (fun _ => 0)))), (q5, .inl (c5, 301, .inl (fun j => iI ((fun _ => 0) j))))] H := hP
  have hD : va_D A [(h0, .inr (0, [.ref q1, .ref q2, .ref q3, .ref q4, .null, .int (iI 0), .int (iI 0), .long 0])), (q1, .inl (c1, 300, .inl (fun j => iI ((fun _ => 0) j)))), (q2, .inl (c2, 300, .inl (fun j => iI ((fun _ => 0) j)))), (q3, .inl (c3, 300, .inl (fun j => iI ((fun _ => 0) j)))), (q4, .inl (c4, 300, .inr (.inl (fun _ => 0)))), (q5, .inl (c5, 301, .inl (fun j => iI ((fun _ => 0) j))))] := hD
  refine va_putF (D := (dC, dI)) (ci := 0) (v := .ref q5) (ty := .array .int) (C := RX0) (T := TX0) (N := 8) hx hb hts hinTX0 tyX0 tyX0_ok nmX0 hown hK hP hD hS 0 rfl rfl 4 (by decide) (hw _ wfX0_23) (fun _ h9 => h9) rfl hin rfl (by decide +kernel) rfl rfl (Nat.le_of_ble_eq_true rfl) dX0_init_46 (fun H locs hP hD hS => ?_)
  have hP : va_P (dC, dI) vwCl [(h0, .inr (0, [.ref q1, .ref q2, .ref q3, .ref q4, .ref q5, .int (iI 0), .int (iI 0), .long 0])), (q1, .inl (c1, 300, .inl (fun j => iI ((fun _ => 0) j)))), (q2, .inl (c2, 300, .inl (fun j => iI ((fun _ => 0) j)))), (q3, .inl (c3, 300, .inl (fun j => iI ((fun _ => 0) j)))), (q4, .inl (c4, 300, .inr (.inl (fun _ => 0)))), (q5, .inl (c5, 301, .inl (fun j => iI ((fun _ => 0) j))))] H := hP
  have hD : va_D A [(h0, .inr (0, [.ref q1, .ref q2, .ref q3, .ref q4, .ref q5, .int (iI 0), .int (iI 0), .long 0])), (q1, .inl (c1, 300, .inl (fun j => iI ((fun _ => 0) j)))), (q2, .inl (c2, 300, .inl (fun j => iI ((fun _ => 0) j)))), (q3, .inl (c3, 300, .inl (fun j => iI ((fun _ => 0) j)))), (q4, .inl (c4, 300, .inr (.inl (fun _ => 0)))), (q5, .inl (c5, 301, .inl (fun j => iI ((fun _ => 0) j))))] := hD
  obtain ⟨ad, a0, a1, a2, a3, a4, a5⟩ : ∃ ad : Nat → Nat, ad 0 = h0 ∧ ad 1 = q1 ∧ ad 2 = q2 ∧ ad 3 = q3 ∧ ad 4 = q4 ∧ ad 5 = q5 := ⟨fun k => match k with | 0 => h0 | 1 => q1 | 2 => q2 | 3 => q3 | 4 => q4 | _ => q5, rfl, rfl, rfl, rfl, rfl, rfl⟩
  obtain ⟨ca, b1, b2, b3, b4, b5⟩ : ∃ ca : Nat → ClassId, ca 1 = c1 ∧ ca 2 = c2 ∧ ca 3 = c3 ∧ ca 4 = c4 ∧ ca 5 = c5 := ⟨fun k => match k with | 1 => c1 | 2 => c2 | 3 => c3 | 4 => c4 | _ => c5, rfl, rfl, rfl, rfl, rfl⟩
  subst a0 a1 a2 a3 a4 a5 b1 b2 b3 b4 b5
  have hP : va_P (dC, dI) vwCl (wX ad ca (fun _ => 0) (fun _ => 0) (fun _ => 0) (fun _ => 0) (fun _ => 0) 0 0 0) H := hP
  have hD : va_D A (wX ad ca (fun _ => 0) (fun _ => 0) (fun _ => 0) (fun _ => 0) (fun _ => 0) 0 0 0) := hD
  have hK : va_K (dC, dI) vwCl (yX ca) s := hK
  refine lv_aload_n hx hb dX0_init_49 rfl (lv_at hl 0 rfl) ?_
  refine r_bipush hx hb dX0_init_50 (by decide +kernel) ?_
  refine wc_v (va_runV (As := [.int (iI 100)]) (rest := []) ⟨hx, hb, hml, hown, hts⟩ (m_clear l dC dI ad ca (fun _ => 0) (fun _ => 0) (fun _ => 0) (fun _ => 0) (fun _ => 0) 0 0 0 100) (cwV 1 hts (gV wlX0_26 wo_X0_clear wz_X0_clear wi_1 wcX0_clear) rfl rfl rfl (by decide +kernel) ⟨Nat.le_of_ble_eq_true rfl, Nat.le_of_ble_eq_true rfl⟩) (PX_V (q0 := 0) (ci := 0) hP hK hD rfl rfl) rfl rfl hl.1 rfl (lv_room (Nat.le_of_ble_eq_true rfl)) dX0_init_52 ⟨Nat.le_of_ble_eq_true rfl, Nat.le_of_ble_eq_true rfl⟩) hS (wD_in hD) (fun u9 H locs hv9 hP hS hk9 => ?_)
  have hD : va_D A (wX ad ca (fun _ => 0) (fun _ => 0) (fun _ => 0) (fun _ => 0) (fun _ => 0) 0 99 0) := wD_same hD rfl
  refine W.widen (k := 5) (n := 1501) (by decide) (by decide) ?_
  subst hAe
  exact W.vret hx hb hr (fun t ht hW => ⟨⟨(ad, ca), rfl, rfl, by subst ht; exact hP, va_K.moved hW.alike hK, hD⟩, hS.F ht⟩) hS.2.2 dX0_init_55
set_option maxHeartbeats 1000000 in
set_option maxRecDepth 100000 in
theorem n_init (l : Launch) (dC : Nat → ClassId) (dI : Nat → Nat → Nat) (h0 sz : Nat) : Met l yX1_init wsX1_init { frames := 1, cells := 4, slots := 728, locals := 21 } (va_Pc [.ref h0] (fun U => U.heap.size = sz ∧ va_P (dC, dI) vwCl [(h0, .inr (1, [.int (iI 0), .null, .null, .null, .null, .int (iI 0), .int (iI 0)]))] U.heap ∧ va_K (dC, dI) vwCl [] U ∧ va_D (fun _ => True) [(h0, .inr (1, [.int (iI 0), .null, .null, .null, .null, .int (iI 0), .int (iI 0)]))])) (va_Qv (fun (u : (Nat → Nat) × (Nat → ClassId)) => u.1 0 = h0) (fun u t => va_P (dC, dI) vwCl (wM u.1 u.2 0 (fun _ => 0) (fun _ => 0) (fun _ => 0) (fun _ => 0) 0 100) t.heap ∧ va_K (dC, dI) vwCl (yM u.2) t ∧ va_D (va_A [(h0, .inr (1, [.int (iI 0), .null, .null, .null, .null, .int (iI 0), .int (iI 0)]))] sz) (wM u.1 u.2 0 (fun _ => 0) (fun _ => 0) (fun _ => 0) (fun _ => 0) 0 100)) (va_A [(h0, .inr (1, [.int (iI 0), .null, .null, .null, .null, .int (iI 0), .int (iI 0)]))] sz)) 4 728 (va_A [(h0, .inr (1, [.int (iI 0), .null, .null, .null, .null, .int (iI 0), .int (iI 0)]))] sz) := by
  refine Met.ofW (cc := cX1_init) (maxL := 1) (ret := none) (by decide) rfl ?_
  intro p e s m args below meth c s₁ B hml hv
  obtain ⟨rfl, hsz, hP, hK, hD0⟩ := hv
  have hx := B.exec
  have hb := B.bytes
  have hr := B.returns
  have hts := atoms_spec (ws := wsX1_init) B.pre
  have hown : s.vm.findClass RX1 = some m.cls := findClass_of_methodNamed B.named
  have hlocks := B.notSynchronized
  have hin : meth.name = "<init>" := (name_of_methodNamed B.named B.method).1
  have hw := fun w h => hts w (List.mem_cons_of_mem _ h)
  have hinTX1 : ∀ w ∈ u_ws RX1 TX1 7, w ∈ wsX1_init := wA_u wuX1
  subst hsz
  have hD := hD0.self (sz := s.heap.size)
  generalize hAe : va_A [(h0, .inr (1, [.int (iI 0), .null, .null, .null, .null, .int (iI 0), .int (iI 0)]))] s.heap.size = A at hD ⊢
  have hA : ∀ q : Nat, s.heap.size ≤ q → A q := fun q h => by rw [← hAe]; exact Or.inr h
  have hS : va_S A s.heap s.heap [] := va_S.rf
  have hl := lv_entry ([.ref h0]) (n := 1) (Nat.le_of_ble_eq_true rfl)
  rw [lg_entry_eq]
  generalize (lg_sl ([.ref h0]) ++ List.replicate (1 - (lg_sl ([.ref h0])).length) Slot.unset).toArray = ls at hl ⊢
  have hl : lv_has ls 1 [(0, .ref h0)] := hl
  refine lv_aload_n hx hb dX1_init_0 rfl (lv_at hl 0 rfl) ?_
  refine W.objInit hx hb hown (hw _ wlX1_1) (hw _ wo_objectInit) (hw _ wc_obj) rfl (by rw [hml]; exact hl.1) rfl dX1_init_1 (Nat.le_of_ble_eq_true rfl) (Nat.le_of_ble_eq_true rfl) ?_
  refine W.eq (g2 := F0 m 4 ls []) rfl ?_
  refine lv_aload_n hx hb dX1_init_4 rfl (lv_at hl 0 rfl) ?_
  refine r_sipush hx hb dX1_init_5 (by decide +kernel) ?_
  refine va_newa (atype := .int) (ty := .int) (a0 := (300, .inl (fun j => iI ((fun _ => 0) j)))) (N' := 300) hx hb (hw _ wy_int) rfl hK hP hD hS hA (z_int 300) (by decide +kernel) (by decide +kernel) (by decide +kernel) (Nat.le_of_ble_eq_true rfl) (Nat.le_of_ble_eq_true rfl) dX1_init_8 (fun q1 c1 H hK hP hD hS => ?_)
  have hK : va_K (dC, dI) vwCl [(c1, .int)] s := hK
  have hP : va_P (dC, dI) vwCl [(h0, .inr (1, [.int (iI 0), .null, .null, .null, .null, .int (iI 0), .int (iI 0)])), (q1, .inl (c1, 300, .inl (fun j => iI ((fun _ => 0) j))))] H := hP
  have hD : va_D A [(h0, .inr (1, [.int (iI 0), .null, .null, .null, .null, .int (iI 0), .int (iI 0)])), (q1, .inl (c1, 300, .inl (fun j => iI ((fun _ => 0) j))))] := hD
  refine va_putF (D := (dC, dI)) (ci := 1) (v := .ref q1) (ty := .array .int) (C := RX1) (T := TX1) (N := 7) hx hb hts hinTX1 tyX1 tyX1_ok nmX1 hown hK hP hD hS 0 rfl rfl 1 (by decide) (hw _ wfX1_7) (fun _ h9 => h9) rfl hin rfl (by decide +kernel) rfl rfl (Nat.le_of_ble_eq_true rfl) dX1_init_10 (fun H locs hP hD hS => ?_)
  have hP : va_P (dC, dI) vwCl [(h0, .inr (1, [.int (iI 0), .ref q1, .null, .null, .null, .int (iI 0), .int (iI 0)])), (q1, .inl (c1, 300, .inl (fun j => iI ((fun _ => 0) j))))] H := hP
  have hD : va_D A [(h0, .inr (1, [.int (iI 0), .ref q1, .null, .null, .null, .int (iI 0), .int (iI 0)])), (q1, .inl (c1, 300, .inl (fun j => iI ((fun _ => 0) j))))] := hD
  refine lv_aload_n hx hb dX1_init_13 rfl (lv_at hl 0 rfl) ?_
  refine r_sipush hx hb dX1_init_14 (by decide +kernel) ?_
  refine va_newa (atype := .int) (ty := .int) (a0 := (300, .inl (fun j => iI ((fun _ => 0) j)))) (N' := 300) hx hb (hw _ wy_int) rfl hK hP hD hS hA (z_int 300) (by decide +kernel) (by decide +kernel) (by decide +kernel) (Nat.le_of_ble_eq_true rfl) (Nat.le_of_ble_eq_true rfl) dX1_init_17 (fun q2 c2 H hK hP hD hS => ?_)
  have hK : va_K (dC, dI) vwCl [(c1, .int), (c2, .int)] s := hK
  have hP : va_P (dC, dI) vwCl [(h0, .inr (1, [.int (iI 0), .ref q1, .null, .null, .null, .int (iI 0), .int (iI 0)])), (q1, .inl (c1, 300, .inl (fun j => iI ((fun _ => 0) j)))), (q2, .inl (c2, 300, .inl (fun j => iI ((fun _ => 0) j))))] H := hP
  have hD : va_D A [(h0, .inr (1, [.int (iI 0), .ref q1, .null, .null, .null, .int (iI 0), .int (iI 0)])), (q1, .inl (c1, 300, .inl (fun j => iI ((fun _ => 0) j)))), (q2, .inl (c2, 300, .inl (fun j => iI ((fun _ => 0) j))))] := hD
  refine va_putF (D := (dC, dI)) (ci := 1) (v := .ref q2) (ty := .array .int) (C := RX1) (T := TX1) (N := 7) hx hb hts hinTX1 tyX1 tyX1_ok nmX1 hown hK hP hD hS 0 rfl rfl 2 (by decide) (hw _ wfX1_13) (fun _ h9 => h9) rfl hin rfl (by decide +kernel) rfl rfl (Nat.le_of_ble_eq_true rfl) dX1_init_19 (fun H locs hP hD hS => ?_)
  have hP : va_P (dC, dI) vwCl [(h0, .inr (1, [.int (iI 0), .ref q1, .ref q2, .null, .null, .int (iI 0), .int (iI 0)])), (q1, .inl (c1, 300, .inl (fun j => iI ((fun _ => 0) j)))), (q2, .inl (c2, 300, .inl (fun j => iI ((fun _ => 0) j))))] H := hP
  have hD : va_D A [(h0, .inr (1, [.int (iI 0), .ref q1, .ref q2, .null, .null, .int (iI 0), .int (iI 0)])), (q1, .inl (c1, 300, .inl (fun j => iI ((fun _ => 0) j)))), (q2, .inl (c2, 300, .inl (fun j => iI ((fun _ => 0) j))))] := hD
  refine lv_aload_n hx hb dX1_init_22 rfl (lv_at hl 0 rfl) ?_
  refine r_bipush hx hb dX1_init_23 (by decide +kernel) ?_
  refine va_newa (atype := .boolean) (ty := .boolean) (a0 := (64, .inl (fun j => iI ((fun _ => 0) j)))) (N' := 64) hx hb (hw _ wy_boolean) rfl hK hP hD hS hA (z_boolean 64) (by decide +kernel) (by decide +kernel) (by decide +kernel) (Nat.le_of_ble_eq_true rfl) (Nat.le_of_ble_eq_true rfl) dX1_init_25 (fun q3 c3 H hK hP hD hS => ?_)
  have hK : va_K (dC, dI) vwCl [(c1, .int), (c2, .int), (c3, .boolean)] s := hK
  have hP : va_P (dC, dI) vwCl [(h0, .inr (1, [.int (iI 0), .ref q1, .ref q2, .null, .null, .int (iI 0), .int (iI 0)])), (q1, .inl (c1, 300, .inl (fun j => iI ((fun _ => 0) j)))), (q2, .inl (c2, 300, .inl (fun j => iI ((fun _ => 0) j)))), (q3, .inl (c3, 64, .inl (fun j => iI ((fun _ => 0) j))))] H := hP
  have hD : va_D A [(h0, .inr (1, [.int (iI 0), .ref q1, .ref q2, .null, .null, .int (iI 0), .int (iI 0)])), (q1, .inl (c1, 300, .inl (fun j => iI ((fun _ => 0) j)))), (q2, .inl (c2, 300, .inl (fun j => iI ((fun _ => 0) j)))), (q3, .inl (c3, 64, .inl (fun j => iI ((fun _ => 0) j))))] := hD
  refine va_putF (D := (dC, dI)) (ci := 1) (v := .ref q3) (ty := .array .boolean) (C := RX1) (T := TX1) (N := 7) hx hb hts hinTX1 tyX1 tyX1_ok nmX1 hown hK hP hD hS 0 rfl rfl 3 (by decide) (hw _ wfX1_16) (fun _ h9 => h9) rfl hin rfl (by decide +kernel) rfl rfl (Nat.le_of_ble_eq_true rfl) dX1_init_27 (fun H locs hP hD hS => ?_)
  have hP : va_P (dC, dI) vwCl [(h0, .inr (1, [.int (iI 0), .ref q1, .ref q2, .ref q3, .null, .int (iI 0), .int (iI 0)])), (q1, .inl (c1, 300, .inl (fun j => iI ((fun _ => 0) j)))), (q2, .inl (c2, 300, .inl (fun j => iI ((fun _ => 0) j)))), (q3, .inl (c3, 64, .inl (fun j => iI ((fun _ => 0) j))))] H := hP
  have hD : va_D A [(h0, .inr (1, [.int (iI 0), .ref q1, .ref q2, .ref q3, .null, .int (iI 0), .int (iI 0)])), (q1, .inl (c1, 300, .inl (fun j => iI ((fun _ => 0) j)))), (q2, .inl (c2, 300, .inl (fun j => iI ((fun _ => 0) j)))), (q3, .inl (c3, 64, .inl (fun j => iI ((fun _ => 0) j))))] := hD
  refine lv_aload_n hx hb dX1_init_30 rfl (lv_at hl 0 rfl) ?_
  refine r_bipush hx hb dX1_init_31 (by decide +kernel) ?_
  refine va_newa (atype := .boolean) (ty := .boolean) (a0 := (64, .inl (fun j => iI ((fun _ => 0) j)))) (N' := 64) hx hb (hw _ wy_boolean) rfl hK hP hD hS hA (z_boolean 64) (by decide +kernel) (by decide +kernel) (by decide +kernel) (Nat.le_of_ble_eq_true rfl) (Nat.le_of_ble_eq_true rfl) dX1_init_33 (fun q4 c4 H hK hP hD hS => ?_)
  have hK : va_K (dC, dI) vwCl [(c1, .int), (c2, .int), (c3, .boolean), (c4, .boolean)] s := hK
  have hP : va_P (dC, dI) vwCl [(h0, .inr (1, [.int (iI 0), .ref q1, .ref q2, .ref q3, .null, .int (iI 0), .int (iI 0)])), (q1, .inl (c1, 300, .inl (fun j => iI ((fun _ => 0) j)))), (q2, .inl (c2, 300, .inl (fun j => iI ((fun _ => 0) j)))), (q3, .inl (c3, 64, .inl (fun j => iI ((fun _ => 0) j)))), (q4, .inl (c4, 64, .inl (fun j => iI ((fun _ => 0) j))))] H := hP
  have hD : va_D A [(h0, .inr (1, [.int (iI 0), .ref q1, .ref q2, .ref q3, .null, .int (iI 0), .int (iI 0)])), (q1, .inl (c1, 300, .inl (fun j => iI ((fun _ => 0) j)))), (q2, .inl (c2, 300, .inl (fun j => iI ((fun _ => 0) j)))), (q3, .inl (c3, 64, .inl (fun j => iI ((fun _ => 0) j)))), (q4, .inl (c4, 64, .inl (fun j => iI ((fun _ => 0) j))))] := hD
  refine va_putF (D := (dC, dI)) (ci := 1) (v := .ref q4) (ty := .array .boolean) (C := RX1) (T := TX1) (N := 7) hx hb hts hinTX1 tyX1 tyX1_ok nmX1 hown hK hP hD hS 0 rfl rfl 4 (by decide) (hw _ wfX1_20) (fun _ h9 => h9) rfl hin rfl (by decide +kernel) rfl rfl (Nat.le_of_ble_eq_true rfl) dX1_init_35 (fun H locs hP hD hS => ?_)
  have hP : va_P (dC, dI) vwCl [(h0, .inr (1, [.int (iI 0), .ref q1, .ref q2, .ref q3, .ref q4, .int (iI 0), .int (iI 0)])), (q1, .inl (c1, 300, .inl (fun j => iI ((fun _ => 0) j)))), (q2, .inl (c2, 300, .inl (fun j => iI ((fun _ => 0) j)))), (q3, .inl (c3, 64, .inl (fun j => iI ((fun _ => 0) j)))), (q4, .inl (c4, 64, .inl (fun j => iI ((fun _ => 0) j))))] H := hP
  have hD : va_D A [(h0, .inr (1, [.int (iI 0), .ref q1, .ref q2, .ref q3, .ref q4, .int (iI 0), .int (iI 0)])), (q1, .inl (c1, 300, .inl (fun j => iI ((fun _ => 0) j)))), (q2, .inl (c2, 300, .inl (fun j => iI ((fun _ => 0) j)))), (q3, .inl (c3, 64, .inl (fun j => iI ((fun _ => 0) j)))), (q4, .inl (c4, 64, .inl (fun j => iI ((fun _ => 0) j))))] := hD
  obtain ⟨ad, a0, a1, a2, a3, a4⟩ : ∃ ad : Nat → Nat, ad 0 = h0 ∧ ad 1 = q1 ∧ ad 2 = q2 ∧ ad 3 = q3 ∧ ad 4 = q4 := ⟨fun k => match k with | 0 => h0 | 1 => q1 | 2 => q2 | 3 => q3 | _ => q4, rfl, rfl, rfl, rfl, rfl⟩
  obtain ⟨ca, b1, b2, b3, b4⟩ : ∃ ca : Nat → ClassId, ca 1 = c1 ∧ ca 2 = c2 ∧ ca 3 = c3 ∧ ca 4 = c4 := ⟨fun k => match k with | 1 => c1 | 2 => c2 | 3 => c3 | _ => c4, rfl, rfl, rfl, rfl⟩
  subst a0 a1 a2 a3 a4 b1 b2 b3 b4
  have hP : va_P (dC, dI) vwCl (wM ad ca 0 (fun _ => 0) (fun _ => 0) (fun _ => 0) (fun _ => 0) 0 0) H := hP
  have hD : va_D A (wM ad ca 0 (fun _ => 0) (fun _ => 0) (fun _ => 0) (fun _ => 0) 0 0) := hD
  have hK : va_K (dC, dI) vwCl (yM ca) s := hK
  refine lv_aload_n hx hb dX1_init_38 rfl (lv_at hl 0 rfl) ?_
  refine r_bipush hx hb dX1_init_39 (by decide +kernel) ?_
  refine va_put (D := (dC, dI)) (ci := 1) (v := .int (iI 100)) (ty := .int) (C := RX1) (T := TX1) (N := 7) hx hb hts hinTX1 tyX1 tyX1_ok nmX1 hown hK hP hD hS 0 rfl rfl 6 (by decide) (hw _ wfX1_23) (fun _ h9 => h9) rfl (by decide +kernel) rfl rfl (Nat.le_of_ble_eq_true rfl) dX1_init_41 (fun H locs hP hD hS => ?_)
  have hP : va_P (dC, dI) vwCl (wM ad ca 0 (fun _ => 0) (fun _ => 0) (fun _ => 0) (fun _ => 0) 0 100) H := hP
  have hD : va_D A (wM ad ca 0 (fun _ => 0) (fun _ => 0) (fun _ => 0) (fun _ => 0) 0 100) := hD
  refine W.widen (k := 4) (n := 728) (by decide) (by decide) ?_
  subst hAe
  exact W.vret hx hb hr (fun t ht hW => ⟨⟨(ad, ca), rfl, rfl, by subst ht; exact hP, va_K.moved hW.alike hK, hD⟩, hS.F ht⟩) hS.2.2 dX1_init_44
