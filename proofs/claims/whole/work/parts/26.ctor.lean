set_option maxHeartbeats 4000000 in
set_option maxRecDepth 100000 in
theorem k_Net_init (l : Launch) (dC : Nat → ClassId) (dI : Nat → Nat → Nat) (cI cZ cJ : ClassId) (sz : Nat) (oN wb : Nat) (hwb : wb ≤ 4) : Met l y_Net_init (bw y_Net_init b_Net_init 3 (none)) ({ frames := 1, cells := 6, slots := 346, locals := 20 }) (bx_pW dC dI cI cZ cJ [.ref oN, .int (nI wb)] [(oN, .inr (2, [.int (nI 0), .int (nI 0), .null, .null, .null, .null, .null, .null, .int (nI 0), .int (nI 0), .int (nI 0), .int (nI 0), .int (nI 0)]))] sz) (va_Qv (fun (u9 : Nat × Nat × Nat × Nat × Nat × Nat × (Nat → Nat) × (Nat → Nat)) => match u9 with | (aK, aL, aR, aX, aP, aQ, kd, lf) => ∀ j, j < wb → kd j = 6 ∧ lf j = j) (bx_B dC dI (va_A [(oN, .inr (2, [.int (nI 0), .int (nI 0), .null, .null, .null, .null, .null, .null, .int (nI 0), .int (nI 0), .int (nI 0), .int (nI 0), .int (nI 0)]))] sz) (fun (u9 : Nat × Nat × Nat × Nat × Nat × Nat × (Nat → Nat) × (Nat → Nat)) => match u9 with | (aK, aL, aR, aX, aP, aQ, kd, lf) => ([(oN, .inr (2, [.int (nI wb), .int (nI (2 ^ wb)), .ref aK, .ref aL, .ref aR, .ref aX, .ref aP, .ref aQ, .int (nI wb), .int (nI 0), .int (nI 0), .int (nI 0), .int (nI 0)])), (aK, .inl (cI, 100, .inl (fun z9 => nI (kd z9)))), (aL, .inl (cI, 100, .inl (fun z9 => nI (lf z9)))), (aR, .inl (cI, 100, .inl (fun z9 => nI ((fun _ => 0) z9)))), (aX, .inl (cI, 14, .inl (fun z9 => nI ((fun _ => 0) z9)))), (aP, .inl (cI, 16, .inl (fun z9 => nI ((fun _ => 0) z9)))), (aQ, .inl (cI, 16, .inl (fun z9 => nI ((fun _ => 0) z9))))] : va_W))) (va_A [(oN, .inr (2, [.int (nI 0), .int (nI 0), .null, .null, .null, .null, .null, .null, .int (nI 0), .int (nI 0), .int (nI 0), .int (nI 0), .int (nI 0)]))] sz)) 6 346 (va_A [(oN, .inr (2, [.int (nI 0), .int (nI 0), .null, .null, .null, .null, .null, .null, .int (nI 0), .int (nI 0), .int (nI 0), .int (nI 0), .int (nI 0)]))] sz) := by
  refine Met.ofW (cc := b_Net_init) (maxL := 3) (ret := none) (by decide) rfl ?_
  intro p e s m args below meth c s₁ B hml hv
  obtain ⟨rfl, hsz, hE, hP, hD0⟩ := hv
  have hx := B.exec
  have hb := B.bytes
  have hr := B.returns
  have hts9 := atoms_spec (ws := (bw y_Net_init b_Net_init 3 (none))) B.pre
  have hts : ∀ w ∈ gw, w.before _ s = true := fun w h => hts9 w (List.mem_cons_of_mem _ h)
  have hown : s.vm.findClass RX2 = some m.cls := findClass_of_methodNamed B.named
  have hlocks := B.notSynchronized
  have hin : meth.name = "<init>" := (name_of_methodNamed B.named B.method).1
  subst hsz
  have hD := hD0.self (sz := s.heap.size)
  generalize hAe : va_A [(oN, .inr (2, [.int (nI 0), .int (nI 0), .null, .null, .null, .null, .null, .null, .int (nI 0), .int (nI 0), .int (nI 0), .int (nI 0), .int (nI 0)]))] s.heap.size = A at hE hD ⊢
  have hA : ∀ q : Nat, s.heap.size ≤ q → A q := fun q h => by rw [← hAe]; exact Or.inr h
  have hS : va_S A s.heap s.heap [] := va_S.rf
  have hK := hE.1
  have hN := hE.2.1
  have hP : va_P (dC, dI) vwCl [(oN, .inr (2, [.int (nI 0), .int (nI 0), .null, .null, .null, .null, .null, .null, .int (nI 0), .int (nI 0), .int (nI 0), .int (nI 0), .int (nI 0)]))] s.heap := hP
  have hl := lv_entry ([.ref oN, .int (nI wb)]) (n := 3) (Nat.le_of_ble_eq_true rfl)
  rw [lg_entry_eq]
  generalize (lg_sl ([.ref oN, .int (nI wb)]) ++ List.replicate (3 - (lg_sl ([.ref oN, .int (nI wb)])).length) Slot.unset).toArray = ls at hl ⊢
  have hl : lv_has ls 3 [(0, .ref oN), (1, .int (nI wb))] := hl
  refine lv_aload_n hx hb d_Net_init_0 rfl (lv_at hl 0 rfl) ?_
  refine W.objInit hx hb hown (hts _ lk_Net_3) (hts _ mi_obj) (hts _ mc_obj) rfl (by rw [hml]; exact hl.1) rfl d_Net_init_1 (Nat.le_of_ble_eq_true rfl) (Nat.le_of_ble_eq_true rfl) ?_
  refine W.eq (g2 := F0 m 4 ls []) rfl ?_
  refine lv_aload_n hx hb d_Net_init_4 rfl (lv_at hl 0 rfl) ?_
  refine lv_bipush (v := nI 100) hx hb d_Net_init_5 (by decide +kernel) ?_
  refine bx_newa hx hb rfl (hts _ m_arr_int) hE hP hD hS hA (N' := 100) rfl (by decide) (Nat.le_of_ble_eq_true rfl) (Nat.le_of_ble_eq_true rfl) d_Net_init_7 (fun aK H hP hD hS => ?_)
  have hP : va_P (dC, dI) vwCl [(oN, .inr (2, [.int (nI 0), .int (nI 0), .null, .null, .null, .null, .null, .null, .int (nI 0), .int (nI 0), .int (nI 0), .int (nI 0), .int (nI 0)])), (aK, .inl (cI, 100, .inl (fun _ => nI 0)))] H := hP
  have hD : va_D A [(oN, .inr (2, [.int (nI 0), .int (nI 0), .null, .null, .null, .null, .null, .null, .int (nI 0), .int (nI 0), .int (nI 0), .int (nI 0), .int (nI 0)])), (aK, .inl (cI, 100, .inl (fun _ => nI 0)))] := hD
  refine va_putF (D := (dC, dI)) (ci := 2) (v := .ref aK) (ty := (.array .int)) (C := RX2) (T := TX2) (N := 13) hx hb hts in_X2 tyX2 tyX2_ok nmX2 hown hK hP hD hS 0 rfl rfl 2 (by decide) (hts _ lk_Net_11) (fun _ h9 => h9) rfl hin rfl (by decide +kernel) rfl rfl (Nat.le_of_ble_eq_true rfl) d_Net_init_9 (fun H locs hP hD hS => ?_)
  have hP : va_P (dC, dI) vwCl [(oN, .inr (2, [.int (nI 0), .int (nI 0), .ref aK, .null, .null, .null, .null, .null, .int (nI 0), .int (nI 0), .int (nI 0), .int (nI 0), .int (nI 0)])), (aK, .inl (cI, 100, .inl (fun _ => nI 0)))] H := hP
  have hD : va_D A [(oN, .inr (2, [.int (nI 0), .int (nI 0), .ref aK, .null, .null, .null, .null, .null, .int (nI 0), .int (nI 0), .int (nI 0), .int (nI 0), .int (nI 0)])), (aK, .inl (cI, 100, .inl (fun _ => nI 0)))] := hD
  refine lv_aload_n hx hb d_Net_init_12 rfl (lv_at hl 0 rfl) ?_
  refine lv_bipush (v := nI 100) hx hb d_Net_init_13 (by decide +kernel) ?_
  refine bx_newa hx hb rfl (hts _ m_arr_int) hE hP hD hS hA (N' := 100) rfl (by decide) (Nat.le_of_ble_eq_true rfl) (Nat.le_of_ble_eq_true rfl) d_Net_init_15 (fun aL H hP hD hS => ?_)
  have hP : va_P (dC, dI) vwCl [(oN, .inr (2, [.int (nI 0), .int (nI 0), .ref aK, .null, .null, .null, .null, .null, .int (nI 0), .int (nI 0), .int (nI 0), .int (nI 0), .int (nI 0)])), (aK, .inl (cI, 100, .inl (fun _ => nI 0))), (aL, .inl (cI, 100, .inl (fun _ => nI 0)))] H := hP
  have hD : va_D A [(oN, .inr (2, [.int (nI 0), .int (nI 0), .ref aK, .null, .null, .null, .null, .null, .int (nI 0), .int (nI 0), .int (nI 0), .int (nI 0), .int (nI 0)])), (aK, .inl (cI, 100, .inl (fun _ => nI 0))), (aL, .inl (cI, 100, .inl (fun _ => nI 0)))] := hD
  refine va_putF (D := (dC, dI)) (ci := 2) (v := .ref aL) (ty := (.array .int)) (C := RX2) (T := TX2) (N := 13) hx hb hts in_X2 tyX2 tyX2_ok nmX2 hown hK hP hD hS 0 rfl rfl 3 (by decide) (hts _ lk_Net_15) (fun _ h9 => h9) rfl hin rfl (by decide +kernel) rfl rfl (Nat.le_of_ble_eq_true rfl) d_Net_init_17 (fun H locs hP hD hS => ?_)
  have hP : va_P (dC, dI) vwCl [(oN, .inr (2, [.int (nI 0), .int (nI 0), .ref aK, .ref aL, .null, .null, .null, .null, .int (nI 0), .int (nI 0), .int (nI 0), .int (nI 0), .int (nI 0)])), (aK, .inl (cI, 100, .inl (fun _ => nI 0))), (aL, .inl (cI, 100, .inl (fun _ => nI 0)))] H := hP
  have hD : va_D A [(oN, .inr (2, [.int (nI 0), .int (nI 0), .ref aK, .ref aL, .null, .null, .null, .null, .int (nI 0), .int (nI 0), .int (nI 0), .int (nI 0), .int (nI 0)])), (aK, .inl (cI, 100, .inl (fun _ => nI 0))), (aL, .inl (cI, 100, .inl (fun _ => nI 0)))] := hD
  refine lv_aload_n hx hb d_Net_init_20 rfl (lv_at hl 0 rfl) ?_
  refine lv_bipush (v := nI 100) hx hb d_Net_init_21 (by decide +kernel) ?_
  refine bx_newa hx hb rfl (hts _ m_arr_int) hE hP hD hS hA (N' := 100) rfl (by decide) (Nat.le_of_ble_eq_true rfl) (Nat.le_of_ble_eq_true rfl) d_Net_init_23 (fun aR H hP hD hS => ?_)
  have hP : va_P (dC, dI) vwCl [(oN, .inr (2, [.int (nI 0), .int (nI 0), .ref aK, .ref aL, .null, .null, .null, .null, .int (nI 0), .int (nI 0), .int (nI 0), .int (nI 0), .int (nI 0)])), (aK, .inl (cI, 100, .inl (fun _ => nI 0))), (aL, .inl (cI, 100, .inl (fun _ => nI 0))), (aR, .inl (cI, 100, .inl (fun _ => nI 0)))] H := hP
  have hD : va_D A [(oN, .inr (2, [.int (nI 0), .int (nI 0), .ref aK, .ref aL, .null, .null, .null, .null, .int (nI 0), .int (nI 0), .int (nI 0), .int (nI 0), .int (nI 0)])), (aK, .inl (cI, 100, .inl (fun _ => nI 0))), (aL, .inl (cI, 100, .inl (fun _ => nI 0))), (aR, .inl (cI, 100, .inl (fun _ => nI 0)))] := hD
  refine va_putF (D := (dC, dI)) (ci := 2) (v := .ref aR) (ty := (.array .int)) (C := RX2) (T := TX2) (N := 13) hx hb hts in_X2 tyX2 tyX2_ok nmX2 hown hK hP hD hS 0 rfl rfl 4 (by decide) (hts _ lk_Net_18) (fun _ h9 => h9) rfl hin rfl (by decide +kernel) rfl rfl (Nat.le_of_ble_eq_true rfl) d_Net_init_25 (fun H locs hP hD hS => ?_)
  have hP : va_P (dC, dI) vwCl [(oN, .inr (2, [.int (nI 0), .int (nI 0), .ref aK, .ref aL, .ref aR, .null, .null, .null, .int (nI 0), .int (nI 0), .int (nI 0), .int (nI 0), .int (nI 0)])), (aK, .inl (cI, 100, .inl (fun _ => nI 0))), (aL, .inl (cI, 100, .inl (fun _ => nI 0))), (aR, .inl (cI, 100, .inl (fun _ => nI 0)))] H := hP
  have hD : va_D A [(oN, .inr (2, [.int (nI 0), .int (nI 0), .ref aK, .ref aL, .ref aR, .null, .null, .null, .int (nI 0), .int (nI 0), .int (nI 0), .int (nI 0), .int (nI 0)])), (aK, .inl (cI, 100, .inl (fun _ => nI 0))), (aL, .inl (cI, 100, .inl (fun _ => nI 0))), (aR, .inl (cI, 100, .inl (fun _ => nI 0)))] := hD
  refine lv_aload_n hx hb d_Net_init_28 rfl (lv_at hl 0 rfl) ?_
  refine lv_bipush (v := nI 14) hx hb d_Net_init_29 (by decide +kernel) ?_
  refine bx_newa hx hb rfl (hts _ m_arr_int) hE hP hD hS hA (N' := 14) rfl (by decide) (Nat.le_of_ble_eq_true rfl) (Nat.le_of_ble_eq_true rfl) d_Net_init_31 (fun aX H hP hD hS => ?_)
  have hP : va_P (dC, dI) vwCl [(oN, .inr (2, [.int (nI 0), .int (nI 0), .ref aK, .ref aL, .ref aR, .null, .null, .null, .int (nI 0), .int (nI 0), .int (nI 0), .int (nI 0), .int (nI 0)])), (aK, .inl (cI, 100, .inl (fun _ => nI 0))), (aL, .inl (cI, 100, .inl (fun _ => nI 0))), (aR, .inl (cI, 100, .inl (fun _ => nI 0))), (aX, .inl (cI, 14, .inl (fun _ => nI 0)))] H := hP
  have hD : va_D A [(oN, .inr (2, [.int (nI 0), .int (nI 0), .ref aK, .ref aL, .ref aR, .null, .null, .null, .int (nI 0), .int (nI 0), .int (nI 0), .int (nI 0), .int (nI 0)])), (aK, .inl (cI, 100, .inl (fun _ => nI 0))), (aL, .inl (cI, 100, .inl (fun _ => nI 0))), (aR, .inl (cI, 100, .inl (fun _ => nI 0))), (aX, .inl (cI, 14, .inl (fun _ => nI 0)))] := hD
  refine va_putF (D := (dC, dI)) (ci := 2) (v := .ref aX) (ty := (.array .int)) (C := RX2) (T := TX2) (N := 13) hx hb hts in_X2 tyX2 tyX2_ok nmX2 hown hK hP hD hS 0 rfl rfl 5 (by decide) (hts _ lk_Net_21) (fun _ h9 => h9) rfl hin rfl (by decide +kernel) rfl rfl (Nat.le_of_ble_eq_true rfl) d_Net_init_33 (fun H locs hP hD hS => ?_)
  have hP : va_P (dC, dI) vwCl [(oN, .inr (2, [.int (nI 0), .int (nI 0), .ref aK, .ref aL, .ref aR, .ref aX, .null, .null, .int (nI 0), .int (nI 0), .int (nI 0), .int (nI 0), .int (nI 0)])), (aK, .inl (cI, 100, .inl (fun _ => nI 0))), (aL, .inl (cI, 100, .inl (fun _ => nI 0))), (aR, .inl (cI, 100, .inl (fun _ => nI 0))), (aX, .inl (cI, 14, .inl (fun _ => nI 0)))] H := hP
  have hD : va_D A [(oN, .inr (2, [.int (nI 0), .int (nI 0), .ref aK, .ref aL, .ref aR, .ref aX, .null, .null, .int (nI 0), .int (nI 0), .int (nI 0), .int (nI 0), .int (nI 0)])), (aK, .inl (cI, 100, .inl (fun _ => nI 0))), (aL, .inl (cI, 100, .inl (fun _ => nI 0))), (aR, .inl (cI, 100, .inl (fun _ => nI 0))), (aX, .inl (cI, 14, .inl (fun _ => nI 0)))] := hD
  refine lv_aload_n hx hb d_Net_init_36 rfl (lv_at hl 0 rfl) ?_
  refine lv_bipush (v := nI 16) hx hb d_Net_init_37 (by decide +kernel) ?_
  refine bx_newa hx hb rfl (hts _ m_arr_int) hE hP hD hS hA (N' := 16) rfl (by decide) (Nat.le_of_ble_eq_true rfl) (Nat.le_of_ble_eq_true rfl) d_Net_init_39 (fun aP H hP hD hS => ?_)
  have hP : va_P (dC, dI) vwCl [(oN, .inr (2, [.int (nI 0), .int (nI 0), .ref aK, .ref aL, .ref aR, .ref aX, .null, .null, .int (nI 0), .int (nI 0), .int (nI 0), .int (nI 0), .int (nI 0)])), (aK, .inl (cI, 100, .inl (fun _ => nI 0))), (aL, .inl (cI, 100, .inl (fun _ => nI 0))), (aR, .inl (cI, 100, .inl (fun _ => nI 0))), (aX, .inl (cI, 14, .inl (fun _ => nI 0))), (aP, .inl (cI, 16, .inl (fun _ => nI 0)))] H := hP
  have hD : va_D A [(oN, .inr (2, [.int (nI 0), .int (nI 0), .ref aK, .ref aL, .ref aR, .ref aX, .null, .null, .int (nI 0), .int (nI 0), .int (nI 0), .int (nI 0), .int (nI 0)])), (aK, .inl (cI, 100, .inl (fun _ => nI 0))), (aL, .inl (cI, 100, .inl (fun _ => nI 0))), (aR, .inl (cI, 100, .inl (fun _ => nI 0))), (aX, .inl (cI, 14, .inl (fun _ => nI 0))), (aP, .inl (cI, 16, .inl (fun _ => nI 0)))] := hD
  refine va_putF (D := (dC, dI)) (ci := 2) (v := .ref aP) (ty := (.array .int)) (C := RX2) (T := TX2) (N := 13) hx hb hts in_X2 tyX2 tyX2_ok nmX2 hown hK hP hD hS 0 rfl rfl 6 (by decide) (hts _ lk_Net_24) (fun _ h9 => h9) rfl hin rfl (by decide +kernel) rfl rfl (Nat.le_of_ble_eq_true rfl) d_Net_init_41 (fun H locs hP hD hS => ?_)
  have hP : va_P (dC, dI) vwCl [(oN, .inr (2, [.int (nI 0), .int (nI 0), .ref aK, .ref aL, .ref aR, .ref aX, .ref aP, .null, .int (nI 0), .int (nI 0), .int (nI 0), .int (nI 0), .int (nI 0)])), (aK, .inl (cI, 100, .inl (fun _ => nI 0))), (aL, .inl (cI, 100, .inl (fun _ => nI 0))), (aR, .inl (cI, 100, .inl (fun _ => nI 0))), (aX, .inl (cI, 14, .inl (fun _ => nI 0))), (aP, .inl (cI, 16, .inl (fun _ => nI 0)))] H := hP
  have hD : va_D A [(oN, .inr (2, [.int (nI 0), .int (nI 0), .ref aK, .ref aL, .ref aR, .ref aX, .ref aP, .null, .int (nI 0), .int (nI 0), .int (nI 0), .int (nI 0), .int (nI 0)])), (aK, .inl (cI, 100, .inl (fun _ => nI 0))), (aL, .inl (cI, 100, .inl (fun _ => nI 0))), (aR, .inl (cI, 100, .inl (fun _ => nI 0))), (aX, .inl (cI, 14, .inl (fun _ => nI 0))), (aP, .inl (cI, 16, .inl (fun _ => nI 0)))] := hD
  refine lv_aload_n hx hb d_Net_init_44 rfl (lv_at hl 0 rfl) ?_
  refine lv_bipush (v := nI 16) hx hb d_Net_init_45 (by decide +kernel) ?_
  refine bx_newa hx hb rfl (hts _ m_arr_int) hE hP hD hS hA (N' := 16) rfl (by decide) (Nat.le_of_ble_eq_true rfl) (Nat.le_of_ble_eq_true rfl) d_Net_init_47 (fun aQ H hP hD hS => ?_)
  have hP : va_P (dC, dI) vwCl [(oN, .inr (2, [.int (nI 0), .int (nI 0), .ref aK, .ref aL, .ref aR, .ref aX, .ref aP, .null, .int (nI 0), .int (nI 0), .int (nI 0), .int (nI 0), .int (nI 0)])), (aK, .inl (cI, 100, .inl (fun _ => nI 0))), (aL, .inl (cI, 100, .inl (fun _ => nI 0))), (aR, .inl (cI, 100, .inl (fun _ => nI 0))), (aX, .inl (cI, 14, .inl (fun _ => nI 0))), (aP, .inl (cI, 16, .inl (fun _ => nI 0))), (aQ, .inl (cI, 16, .inl (fun _ => nI 0)))] H := hP
  have hD : va_D A [(oN, .inr (2, [.int (nI 0), .int (nI 0), .ref aK, .ref aL, .ref aR, .ref aX, .ref aP, .null, .int (nI 0), .int (nI 0), .int (nI 0), .int (nI 0), .int (nI 0)])), (aK, .inl (cI, 100, .inl (fun _ => nI 0))), (aL, .inl (cI, 100, .inl (fun _ => nI 0))), (aR, .inl (cI, 100, .inl (fun _ => nI 0))), (aX, .inl (cI, 14, .inl (fun _ => nI 0))), (aP, .inl (cI, 16, .inl (fun _ => nI 0))), (aQ, .inl (cI, 16, .inl (fun _ => nI 0)))] := hD
  refine va_putF (D := (dC, dI)) (ci := 2) (v := .ref aQ) (ty := (.array .int)) (C := RX2) (T := TX2) (N := 13) hx hb hts in_X2 tyX2 tyX2_ok nmX2 hown hK hP hD hS 0 rfl rfl 7 (by decide) (hts _ lk_Net_27) (fun _ h9 => h9) rfl hin rfl (by decide +kernel) rfl rfl (Nat.le_of_ble_eq_true rfl) d_Net_init_49 (fun H locs hP hD hS => ?_)
  have hP : va_P (dC, dI) vwCl [(oN, .inr (2, [.int (nI 0), .int (nI 0), .ref aK, .ref aL, .ref aR, .ref aX, .ref aP, .ref aQ, .int (nI 0), .int (nI 0), .int (nI 0), .int (nI 0), .int (nI 0)])), (aK, .inl (cI, 100, .inl (fun _ => nI 0))), (aL, .inl (cI, 100, .inl (fun _ => nI 0))), (aR, .inl (cI, 100, .inl (fun _ => nI 0))), (aX, .inl (cI, 14, .inl (fun _ => nI 0))), (aP, .inl (cI, 16, .inl (fun _ => nI 0))), (aQ, .inl (cI, 16, .inl (fun _ => nI 0)))] H := hP
  have hD : va_D A [(oN, .inr (2, [.int (nI 0), .int (nI 0), .ref aK, .ref aL, .ref aR, .ref aX, .ref aP, .ref aQ, .int (nI 0), .int (nI 0), .int (nI 0), .int (nI 0), .int (nI 0)])), (aK, .inl (cI, 100, .inl (fun _ => nI 0))), (aL, .inl (cI, 100, .inl (fun _ => nI 0))), (aR, .inl (cI, 100, .inl (fun _ => nI 0))), (aX, .inl (cI, 14, .inl (fun _ => nI 0))), (aP, .inl (cI, 16, .inl (fun _ => nI 0))), (aQ, .inl (cI, 16, .inl (fun _ => nI 0)))] := hD
  refine lv_aload_n hx hb d_Net_init_52 rfl (lv_at hl 0 rfl) ?_
  refine lv_iload_n hx hb d_Net_init_53 rfl (lv_at hl 1 rfl) ?_
  refine va_putF (D := (dC, dI)) (ci := 2) (v := .int (nI wb)) (ty := .int) (C := RX2) (T := TX2) (N := 13) hx hb hts in_X2 tyX2 tyX2_ok nmX2 hown hK hP hD hS 0 rfl rfl 0 (by decide) (hts _ lk_Net_30) (fun _ h9 => h9) rfl hin rfl (by decide +kernel) rfl rfl (Nat.le_of_ble_eq_true rfl) d_Net_init_54 (fun H locs hP hD hS => ?_)
  have hP : va_P (dC, dI) vwCl [(oN, .inr (2, [.int (nI wb), .int (nI 0), .ref aK, .ref aL, .ref aR, .ref aX, .ref aP, .ref aQ, .int (nI 0), .int (nI 0), .int (nI 0), .int (nI 0), .int (nI 0)])), (aK, .inl (cI, 100, .inl (fun _ => nI 0))), (aL, .inl (cI, 100, .inl (fun _ => nI 0))), (aR, .inl (cI, 100, .inl (fun _ => nI 0))), (aX, .inl (cI, 14, .inl (fun _ => nI 0))), (aP, .inl (cI, 16, .inl (fun _ => nI 0))), (aQ, .inl (cI, 16, .inl (fun _ => nI 0)))] H := hP
  have hD : va_D A [(oN, .inr (2, [.int (nI wb), .int (nI 0), .ref aK, .ref aL, .ref aR, .ref aX, .ref aP, .ref aQ, .int (nI 0), .int (nI 0), .int (nI 0), .int (nI 0), .int (nI 0)])), (aK, .inl (cI, 100, .inl (fun _ => nI 0))), (aL, .inl (cI, 100, .inl (fun _ => nI 0))), (aR, .inl (cI, 100, .inl (fun _ => nI 0))), (aX, .inl (cI, 14, .inl (fun _ => nI 0))), (aP, .inl (cI, 16, .inl (fun _ => nI 0))), (aQ, .inl (cI, 16, .inl (fun _ => nI 0)))] := hD
  refine lv_aload_n hx hb d_Net_init_57 rfl (lv_at hl 0 rfl) ?_
  refine lv_iconst (v := nI 1) hx hb d_Net_init_58 (by decide +kernel) ?_
  refine lv_iload_n hx hb d_Net_init_59 rfl (lv_at hl 1 rfl) ?_
  refine lv_ishl hx hb d_Net_init_60 ?_
  refine bx_top (y := nI (2 ^ wb)) (bn_1shl (by omega)) ?_
  refine va_putF (D := (dC, dI)) (ci := 2) (v := .int (nI (2 ^ wb))) (ty := .int) (C := RX2) (T := TX2) (N := 13) hx hb hts in_X2 tyX2 tyX2_ok nmX2 hown hK hP hD hS 0 rfl rfl 1 (by decide) (hts _ lk_Net_34) (fun _ h9 => h9) rfl hin rfl (by decide +kernel) rfl rfl (Nat.le_of_ble_eq_true rfl) d_Net_init_61 (fun H locs hP hD hS => ?_)
  have hP : va_P (dC, dI) vwCl [(oN, .inr (2, [.int (nI wb), .int (nI (2 ^ wb)), .ref aK, .ref aL, .ref aR, .ref aX, .ref aP, .ref aQ, .int (nI 0), .int (nI 0), .int (nI 0), .int (nI 0), .int (nI 0)])), (aK, .inl (cI, 100, .inl (fun _ => nI 0))), (aL, .inl (cI, 100, .inl (fun _ => nI 0))), (aR, .inl (cI, 100, .inl (fun _ => nI 0))), (aX, .inl (cI, 14, .inl (fun _ => nI 0))), (aP, .inl (cI, 16, .inl (fun _ => nI 0))), (aQ, .inl (cI, 16, .inl (fun _ => nI 0)))] H := hP
  have hD : va_D A [(oN, .inr (2, [.int (nI wb), .int (nI (2 ^ wb)), .ref aK, .ref aL, .ref aR, .ref aX, .ref aP, .ref aQ, .int (nI 0), .int (nI 0), .int (nI 0), .int (nI 0), .int (nI 0)])), (aK, .inl (cI, 100, .inl (fun _ => nI 0))), (aL, .inl (cI, 100, .inl (fun _ => nI 0))), (aR, .inl (cI, 100, .inl (fun _ => nI 0))), (aX, .inl (cI, 14, .inl (fun _ => nI 0))), (aP, .inl (cI, 16, .inl (fun _ => nI 0))), (aQ, .inl (cI, 16, .inl (fun _ => nI 0)))] := hD
  refine lv_aload_n hx hb d_Net_init_64 rfl (lv_at hl 0 rfl) ?_
  refine lv_iload_n hx hb d_Net_init_65 rfl (lv_at hl 1 rfl) ?_
  refine va_put (D := (dC, dI)) (ci := 2) (v := .int (nI wb)) (ty := .int) (C := RX2) (T := TX2) (N := 13) hx hb hts in_X2 tyX2 tyX2_ok nmX2 hown hK hP hD hS 0 rfl rfl 8 (by decide) (hts _ lk_Net_37) (fun _ h9 => h9) rfl (by decide +kernel) rfl rfl (Nat.le_of_ble_eq_true rfl) d_Net_init_66 (fun H locs hP hD hS => ?_)
  have hP : va_P (dC, dI) vwCl [(oN, .inr (2, [.int (nI wb), .int (nI (2 ^ wb)), .ref aK, .ref aL, .ref aR, .ref aX, .ref aP, .ref aQ, .int (nI wb), .int (nI 0), .int (nI 0), .int (nI 0), .int (nI 0)])), (aK, .inl (cI, 100, .inl (fun _ => nI 0))), (aL, .inl (cI, 100, .inl (fun _ => nI 0))), (aR, .inl (cI, 100, .inl (fun _ => nI 0))), (aX, .inl (cI, 14, .inl (fun _ => nI 0))), (aP, .inl (cI, 16, .inl (fun _ => nI 0))), (aQ, .inl (cI, 16, .inl (fun _ => nI 0)))] H := hP
  have hD : va_D A [(oN, .inr (2, [.int (nI wb), .int (nI (2 ^ wb)), .ref aK, .ref aL, .ref aR, .ref aX, .ref aP, .ref aQ, .int (nI wb), .int (nI 0), .int (nI 0), .int (nI 0), .int (nI 0)])), (aK, .inl (cI, 100, .inl (fun _ => nI 0))), (aL, .inl (cI, 100, .inl (fun _ => nI 0))), (aR, .inl (cI, 100, .inl (fun _ => nI 0))), (aX, .inl (cI, 14, .inl (fun _ => nI 0))), (aP, .inl (cI, 16, .inl (fun _ => nI 0))), (aQ, .inl (cI, 16, .inl (fun _ => nI 0)))] := hD
  refine lv_iconst (v := nI 0) hx hb d_Net_init_69 (by decide +kernel) ?_
  refine lv_istore_n (lv' := [(2, .int (nI 0)), (0, .ref oN), (1, .int (nI wb))]) hx hb d_Net_init_70 rfl hl (by decide) rfl (fun ls hl => ?_)
  refine bx_gen (fun V hV => ?_)
  have loop : ∀ (k9 i9 : Nat) (kd lf : Nat → Nat) (H : Heap) (locs : List Loc) (ls : Array Slot), i9 + k9 = wb → (∀ j, j < i9 → kd j = 6 ∧ lf j = j) → va_P (dC, dI) vwCl [(oN, .inr (2, [.int (nI wb), .int (nI (2 ^ wb)), .ref aK, .ref aL, .ref aR, .ref aX, .ref aP, .ref aQ, .int (nI wb), .int (nI 0), .int (nI 0), .int (nI 0), .int (nI 0)])), (aK, .inl (cI, 100, .inl (fun z9 => nI (kd z9)))), (aL, .inl (cI, 100, .inl (fun z9 => nI (lf z9)))), (aR, .inl (cI, 100, .inl (fun z9 => nI ((fun _ => 0) z9)))), (aX, .inl (cI, 14, .inl (fun z9 => nI ((fun _ => 0) z9)))), (aP, .inl (cI, 16, .inl (fun z9 => nI ((fun _ => 0) z9)))), (aQ, .inl (cI, 16, .inl (fun z9 => nI ((fun _ => 0) z9))))] H → va_D A [(oN, .inr (2, [.int (nI wb), .int (nI (2 ^ wb)), .ref aK, .ref aL, .ref aR, .ref aX, .ref aP, .ref aQ, .int (nI wb), .int (nI 0), .int (nI 0), .int (nI 0), .int (nI 0)])), (aK, .inl (cI, 100, .inl (fun z9 => nI (kd z9)))), (aL, .inl (cI, 100, .inl (fun z9 => nI (lf z9)))), (aR, .inl (cI, 100, .inl (fun z9 => nI ((fun _ => 0) z9)))), (aX, .inl (cI, 14, .inl (fun z9 => nI ((fun _ => 0) z9)))), (aP, .inl (cI, 16, .inl (fun z9 => nI ((fun _ => 0) z9)))), (aQ, .inl (cI, 16, .inl (fun z9 => nI ((fun _ => 0) z9))))] → va_S A s.heap H locs → lv_has ls 3 [(0, .ref oN), (1, .int (nI wb)), (2, .int (nI i9))] → V H locs (0 + 1 + 1 + 1 + 1 + 1 + 1) (0 + 100 + 100 + 100 + 14 + 16 + 16) (F0 m 71 ls []) := by
    intro k9
    induction k9 with
    | zero =>
      intro i9 kd lf H locs ls hik hk hP hD hS hl
      refine (hV _ _ _ _ _).mpr ?_
      refine lv_iload_n hx hb d_Net_init_71 rfl (lv_at hl 2 rfl) ?_
      refine lv_iload_n hx hb d_Net_init_72 rfl (lv_at hl 1 rfl) ?_
      refine lv_icmp_ge (tgt := 97) hx hb d_Net_init_73 (by decide) (fun _ => ?_) (fun c9 => absurd (by rw [show i9 = wb by omega]; exact nI_le (Nat.le_refl wb) (by omega)) c9)
      have hP9 := hP.sub (ws' := [(oN, .inr (2, [.int (nI wb), .int (nI (2 ^ wb)), .ref aK, .ref aL, .ref aR, .ref aX, .ref aP, .ref aQ, .int (nI wb), .int (nI 0), .int (nI 0), .int (nI 0), .int (nI 0)])), (aK, .inl (cI, 100, .inl (fun z9 => nI (kd z9)))), (aL, .inl (cI, 100, .inl (fun z9 => nI (lf z9)))), (aR, .inl (cI, 100, .inl (fun z9 => nI ((fun _ => 0) z9)))), (aX, .inl (cI, 14, .inl (fun z9 => nI ((fun _ => 0) z9)))), (aP, .inl (cI, 16, .inl (fun z9 => nI ((fun _ => 0) z9)))), (aQ, .inl (cI, 16, .inl (fun z9 => nI ((fun _ => 0) z9))))]) [0, 1, 2, 3, 4, 5, 6] rfl
      have hD9 := hD.sub (ws' := [(oN, .inr (2, [.int (nI wb), .int (nI (2 ^ wb)), .ref aK, .ref aL, .ref aR, .ref aX, .ref aP, .ref aQ, .int (nI wb), .int (nI 0), .int (nI 0), .int (nI 0), .int (nI 0)])), (aK, .inl (cI, 100, .inl (fun z9 => nI (kd z9)))), (aL, .inl (cI, 100, .inl (fun z9 => nI (lf z9)))), (aR, .inl (cI, 100, .inl (fun z9 => nI ((fun _ => 0) z9)))), (aX, .inl (cI, 14, .inl (fun z9 => nI ((fun _ => 0) z9)))), (aP, .inl (cI, 16, .inl (fun z9 => nI ((fun _ => 0) z9)))), (aQ, .inl (cI, 16, .inl (fun z9 => nI ((fun _ => 0) z9))))]) [0, 1, 2, 3, 4, 5, 6] (by decide) rfl
      exact W.vret hx hb hr (fun t ht hW => ⟨⟨(aK, aL, aR, aX, aP, aQ, kd, lf), rfl, fun j hj => hk j (by omega), by rw [ht]; exact hP9, hD9⟩, hS.F ht⟩) hS.2.2 d_Net_init_97
    | succ k9 ih =>
      intro i9 kd lf H locs ls hik hk hP hD hS hl
      refine (hV _ _ _ _ _).mpr ?_
      refine lv_iload_n hx hb d_Net_init_71 rfl (lv_at hl 2 rfl) ?_
      refine lv_iload_n hx hb d_Net_init_72 rfl (lv_at hl 1 rfl) ?_
      refine lv_icmp_ge (tgt := 97) hx hb d_Net_init_73 (by decide) (fun c9 => absurd c9 (nI_ge (by omega) (by omega))) (fun _ => ?_)
      refine lv_aload_n hx hb d_Net_init_76 rfl (lv_at hl 0 rfl) ?_
      refine va_get (D := (dC, dI)) (ci := 2) (v := .ref aK) (C := RX2) (T := TX2) (N := 13) hx hb hts in_X2 hown hK hP 0 rfl rfl 2 (by decide) (hts _ lk_Net_11) (fun _ h9 => h9) rfl d_Net_init_77 ?_
      refine lv_iload_n hx hb d_Net_init_80 rfl (lv_at hl 2 rfl) ?_
      refine lv_bipush (v := nI 6) hx hb d_Net_init_81 (by decide +kernel) ?_
      refine bx_iast hx hb hK hP hD hS 1 0 rfl rfl (k := i9) rfl (by omega) (by decide) (g := fun z9 => nI ((va_up kd i9 6) z9)) (bn_upN _ _ _) d_Net_init_83 (fun H locs hP hD hS => ?_)
      have hP : va_P (dC, dI) vwCl [(oN, .inr (2, [.int (nI wb), .int (nI (2 ^ wb)), .ref aK, .ref aL, .ref aR, .ref aX, .ref aP, .ref aQ, .int (nI wb), .int (nI 0), .int (nI 0), .int (nI 0), .int (nI 0)])), (aK, .inl (cI, 100, .inl (fun z9 => nI ((va_up kd i9 6) z9)))), (aL, .inl (cI, 100, .inl (fun z9 => nI (lf z9)))), (aR, .inl (cI, 100, .inl (fun z9 => nI ((fun _ => 0) z9)))), (aX, .inl (cI, 14, .inl (fun z9 => nI ((fun _ => 0) z9)))), (aP, .inl (cI, 16, .inl (fun z9 => nI ((fun _ => 0) z9)))), (aQ, .inl (cI, 16, .inl (fun z9 => nI ((fun _ => 0) z9))))] H := hP
      have hD : va_D A [(oN, .inr (2, [.int (nI wb), .int (nI (2 ^ wb)), .ref aK, .ref aL, .ref aR, .ref aX, .ref aP, .ref aQ, .int (nI wb), .int (nI 0), .int (nI 0), .int (nI 0), .int (nI 0)])), (aK, .inl (cI, 100, .inl (fun z9 => nI ((va_up kd i9 6) z9)))), (aL, .inl (cI, 100, .inl (fun z9 => nI (lf z9)))), (aR, .inl (cI, 100, .inl (fun z9 => nI ((fun _ => 0) z9)))), (aX, .inl (cI, 14, .inl (fun z9 => nI ((fun _ => 0) z9)))), (aP, .inl (cI, 16, .inl (fun z9 => nI ((fun _ => 0) z9)))), (aQ, .inl (cI, 16, .inl (fun z9 => nI ((fun _ => 0) z9))))] := hD
      refine lv_aload_n hx hb d_Net_init_84 rfl (lv_at hl 0 rfl) ?_
      refine va_get (D := (dC, dI)) (ci := 2) (v := .ref aL) (C := RX2) (T := TX2) (N := 13) hx hb hts in_X2 hown hK hP 0 rfl rfl 3 (by decide) (hts _ lk_Net_15) (fun _ h9 => h9) rfl d_Net_init_85 ?_
      refine lv_iload_n hx hb d_Net_init_88 rfl (lv_at hl 2 rfl) ?_
      refine lv_iload_n hx hb d_Net_init_89 rfl (lv_at hl 2 rfl) ?_
      refine bx_iast hx hb hK hP hD hS 2 0 rfl rfl (k := i9) rfl (by omega) (by decide) (g := fun z9 => nI ((va_up lf i9 i9) z9)) (bn_upN _ _ _) d_Net_init_90 (fun H locs hP hD hS => ?_)
      have hP : va_P (dC, dI) vwCl [(oN, .inr (2, [.int (nI wb), .int (nI (2 ^ wb)), .ref aK, .ref aL, .ref aR, .ref aX, .ref aP, .ref aQ, .int (nI wb), .int (nI 0), .int (nI 0), .int (nI 0), .int (nI 0)])), (aK, .inl (cI, 100, .inl (fun z9 => nI ((va_up kd i9 6) z9)))), (aL, .inl (cI, 100, .inl (fun z9 => nI ((va_up lf i9 i9) z9)))), (aR, .inl (cI, 100, .inl (fun z9 => nI ((fun _ => 0) z9)))), (aX, .inl (cI, 14, .inl (fun z9 => nI ((fun _ => 0) z9)))), (aP, .inl (cI, 16, .inl (fun z9 => nI ((fun _ => 0) z9)))), (aQ, .inl (cI, 16, .inl (fun z9 => nI ((fun _ => 0) z9))))] H := hP
      have hD : va_D A [(oN, .inr (2, [.int (nI wb), .int (nI (2 ^ wb)), .ref aK, .ref aL, .ref aR, .ref aX, .ref aP, .ref aQ, .int (nI wb), .int (nI 0), .int (nI 0), .int (nI 0), .int (nI 0)])), (aK, .inl (cI, 100, .inl (fun z9 => nI ((va_up kd i9 6) z9)))), (aL, .inl (cI, 100, .inl (fun z9 => nI ((va_up lf i9 i9) z9)))), (aR, .inl (cI, 100, .inl (fun z9 => nI ((fun _ => 0) z9)))), (aX, .inl (cI, 14, .inl (fun z9 => nI ((fun _ => 0) z9)))), (aP, .inl (cI, 16, .inl (fun z9 => nI ((fun _ => 0) z9)))), (aQ, .inl (cI, 16, .inl (fun z9 => nI ((fun _ => 0) z9))))] := hD
      refine lv_iinc (v := nI (i9 + 1)) (lv' := [(2, .int (nI (i9 + 1))), (0, .ref oN), (1, .int (nI wb))]) hx hb d_Net_init_91 hl (k := 2) rfl (bx_inc _) (by decide) rfl (fun ls hl => ?_)
      refine lv_goto (tgt := 71) hx hb d_Net_init_94 (by decide) ?_
      exact (hV _ _ _ _ _).mp (ih (i9 + 1) (va_up kd i9 6) (va_up lf i9 i9) _ _ ls (by omega) (fun j hj => by
        by_cases q : j = i9
        · subst q
          exact ⟨va_up_self _ _ _, va_up_self _ _ _⟩
        · rw [va_up_ne _ _ q, va_up_ne _ _ q]
          exact hk j (by omega)) hP hD hS (lv_sub hl [1, 2, 0] rfl))
  exact loop wb 0 (fun _ => 0) (fun _ => 0) _ _ ls (Nat.zero_add _) (fun j hj => absurd hj (Nat.not_lt_zero j)) hP hD hS (lv_sub hl [1, 2, 0] rfl)

set_option maxHeartbeats 4000000 in
set_option maxRecDepth 100000 in
theorem k_Hunt_init (l : Launch) (dC : Nat → ClassId) (dI : Nat → Nat → Nat) (cI cZ cJ : ClassId) (sz : Nat) (oU oN : Nat) : Met l y_Hunt_init (bw y_Hunt_init b_Hunt_init 2 (none)) ({ frames := 1, cells := 6, slots := 66150, locals := 20 }) (bx_pW dC dI cI cZ cJ [.ref oU, .ref oN] [(oU, .inr (1, [.null, .null, .null, .null, .null, .null, .null, .int (nI 0), .int (nI 0), .int (nI 0)]))] sz) (va_Qv (fun (u9 : Nat × Nat × Nat × Nat × Nat × Nat) => match u9 with | (aU, aW, aO, aS, aG, aB) => True) (bx_B dC dI (va_A [(oU, .inr (1, [.null, .null, .null, .null, .null, .null, .null, .int (nI 0), .int (nI 0), .int (nI 0)]))] sz) (fun (u9 : Nat × Nat × Nat × Nat × Nat × Nat) => match u9 with | (aU, aW, aO, aS, aG, aB) => ([(oU, .inr (1, [.ref oN, .ref aU, .ref aW, .ref aO, .ref aS, .ref aG, .ref aB, .int (nI 0), .int (nI 0), .int (-1)])), (aU, .inl (cI, 100, .inl (fun _ => nI 0))), (aW, .inl (cI, 16384, .inl (fun z9 => nI ((fun _ => 0) z9)))), (aO, .inl (cI, 16384, .inl (fun z9 => nI ((fun _ => 0) z9)))), (aS, .inl (cI, 16386, .inl (fun z9 => nI ((fun _ => 0) z9)))), (aG, .inl (cI, 16384, .inl (fun z9 => nI ((fun _ => 0) z9)))), (aB, .inl (cI, 512, .inl (fun _ => nI 0)))] : va_W))) (va_A [(oU, .inr (1, [.null, .null, .null, .null, .null, .null, .null, .int (nI 0), .int (nI 0), .int (nI 0)]))] sz)) 6 66150 (va_A [(oU, .inr (1, [.null, .null, .null, .null, .null, .null, .null, .int (nI 0), .int (nI 0), .int (nI 0)]))] sz) := by
  refine Met.ofW (cc := b_Hunt_init) (maxL := 2) (ret := none) (by decide) rfl ?_
  intro p e s m args below meth c s₁ B hml hv
  obtain ⟨rfl, hsz, hE, hP, hD0⟩ := hv
  have hx := B.exec
  have hb := B.bytes
  have hr := B.returns
  have hts9 := atoms_spec (ws := (bw y_Hunt_init b_Hunt_init 2 (none))) B.pre
  have hts : ∀ w ∈ gw, w.before _ s = true := fun w h => hts9 w (List.mem_cons_of_mem _ h)
  have hown : s.vm.findClass RX1 = some m.cls := findClass_of_methodNamed B.named
  have hlocks := B.notSynchronized
  have hin : meth.name = "<init>" := (name_of_methodNamed B.named B.method).1
  subst hsz
  have hD := hD0.self (sz := s.heap.size)
  generalize hAe : va_A [(oU, .inr (1, [.null, .null, .null, .null, .null, .null, .null, .int (nI 0), .int (nI 0), .int (nI 0)]))] s.heap.size = A at hE hD ⊢
  have hA : ∀ q : Nat, s.heap.size ≤ q → A q := fun q h => by rw [← hAe]; exact Or.inr h
  have hS : va_S A s.heap s.heap [] := va_S.rf
  have hK := hE.1
  have hN := hE.2.1
  have hP : va_P (dC, dI) vwCl [(oU, .inr (1, [.null, .null, .null, .null, .null, .null, .null, .int (nI 0), .int (nI 0), .int (nI 0)]))] s.heap := hP
  have hl := lv_entry ([.ref oU, .ref oN]) (n := 2) (Nat.le_of_ble_eq_true rfl)
  rw [lg_entry_eq]
  generalize (lg_sl ([.ref oU, .ref oN]) ++ List.replicate (2 - (lg_sl ([.ref oU, .ref oN])).length) Slot.unset).toArray = ls at hl ⊢
  have hl : lv_has ls 2 [(0, .ref oU), (1, .ref oN)] := hl
  refine lv_aload_n hx hb d_Hunt_init_0 rfl (lv_at hl 0 rfl) ?_
  refine W.objInit hx hb hown (hts _ lk_Hunt_5) (hts _ mi_obj) (hts _ mc_obj) rfl (by rw [hml]; exact hl.1) rfl d_Hunt_init_1 (Nat.le_of_ble_eq_true rfl) (Nat.le_of_ble_eq_true rfl) ?_
  refine W.eq (g2 := F0 m 4 ls []) rfl ?_
  refine lv_aload_n hx hb d_Hunt_init_4 rfl (lv_at hl 0 rfl) ?_
  refine lv_bipush (v := nI 100) hx hb d_Hunt_init_5 (by decide +kernel) ?_
  refine bx_newa hx hb rfl (hts _ m_arr_int) hE hP hD hS hA (N' := 100) rfl (by decide) (Nat.le_of_ble_eq_true rfl) (Nat.le_of_ble_eq_true rfl) d_Hunt_init_7 (fun aU H hP hD hS => ?_)
  have hP : va_P (dC, dI) vwCl [(oU, .inr (1, [.null, .null, .null, .null, .null, .null, .null, .int (nI 0), .int (nI 0), .int (nI 0)])), (aU, .inl (cI, 100, .inl (fun _ => nI 0)))] H := hP
  have hD : va_D A [(oU, .inr (1, [.null, .null, .null, .null, .null, .null, .null, .int (nI 0), .int (nI 0), .int (nI 0)])), (aU, .inl (cI, 100, .inl (fun _ => nI 0)))] := hD
  refine va_putF (D := (dC, dI)) (ci := 1) (v := .ref aU) (ty := (.array .int)) (C := RX1) (T := TX1) (N := 10) hx hb hts in_X1 tyX1 tyX1_ok nmX1 hown hK hP hD hS 0 rfl rfl 1 (by decide) (hts _ lk_Hunt_11) (fun _ h9 => h9) rfl hin rfl (by decide +kernel) rfl rfl (Nat.le_of_ble_eq_true rfl) d_Hunt_init_9 (fun H locs hP hD hS => ?_)
  have hP : va_P (dC, dI) vwCl [(oU, .inr (1, [.null, .ref aU, .null, .null, .null, .null, .null, .int (nI 0), .int (nI 0), .int (nI 0)])), (aU, .inl (cI, 100, .inl (fun _ => nI 0)))] H := hP
  have hD : va_D A [(oU, .inr (1, [.null, .ref aU, .null, .null, .null, .null, .null, .int (nI 0), .int (nI 0), .int (nI 0)])), (aU, .inl (cI, 100, .inl (fun _ => nI 0)))] := hD
  refine lv_aload_n hx hb d_Hunt_init_12 rfl (lv_at hl 0 rfl) ?_
  refine lv_sipush (v := nI 16384) hx hb d_Hunt_init_13 (by decide +kernel) ?_
  refine bx_newa hx hb rfl (hts _ m_arr_int) hE hP hD hS hA (N' := 16384) rfl (by decide) (Nat.le_of_ble_eq_true rfl) (Nat.le_of_ble_eq_true rfl) d_Hunt_init_16 (fun aW H hP hD hS => ?_)
  have hP : va_P (dC, dI) vwCl [(oU, .inr (1, [.null, .ref aU, .null, .null, .null, .null, .null, .int (nI 0), .int (nI 0), .int (nI 0)])), (aU, .inl (cI, 100, .inl (fun _ => nI 0))), (aW, .inl (cI, 16384, .inl (fun _ => nI 0)))] H := hP
  have hD : va_D A [(oU, .inr (1, [.null, .ref aU, .null, .null, .null, .null, .null, .int (nI 0), .int (nI 0), .int (nI 0)])), (aU, .inl (cI, 100, .inl (fun _ => nI 0))), (aW, .inl (cI, 16384, .inl (fun _ => nI 0)))] := hD
  refine va_putF (D := (dC, dI)) (ci := 1) (v := .ref aW) (ty := (.array .int)) (C := RX1) (T := TX1) (N := 10) hx hb hts in_X1 tyX1 tyX1_ok nmX1 hown hK hP hD hS 0 rfl rfl 2 (by decide) (hts _ lk_Hunt_17) (fun _ h9 => h9) rfl hin rfl (by decide +kernel) rfl rfl (Nat.le_of_ble_eq_true rfl) d_Hunt_init_18 (fun H locs hP hD hS => ?_)
  have hP : va_P (dC, dI) vwCl [(oU, .inr (1, [.null, .ref aU, .ref aW, .null, .null, .null, .null, .int (nI 0), .int (nI 0), .int (nI 0)])), (aU, .inl (cI, 100, .inl (fun _ => nI 0))), (aW, .inl (cI, 16384, .inl (fun _ => nI 0)))] H := hP
  have hD : va_D A [(oU, .inr (1, [.null, .ref aU, .ref aW, .null, .null, .null, .null, .int (nI 0), .int (nI 0), .int (nI 0)])), (aU, .inl (cI, 100, .inl (fun _ => nI 0))), (aW, .inl (cI, 16384, .inl (fun _ => nI 0)))] := hD
  refine lv_aload_n hx hb d_Hunt_init_21 rfl (lv_at hl 0 rfl) ?_
  refine lv_sipush (v := nI 16384) hx hb d_Hunt_init_22 (by decide +kernel) ?_
  refine bx_newa hx hb rfl (hts _ m_arr_int) hE hP hD hS hA (N' := 16384) rfl (by decide) (Nat.le_of_ble_eq_true rfl) (Nat.le_of_ble_eq_true rfl) d_Hunt_init_25 (fun aO H hP hD hS => ?_)
  have hP : va_P (dC, dI) vwCl [(oU, .inr (1, [.null, .ref aU, .ref aW, .null, .null, .null, .null, .int (nI 0), .int (nI 0), .int (nI 0)])), (aU, .inl (cI, 100, .inl (fun _ => nI 0))), (aW, .inl (cI, 16384, .inl (fun _ => nI 0))), (aO, .inl (cI, 16384, .inl (fun _ => nI 0)))] H := hP
  have hD : va_D A [(oU, .inr (1, [.null, .ref aU, .ref aW, .null, .null, .null, .null, .int (nI 0), .int (nI 0), .int (nI 0)])), (aU, .inl (cI, 100, .inl (fun _ => nI 0))), (aW, .inl (cI, 16384, .inl (fun _ => nI 0))), (aO, .inl (cI, 16384, .inl (fun _ => nI 0)))] := hD
  refine va_putF (D := (dC, dI)) (ci := 1) (v := .ref aO) (ty := (.array .int)) (C := RX1) (T := TX1) (N := 10) hx hb hts in_X1 tyX1 tyX1_ok nmX1 hown hK hP hD hS 0 rfl rfl 3 (by decide) (hts _ lk_Hunt_20) (fun _ h9 => h9) rfl hin rfl (by decide +kernel) rfl rfl (Nat.le_of_ble_eq_true rfl) d_Hunt_init_27 (fun H locs hP hD hS => ?_)
  have hP : va_P (dC, dI) vwCl [(oU, .inr (1, [.null, .ref aU, .ref aW, .ref aO, .null, .null, .null, .int (nI 0), .int (nI 0), .int (nI 0)])), (aU, .inl (cI, 100, .inl (fun _ => nI 0))), (aW, .inl (cI, 16384, .inl (fun _ => nI 0))), (aO, .inl (cI, 16384, .inl (fun _ => nI 0)))] H := hP
  have hD : va_D A [(oU, .inr (1, [.null, .ref aU, .ref aW, .ref aO, .null, .null, .null, .int (nI 0), .int (nI 0), .int (nI 0)])), (aU, .inl (cI, 100, .inl (fun _ => nI 0))), (aW, .inl (cI, 16384, .inl (fun _ => nI 0))), (aO, .inl (cI, 16384, .inl (fun _ => nI 0)))] := hD
  refine lv_aload_n hx hb d_Hunt_init_30 rfl (lv_at hl 0 rfl) ?_
  refine lv_sipush (v := nI 16386) hx hb d_Hunt_init_31 (by decide +kernel) ?_
  refine bx_newa hx hb rfl (hts _ m_arr_int) hE hP hD hS hA (N' := 16386) rfl (by decide) (Nat.le_of_ble_eq_true rfl) (Nat.le_of_ble_eq_true rfl) d_Hunt_init_34 (fun aS H hP hD hS => ?_)
  have hP : va_P (dC, dI) vwCl [(oU, .inr (1, [.null, .ref aU, .ref aW, .ref aO, .null, .null, .null, .int (nI 0), .int (nI 0), .int (nI 0)])), (aU, .inl (cI, 100, .inl (fun _ => nI 0))), (aW, .inl (cI, 16384, .inl (fun _ => nI 0))), (aO, .inl (cI, 16384, .inl (fun _ => nI 0))), (aS, .inl (cI, 16386, .inl (fun _ => nI 0)))] H := hP
  have hD : va_D A [(oU, .inr (1, [.null, .ref aU, .ref aW, .ref aO, .null, .null, .null, .int (nI 0), .int (nI 0), .int (nI 0)])), (aU, .inl (cI, 100, .inl (fun _ => nI 0))), (aW, .inl (cI, 16384, .inl (fun _ => nI 0))), (aO, .inl (cI, 16384, .inl (fun _ => nI 0))), (aS, .inl (cI, 16386, .inl (fun _ => nI 0)))] := hD
  refine va_putF (D := (dC, dI)) (ci := 1) (v := .ref aS) (ty := (.array .int)) (C := RX1) (T := TX1) (N := 10) hx hb hts in_X1 tyX1 tyX1_ok nmX1 hown hK hP hD hS 0 rfl rfl 4 (by decide) (hts _ lk_Hunt_23) (fun _ h9 => h9) rfl hin rfl (by decide +kernel) rfl rfl (Nat.le_of_ble_eq_true rfl) d_Hunt_init_36 (fun H locs hP hD hS => ?_)
  have hP : va_P (dC, dI) vwCl [(oU, .inr (1, [.null, .ref aU, .ref aW, .ref aO, .ref aS, .null, .null, .int (nI 0), .int (nI 0), .int (nI 0)])), (aU, .inl (cI, 100, .inl (fun _ => nI 0))), (aW, .inl (cI, 16384, .inl (fun _ => nI 0))), (aO, .inl (cI, 16384, .inl (fun _ => nI 0))), (aS, .inl (cI, 16386, .inl (fun _ => nI 0)))] H := hP
  have hD : va_D A [(oU, .inr (1, [.null, .ref aU, .ref aW, .ref aO, .ref aS, .null, .null, .int (nI 0), .int (nI 0), .int (nI 0)])), (aU, .inl (cI, 100, .inl (fun _ => nI 0))), (aW, .inl (cI, 16384, .inl (fun _ => nI 0))), (aO, .inl (cI, 16384, .inl (fun _ => nI 0))), (aS, .inl (cI, 16386, .inl (fun _ => nI 0)))] := hD
  refine lv_aload_n hx hb d_Hunt_init_39 rfl (lv_at hl 0 rfl) ?_
  refine lv_sipush (v := nI 16384) hx hb d_Hunt_init_40 (by decide +kernel) ?_
  refine bx_newa hx hb rfl (hts _ m_arr_int) hE hP hD hS hA (N' := 16384) rfl (by decide) (Nat.le_of_ble_eq_true rfl) (Nat.le_of_ble_eq_true rfl) d_Hunt_init_43 (fun aG H hP hD hS => ?_)
  have hP : va_P (dC, dI) vwCl [(oU, .inr (1, [.null, .ref aU, .ref aW, .ref aO, .ref aS, .null, .null, .int (nI 0), .int (nI 0), .int (nI 0)])), (aU, .inl (cI, 100, .inl (fun _ => nI 0))), (aW, .inl (cI, 16384, .inl (fun _ => nI 0))), (aO, .inl (cI, 16384, .inl (fun _ => nI 0))), (aS, .inl (cI, 16386, .inl (fun _ => nI 0))), (aG, .inl (cI, 16384, .inl (fun _ => nI 0)))] H := hP
  have hD : va_D A [(oU, .inr (1, [.null, .ref aU, .ref aW, .ref aO, .ref aS, .null, .null, .int (nI 0), .int (nI 0), .int (nI 0)])), (aU, .inl (cI, 100, .inl (fun _ => nI 0))), (aW, .inl (cI, 16384, .inl (fun _ => nI 0))), (aO, .inl (cI, 16384, .inl (fun _ => nI 0))), (aS, .inl (cI, 16386, .inl (fun _ => nI 0))), (aG, .inl (cI, 16384, .inl (fun _ => nI 0)))] := hD
  refine va_putF (D := (dC, dI)) (ci := 1) (v := .ref aG) (ty := (.array .int)) (C := RX1) (T := TX1) (N := 10) hx hb hts in_X1 tyX1 tyX1_ok nmX1 hown hK hP hD hS 0 rfl rfl 5 (by decide) (hts _ lk_Hunt_26) (fun _ h9 => h9) rfl hin rfl (by decide +kernel) rfl rfl (Nat.le_of_ble_eq_true rfl) d_Hunt_init_45 (fun H locs hP hD hS => ?_)
  have hP : va_P (dC, dI) vwCl [(oU, .inr (1, [.null, .ref aU, .ref aW, .ref aO, .ref aS, .ref aG, .null, .int (nI 0), .int (nI 0), .int (nI 0)])), (aU, .inl (cI, 100, .inl (fun _ => nI 0))), (aW, .inl (cI, 16384, .inl (fun _ => nI 0))), (aO, .inl (cI, 16384, .inl (fun _ => nI 0))), (aS, .inl (cI, 16386, .inl (fun _ => nI 0))), (aG, .inl (cI, 16384, .inl (fun _ => nI 0)))] H := hP
  have hD : va_D A [(oU, .inr (1, [.null, .ref aU, .ref aW, .ref aO, .ref aS, .ref aG, .null, .int (nI 0), .int (nI 0), .int (nI 0)])), (aU, .inl (cI, 100, .inl (fun _ => nI 0))), (aW, .inl (cI, 16384, .inl (fun _ => nI 0))), (aO, .inl (cI, 16384, .inl (fun _ => nI 0))), (aS, .inl (cI, 16386, .inl (fun _ => nI 0))), (aG, .inl (cI, 16384, .inl (fun _ => nI 0)))] := hD
  refine lv_aload_n hx hb d_Hunt_init_48 rfl (lv_at hl 0 rfl) ?_
  refine lv_sipush (v := nI 512) hx hb d_Hunt_init_49 (by decide +kernel) ?_
  refine bx_newa hx hb rfl (hts _ m_arr_int) hE hP hD hS hA (N' := 512) rfl (by decide) (Nat.le_of_ble_eq_true rfl) (Nat.le_of_ble_eq_true rfl) d_Hunt_init_52 (fun aB H hP hD hS => ?_)
  have hP : va_P (dC, dI) vwCl [(oU, .inr (1, [.null, .ref aU, .ref aW, .ref aO, .ref aS, .ref aG, .null, .int (nI 0), .int (nI 0), .int (nI 0)])), (aU, .inl (cI, 100, .inl (fun _ => nI 0))), (aW, .inl (cI, 16384, .inl (fun _ => nI 0))), (aO, .inl (cI, 16384, .inl (fun _ => nI 0))), (aS, .inl (cI, 16386, .inl (fun _ => nI 0))), (aG, .inl (cI, 16384, .inl (fun _ => nI 0))), (aB, .inl (cI, 512, .inl (fun _ => nI 0)))] H := hP
  have hD : va_D A [(oU, .inr (1, [.null, .ref aU, .ref aW, .ref aO, .ref aS, .ref aG, .null, .int (nI 0), .int (nI 0), .int (nI 0)])), (aU, .inl (cI, 100, .inl (fun _ => nI 0))), (aW, .inl (cI, 16384, .inl (fun _ => nI 0))), (aO, .inl (cI, 16384, .inl (fun _ => nI 0))), (aS, .inl (cI, 16386, .inl (fun _ => nI 0))), (aG, .inl (cI, 16384, .inl (fun _ => nI 0))), (aB, .inl (cI, 512, .inl (fun _ => nI 0)))] := hD
  refine va_putF (D := (dC, dI)) (ci := 1) (v := .ref aB) (ty := (.array .int)) (C := RX1) (T := TX1) (N := 10) hx hb hts in_X1 tyX1 tyX1_ok nmX1 hown hK hP hD hS 0 rfl rfl 6 (by decide) (hts _ lk_Hunt_29) (fun _ h9 => h9) rfl hin rfl (by decide +kernel) rfl rfl (Nat.le_of_ble_eq_true rfl) d_Hunt_init_54 (fun H locs hP hD hS => ?_)
  have hP : va_P (dC, dI) vwCl [(oU, .inr (1, [.null, .ref aU, .ref aW, .ref aO, .ref aS, .ref aG, .ref aB, .int (nI 0), .int (nI 0), .int (nI 0)])), (aU, .inl (cI, 100, .inl (fun _ => nI 0))), (aW, .inl (cI, 16384, .inl (fun _ => nI 0))), (aO, .inl (cI, 16384, .inl (fun _ => nI 0))), (aS, .inl (cI, 16386, .inl (fun _ => nI 0))), (aG, .inl (cI, 16384, .inl (fun _ => nI 0))), (aB, .inl (cI, 512, .inl (fun _ => nI 0)))] H := hP
  have hD : va_D A [(oU, .inr (1, [.null, .ref aU, .ref aW, .ref aO, .ref aS, .ref aG, .ref aB, .int (nI 0), .int (nI 0), .int (nI 0)])), (aU, .inl (cI, 100, .inl (fun _ => nI 0))), (aW, .inl (cI, 16384, .inl (fun _ => nI 0))), (aO, .inl (cI, 16384, .inl (fun _ => nI 0))), (aS, .inl (cI, 16386, .inl (fun _ => nI 0))), (aG, .inl (cI, 16384, .inl (fun _ => nI 0))), (aB, .inl (cI, 512, .inl (fun _ => nI 0)))] := hD
  refine lv_aload_n hx hb d_Hunt_init_57 rfl (lv_at hl 0 rfl) ?_
  refine lv_iconst (v := (-1)) hx hb d_Hunt_init_58 (by decide +kernel) ?_
  refine va_put (D := (dC, dI)) (ci := 1) (v := .int (-1)) (ty := .int) (C := RX1) (T := TX1) (N := 10) hx hb hts in_X1 tyX1 tyX1_ok nmX1 hown hK hP hD hS 0 rfl rfl 9 (by decide) (hts _ lk_Hunt_32) (fun _ h9 => h9) rfl (by decide +kernel) rfl rfl (Nat.le_of_ble_eq_true rfl) d_Hunt_init_59 (fun H locs hP hD hS => ?_)
  have hP : va_P (dC, dI) vwCl [(oU, .inr (1, [.null, .ref aU, .ref aW, .ref aO, .ref aS, .ref aG, .ref aB, .int (nI 0), .int (nI 0), .int (-1)])), (aU, .inl (cI, 100, .inl (fun _ => nI 0))), (aW, .inl (cI, 16384, .inl (fun _ => nI 0))), (aO, .inl (cI, 16384, .inl (fun _ => nI 0))), (aS, .inl (cI, 16386, .inl (fun _ => nI 0))), (aG, .inl (cI, 16384, .inl (fun _ => nI 0))), (aB, .inl (cI, 512, .inl (fun _ => nI 0)))] H := hP
  have hD : va_D A [(oU, .inr (1, [.null, .ref aU, .ref aW, .ref aO, .ref aS, .ref aG, .ref aB, .int (nI 0), .int (nI 0), .int (-1)])), (aU, .inl (cI, 100, .inl (fun _ => nI 0))), (aW, .inl (cI, 16384, .inl (fun _ => nI 0))), (aO, .inl (cI, 16384, .inl (fun _ => nI 0))), (aS, .inl (cI, 16386, .inl (fun _ => nI 0))), (aG, .inl (cI, 16384, .inl (fun _ => nI 0))), (aB, .inl (cI, 512, .inl (fun _ => nI 0)))] := hD
  refine lv_aload_n hx hb d_Hunt_init_62 rfl (lv_at hl 0 rfl) ?_
  refine lv_aload_n hx hb d_Hunt_init_63 rfl (lv_at hl 1 rfl) ?_
  refine va_putF (D := (dC, dI)) (ci := 1) (v := .ref oN) (ty := (.object "BoundedMachines$Net")) (C := RX1) (T := TX1) (N := 10) hx hb hts in_X1 tyX1 tyX1_ok nmX1 hown hK hP hD hS 0 rfl rfl 0 (by decide) (hts _ lk_Hunt_36) (fun _ h9 => h9) rfl hin rfl (by decide +kernel) rfl rfl (Nat.le_of_ble_eq_true rfl) d_Hunt_init_64 (fun H locs hP hD hS => ?_)
  have hP : va_P (dC, dI) vwCl [(oU, .inr (1, [.ref oN, .ref aU, .ref aW, .ref aO, .ref aS, .ref aG, .ref aB, .int (nI 0), .int (nI 0), .int (-1)])), (aU, .inl (cI, 100, .inl (fun _ => nI 0))), (aW, .inl (cI, 16384, .inl (fun _ => nI 0))), (aO, .inl (cI, 16384, .inl (fun _ => nI 0))), (aS, .inl (cI, 16386, .inl (fun _ => nI 0))), (aG, .inl (cI, 16384, .inl (fun _ => nI 0))), (aB, .inl (cI, 512, .inl (fun _ => nI 0)))] H := hP
  have hD : va_D A [(oU, .inr (1, [.ref oN, .ref aU, .ref aW, .ref aO, .ref aS, .ref aG, .ref aB, .int (nI 0), .int (nI 0), .int (-1)])), (aU, .inl (cI, 100, .inl (fun _ => nI 0))), (aW, .inl (cI, 16384, .inl (fun _ => nI 0))), (aO, .inl (cI, 16384, .inl (fun _ => nI 0))), (aS, .inl (cI, 16386, .inl (fun _ => nI 0))), (aG, .inl (cI, 16384, .inl (fun _ => nI 0))), (aB, .inl (cI, 512, .inl (fun _ => nI 0)))] := hD
  have hP9 := hP.sub (ws' := [(oU, .inr (1, [.ref oN, .ref aU, .ref aW, .ref aO, .ref aS, .ref aG, .ref aB, .int (nI 0), .int (nI 0), .int (-1)])), (aU, .inl (cI, 100, .inl (fun _ => nI 0))), (aW, .inl (cI, 16384, .inl (fun z9 => nI ((fun _ => 0) z9)))), (aO, .inl (cI, 16384, .inl (fun z9 => nI ((fun _ => 0) z9)))), (aS, .inl (cI, 16386, .inl (fun z9 => nI ((fun _ => 0) z9)))), (aG, .inl (cI, 16384, .inl (fun z9 => nI ((fun _ => 0) z9)))), (aB, .inl (cI, 512, .inl (fun _ => nI 0)))]) [0, 1, 2, 3, 4, 5, 6] rfl
  have hD9 := hD.sub (ws' := [(oU, .inr (1, [.ref oN, .ref aU, .ref aW, .ref aO, .ref aS, .ref aG, .ref aB, .int (nI 0), .int (nI 0), .int (-1)])), (aU, .inl (cI, 100, .inl (fun _ => nI 0))), (aW, .inl (cI, 16384, .inl (fun z9 => nI ((fun _ => 0) z9)))), (aO, .inl (cI, 16384, .inl (fun z9 => nI ((fun _ => 0) z9)))), (aS, .inl (cI, 16386, .inl (fun z9 => nI ((fun _ => 0) z9)))), (aG, .inl (cI, 16384, .inl (fun z9 => nI ((fun _ => 0) z9)))), (aB, .inl (cI, 512, .inl (fun _ => nI 0)))]) [0, 1, 2, 3, 4, 5, 6] (by decide) rfl
  exact W.vret hx hb hr (fun t ht hW => ⟨⟨(aU, aW, aO, aS, aG, aB), rfl, trivial, by rw [ht]; exact hP9, hD9⟩, hS.F ht⟩) hS.2.2 d_Hunt_init_67

set_option maxHeartbeats 4000000 in
set_option maxRecDepth 100000 in
theorem k_Hand_init (l : Launch) (dC : Nat → ClassId) (dI : Nat → Nat → Nat) (cI cZ cJ : ClassId) (sz : Nat) (oH oN : Nat) : Met l y_Hand_init (bw y_Hand_init b_Hand_init 2 (none)) ({ frames := 1, cells := 1, slots := 100, locals := 20 }) (bx_pW dC dI cI cZ cJ [.ref oH, .ref oN] [(oH, .inr (0, [.null, .null, .int (nI 0), .int (nI 0), .int (nI 0), .int (nI 0)]))] sz) (va_Qv (fun (aY : Nat) => True) (bx_B dC dI (va_A [(oH, .inr (0, [.null, .null, .int (nI 0), .int (nI 0), .int (nI 0), .int (nI 0)]))] sz) (fun (aY : Nat) => ([(oH, .inr (0, [.ref oN, .ref aY, .int (nI 0), .int (nI 0), .int (nI 0), .int (-1)])), (aY, .inl (cI, 100, .inl (fun _ => nI 0)))] : va_W))) (va_A [(oH, .inr (0, [.null, .null, .int (nI 0), .int (nI 0), .int (nI 0), .int (nI 0)]))] sz)) 1 100 (va_A [(oH, .inr (0, [.null, .null, .int (nI 0), .int (nI 0), .int (nI 0), .int (nI 0)]))] sz) := by
  refine Met.ofW (cc := b_Hand_init) (maxL := 2) (ret := none) (by decide) rfl ?_
  intro p e s m args below meth c s₁ B hml hv
  obtain ⟨rfl, hsz, hE, hP, hD0⟩ := hv
  have hx := B.exec
  have hb := B.bytes
  have hr := B.returns
  have hts9 := atoms_spec (ws := (bw y_Hand_init b_Hand_init 2 (none))) B.pre
  have hts : ∀ w ∈ gw, w.before _ s = true := fun w h => hts9 w (List.mem_cons_of_mem _ h)
  have hown : s.vm.findClass RX0 = some m.cls := findClass_of_methodNamed B.named
  have hlocks := B.notSynchronized
  have hin : meth.name = "<init>" := (name_of_methodNamed B.named B.method).1
  subst hsz
  have hD := hD0.self (sz := s.heap.size)
  generalize hAe : va_A [(oH, .inr (0, [.null, .null, .int (nI 0), .int (nI 0), .int (nI 0), .int (nI 0)]))] s.heap.size = A at hE hD ⊢
  have hA : ∀ q : Nat, s.heap.size ≤ q → A q := fun q h => by rw [← hAe]; exact Or.inr h
  have hS : va_S A s.heap s.heap [] := va_S.rf
  have hK := hE.1
  have hN := hE.2.1
  have hP : va_P (dC, dI) vwCl [(oH, .inr (0, [.null, .null, .int (nI 0), .int (nI 0), .int (nI 0), .int (nI 0)]))] s.heap := hP
  have hl := lv_entry ([.ref oH, .ref oN]) (n := 2) (Nat.le_of_ble_eq_true rfl)
  rw [lg_entry_eq]
  generalize (lg_sl ([.ref oH, .ref oN]) ++ List.replicate (2 - (lg_sl ([.ref oH, .ref oN])).length) Slot.unset).toArray = ls at hl ⊢
  have hl : lv_has ls 2 [(0, .ref oH), (1, .ref oN)] := hl
  refine lv_aload_n hx hb d_Hand_init_0 rfl (lv_at hl 0 rfl) ?_
  refine W.objInit hx hb hown (hts _ lk_Hand_3) (hts _ mi_obj) (hts _ mc_obj) rfl (by rw [hml]; exact hl.1) rfl d_Hand_init_1 (Nat.le_of_ble_eq_true rfl) (Nat.le_of_ble_eq_true rfl) ?_
  refine W.eq (g2 := F0 m 4 ls []) rfl ?_
  refine lv_aload_n hx hb d_Hand_init_4 rfl (lv_at hl 0 rfl) ?_
  refine lv_bipush (v := nI 100) hx hb d_Hand_init_5 (by decide +kernel) ?_
  refine bx_newa hx hb rfl (hts _ m_arr_int) hE hP hD hS hA (N' := 100) rfl (by decide) (Nat.le_of_ble_eq_true rfl) (Nat.le_of_ble_eq_true rfl) d_Hand_init_7 (fun aY H hP hD hS => ?_)
  have hP : va_P (dC, dI) vwCl [(oH, .inr (0, [.null, .null, .int (nI 0), .int (nI 0), .int (nI 0), .int (nI 0)])), (aY, .inl (cI, 100, .inl (fun _ => nI 0)))] H := hP
  have hD : va_D A [(oH, .inr (0, [.null, .null, .int (nI 0), .int (nI 0), .int (nI 0), .int (nI 0)])), (aY, .inl (cI, 100, .inl (fun _ => nI 0)))] := hD
  refine va_putF (D := (dC, dI)) (ci := 0) (v := .ref aY) (ty := (.array .int)) (C := RX0) (T := TX0) (N := 6) hx hb hts in_X0 tyX0 tyX0_ok nmX0 hown hK hP hD hS 0 rfl rfl 1 (by decide) (hts _ lk_Hand_11) (fun _ h9 => h9) rfl hin rfl (by decide +kernel) rfl rfl (Nat.le_of_ble_eq_true rfl) d_Hand_init_9 (fun H locs hP hD hS => ?_)
  have hP : va_P (dC, dI) vwCl [(oH, .inr (0, [.null, .ref aY, .int (nI 0), .int (nI 0), .int (nI 0), .int (nI 0)])), (aY, .inl (cI, 100, .inl (fun _ => nI 0)))] H := hP
  have hD : va_D A [(oH, .inr (0, [.null, .ref aY, .int (nI 0), .int (nI 0), .int (nI 0), .int (nI 0)])), (aY, .inl (cI, 100, .inl (fun _ => nI 0)))] := hD
  refine lv_aload_n hx hb d_Hand_init_12 rfl (lv_at hl 0 rfl) ?_
  refine lv_iconst (v := (-1)) hx hb d_Hand_init_13 (by decide +kernel) ?_
  refine va_put (D := (dC, dI)) (ci := 0) (v := .int (-1)) (ty := .int) (C := RX0) (T := TX0) (N := 6) hx hb hts in_X0 tyX0 tyX0_ok nmX0 hown hK hP hD hS 0 rfl rfl 5 (by decide) (hts _ lk_Hand_17) (fun _ h9 => h9) rfl (by decide +kernel) rfl rfl (Nat.le_of_ble_eq_true rfl) d_Hand_init_14 (fun H locs hP hD hS => ?_)
  have hP : va_P (dC, dI) vwCl [(oH, .inr (0, [.null, .ref aY, .int (nI 0), .int (nI 0), .int (nI 0), .int (-1)])), (aY, .inl (cI, 100, .inl (fun _ => nI 0)))] H := hP
  have hD : va_D A [(oH, .inr (0, [.null, .ref aY, .int (nI 0), .int (nI 0), .int (nI 0), .int (-1)])), (aY, .inl (cI, 100, .inl (fun _ => nI 0)))] := hD
  refine lv_aload_n hx hb d_Hand_init_17 rfl (lv_at hl 0 rfl) ?_
  refine lv_aload_n hx hb d_Hand_init_18 rfl (lv_at hl 1 rfl) ?_
  refine va_putF (D := (dC, dI)) (ci := 0) (v := .ref oN) (ty := (.object "BoundedMachines$Net")) (C := RX0) (T := TX0) (N := 6) hx hb hts in_X0 tyX0 tyX0_ok nmX0 hown hK hP hD hS 0 rfl rfl 0 (by decide) (hts _ lk_Hand_21) (fun _ h9 => h9) rfl hin rfl (by decide +kernel) rfl rfl (Nat.le_of_ble_eq_true rfl) d_Hand_init_19 (fun H locs hP hD hS => ?_)
  have hP : va_P (dC, dI) vwCl [(oH, .inr (0, [.ref oN, .ref aY, .int (nI 0), .int (nI 0), .int (nI 0), .int (-1)])), (aY, .inl (cI, 100, .inl (fun _ => nI 0)))] H := hP
  have hD : va_D A [(oH, .inr (0, [.ref oN, .ref aY, .int (nI 0), .int (nI 0), .int (nI 0), .int (-1)])), (aY, .inl (cI, 100, .inl (fun _ => nI 0)))] := hD
  have hP9 := hP.sub (ws' := [(oH, .inr (0, [.ref oN, .ref aY, .int (nI 0), .int (nI 0), .int (nI 0), .int (-1)])), (aY, .inl (cI, 100, .inl (fun _ => nI 0)))]) [0, 1] rfl
  have hD9 := hD.sub (ws' := [(oH, .inr (0, [.ref oN, .ref aY, .int (nI 0), .int (nI 0), .int (nI 0), .int (-1)])), (aY, .inl (cI, 100, .inl (fun _ => nI 0)))]) [0, 1] (by decide) rfl
  exact W.vret hx hb hr (fun t ht hW => ⟨⟨aY, rfl, trivial, by rw [ht]; exact hP9, hD9⟩, hS.F ht⟩) hS.2.2 d_Hand_init_22
