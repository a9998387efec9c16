set_option maxHeartbeats 4000000 in
set_option maxRecDepth 100000 in
theorem k_Hunt_forget (l : Launch) (dC : Nat → ClassId) (dI : Nat → Nat → Nat) (cI cZ cJ : ClassId) (sz : Nat) (oN : Nat) (oU aU aW aO aS aG aB L LS LK : Nat) (lu : Nat → Int32) (rw og st pg : Nat → Nat) (kn : Nat → Int32) (rc cl : Nat) (pL : Int32) : Met l y_Hunt_forget (bw y_Hunt_forget b_Hunt_forget 1 (none)) ({ frames := 0, cells := 0, slots := 0, locals := 0 }) (bx_pW dC dI cI cZ cJ [.ref oU] [(oU, .inr (1, [.ref oN, .ref aU, .ref aW, .ref aO, .ref aS, .ref aG, .ref aB, .int (nI rc), .int (nI cl), .int pL])), (aU, .inl (cI, 100, .inl lu)), (aW, .inl (cI, L, .inl (fun z9 => nI (rw z9)))), (aO, .inl (cI, L, .inl (fun z9 => nI (og z9)))), (aS, .inl (cI, LS, .inl (fun z9 => nI (st z9)))), (aG, .inl (cI, L, .inl (fun z9 => nI (pg z9)))), (aB, .inl (cI, LK, .inl kn))] sz) (va_Qv (fun (_ : Unit) => True) (bx_B dC dI (va_A [(oU, .inr (1, [.ref oN, .ref aU, .ref aW, .ref aO, .ref aS, .ref aG, .ref aB, .int (nI rc), .int (nI cl), .int pL])), (aU, .inl (cI, 100, .inl lu)), (aW, .inl (cI, L, .inl (fun z9 => nI (rw z9)))), (aO, .inl (cI, L, .inl (fun z9 => nI (og z9)))), (aS, .inl (cI, LS, .inl (fun z9 => nI (st z9)))), (aG, .inl (cI, L, .inl (fun z9 => nI (pg z9)))), (aB, .inl (cI, LK, .inl kn))] sz) (fun (_ : Unit) => ([(oU, .inr (1, [.ref oN, .ref aU, .ref aW, .ref aO, .ref aS, .ref aG, .ref aB, .int (nI 0), .int (nI 0), .int (-1)])), (aU, .inl (cI, 100, .inl lu)), (aW, .inl (cI, L, .inl (fun z9 => nI (rw z9)))), (aO, .inl (cI, L, .inl (fun z9 => nI (og z9)))), (aS, .inl (cI, LS, .inl (fun z9 => nI (st z9)))), (aG, .inl (cI, L, .inl (fun z9 => nI (pg z9)))), (aB, .inl (cI, LK, .inl kn))] : va_W))) (va_A [(oU, .inr (1, [.ref oN, .ref aU, .ref aW, .ref aO, .ref aS, .ref aG, .ref aB, .int (nI rc), .int (nI cl), .int pL])), (aU, .inl (cI, 100, .inl lu)), (aW, .inl (cI, L, .inl (fun z9 => nI (rw z9)))), (aO, .inl (cI, L, .inl (fun z9 => nI (og z9)))), (aS, .inl (cI, LS, .inl (fun z9 => nI (st z9)))), (aG, .inl (cI, L, .inl (fun z9 => nI (pg z9)))), (aB, .inl (cI, LK, .inl kn))] sz)) 0 0 (va_A [(oU, .inr (1, [.ref oN, .ref aU, .ref aW, .ref aO, .ref aS, .ref aG, .ref aB, .int (nI rc), .int (nI cl), .int pL])), (aU, .inl (cI, 100, .inl lu)), (aW, .inl (cI, L, .inl (fun z9 => nI (rw z9)))), (aO, .inl (cI, L, .inl (fun z9 => nI (og z9)))), (aS, .inl (cI, LS, .inl (fun z9 => nI (st z9)))), (aG, .inl (cI, L, .inl (fun z9 => nI (pg z9)))), (aB, .inl (cI, LK, .inl kn))] sz) := by
  refine Met.ofW (cc := b_Hunt_forget) (maxL := 1) (ret := none) (by decide) rfl ?_
  intro p e s m args below meth c s₁ B hml hv
  obtain ⟨rfl, hsz, hE, hP, hD0⟩ := hv
  have hx := B.exec
  have hb := B.bytes
  have hr := B.returns
  have hts9 := atoms_spec (ws := (bw y_Hunt_forget b_Hunt_forget 1 (none))) B.pre
  have hts : ∀ w ∈ gw, w.before _ s = true := fun w h => hts9 w (List.mem_cons_of_mem _ h)
  have hown : s.vm.findClass RX1 = some m.cls := findClass_of_methodNamed B.named
  have hlocks := B.notSynchronized
  subst hsz
  have hD := hD0.self (sz := s.heap.size)
  generalize hAe : va_A [(oU, .inr (1, [.ref oN, .ref aU, .ref aW, .ref aO, .ref aS, .ref aG, .ref aB, .int (nI rc), .int (nI cl), .int pL])), (aU, .inl (cI, 100, .inl lu)), (aW, .inl (cI, L, .inl (fun z9 => nI (rw z9)))), (aO, .inl (cI, L, .inl (fun z9 => nI (og z9)))), (aS, .inl (cI, LS, .inl (fun z9 => nI (st z9)))), (aG, .inl (cI, L, .inl (fun z9 => nI (pg z9)))), (aB, .inl (cI, LK, .inl kn))] s.heap.size = A at hE hD ⊢
  have hA : ∀ q : Nat, s.heap.size ≤ q → A q := fun q h => by rw [← hAe]; exact Or.inr h
  have hS : va_S A s.heap s.heap [] := va_S.rf
  have hK := hE.1
  have hN := hE.2.1
  have hP : va_P (dC, dI) vwCl [(oU, .inr (1, [.ref oN, .ref aU, .ref aW, .ref aO, .ref aS, .ref aG, .ref aB, .int (nI rc), .int (nI cl), .int pL])), (aU, .inl (cI, 100, .inl lu)), (aW, .inl (cI, L, .inl (fun z9 => nI (rw z9)))), (aO, .inl (cI, L, .inl (fun z9 => nI (og z9)))), (aS, .inl (cI, LS, .inl (fun z9 => nI (st z9)))), (aG, .inl (cI, L, .inl (fun z9 => nI (pg z9)))), (aB, .inl (cI, LK, .inl kn))] s.heap := hP
  have hl := lv_entry ([.ref oU]) (n := 1) (Nat.le_of_ble_eq_true rfl)
  rw [lg_entry_eq]
  generalize (lg_sl ([.ref oU]) ++ List.replicate (1 - (lg_sl ([.ref oU])).length) Slot.unset).toArray = ls at hl ⊢
  have hl : lv_has ls 1 [(0, .ref oU)] := hl
  refine lv_aload_n hx hb d_Hunt_forget_0 rfl (lv_at hl 0 rfl) ?_
  refine lv_iconst (v := nI 0) hx hb d_Hunt_forget_1 (by decide +kernel) ?_
  refine va_put (D := (dC, dI)) (ci := 1) (v := .int (nI 0)) (ty := .int) (C := RX1) (T := TX1) (N := 10) hx hb hts in_X1 tyX1 tyX1_ok nmX1 hown hK hP hD hS 0 rfl rfl 7 (by decide) (hts _ lk_Hunt_40) (fun _ h9 => h9) rfl (by decide +kernel) rfl rfl (Nat.le_of_ble_eq_true rfl) d_Hunt_forget_2 (fun H locs hP hD hS => ?_)
  have hP : va_P (dC, dI) vwCl [(oU, .inr (1, [.ref oN, .ref aU, .ref aW, .ref aO, .ref aS, .ref aG, .ref aB, .int (nI 0), .int (nI cl), .int pL])), (aU, .inl (cI, 100, .inl lu)), (aW, .inl (cI, L, .inl (fun z9 => nI (rw z9)))), (aO, .inl (cI, L, .inl (fun z9 => nI (og z9)))), (aS, .inl (cI, LS, .inl (fun z9 => nI (st z9)))), (aG, .inl (cI, L, .inl (fun z9 => nI (pg z9)))), (aB, .inl (cI, LK, .inl kn))] H := hP
  have hD : va_D A [(oU, .inr (1, [.ref oN, .ref aU, .ref aW, .ref aO, .ref aS, .ref aG, .ref aB, .int (nI 0), .int (nI cl), .int pL])), (aU, .inl (cI, 100, .inl lu)), (aW, .inl (cI, L, .inl (fun z9 => nI (rw z9)))), (aO, .inl (cI, L, .inl (fun z9 => nI (og z9)))), (aS, .inl (cI, LS, .inl (fun z9 => nI (st z9)))), (aG, .inl (cI, L, .inl (fun z9 => nI (pg z9)))), (aB, .inl (cI, LK, .inl kn))] := hD
  refine lv_aload_n hx hb d_Hunt_forget_5 rfl (lv_at hl 0 rfl) ?_
  refine lv_iconst (v := nI 0) hx hb d_Hunt_forget_6 (by decide +kernel) ?_
  refine va_put (D := (dC, dI)) (ci := 1) (v := .int (nI 0)) (ty := .int) (C := RX1) (T := TX1) (N := 10) hx hb hts in_X1 tyX1 tyX1_ok nmX1 hown hK hP hD hS 0 rfl rfl 8 (by decide) (hts _ lk_Hunt_43) (fun _ h9 => h9) rfl (by decide +kernel) rfl rfl (Nat.le_of_ble_eq_true rfl) d_Hunt_forget_7 (fun H locs hP hD hS => ?_)
  have hP : va_P (dC, dI) vwCl [(oU, .inr (1, [.ref oN, .ref aU, .ref aW, .ref aO, .ref aS, .ref aG, .ref aB, .int (nI 0), .int (nI 0), .int pL])), (aU, .inl (cI, 100, .inl lu)), (aW, .inl (cI, L, .inl (fun z9 => nI (rw z9)))), (aO, .inl (cI, L, .inl (fun z9 => nI (og z9)))), (aS, .inl (cI, LS, .inl (fun z9 => nI (st z9)))), (aG, .inl (cI, L, .inl (fun z9 => nI (pg z9)))), (aB, .inl (cI, LK, .inl kn))] H := hP
  have hD : va_D A [(oU, .inr (1, [.ref oN, .ref aU, .ref aW, .ref aO, .ref aS, .ref aG, .ref aB, .int (nI 0), .int (nI 0), .int pL])), (aU, .inl (cI, 100, .inl lu)), (aW, .inl (cI, L, .inl (fun z9 => nI (rw z9)))), (aO, .inl (cI, L, .inl (fun z9 => nI (og z9)))), (aS, .inl (cI, LS, .inl (fun z9 => nI (st z9)))), (aG, .inl (cI, L, .inl (fun z9 => nI (pg z9)))), (aB, .inl (cI, LK, .inl kn))] := hD
  refine lv_aload_n hx hb d_Hunt_forget_10 rfl (lv_at hl 0 rfl) ?_
  refine lv_iconst (v := (-1)) hx hb d_Hunt_forget_11 (by decide +kernel) ?_
  refine va_put (D := (dC, dI)) (ci := 1) (v := .int (-1)) (ty := .int) (C := RX1) (T := TX1) (N := 10) hx hb hts in_X1 tyX1 tyX1_ok nmX1 hown hK hP hD hS 0 rfl rfl 9 (by decide) (hts _ lk_Hunt_32) (fun _ h9 => h9) rfl (by decide +kernel) rfl rfl (Nat.le_of_ble_eq_true rfl) d_Hunt_forget_12 (fun H locs hP hD hS => ?_)
  have hP : va_P (dC, dI) vwCl [(oU, .inr (1, [.ref oN, .ref aU, .ref aW, .ref aO, .ref aS, .ref aG, .ref aB, .int (nI 0), .int (nI 0), .int (-1)])), (aU, .inl (cI, 100, .inl lu)), (aW, .inl (cI, L, .inl (fun z9 => nI (rw z9)))), (aO, .inl (cI, L, .inl (fun z9 => nI (og z9)))), (aS, .inl (cI, LS, .inl (fun z9 => nI (st z9)))), (aG, .inl (cI, L, .inl (fun z9 => nI (pg z9)))), (aB, .inl (cI, LK, .inl kn))] H := hP
  have hD : va_D A [(oU, .inr (1, [.ref oN, .ref aU, .ref aW, .ref aO, .ref aS, .ref aG, .ref aB, .int (nI 0), .int (nI 0), .int (-1)])), (aU, .inl (cI, 100, .inl lu)), (aW, .inl (cI, L, .inl (fun z9 => nI (rw z9)))), (aO, .inl (cI, L, .inl (fun z9 => nI (og z9)))), (aS, .inl (cI, LS, .inl (fun z9 => nI (st z9)))), (aG, .inl (cI, L, .inl (fun z9 => nI (pg z9)))), (aB, .inl (cI, LK, .inl kn))] := hD
  have hP9 := hP
  have hD9 := hD
  exact W.vret hx hb hr (fun t ht hW => ⟨⟨(), rfl, trivial, by rw [ht]; exact hP9, hD9⟩, hS.F ht⟩) hS.2.2 d_Hunt_forget_15

set_option maxHeartbeats 4000000 in
set_option maxRecDepth 100000 in
theorem k_Hunt_programWord (l : Launch) (dC : Nat → ClassId) (dI : Nat → Nat → Nat) (cI cZ cJ : ClassId) (oN : Nat) (oU aU aW aO aS aG aB L LS LK : Nat) (lu : Nat → Int32) (rw og st pg : Nat → Nat) (kn : Nat → Int32) (rc cl : Nat) (pL : Int32) (k : Nat) (h9 : k < L) (h8 : L < 2147483648) : Met l y_Hunt_programWord (bw y_Hunt_programWord b_Hunt_programWord 2 (some .int)) ({ frames := 0, cells := 0, slots := 0, locals := 0 }) (bx_pR dC dI cI cZ cJ [.ref oU, .int (nI k)] [(oU, .inr (1, [.ref oN, .ref aU, .ref aW, .ref aO, .ref aS, .ref aG, .ref aB, .int (nI rc), .int (nI cl), .int pL])), (aU, .inl (cI, 100, .inl lu)), (aW, .inl (cI, L, .inl (fun z9 => nI (rw z9)))), (aO, .inl (cI, L, .inl (fun z9 => nI (og z9)))), (aS, .inl (cI, LS, .inl (fun z9 => nI (st z9)))), (aG, .inl (cI, L, .inl (fun z9 => nI (pg z9)))), (aB, .inl (cI, LK, .inl kn))]) (bx_qR (fun r => r = nI (pg k))) 0 0 (fun _ => False) := by
  refine Met.ofW (cc := b_Hunt_programWord) (maxL := 2) (ret := some .int) (by decide) rfl ?_
  intro p e s m args below meth c s₁ B hml hv
  obtain ⟨rfl, hE, hP⟩ := hv
  have hx := B.exec
  have hb := B.bytes
  have hr := B.returns
  have hts9 := atoms_spec (ws := (bw y_Hunt_programWord b_Hunt_programWord 2 (some .int))) B.pre
  have hts : ∀ w ∈ gw, w.before _ s = true := fun w h => hts9 w (List.mem_cons_of_mem _ h)
  have hown : s.vm.findClass RX1 = some m.cls := findClass_of_methodNamed B.named
  have hlocks := B.notSynchronized
  have hK := hE.1
  have hN := hE.2.1
  have hS : va_S (fun _ => False) s.heap s.heap [] := va_S.rf
  have hP : va_P (dC, dI) vwCl [(oU, .inr (1, [.ref oN, .ref aU, .ref aW, .ref aO, .ref aS, .ref aG, .ref aB, .int (nI rc), .int (nI cl), .int pL])), (aU, .inl (cI, 100, .inl lu)), (aW, .inl (cI, L, .inl (fun z9 => nI (rw z9)))), (aO, .inl (cI, L, .inl (fun z9 => nI (og z9)))), (aS, .inl (cI, LS, .inl (fun z9 => nI (st z9)))), (aG, .inl (cI, L, .inl (fun z9 => nI (pg z9)))), (aB, .inl (cI, LK, .inl kn))] s.heap := hP
  have hl := lv_entry ([.ref oU, .int (nI k)]) (n := 2) (Nat.le_of_ble_eq_true rfl)
  rw [lg_entry_eq]
  generalize (lg_sl ([.ref oU, .int (nI k)]) ++ List.replicate (2 - (lg_sl ([.ref oU, .int (nI k)])).length) Slot.unset).toArray = ls at hl ⊢
  have hl : lv_has ls 2 [(0, .ref oU), (1, .int (nI k))] := hl
  refine lv_aload_n hx hb d_Hunt_programWord_0 rfl (lv_at hl 0 rfl) ?_
  refine va_get (D := (dC, dI)) (ci := 1) (v := .ref aG) (C := RX1) (T := TX1) (N := 10) hx hb hts in_X1 hown hK hP 0 rfl rfl 5 (by decide) (hts _ lk_Hunt_26) (fun _ h9 => h9) rfl d_Hunt_programWord_1 ?_
  refine lv_iload_n hx hb d_Hunt_programWord_4 rfl (lv_at hl 1 rfl) ?_
  refine bx_iald hx hb hK hP 5 0 rfl rfl (k := k) rfl h9 h8 d_Hunt_programWord_5 ?_
  exact W.iret (v := nI (pg k)) hx hb hr (fun t ht hW => ⟨nI (pg k), rfl, rfl, ht⟩) (fun q h => by cases h) d_Hunt_programWord_6

set_option maxHeartbeats 4000000 in
set_option maxRecDepth 100000 in
theorem k_Hunt_rowsOfLevel (l : Launch) (dC : Nat → ClassId) (dI : Nat → Nat → Nat) (cI cZ cJ : ClassId) (oN : Nat) (oU aU aW aO aS aG aB L LS LK : Nat) (lu : Nat → Int32) (rw og st pg : Nat → Nat) (kn : Nat → Int32) (rc cl : Nat) (pL : Int32) (k : Nat) (hrc : rc < 2 ^ 31) (h9 : rc ≠ 0 → k + 1 < LS ∧ st k ≤ st (k + 1)) (h8 : LS < 2147483648) : Met l y_Hunt_rowsOfLevel (bw y_Hunt_rowsOfLevel b_Hunt_rowsOfLevel 2 (some .int)) ({ frames := 0, cells := 0, slots := 0, locals := 0 }) (bx_pR dC dI cI cZ cJ [.ref oU, .int (nI k)] [(oU, .inr (1, [.ref oN, .ref aU, .ref aW, .ref aO, .ref aS, .ref aG, .ref aB, .int (nI rc), .int (nI cl), .int pL])), (aU, .inl (cI, 100, .inl lu)), (aW, .inl (cI, L, .inl (fun z9 => nI (rw z9)))), (aO, .inl (cI, L, .inl (fun z9 => nI (og z9)))), (aS, .inl (cI, LS, .inl (fun z9 => nI (st z9)))), (aG, .inl (cI, L, .inl (fun z9 => nI (pg z9)))), (aB, .inl (cI, LK, .inl kn))]) (bx_qR (fun r => r = nI (if rc = 0 then 0 else st (k + 1) - st k))) 0 0 (fun _ => False) := by
  refine Met.ofW (cc := b_Hunt_rowsOfLevel) (maxL := 2) (ret := some .int) (by decide) rfl ?_
  intro p e s m args below meth c s₁ B hml hv
  obtain ⟨rfl, hE, hP⟩ := hv
  have hx := B.exec
  have hb := B.bytes
  have hr := B.returns
  have hts9 := atoms_spec (ws := (bw y_Hunt_rowsOfLevel b_Hunt_rowsOfLevel 2 (some .int))) B.pre
  have hts : ∀ w ∈ gw, w.before _ s = true := fun w h => hts9 w (List.mem_cons_of_mem _ h)
  have hown : s.vm.findClass RX1 = some m.cls := findClass_of_methodNamed B.named
  have hlocks := B.notSynchronized
  have hK := hE.1
  have hN := hE.2.1
  have hS : va_S (fun _ => False) s.heap s.heap [] := va_S.rf
  have hP : va_P (dC, dI) vwCl [(oU, .inr (1, [.ref oN, .ref aU, .ref aW, .ref aO, .ref aS, .ref aG, .ref aB, .int (nI rc), .int (nI cl), .int pL])), (aU, .inl (cI, 100, .inl lu)), (aW, .inl (cI, L, .inl (fun z9 => nI (rw z9)))), (aO, .inl (cI, L, .inl (fun z9 => nI (og z9)))), (aS, .inl (cI, LS, .inl (fun z9 => nI (st z9)))), (aG, .inl (cI, L, .inl (fun z9 => nI (pg z9)))), (aB, .inl (cI, LK, .inl kn))] s.heap := hP
  have hl := lv_entry ([.ref oU, .int (nI k)]) (n := 2) (Nat.le_of_ble_eq_true rfl)
  rw [lg_entry_eq]
  generalize (lg_sl ([.ref oU, .int (nI k)]) ++ List.replicate (2 - (lg_sl ([.ref oU, .int (nI k)])).length) Slot.unset).toArray = ls at hl ⊢
  have hl : lv_has ls 2 [(0, .ref oU), (1, .int (nI k))] := hl
  refine lv_aload_n hx hb d_Hunt_rowsOfLevel_0 rfl (lv_at hl 0 rfl) ?_
  refine va_get (D := (dC, dI)) (ci := 1) (v := .int (nI rc)) (C := RX1) (T := TX1) (N := 10) hx hb hts in_X1 hown hK hP 0 rfl rfl 7 (by decide) (hts _ lk_Hunt_40) (fun _ h9 => h9) rfl d_Hunt_rowsOfLevel_1 ?_
  refine lv_if_ne (tgt := 11) hx hb d_Hunt_rowsOfLevel_4 (by decide) (fun c_1 => ?_) (fun c_1 => ?_)
  · have h0 : rc ≠ 0 := fun h => c_1 (by rw [h]; rfl)
    obtain ⟨g1, g2⟩ := h9 h0
    refine lv_aload_n hx hb d_Hunt_rowsOfLevel_11 rfl (lv_at hl 0 rfl) ?_
    refine va_get (D := (dC, dI)) (ci := 1) (v := .ref aS) (C := RX1) (T := TX1) (N := 10) hx hb hts in_X1 hown hK hP 0 rfl rfl 4 (by decide) (hts _ lk_Hunt_23) (fun _ h9 => h9) rfl d_Hunt_rowsOfLevel_12 ?_
    refine lv_iload_n hx hb d_Hunt_rowsOfLevel_15 rfl (lv_at hl 1 rfl) ?_
    refine lv_iconst (v := nI 1) hx hb d_Hunt_rowsOfLevel_16 (by decide +kernel) ?_
    refine lv_iadd hx hb d_Hunt_rowsOfLevel_17 ?_
    refine bx_top (y := nI (k + 1)) (nI_1 k) ?_
    refine bx_iald hx hb hK hP 4 0 rfl rfl (k := (k + 1)) rfl g1 h8 d_Hunt_rowsOfLevel_18 ?_
    refine lv_aload_n hx hb d_Hunt_rowsOfLevel_19 rfl (lv_at hl 0 rfl) ?_
    refine va_get (D := (dC, dI)) (ci := 1) (v := .ref aS) (C := RX1) (T := TX1) (N := 10) hx hb hts in_X1 hown hK hP 0 rfl rfl 4 (by decide) (hts _ lk_Hunt_23) (fun _ h9 => h9) rfl d_Hunt_rowsOfLevel_20 ?_
    refine lv_iload_n hx hb d_Hunt_rowsOfLevel_23 rfl (lv_at hl 1 rfl) ?_
    refine bx_iald hx hb hK hP 4 0 rfl rfl (k := k) rfl (by omega) h8 d_Hunt_rowsOfLevel_24 ?_
    refine lv_isub hx hb d_Hunt_rowsOfLevel_25 ?_
    refine bx_top (y := nI (st (k + 1) - st k)) (pk_sub g2) ?_
    exact W.iret (v := nI (st (k + 1) - st k)) hx hb hr (fun t ht hW => ⟨nI (st (k + 1) - st k), rfl, by rw [if_neg h0], ht⟩) (fun q h => by cases h) d_Hunt_rowsOfLevel_26
  · refine lv_iconst (v := nI 0) hx hb d_Hunt_rowsOfLevel_7 (by decide +kernel) ?_
    refine lv_goto (tgt := 26) hx hb d_Hunt_rowsOfLevel_8 (by decide) ?_
    exact W.iret (v := nI 0) hx hb hr (fun t ht hW => ⟨nI 0, rfl, by rw [if_pos ((nI_eq hrc (by decide)).mp (c_1))], ht⟩) (fun q h => by cases h) d_Hunt_rowsOfLevel_26

set_option maxHeartbeats 4000000 in
set_option maxRecDepth 100000 in
theorem k_Hunt_hasOpenLevel (l : Launch) (dC : Nat → ClassId) (dI : Nat → Nat → Nat) (cI cZ cJ : ClassId) (oN : Nat) (oU aU aW aO aS aG aB L LS LK : Nat) (lu : Nat → Int32) (rw og st pg : Nat → Nat) (kn : Nat → Int32) (rc cl : Nat) (pL : Int32) (hrc : rc < 2 ^ 31) (h9 : rc ≠ 0 → cl + 1 < LS ∧ st cl ≤ st (cl + 1)) (h8 : LS < 2147483648) (h7 : (if rc = 0 then 0 else st (cl + 1) - st cl) < 2 ^ 31) : Met l y_Hunt_hasOpenLevel (bw y_Hunt_hasOpenLevel b_Hunt_hasOpenLevel 1 (some .boolean)) ({ frames := 1, cells := 0, slots := 0, locals := 21 }) (bx_pR dC dI cI cZ cJ [.ref oU] [(oU, .inr (1, [.ref oN, .ref aU, .ref aW, .ref aO, .ref aS, .ref aG, .ref aB, .int (nI rc), .int (nI cl), .int pL])), (aU, .inl (cI, 100, .inl lu)), (aW, .inl (cI, L, .inl (fun z9 => nI (rw z9)))), (aO, .inl (cI, L, .inl (fun z9 => nI (og z9)))), (aS, .inl (cI, LS, .inl (fun z9 => nI (st z9)))), (aG, .inl (cI, L, .inl (fun z9 => nI (pg z9)))), (aB, .inl (cI, LK, .inl kn))]) (bx_qR (fun r => r = bz (decide (0 < (if rc = 0 then 0 else st (cl + 1) - st cl))))) 0 0 (fun _ => False) := by
  refine Met.ofW (cc := b_Hunt_hasOpenLevel) (maxL := 1) (ret := some .boolean) (by decide) rfl ?_
  intro p e s m args below meth c s₁ B hml hv
  obtain ⟨rfl, hE, hP⟩ := hv
  have hx := B.exec
  have hb := B.bytes
  have hr := B.returns
  have hts9 := atoms_spec (ws := (bw y_Hunt_hasOpenLevel b_Hunt_hasOpenLevel 1 (some .boolean))) B.pre
  have hts : ∀ w ∈ gw, w.before _ s = true := fun w h => hts9 w (List.mem_cons_of_mem _ h)
  have hown : s.vm.findClass RX1 = some m.cls := findClass_of_methodNamed B.named
  have hlocks := B.notSynchronized
  have hK := hE.1
  have hN := hE.2.1
  have hS : va_S (fun _ => False) s.heap s.heap [] := va_S.rf
  have hP : va_P (dC, dI) vwCl [(oU, .inr (1, [.ref oN, .ref aU, .ref aW, .ref aO, .ref aS, .ref aG, .ref aB, .int (nI rc), .int (nI cl), .int pL])), (aU, .inl (cI, 100, .inl lu)), (aW, .inl (cI, L, .inl (fun z9 => nI (rw z9)))), (aO, .inl (cI, L, .inl (fun z9 => nI (og z9)))), (aS, .inl (cI, LS, .inl (fun z9 => nI (st z9)))), (aG, .inl (cI, L, .inl (fun z9 => nI (pg z9)))), (aB, .inl (cI, LK, .inl kn))] s.heap := hP
  have hl := lv_entry ([.ref oU]) (n := 1) (Nat.le_of_ble_eq_true rfl)
  rw [lg_entry_eq]
  generalize (lg_sl ([.ref oU]) ++ List.replicate (1 - (lg_sl ([.ref oU])).length) Slot.unset).toArray = ls at hl ⊢
  have hl : lv_has ls 1 [(0, .ref oU)] := hl
  refine lv_aload_n hx hb d_Hunt_hasOpenLevel_0 rfl (lv_at hl 0 rfl) ?_
  refine lv_aload_n hx hb d_Hunt_hasOpenLevel_1 rfl (lv_at hl 0 rfl) ?_
  refine va_get (D := (dC, dI)) (ci := 1) (v := .int (nI cl)) (C := RX1) (T := TX1) (N := 10) hx hb hts in_X1 hown hK hP 0 rfl rfl 8 (by decide) (hts _ lk_Hunt_43) (fun _ h9 => h9) rfl d_Hunt_hasOpenLevel_2 ?_
  have hPc := hP.sub (ws' := [(oU, .inr (1, [.ref oN, .ref aU, .ref aW, .ref aO, .ref aS, .ref aG, .ref aB, .int (nI rc), .int (nI cl), .int pL])), (aU, .inl (cI, 100, .inl lu)), (aW, .inl (cI, L, .inl (fun z9 => nI (rw z9)))), (aO, .inl (cI, L, .inl (fun z9 => nI (og z9)))), (aS, .inl (cI, LS, .inl (fun z9 => nI (st z9)))), (aG, .inl (cI, L, .inl (fun z9 => nI (pg z9)))), (aB, .inl (cI, LK, .inl kn))]) [0, 1, 2, 3, 4, 5, 6] rfl
  refine bx_callR (va_runV (As := [.int (nI cl)]) (rest := []) ⟨hx, hb, hml, hown, hts⟩ (k_Hunt_rowsOfLevel l dC dI cI cZ cJ oN oU aU aW aO aS aG aB L LS LK lu rw og st pg kn rc cl pL cl hrc h9 h8) (bx_cV (n := 1) hts mc_Hunt_rowsOfLevel lk_Hunt_69 mi_Hunt_rowsOfLevel ms_Hunt_rowsOfLevel ini_Hunt (by decide +kernel) ⟨Nat.le_of_ble_eq_true rfl, Nat.le_of_ble_eq_true rfl⟩) (bx_prV hE hS hPc (ci := 1) (q0 := 0) rfl rfl) rfl rfl hl.1 rfl (lv_room (Nat.le_of_ble_eq_true rfl)) d_Hunt_hasOpenLevel_5 ⟨Nat.zero_le _, Nat.zero_le _⟩) (fun r_1 hw_r_1 => ?_)
  refine bx_top (y := nI (if rc = 0 then 0 else st (cl + 1) - st cl)) hw_r_1 ?_
  refine lv_if_le (tgt := 15) hx hb d_Hunt_hasOpenLevel_8 (by decide) (fun c_1 => ?_) (fun c_1 => ?_)
  · refine lv_iconst (v := nI 0) hx hb d_Hunt_hasOpenLevel_15 (by decide +kernel) ?_
    exact W.zret (v := nI 0) hx hb hr rfl (fun t ht hW => ⟨nI 0, rfl, bz_eq0 (decide_eq_false (by have h3 : (if rc = 0 then 0 else st (cl + 1) - st cl) ≤ 0 := (nI_leI h7 (by decide)).mp (show nI (if rc = 0 then 0 else st (cl + 1) - st cl) ≤ nI 0 from c_1); omega)), ht⟩) (fun q h => by cases h) d_Hunt_hasOpenLevel_16
  · refine lv_iconst (v := nI 1) hx hb d_Hunt_hasOpenLevel_11 (by decide +kernel) ?_
    refine lv_goto (tgt := 16) hx hb d_Hunt_hasOpenLevel_12 (by decide) ?_
    exact W.zret (v := nI 1) hx hb hr rfl (fun t ht hW => ⟨nI 1, rfl, bz_eq1 (decide_eq_true (by have h3 : ¬ (if rc = 0 then 0 else st (cl + 1) - st cl) ≤ 0 := fun h => c_1 ((nI_leI h7 (show (0 : Nat) < 2 ^ 31 by decide)).mpr h); omega)), ht⟩) (fun q h => by cases h) d_Hunt_hasOpenLevel_16

set_option maxHeartbeats 4000000 in
set_option maxRecDepth 100000 in
theorem k_Hunt_keepIfNew (l : Launch) (dC : Nat → ClassId) (dI : Nat → Nat → Nat) (cI cZ cJ : ClassId) (sz : Nat) (oN : Nat) (oU aU aW aO aS aG aB L LS LK : Nat) (lu : Nat → Int32) (rw og st pg : Nat → Nat) (kn : Nat → Int32) (rc cl : Nat) (pL : Int32) (r0 p9 o9 : Nat) (hr0 : r0 < 2147483648) (hk9 : r0 / 32 < LK) (hLK : LK < 2147483648) (hL : L < 2147483648) (hpl : bn_in kn r0 = false → p9 < L) : Met l y_Hunt_keepIfNew (bw y_Hunt_keepIfNew b_Hunt_keepIfNew 5 (some .boolean)) ({ frames := 0, cells := 0, slots := 0, locals := 0 }) (bx_pW dC dI cI cZ cJ [.ref oU, .int (nI r0), .int (nI p9), .int (nI o9)] [(oU, .inr (1, [.ref oN, .ref aU, .ref aW, .ref aO, .ref aS, .ref aG, .ref aB, .int (nI rc), .int (nI cl), .int pL])), (aU, .inl (cI, 100, .inl lu)), (aW, .inl (cI, L, .inl (fun z9 => nI (rw z9)))), (aO, .inl (cI, L, .inl (fun z9 => nI (og z9)))), (aS, .inl (cI, LS, .inl (fun z9 => nI (st z9)))), (aG, .inl (cI, L, .inl (fun z9 => nI (pg z9)))), (aB, .inl (cI, LK, .inl kn))] sz) (va_Qi (fun (r : Int32) (u9 : (Nat → Int32) × (Nat → Nat) × (Nat → Nat)) => match u9 with | (kn2, rw2, og2) => r = bz (!bn_in kn r0) ∧ (kn2, rw2, og2) = if bn_in kn r0 then (kn, rw, og) else (upd kn (r0 / 32) (kn (r0 / 32) ||| nI 1 <<< (nI (r0 % 32) &&& 31)), va_up rw p9 r0, va_up og p9 o9)) (bx_B dC dI (va_A [(oU, .inr (1, [.ref oN, .ref aU, .ref aW, .ref aO, .ref aS, .ref aG, .ref aB, .int (nI rc), .int (nI cl), .int pL])), (aU, .inl (cI, 100, .inl lu)), (aW, .inl (cI, L, .inl (fun z9 => nI (rw z9)))), (aO, .inl (cI, L, .inl (fun z9 => nI (og z9)))), (aS, .inl (cI, LS, .inl (fun z9 => nI (st z9)))), (aG, .inl (cI, L, .inl (fun z9 => nI (pg z9)))), (aB, .inl (cI, LK, .inl kn))] sz) (fun (u9 : (Nat → Int32) × (Nat → Nat) × (Nat → Nat)) => match u9 with | (kn2, rw2, og2) => ([(oU, .inr (1, [.ref oN, .ref aU, .ref aW, .ref aO, .ref aS, .ref aG, .ref aB, .int (nI rc), .int (nI cl), .int pL])), (aU, .inl (cI, 100, .inl lu)), (aW, .inl (cI, L, .inl (fun z9 => nI (rw2 z9)))), (aO, .inl (cI, L, .inl (fun z9 => nI (og2 z9)))), (aS, .inl (cI, LS, .inl (fun z9 => nI (st z9)))), (aG, .inl (cI, L, .inl (fun z9 => nI (pg z9)))), (aB, .inl (cI, LK, .inl kn2))] : va_W))) (va_A [(oU, .inr (1, [.ref oN, .ref aU, .ref aW, .ref aO, .ref aS, .ref aG, .ref aB, .int (nI rc), .int (nI cl), .int pL])), (aU, .inl (cI, 100, .inl lu)), (aW, .inl (cI, L, .inl (fun z9 => nI (rw z9)))), (aO, .inl (cI, L, .inl (fun z9 => nI (og z9)))), (aS, .inl (cI, LS, .inl (fun z9 => nI (st z9)))), (aG, .inl (cI, L, .inl (fun z9 => nI (pg z9)))), (aB, .inl (cI, LK, .inl kn))] sz)) 0 0 (va_A [(oU, .inr (1, [.ref oN, .ref aU, .ref aW, .ref aO, .ref aS, .ref aG, .ref aB, .int (nI rc), .int (nI cl), .int pL])), (aU, .inl (cI, 100, .inl lu)), (aW, .inl (cI, L, .inl (fun z9 => nI (rw z9)))), (aO, .inl (cI, L, .inl (fun z9 => nI (og z9)))), (aS, .inl (cI, LS, .inl (fun z9 => nI (st z9)))), (aG, .inl (cI, L, .inl (fun z9 => nI (pg z9)))), (aB, .inl (cI, LK, .inl kn))] sz) := by
  refine Met.ofW (cc := b_Hunt_keepIfNew) (maxL := 5) (ret := some .boolean) (by decide) rfl ?_
  intro p e s m args below meth c s₁ B hml hv
  obtain ⟨rfl, hsz, hE, hP, hD0⟩ := hv
  have hx := B.exec
  have hb := B.bytes
  have hr := B.returns
  have hts9 := atoms_spec (ws := (bw y_Hunt_keepIfNew b_Hunt_keepIfNew 5 (some .boolean))) B.pre
  have hts : ∀ w ∈ gw, w.before _ s = true := fun w h => hts9 w (List.mem_cons_of_mem _ h)
  have hown : s.vm.findClass RX1 = some m.cls := findClass_of_methodNamed B.named
  have hlocks := B.notSynchronized
  subst hsz
  have hD := hD0.self (sz := s.heap.size)
  generalize hAe : va_A [(oU, .inr (1, [.ref oN, .ref aU, .ref aW, .ref aO, .ref aS, .ref aG, .ref aB, .int (nI rc), .int (nI cl), .int pL])), (aU, .inl (cI, 100, .inl lu)), (aW, .inl (cI, L, .inl (fun z9 => nI (rw z9)))), (aO, .inl (cI, L, .inl (fun z9 => nI (og z9)))), (aS, .inl (cI, LS, .inl (fun z9 => nI (st z9)))), (aG, .inl (cI, L, .inl (fun z9 => nI (pg z9)))), (aB, .inl (cI, LK, .inl kn))] s.heap.size = A at hE hD ⊢
  have hA : ∀ q : Nat, s.heap.size ≤ q → A q := fun q h => by rw [← hAe]; exact Or.inr h
  have hS : va_S A s.heap s.heap [] := va_S.rf
  have hK := hE.1
  have hN := hE.2.1
  have hP : va_P (dC, dI) vwCl [(oU, .inr (1, [.ref oN, .ref aU, .ref aW, .ref aO, .ref aS, .ref aG, .ref aB, .int (nI rc), .int (nI cl), .int pL])), (aU, .inl (cI, 100, .inl lu)), (aW, .inl (cI, L, .inl (fun z9 => nI (rw z9)))), (aO, .inl (cI, L, .inl (fun z9 => nI (og z9)))), (aS, .inl (cI, LS, .inl (fun z9 => nI (st z9)))), (aG, .inl (cI, L, .inl (fun z9 => nI (pg z9)))), (aB, .inl (cI, LK, .inl kn))] s.heap := hP
  have hl := lv_entry ([.ref oU, .int (nI r0), .int (nI p9), .int (nI o9)]) (n := 5) (Nat.le_of_ble_eq_true rfl)
  rw [lg_entry_eq]
  generalize (lg_sl ([.ref oU, .int (nI r0), .int (nI p9), .int (nI o9)]) ++ List.replicate (5 - (lg_sl ([.ref oU, .int (nI r0), .int (nI p9), .int (nI o9)])).length) Slot.unset).toArray = ls at hl ⊢
  have hl : lv_has ls 5 [(0, .ref oU), (1, .int (nI r0)), (2, .int (nI p9)), (3, .int (nI o9))] := hl
  refine lv_iconst (v := nI 1) hx hb d_Hunt_keepIfNew_0 (by decide +kernel) ?_
  refine lv_iload_n hx hb d_Hunt_keepIfNew_1 rfl (lv_at hl 1 rfl) ?_
  refine lv_bipush (v := nI 31) hx hb d_Hunt_keepIfNew_2 (by decide +kernel) ?_
  refine lv_iand hx hb d_Hunt_keepIfNew_4 ?_
  refine bx_top (y := nI (r0 % 32)) (bn_mask r0) ?_
  refine lv_ishl hx hb d_Hunt_keepIfNew_5 ?_
  refine lv_istore (lv' := [(4, .int ((nI 1) <<< ((nI (r0 % 32)) &&& 31))), (0, .ref oU), (1, .int (nI r0)), (2, .int (nI p9)), (3, .int (nI o9))]) hx hb d_Hunt_keepIfNew_6 hl (by decide) rfl (fun ls hl => ?_)
  refine lv_aload_n hx hb d_Hunt_keepIfNew_8 rfl (lv_at hl 1 rfl) ?_
  refine va_get (D := (dC, dI)) (ci := 1) (v := .ref aB) (C := RX1) (T := TX1) (N := 10) hx hb hts in_X1 hown hK hP 0 rfl rfl 6 (by decide) (hts _ lk_Hunt_29) (fun _ h9 => h9) rfl d_Hunt_keepIfNew_9 ?_
  refine lv_iload_n hx hb d_Hunt_keepIfNew_12 rfl (lv_at hl 2 rfl) ?_
  refine lv_iconst (v := nI 5) hx hb d_Hunt_keepIfNew_13 (by decide +kernel) ?_
  refine lv_ishr hx hb d_Hunt_keepIfNew_14 ?_
  refine bx_top (y := nI (r0 / 32)) (bn_shr5 hr0) ?_
  refine bx_iald hx hb hK hP 6 0 rfl rfl (k := (r0 / 32)) rfl hk9 hLK d_Hunt_keepIfNew_15 ?_
  refine lv_iload hx hb d_Hunt_keepIfNew_16 (lv_at hl 0 rfl) ?_
  refine lv_iand hx hb d_Hunt_keepIfNew_18 ?_
  refine lv_if_eq (tgt := 24) hx hb d_Hunt_keepIfNew_19 (by decide) (fun c_1 => ?_) (fun c_1 => ?_)
  · have hb9 : bn_in kn r0 = false := (bn_tst _ _ (Nat.mod_lt _ (by decide))).mp c_1
    have hp9 := hpl hb9
    refine lv_aload_n hx hb d_Hunt_keepIfNew_24 rfl (lv_at hl 1 rfl) ?_
    refine va_get (D := (dC, dI)) (ci := 1) (v := .ref aB) (C := RX1) (T := TX1) (N := 10) hx hb hts in_X1 hown hK hP 0 rfl rfl 6 (by decide) (hts _ lk_Hunt_29) (fun _ h9 => h9) rfl d_Hunt_keepIfNew_25 ?_
    refine lv_iload_n hx hb d_Hunt_keepIfNew_28 rfl (lv_at hl 2 rfl) ?_
    refine lv_iconst (v := nI 5) hx hb d_Hunt_keepIfNew_29 (by decide +kernel) ?_
    refine lv_ishr hx hb d_Hunt_keepIfNew_30 ?_
    refine bx_top (y := nI (r0 / 32)) (bn_shr5 hr0) ?_
    refine lv_dup2_11 hx hb d_Hunt_keepIfNew_31 rfl rfl ?_
    refine bx_iald hx hb hK hP 6 0 rfl rfl (k := (r0 / 32)) rfl hk9 hLK d_Hunt_keepIfNew_32 ?_
    refine lv_iload hx hb d_Hunt_keepIfNew_33 (lv_at hl 0 rfl) ?_
    refine lv_ior hx hb d_Hunt_keepIfNew_35 ?_
    refine bx_iast hx hb hK hP hD hS 6 0 rfl rfl (k := (r0 / 32)) rfl hk9 hLK (g := upd kn (r0 / 32) (kn (r0 / 32) ||| nI 1 <<< (nI (r0 % 32) &&& 31))) rfl d_Hunt_keepIfNew_36 (fun H locs hP hD hS => ?_)
    have hP : va_P (dC, dI) vwCl [(oU, .inr (1, [.ref oN, .ref aU, .ref aW, .ref aO, .ref aS, .ref aG, .ref aB, .int (nI rc), .int (nI cl), .int pL])), (aU, .inl (cI, 100, .inl lu)), (aW, .inl (cI, L, .inl (fun z9 => nI (rw z9)))), (aO, .inl (cI, L, .inl (fun z9 => nI (og z9)))), (aS, .inl (cI, LS, .inl (fun z9 => nI (st z9)))), (aG, .inl (cI, L, .inl (fun z9 => nI (pg z9)))), (aB, .inl (cI, LK, .inl (upd kn (r0 / 32) (kn (r0 / 32) ||| nI 1 <<< (nI (r0 % 32) &&& 31)))))] H := hP
    have hD : va_D A [(oU, .inr (1, [.ref oN, .ref aU, .ref aW, .ref aO, .ref aS, .ref aG, .ref aB, .int (nI rc), .int (nI cl), .int pL])), (aU, .inl (cI, 100, .inl lu)), (aW, .inl (cI, L, .inl (fun z9 => nI (rw z9)))), (aO, .inl (cI, L, .inl (fun z9 => nI (og z9)))), (aS, .inl (cI, LS, .inl (fun z9 => nI (st z9)))), (aG, .inl (cI, L, .inl (fun z9 => nI (pg z9)))), (aB, .inl (cI, LK, .inl (upd kn (r0 / 32) (kn (r0 / 32) ||| nI 1 <<< (nI (r0 % 32) &&& 31)))))] := hD
    refine lv_aload_n hx hb d_Hunt_keepIfNew_37 rfl (lv_at hl 1 rfl) ?_
    refine va_get (D := (dC, dI)) (ci := 1) (v := .ref aW) (C := RX1) (T := TX1) (N := 10) hx hb hts in_X1 hown hK hP 0 rfl rfl 2 (by decide) (hts _ lk_Hunt_17) (fun _ h9 => h9) rfl d_Hunt_keepIfNew_38 ?_
    refine lv_iload_n hx hb d_Hunt_keepIfNew_41 rfl (lv_at hl 3 rfl) ?_
    refine lv_iload_n hx hb d_Hunt_keepIfNew_42 rfl (lv_at hl 2 rfl) ?_
    refine bx_iast hx hb hK hP hD hS 2 0 rfl rfl (k := p9) rfl hp9 hL (g := fun z9 => nI ((va_up rw p9 r0) z9)) (bn_upN _ _ _) d_Hunt_keepIfNew_43 (fun H locs hP hD hS => ?_)
    have hP : va_P (dC, dI) vwCl [(oU, .inr (1, [.ref oN, .ref aU, .ref aW, .ref aO, .ref aS, .ref aG, .ref aB, .int (nI rc), .int (nI cl), .int pL])), (aU, .inl (cI, 100, .inl lu)), (aW, .inl (cI, L, .inl (fun z9 => nI ((va_up rw p9 r0) z9)))), (aO, .inl (cI, L, .inl (fun z9 => nI (og z9)))), (aS, .inl (cI, LS, .inl (fun z9 => nI (st z9)))), (aG, .inl (cI, L, .inl (fun z9 => nI (pg z9)))), (aB, .inl (cI, LK, .inl (upd kn (r0 / 32) (kn (r0 / 32) ||| nI 1 <<< (nI (r0 % 32) &&& 31)))))] H := hP
    have hD : va_D A [(oU, .inr (1, [.ref oN, .ref aU, .ref aW, .ref aO, .ref aS, .ref aG, .ref aB, .int (nI rc), .int (nI cl), .int pL])), (aU, .inl (cI, 100, .inl lu)), (aW, .inl (cI, L, .inl (fun z9 => nI ((va_up rw p9 r0) z9)))), (aO, .inl (cI, L, .inl (fun z9 => nI (og z9)))), (aS, .inl (cI, LS, .inl (fun z9 => nI (st z9)))), (aG, .inl (cI, L, .inl (fun z9 => nI (pg z9)))), (aB, .inl (cI, LK, .inl (upd kn (r0 / 32) (kn (r0 / 32) ||| nI 1 <<< (nI (r0 % 32) &&& 31)))))] := hD
    refine lv_aload_n hx hb d_Hunt_keepIfNew_44 rfl (lv_at hl 1 rfl) ?_
    refine va_get (D := (dC, dI)) (ci := 1) (v := .ref aO) (C := RX1) (T := TX1) (N := 10) hx hb hts in_X1 hown hK hP 0 rfl rfl 3 (by decide) (hts _ lk_Hunt_20) (fun _ h9 => h9) rfl d_Hunt_keepIfNew_45 ?_
    refine lv_iload_n hx hb d_Hunt_keepIfNew_48 rfl (lv_at hl 3 rfl) ?_
    refine lv_iload_n hx hb d_Hunt_keepIfNew_49 rfl (lv_at hl 4 rfl) ?_
    refine bx_iast hx hb hK hP hD hS 3 0 rfl rfl (k := p9) rfl hp9 hL (g := fun z9 => nI ((va_up og p9 o9) z9)) (bn_upN _ _ _) d_Hunt_keepIfNew_50 (fun H locs hP hD hS => ?_)
    have hP : va_P (dC, dI) vwCl [(oU, .inr (1, [.ref oN, .ref aU, .ref aW, .ref aO, .ref aS, .ref aG, .ref aB, .int (nI rc), .int (nI cl), .int pL])), (aU, .inl (cI, 100, .inl lu)), (aW, .inl (cI, L, .inl (fun z9 => nI ((va_up rw p9 r0) z9)))), (aO, .inl (cI, L, .inl (fun z9 => nI ((va_up og p9 o9) z9)))), (aS, .inl (cI, LS, .inl (fun z9 => nI (st z9)))), (aG, .inl (cI, L, .inl (fun z9 => nI (pg z9)))), (aB, .inl (cI, LK, .inl (upd kn (r0 / 32) (kn (r0 / 32) ||| nI 1 <<< (nI (r0 % 32) &&& 31)))))] H := hP
    have hD : va_D A [(oU, .inr (1, [.ref oN, .ref aU, .ref aW, .ref aO, .ref aS, .ref aG, .ref aB, .int (nI rc), .int (nI cl), .int pL])), (aU, .inl (cI, 100, .inl lu)), (aW, .inl (cI, L, .inl (fun z9 => nI ((va_up rw p9 r0) z9)))), (aO, .inl (cI, L, .inl (fun z9 => nI ((va_up og p9 o9) z9)))), (aS, .inl (cI, LS, .inl (fun z9 => nI (st z9)))), (aG, .inl (cI, L, .inl (fun z9 => nI (pg z9)))), (aB, .inl (cI, LK, .inl (upd kn (r0 / 32) (kn (r0 / 32) ||| nI 1 <<< (nI (r0 % 32) &&& 31)))))] := hD
    refine lv_iconst (v := nI 1) hx hb d_Hunt_keepIfNew_51 (by decide +kernel) ?_
    have hP9 := hP
    have hD9 := hD
    exact W.zret (v := nI 1) hx hb hr rfl (fun t ht hW => ⟨⟨nI 1, (upd kn (r0 / 32) (kn (r0 / 32) ||| nI 1 <<< (nI (r0 % 32) &&& 31)), va_up rw p9 r0, va_up og p9 o9), rfl, ⟨bz_eq1 (by rw [hb9]; rfl), by rw [hb9]; rfl⟩, by rw [ht]; exact hP9, hD9⟩, hS.F ht⟩) hS.2.2 d_Hunt_keepIfNew_52
  · have hb9 : bn_in kn r0 = true := by
      cases hq9 : bn_in kn r0 with
      | true => rfl
      | false => exact absurd ((bn_tst _ _ (Nat.mod_lt _ (by decide))).mpr hq9) c_1
    refine lv_iconst (v := nI 0) hx hb d_Hunt_keepIfNew_22 (by decide +kernel) ?_
    have hP9 := hP
    have hD9 := hD
    exact W.zret (v := nI 0) hx hb hr rfl (fun t ht hW => ⟨⟨nI 0, (kn, rw, og), rfl, ⟨bz_eq0 (by rw [hb9]; rfl), by rw [hb9]; rfl⟩, by rw [ht]; exact hP9, hD9⟩, hS.F ht⟩) hS.2.2 d_Hunt_keepIfNew_23
