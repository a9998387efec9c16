set_option maxHeartbeats 4000000 in
set_option maxRecDepth 100000 in
theorem k_Mod_thrown (l : Launch) (dC : Nat → ClassId) (dI : Nat → Nat → Nat) (cI cZ cJ : ClassId) (oM mS mO mL mR mT mN mX mF mA mB mV mW mQ mY mE mC mG mH : Nat) (wb n sc s1 np fr : Nat) (kd lf rt nx pl pr : Nat → Nat) (th : Int32) (no : Nat → Nat) (tr : Nat → Bool) (mrc mcl : Nat) (ov : Bool) (mw : Nat → Nat) (mq : Nat → Int32) (mb lb : Nat → Nat) (cm : Nat → Bool) (mg : Nat → Nat) (ps cy : Nat) (df : Int32) (hw9 : Nat) (sh : Nat → Bool) : Met l y_Mod_thrown (bw y_Mod_thrown b_Mod_thrown 1 (some .int)) ({ frames := 0, cells := 0, slots := 0, locals := 0 }) (bx_pR dC dI cI cZ cJ [.ref oM] [(oM, .inr (4, [.int th, .int (nI wb), .int (nI n), .int (nI sc), .int (nI np), .int (nI (n - wb - sc)), .ref mS, .ref mO, .ref mL, .ref mR, .ref mT, .ref mN, .ref mX, .ref mF, .ref mA, .ref mB, .ref mV, .int (nI mrc), .int (nI mcl), .int (bz ov), .ref mW, .ref mQ, .ref mY, .ref mE, .ref mC, .ref mG, .int (nI ps), .int (nI cy), .int df, .int (nI hw9), .ref mH]))]) (bx_qR (fun r => r = th)) 0 0 (fun _ => False) := by
  refine Met.ofW (cc := b_Mod_thrown) (maxL := 1) (ret := some .int) (by decide) rfl ?_
  intro p e s m args below meth c s₁ B hml hv
  obtain ⟨rfl, hE, hP⟩ := hv
  have hx := B.exec
  have hb := B.bytes
  have hr := B.returns
  have hts9 := atoms_spec (ws := (bw y_Mod_thrown b_Mod_thrown 1 (some .int))) B.pre
  have hts : ∀ w ∈ gw, w.before _ s = true := fun w h => hts9 w (List.mem_cons_of_mem _ h)
  have hown : s.vm.findClass RX4 = some m.cls := findClass_of_methodNamed B.named
  have hlocks := B.notSynchronized
  have hK := hE.1
  have hN := hE.2.1
  have hS : va_S (fun _ => False) s.heap s.heap [] := va_S.rf
  have hP : va_P (dC, dI) vwCl [(oM, .inr (4, [.int th, .int (nI wb), .int (nI n), .int (nI sc), .int (nI np), .int (nI (n - wb - sc)), .ref mS, .ref mO, .ref mL, .ref mR, .ref mT, .ref mN, .ref mX, .ref mF, .ref mA, .ref mB, .ref mV, .int (nI mrc), .int (nI mcl), .int (bz ov), .ref mW, .ref mQ, .ref mY, .ref mE, .ref mC, .ref mG, .int (nI ps), .int (nI cy), .int df, .int (nI hw9), .ref mH]))] s.heap := hP
  have hl := lv_entry ([.ref oM]) (n := 1) (Nat.le_of_ble_eq_true rfl)
  rw [lg_entry_eq]
  generalize (lg_sl ([.ref oM]) ++ List.replicate (1 - (lg_sl ([.ref oM])).length) Slot.unset).toArray = ls at hl ⊢
  have hl : lv_has ls 1 [(0, .ref oM)] := hl
  refine lv_aload_n hx hb d_Mod_thrown_0 rfl (lv_at hl 0 rfl) ?_
  refine va_get (D := (dC, dI)) (ci := 4) (v := .int th) (C := RX4) (T := TX4) (N := 31) hx hb hts in_X4 hown hK hP 0 rfl rfl 0 (by decide) (hts _ lk_Mod_78) (fun _ h9 => h9) rfl d_Mod_thrown_1 ?_
  exact W.iret (v := th) hx hb hr (fun t ht hW => ⟨th, rfl, rfl, ht⟩) (fun q h => by cases h) d_Mod_thrown_4

set_option maxHeartbeats 4000000 in
set_option maxRecDepth 100000 in
theorem k_Mod_isOf (l : Launch) (dC : Nat → ClassId) (dI : Nat → Nat → Nat) (cI cZ cJ : ClassId) (a b : Int32) : Met l y_Mod_isOf (bw y_Mod_isOf b_Mod_isOf 2 (some .boolean)) ({ frames := 0, cells := 0, slots := 0, locals := 0 }) (bx_pR dC dI cI cZ cJ [.int a, .int b] []) (bx_qR (fun r => r = bz (decide (¬ a < 0 ∧ a < b)))) 0 0 (fun _ => False) := by
  refine Met.ofW (cc := b_Mod_isOf) (maxL := 2) (ret := some .boolean) (by decide) rfl ?_
  intro p e s m args below meth c s₁ B hml hv
  obtain ⟨rfl, hE, hP⟩ := hv
  have hx := B.exec
  have hb := B.bytes
  have hr := B.returns
  have hts9 := atoms_spec (ws := (bw y_Mod_isOf b_Mod_isOf 2 (some .boolean))) B.pre
  have hts : ∀ w ∈ gw, w.before _ s = true := fun w h => hts9 w (List.mem_cons_of_mem _ h)
  have hown : s.vm.findClass RX4 = some m.cls := findClass_of_methodNamed B.named
  have hlocks := B.notSynchronized
  have hK := hE.1
  have hN := hE.2.1
  have hS : va_S (fun _ => False) s.heap s.heap [] := va_S.rf
  have hP : va_P (dC, dI) vwCl [] s.heap := hP
  have hl := lv_entry ([.int a, .int b]) (n := 2) (Nat.le_of_ble_eq_true rfl)
  rw [lg_entry_eq]
  generalize (lg_sl ([.int a, .int b]) ++ List.replicate (2 - (lg_sl ([.int a, .int b])).length) Slot.unset).toArray = ls at hl ⊢
  have hl : lv_has ls 2 [(0, .int a), (1, .int b)] := hl
  refine lv_iload_n hx hb d_Mod_isOf_0 rfl (lv_at hl 0 rfl) ?_
  refine lv_if_lt (tgt := 13) hx hb d_Mod_isOf_1 (by decide) (fun c_1 => ?_) (fun c_1 => ?_)
  · refine lv_iconst (v := nI 0) hx hb d_Mod_isOf_13 (by decide +kernel) ?_
    exact W.zret (v := nI 0) hx hb hr rfl (fun t ht hW => ⟨nI 0, rfl, bz_eq0 (decide_eq_false (fun h => h.1 c_1)), ht⟩) (fun q h => by cases h) d_Mod_isOf_14
  · refine lv_iload_n hx hb d_Mod_isOf_4 rfl (lv_at hl 0 rfl) ?_
    refine lv_iload_n hx hb d_Mod_isOf_5 rfl (lv_at hl 1 rfl) ?_
    refine lv_icmp_ge (tgt := 13) hx hb d_Mod_isOf_6 (by decide) (fun c_2 => ?_) (fun c_2 => ?_)
    · refine lv_iconst (v := nI 0) hx hb d_Mod_isOf_13 (by decide +kernel) ?_
      exact W.zret (v := nI 0) hx hb hr rfl (fun t ht hW => ⟨nI 0, rfl, bz_eq0 (decide_eq_false (fun h => absurd h.2 (k2_nlt c_2))), ht⟩) (fun q h => by cases h) d_Mod_isOf_14
    · refine lv_iconst (v := nI 1) hx hb d_Mod_isOf_9 (by decide +kernel) ?_
      refine lv_goto (tgt := 14) hx hb d_Mod_isOf_10 (by decide) ?_
      exact W.zret (v := nI 1) hx hb hr rfl (fun t ht hW => ⟨nI 1, rfl, bz_eq1 (decide_eq_true ⟨c_1, k2_lt c_2⟩), ht⟩) (fun q h => by cases h) d_Mod_isOf_14

set_option maxHeartbeats 4000000 in
set_option maxRecDepth 100000 in
theorem k_Mod_throwing (l : Launch) (dC : Nat → ClassId) (dI : Nat → Nat → Nat) (cI cZ cJ : ClassId) (sz : Nat) (oM mS mO mL mR mT mN mX mF mA mB mV mW mQ mY mE mC mG mH : Nat) (wb n sc s1 np fr : Nat) (kd lf rt nx pl pr : Nat → Nat) (th : Int32) (no : Nat → Nat) (tr : Nat → Bool) (mrc mcl : Nat) (ov : Bool) (mw : Nat → Nat) (mq : Nat → Int32) (mb lb : Nat → Nat) (cm : Nat → Bool) (mg : Nat → Nat) (ps cy : Nat) (df : Int32) (hw9 : Nat) (sh : Nat → Bool) (ba bb : Bool) : Met l y_Mod_throwing (bw y_Mod_throwing b_Mod_throwing 3 (some .boolean)) ({ frames := 0, cells := 0, slots := 0, locals := 0 }) (bx_pW dC dI cI cZ cJ [.ref oM, .int (bz ba), .int (bz bb)] [(oM, .inr (4, [.int th, .int (nI wb), .int (nI n), .int (nI sc), .int (nI np), .int (nI (n - wb - sc)), .ref mS, .ref mO, .ref mL, .ref mR, .ref mT, .ref mN, .ref mX, .ref mF, .ref mA, .ref mB, .ref mV, .int (nI mrc), .int (nI mcl), .int (bz ov), .ref mW, .ref mQ, .ref mY, .ref mE, .ref mC, .ref mG, .int (nI ps), .int (nI cy), .int df, .int (nI hw9), .ref mH]))] sz) (va_Qi (fun (r : Int32) (_ : Unit) => r = bz (ba || bb)) (bx_B dC dI (va_A [(oM, .inr (4, [.int th, .int (nI wb), .int (nI n), .int (nI sc), .int (nI np), .int (nI (n - wb - sc)), .ref mS, .ref mO, .ref mL, .ref mR, .ref mT, .ref mN, .ref mX, .ref mF, .ref mA, .ref mB, .ref mV, .int (nI mrc), .int (nI mcl), .int (bz ov), .ref mW, .ref mQ, .ref mY, .ref mE, .ref mC, .ref mG, .int (nI ps), .int (nI cy), .int df, .int (nI hw9), .ref mH]))] sz) (fun (_ : Unit) => ([(oM, .inr (4, [.int (nI (mo_th ba bb)), .int (nI wb), .int (nI n), .int (nI sc), .int (nI np), .int (nI (n - wb - sc)), .ref mS, .ref mO, .ref mL, .ref mR, .ref mT, .ref mN, .ref mX, .ref mF, .ref mA, .ref mB, .ref mV, .int (nI mrc), .int (nI mcl), .int (bz ov), .ref mW, .ref mQ, .ref mY, .ref mE, .ref mC, .ref mG, .int (nI ps), .int (nI cy), .int df, .int (nI hw9), .ref mH]))] : va_W))) (va_A [(oM, .inr (4, [.int th, .int (nI wb), .int (nI n), .int (nI sc), .int (nI np), .int (nI (n - wb - sc)), .ref mS, .ref mO, .ref mL, .ref mR, .ref mT, .ref mN, .ref mX, .ref mF, .ref mA, .ref mB, .ref mV, .int (nI mrc), .int (nI mcl), .int (bz ov), .ref mW, .ref mQ, .ref mY, .ref mE, .ref mC, .ref mG, .int (nI ps), .int (nI cy), .int df, .int (nI hw9), .ref mH]))] sz)) 0 0 (va_A [(oM, .inr (4, [.int th, .int (nI wb), .int (nI n), .int (nI sc), .int (nI np), .int (nI (n - wb - sc)), .ref mS, .ref mO, .ref mL, .ref mR, .ref mT, .ref mN, .ref mX, .ref mF, .ref mA, .ref mB, .ref mV, .int (nI mrc), .int (nI mcl), .int (bz ov), .ref mW, .ref mQ, .ref mY, .ref mE, .ref mC, .ref mG, .int (nI ps), .int (nI cy), .int df, .int (nI hw9), .ref mH]))] sz) := by
  refine Met.ofW (cc := b_Mod_throwing) (maxL := 3) (ret := some .boolean) (by decide) rfl ?_
  intro p e s m args below meth c s₁ B hml hv
  obtain ⟨rfl, hsz, hE, hP, hD0⟩ := hv
  have hx := B.exec
  have hb := B.bytes
  have hr := B.returns
  have hts9 := atoms_spec (ws := (bw y_Mod_throwing b_Mod_throwing 3 (some .boolean))) B.pre
  have hts : ∀ w ∈ gw, w.before _ s = true := fun w h => hts9 w (List.mem_cons_of_mem _ h)
  have hown : s.vm.findClass RX4 = some m.cls := findClass_of_methodNamed B.named
  have hlocks := B.notSynchronized
  subst hsz
  have hD := hD0.self (sz := s.heap.size)
  generalize hAe : va_A [(oM, .inr (4, [.int th, .int (nI wb), .int (nI n), .int (nI sc), .int (nI np), .int (nI (n - wb - sc)), .ref mS, .ref mO, .ref mL, .ref mR, .ref mT, .ref mN, .ref mX, .ref mF, .ref mA, .ref mB, .ref mV, .int (nI mrc), .int (nI mcl), .int (bz ov), .ref mW, .ref mQ, .ref mY, .ref mE, .ref mC, .ref mG, .int (nI ps), .int (nI cy), .int df, .int (nI hw9), .ref mH]))] s.heap.size = A at hE hD ⊢
  have hA : ∀ q : Nat, s.heap.size ≤ q → A q := fun q h => by rw [← hAe]; exact Or.inr h
  have hS : va_S A s.heap s.heap [] := va_S.rf
  have hK := hE.1
  have hN := hE.2.1
  have hP : va_P (dC, dI) vwCl [(oM, .inr (4, [.int th, .int (nI wb), .int (nI n), .int (nI sc), .int (nI np), .int (nI (n - wb - sc)), .ref mS, .ref mO, .ref mL, .ref mR, .ref mT, .ref mN, .ref mX, .ref mF, .ref mA, .ref mB, .ref mV, .int (nI mrc), .int (nI mcl), .int (bz ov), .ref mW, .ref mQ, .ref mY, .ref mE, .ref mC, .ref mG, .int (nI ps), .int (nI cy), .int df, .int (nI hw9), .ref mH]))] s.heap := hP
  have hl := lv_entry ([.ref oM, .int (bz ba), .int (bz bb)]) (n := 3) (Nat.le_of_ble_eq_true rfl)
  rw [lg_entry_eq]
  generalize (lg_sl ([.ref oM, .int (bz ba), .int (bz bb)]) ++ List.replicate (3 - (lg_sl ([.ref oM, .int (bz ba), .int (bz bb)])).length) Slot.unset).toArray = ls at hl ⊢
  have hl : lv_has ls 3 [(0, .ref oM), (1, .int (bz ba)), (2, .int (bz bb))] := hl
  refine lv_aload_n hx hb d_Mod_throwing_0 rfl (lv_at hl 0 rfl) ?_
  refine lv_iload_n hx hb d_Mod_throwing_1 rfl (lv_at hl 1 rfl) ?_
  refine lv_if_eq (tgt := 9) hx hb d_Mod_throwing_2 (by decide) (fun c_1 => ?_) (fun c_1 => ?_)
  · have hb9 : ba = false := (bz_0 _).mp c_1
    subst hb9
    refine lv_iload_n hx hb d_Mod_throwing_9 rfl (lv_at hl 2 rfl) ?_
    refine lv_if_eq (tgt := 17) hx hb d_Mod_throwing_10 (by decide) (fun c_2 => ?_) (fun c_2 => ?_)
    · have hb8 : bb = false := (bz_0 _).mp c_2
      subst hb8
      refine lv_iconst (v := nI 0) hx hb d_Mod_throwing_17 (by decide +kernel) ?_
      refine va_put (D := (dC, dI)) (ci := 4) (v := .int (nI 0)) (ty := .int) (C := RX4) (T := TX4) (N := 31) hx hb hts in_X4 tyX4 tyX4_ok nmX4 hown hK hP hD hS 0 rfl rfl 0 (by decide) (hts _ lk_Mod_78) (fun _ h9 => h9) rfl (by decide +kernel) rfl rfl (Nat.le_of_ble_eq_true rfl) d_Mod_throwing_18 (fun H locs hP hD hS => ?_)
      have hP : va_P (dC, dI) vwCl [(oM, .inr (4, [.int (nI 0), .int (nI wb), .int (nI n), .int (nI sc), .int (nI np), .int (nI (n - wb - sc)), .ref mS, .ref mO, .ref mL, .ref mR, .ref mT, .ref mN, .ref mX, .ref mF, .ref mA, .ref mB, .ref mV, .int (nI mrc), .int (nI mcl), .int (bz ov), .ref mW, .ref mQ, .ref mY, .ref mE, .ref mC, .ref mG, .int (nI ps), .int (nI cy), .int df, .int (nI hw9), .ref mH]))] H := hP
      have hD : va_D A [(oM, .inr (4, [.int (nI 0), .int (nI wb), .int (nI n), .int (nI sc), .int (nI np), .int (nI (n - wb - sc)), .ref mS, .ref mO, .ref mL, .ref mR, .ref mT, .ref mN, .ref mX, .ref mF, .ref mA, .ref mB, .ref mV, .int (nI mrc), .int (nI mcl), .int (bz ov), .ref mW, .ref mQ, .ref mY, .ref mE, .ref mC, .ref mG, .int (nI ps), .int (nI cy), .int df, .int (nI hw9), .ref mH]))] := hD
      refine lv_aload_n hx hb d_Mod_throwing_21 rfl (lv_at hl 0 rfl) ?_
      refine va_get (D := (dC, dI)) (ci := 4) (v := .int (nI 0)) (C := RX4) (T := TX4) (N := 31) hx hb hts in_X4 hown hK hP 0 rfl rfl 0 (by decide) (hts _ lk_Mod_78) (fun _ h9 => h9) rfl d_Mod_throwing_22 ?_
      refine lv_if_le (tgt := 32) hx hb d_Mod_throwing_25 (by decide) (fun _ => ?_) (fun c9 => absurd (by decide +kernel) c9)
      refine lv_iconst (v := nI 0) hx hb d_Mod_throwing_32 (by decide +kernel) ?_
      have hP9 := hP
      have hD9 := hD
      exact W.zret (v := nI 0) hx hb hr rfl (fun t ht hW => ⟨⟨nI 0, (), rfl, rfl, by rw [ht]; exact hP9, hD9⟩, hS.F ht⟩) hS.2.2 d_Mod_throwing_33
    · have hb8 : bb = true := (bz_n0 _).mp c_2
      subst hb8
      refine lv_iconst (v := nI 2) hx hb d_Mod_throwing_13 (by decide +kernel) ?_
      refine lv_goto (tgt := 18) hx hb d_Mod_throwing_14 (by decide) ?_
      refine va_put (D := (dC, dI)) (ci := 4) (v := .int (nI 2)) (ty := .int) (C := RX4) (T := TX4) (N := 31) hx hb hts in_X4 tyX4 tyX4_ok nmX4 hown hK hP hD hS 0 rfl rfl 0 (by decide) (hts _ lk_Mod_78) (fun _ h9 => h9) rfl (by decide +kernel) rfl rfl (Nat.le_of_ble_eq_true rfl) d_Mod_throwing_18 (fun H locs hP hD hS => ?_)
      have hP : va_P (dC, dI) vwCl [(oM, .inr (4, [.int (nI 2), .int (nI wb), .int (nI n), .int (nI sc), .int (nI np), .int (nI (n - wb - sc)), .ref mS, .ref mO, .ref mL, .ref mR, .ref mT, .ref mN, .ref mX, .ref mF, .ref mA, .ref mB, .ref mV, .int (nI mrc), .int (nI mcl), .int (bz ov), .ref mW, .ref mQ, .ref mY, .ref mE, .ref mC, .ref mG, .int (nI ps), .int (nI cy), .int df, .int (nI hw9), .ref mH]))] H := hP
      have hD : va_D A [(oM, .inr (4, [.int (nI 2), .int (nI wb), .int (nI n), .int (nI sc), .int (nI np), .int (nI (n - wb - sc)), .ref mS, .ref mO, .ref mL, .ref mR, .ref mT, .ref mN, .ref mX, .ref mF, .ref mA, .ref mB, .ref mV, .int (nI mrc), .int (nI mcl), .int (bz ov), .ref mW, .ref mQ, .ref mY, .ref mE, .ref mC, .ref mG, .int (nI ps), .int (nI cy), .int df, .int (nI hw9), .ref mH]))] := hD
      refine lv_aload_n hx hb d_Mod_throwing_21 rfl (lv_at hl 0 rfl) ?_
      refine va_get (D := (dC, dI)) (ci := 4) (v := .int (nI 2)) (C := RX4) (T := TX4) (N := 31) hx hb hts in_X4 hown hK hP 0 rfl rfl 0 (by decide) (hts _ lk_Mod_78) (fun _ h9 => h9) rfl d_Mod_throwing_22 ?_
      refine lv_if_le (tgt := 32) hx hb d_Mod_throwing_25 (by decide) (fun c9 => absurd c9 (nI_nle (by decide) (by decide))) (fun _ => ?_)
      refine lv_iconst (v := nI 1) hx hb d_Mod_throwing_28 (by decide +kernel) ?_
      refine lv_goto (tgt := 33) hx hb d_Mod_throwing_29 (by decide) ?_
      have hP9 := hP
      have hD9 := hD
      exact W.zret (v := nI 1) hx hb hr rfl (fun t ht hW => ⟨⟨nI 1, (), rfl, rfl, by rw [ht]; exact hP9, hD9⟩, hS.F ht⟩) hS.2.2 d_Mod_throwing_33
  · have hb9 : ba = true := (bz_n0 _).mp c_1
    subst hb9
    refine lv_iconst (v := nI 1) hx hb d_Mod_throwing_5 (by decide +kernel) ?_
    refine lv_goto (tgt := 18) hx hb d_Mod_throwing_6 (by decide) ?_
    refine va_put (D := (dC, dI)) (ci := 4) (v := .int (nI 1)) (ty := .int) (C := RX4) (T := TX4) (N := 31) hx hb hts in_X4 tyX4 tyX4_ok nmX4 hown hK hP hD hS 0 rfl rfl 0 (by decide) (hts _ lk_Mod_78) (fun _ h9 => h9) rfl (by decide +kernel) rfl rfl (Nat.le_of_ble_eq_true rfl) d_Mod_throwing_18 (fun H locs hP hD hS => ?_)
    have hP : va_P (dC, dI) vwCl [(oM, .inr (4, [.int (nI 1), .int (nI wb), .int (nI n), .int (nI sc), .int (nI np), .int (nI (n - wb - sc)), .ref mS, .ref mO, .ref mL, .ref mR, .ref mT, .ref mN, .ref mX, .ref mF, .ref mA, .ref mB, .ref mV, .int (nI mrc), .int (nI mcl), .int (bz ov), .ref mW, .ref mQ, .ref mY, .ref mE, .ref mC, .ref mG, .int (nI ps), .int (nI cy), .int df, .int (nI hw9), .ref mH]))] H := hP
    have hD : va_D A [(oM, .inr (4, [.int (nI 1), .int (nI wb), .int (nI n), .int (nI sc), .int (nI np), .int (nI (n - wb - sc)), .ref mS, .ref mO, .ref mL, .ref mR, .ref mT, .ref mN, .ref mX, .ref mF, .ref mA, .ref mB, .ref mV, .int (nI mrc), .int (nI mcl), .int (bz ov), .ref mW, .ref mQ, .ref mY, .ref mE, .ref mC, .ref mG, .int (nI ps), .int (nI cy), .int df, .int (nI hw9), .ref mH]))] := hD
    refine lv_aload_n hx hb d_Mod_throwing_21 rfl (lv_at hl 0 rfl) ?_
    refine va_get (D := (dC, dI)) (ci := 4) (v := .int (nI 1)) (C := RX4) (T := TX4) (N := 31) hx hb hts in_X4 hown hK hP 0 rfl rfl 0 (by decide) (hts _ lk_Mod_78) (fun _ h9 => h9) rfl d_Mod_throwing_22 ?_
    refine lv_if_le (tgt := 32) hx hb d_Mod_throwing_25 (by decide) (fun c9 => absurd c9 (nI_nle (by decide) (by decide))) (fun _ => ?_)
    refine lv_iconst (v := nI 1) hx hb d_Mod_throwing_28 (by decide +kernel) ?_
    refine lv_goto (tgt := 33) hx hb d_Mod_throwing_29 (by decide) ?_
    have hP9 := hP
    have hD9 := hD
    exact W.zret (v := nI 1) hx hb hr rfl (fun t ht hW => ⟨⟨nI 1, (), rfl, rfl, by rw [ht]; exact hP9, hD9⟩, hS.F ht⟩) hS.2.2 d_Mod_throwing_33

set_option maxHeartbeats 4000000 in
set_option maxRecDepth 100000 in
theorem k_Mod_beginning (l : Launch) (dC : Nat → ClassId) (dI : Nat → Nat → Nat) (cI cZ cJ : ClassId) (oM mS mO mL mR mT mN mX mF mA mB mV mW mQ mY mE mC mG mH : Nat) (wb n sc s1 np fr : Nat) (kd lf rt nx pl pr : Nat → Nat) (th : Int32) (no : Nat → Nat) (tr : Nat → Bool) (mrc mcl : Nat) (ov : Bool) (mw : Nat → Nat) (mq : Nat → Int32) (mb lb : Nat → Nat) (cm : Nat → Bool) (mg : Nat → Nat) (ps cy : Nat) (df : Int32) (hw9 : Nat) (sh : Nat → Bool) (hsc : sc ≤ 14) (hfr : fr < 2 ^ sc) : Met l y_Mod_beginning (bw y_Mod_beginning b_Mod_beginning 3 (some .int)) ({ frames := 0, cells := 0, slots := 0, locals := 0 }) (bx_pR dC dI cI cZ cJ [.ref oM] [(oM, .inr (4, [.int th, .int (nI wb), .int (nI n), .int (nI sc), .int (nI np), .int (nI (n - wb - sc)), .ref mS, .ref mO, .ref mL, .ref mR, .ref mT, .ref mN, .ref mX, .ref mF, .ref mA, .ref mB, .ref mV, .int (nI mrc), .int (nI mcl), .int (bz ov), .ref mW, .ref mQ, .ref mY, .ref mE, .ref mC, .ref mG, .int (nI ps), .int (nI cy), .int df, .int (nI hw9), .ref mH])), (mF, .inl (cZ, 14, .inl (fun z9 => bz (fr.testBit z9))))]) (bx_qR (fun r => r = nI fr)) 0 0 (fun _ => False) := by
  refine Met.ofW (cc := b_Mod_beginning) (maxL := 3) (ret := some .int) (by decide) rfl ?_
  intro p e s m args below meth c s₁ B hml hv
  obtain ⟨rfl, hE, hP⟩ := hv
  have hx := B.exec
  have hb := B.bytes
  have hr := B.returns
  have hts9 := atoms_spec (ws := (bw y_Mod_beginning b_Mod_beginning 3 (some .int))) B.pre
  have hts : ∀ w ∈ gw, w.before _ s = true := fun w h => hts9 w (List.mem_cons_of_mem _ h)
  have hown : s.vm.findClass RX4 = some m.cls := findClass_of_methodNamed B.named
  have hlocks := B.notSynchronized
  have hK := hE.1
  have hN := hE.2.1
  have hS : va_S (fun _ => False) s.heap s.heap [] := va_S.rf
  have hP : va_P (dC, dI) vwCl [(oM, .inr (4, [.int th, .int (nI wb), .int (nI n), .int (nI sc), .int (nI np), .int (nI (n - wb - sc)), .ref mS, .ref mO, .ref mL, .ref mR, .ref mT, .ref mN, .ref mX, .ref mF, .ref mA, .ref mB, .ref mV, .int (nI mrc), .int (nI mcl), .int (bz ov), .ref mW, .ref mQ, .ref mY, .ref mE, .ref mC, .ref mG, .int (nI ps), .int (nI cy), .int df, .int (nI hw9), .ref mH])), (mF, .inl (cZ, 14, .inl (fun z9 => bz (fr.testBit z9))))] s.heap := hP
  have hl := lv_entry ([.ref oM]) (n := 3) (Nat.le_of_ble_eq_true rfl)
  rw [lg_entry_eq]
  generalize (lg_sl ([.ref oM]) ++ List.replicate (3 - (lg_sl ([.ref oM])).length) Slot.unset).toArray = ls at hl ⊢
  have hl : lv_has ls 3 [(0, .ref oM)] := hl
  refine lv_iconst (v := nI 0) hx hb d_Mod_beginning_0 (by decide +kernel) ?_
  refine lv_istore_n (lv' := [(1, .int (nI 0)), (0, .ref oM)]) hx hb d_Mod_beginning_1 rfl hl (by decide) rfl (fun ls hl => ?_)
  refine lv_iconst (v := nI 0) hx hb d_Mod_beginning_2 (by decide +kernel) ?_
  refine lv_istore_n (lv' := [(2, .int (nI 0)), (1, .int (nI 0)), (0, .ref oM)]) hx hb d_Mod_beginning_3 rfl hl (by decide) rfl (fun ls hl => ?_)
  refine bx_gen (fun V hV => ?_)
  have loop : ∀ (k9 i9 : Nat) (ls : Array Slot), i9 + k9 = sc → lv_has ls 3 [(0, .ref oM), (1, .int (nI (bn_row (fun s => fr.testBit s) i9))), (2, .int (nI i9))] → V s.heap [] 0 0 (F0 m 4 ls []) := by
    intro k9
    induction k9 with
    | zero =>
      intro i9 ls hik hl
      refine (hV _ _ _ _ _).mpr ?_
      refine lv_iload_n hx hb d_Mod_beginning_4 rfl (lv_at hl 2 rfl) ?_
      refine lv_aload_n hx hb d_Mod_beginning_5 rfl (lv_at hl 0 rfl) ?_
      refine va_get (D := (dC, dI)) (ci := 4) (v := .int (nI sc)) (C := RX4) (T := TX4) (N := 31) hx hb hts in_X4 hown hK hP 0 rfl rfl 3 (by decide) (hts _ lk_Mod_97) (fun _ h9 => h9) rfl d_Mod_beginning_6 ?_
      refine lv_icmp_ge (tgt := 37) hx hb d_Mod_beginning_9 (by decide) (fun _ => ?_) (fun c9 => absurd (by rw [show i9 = sc by omega]; exact nI_le (Nat.le_refl sc) (by omega)) c9)
      refine lv_iload_n hx hb d_Mod_beginning_37 rfl (lv_at hl 1 rfl) ?_
      exact W.iret (v := nI (bn_row (fun s => fr.testBit s) i9)) hx hb hr (fun t ht hW => ⟨nI (bn_row (fun s => fr.testBit s) i9), rfl, by rw [show i9 = sc by omega, bn_row_of hfr], ht⟩) (fun q h => by cases h) d_Mod_beginning_38
    | succ k9 ih =>
      intro i9 ls hik hl
      refine (hV _ _ _ _ _).mpr ?_
      refine lv_iload_n hx hb d_Mod_beginning_4 rfl (lv_at hl 2 rfl) ?_
      refine lv_aload_n hx hb d_Mod_beginning_5 rfl (lv_at hl 0 rfl) ?_
      refine va_get (D := (dC, dI)) (ci := 4) (v := .int (nI sc)) (C := RX4) (T := TX4) (N := 31) hx hb hts in_X4 hown hK hP 0 rfl rfl 3 (by decide) (hts _ lk_Mod_97) (fun _ h9 => h9) rfl d_Mod_beginning_6 ?_
      refine lv_icmp_ge (tgt := 37) hx hb d_Mod_beginning_9 (by decide) (fun c9 => absurd c9 (nI_ge (by omega) (by omega))) (fun _ => ?_)
      refine lv_iload_n hx hb d_Mod_beginning_12 rfl (lv_at hl 1 rfl) ?_
      refine lv_aload_n hx hb d_Mod_beginning_13 rfl (lv_at hl 0 rfl) ?_
      refine va_get (D := (dC, dI)) (ci := 4) (v := .ref mF) (C := RX4) (T := TX4) (N := 31) hx hb hts in_X4 hown hK hP 0 rfl rfl 13 (by decide) (hts _ lk_Mod_31) (fun _ h9 => h9) rfl d_Mod_beginning_14 ?_
      refine lv_iload_n hx hb d_Mod_beginning_17 rfl (lv_at hl 2 rfl) ?_
      refine bx_zald hx hb hK hP 1 1 rfl rfl (k := i9) rfl (by omega) (by decide) d_Mod_beginning_18 ?_
      refine lv_if_eq (tgt := 28) hx hb d_Mod_beginning_19 (by decide) (fun c_1 => ?_) (fun c_1 => ?_)
      · refine lv_iconst (v := nI 0) hx hb d_Mod_beginning_28 (by decide +kernel) ?_
        refine lv_ior hx hb d_Mod_beginning_29 ?_
        refine bx_top (y := nI (bn_row (fun s => fr.testBit s) (i9 + 1))) (bn_row_f ((bz_0 _).mp c_1)) ?_
        refine lv_istore_n (lv' := [(1, .int (nI (bn_row (fun s => fr.testBit s) (i9 + 1)))), (0, .ref oM), (2, .int (nI i9))]) hx hb d_Mod_beginning_30 rfl hl (by decide) rfl (fun ls hl => ?_)
        refine lv_iinc (v := nI (i9 + 1)) (lv' := [(2, .int (nI (i9 + 1))), (1, .int (nI (bn_row (fun s => fr.testBit s) (i9 + 1)))), (0, .ref oM)]) hx hb d_Mod_beginning_31 hl (k := 2) rfl (bx_inc _) (by decide) rfl (fun ls hl => ?_)
        refine lv_goto (tgt := 4) hx hb d_Mod_beginning_34 (by decide) ?_
        exact (hV _ _ _ _ _).mp (ih (i9 + 1) ls (by omega) (lv_sub hl [2, 1, 0] rfl))
      · refine lv_iconst (v := nI 1) hx hb d_Mod_beginning_22 (by decide +kernel) ?_
        refine lv_iload_n hx hb d_Mod_beginning_23 rfl (lv_at hl 2 rfl) ?_
        refine lv_ishl hx hb d_Mod_beginning_24 ?_
        refine lv_goto (tgt := 29) hx hb d_Mod_beginning_25 (by decide) ?_
        refine lv_ior hx hb d_Mod_beginning_29 ?_
        refine bx_top (y := nI (bn_row (fun s => fr.testBit s) (i9 + 1))) (bn_row_t ((bz_n0 _).mp c_1) (by omega)) ?_
        refine lv_istore_n (lv' := [(1, .int (nI (bn_row (fun s => fr.testBit s) (i9 + 1)))), (0, .ref oM), (2, .int (nI i9))]) hx hb d_Mod_beginning_30 rfl hl (by decide) rfl (fun ls hl => ?_)
        refine lv_iinc (v := nI (i9 + 1)) (lv' := [(2, .int (nI (i9 + 1))), (1, .int (nI (bn_row (fun s => fr.testBit s) (i9 + 1)))), (0, .ref oM)]) hx hb d_Mod_beginning_31 hl (k := 2) rfl (bx_inc _) (by decide) rfl (fun ls hl => ?_)
        refine lv_goto (tgt := 4) hx hb d_Mod_beginning_34 (by decide) ?_
        exact (hV _ _ _ _ _).mp (ih (i9 + 1) ls (by omega) (lv_sub hl [2, 1, 0] rfl))
  exact loop sc 0 ls (Nat.zero_add _) (lv_sub hl [2, 1, 0] rfl)

set_option maxHeartbeats 4000000 in
set_option maxRecDepth 100000 in
theorem k_Mod_anew (l : Launch) (dC : Nat → ClassId) (dI : Nat → Nat → Nat) (cI cZ cJ : ClassId) (sz : Nat) (oM mS mO mL mR mT mN mX mF mA mB mV mW mQ mY mE mC mG mH : Nat) (wb n sc s1 np fr : Nat) (kd lf rt nx pl pr : Nat → Nat) (th : Int32) (no : Nat → Nat) (tr : Nat → Bool) (mrc mcl : Nat) (ov : Bool) (mw : Nat → Nat) (mq : Nat → Int32) (mb lb : Nat → Nat) (cm : Nat → Bool) (mg : Nat → Nat) (ps cy : Nat) (df : Int32) (hw9 : Nat) (sh : Nat → Bool) (hwf : bm_wf wb n sc kd lf rt) (hfr : fr < 2 ^ sc) : Met l y_Mod_anew (bw y_Mod_anew b_Mod_anew 2 (none)) ({ frames := 1, cells := 0, slots := 0, locals := 22 }) (bx_pW dC dI cI cZ cJ [.ref oM] [(oM, .inr (4, [.int th, .int (nI wb), .int (nI n), .int (nI sc), .int (nI np), .int (nI (n - wb - sc)), .ref mS, .ref mO, .ref mL, .ref mR, .ref mT, .ref mN, .ref mX, .ref mF, .ref mA, .ref mB, .ref mV, .int (nI mrc), .int (nI mcl), .int (bz ov), .ref mW, .ref mQ, .ref mY, .ref mE, .ref mC, .ref mG, .int (nI ps), .int (nI cy), .int df, .int (nI hw9), .ref mH])), (mO, .inl (cI, 100, .inl (fun z9 => mo_op (kd z9)))), (mT, .inl (cI, 100, .inl (fun z9 => nI (mo_s kd lf z9)))), (mF, .inl (cZ, 14, .inl (fun z9 => bz (fr.testBit z9)))), (mH, .inl (cZ, 100, .inl (fun z9 => bz (sh z9))))] sz) (va_Qv (fun (sh2 : Nat → Bool) => mo_fst kd lf fr sh2 n) (bx_B dC dI (va_A [(oM, .inr (4, [.int th, .int (nI wb), .int (nI n), .int (nI sc), .int (nI np), .int (nI (n - wb - sc)), .ref mS, .ref mO, .ref mL, .ref mR, .ref mT, .ref mN, .ref mX, .ref mF, .ref mA, .ref mB, .ref mV, .int (nI mrc), .int (nI mcl), .int (bz ov), .ref mW, .ref mQ, .ref mY, .ref mE, .ref mC, .ref mG, .int (nI ps), .int (nI cy), .int df, .int (nI hw9), .ref mH])), (mO, .inl (cI, 100, .inl (fun z9 => mo_op (kd z9)))), (mT, .inl (cI, 100, .inl (fun z9 => nI (mo_s kd lf z9)))), (mF, .inl (cZ, 14, .inl (fun z9 => bz (fr.testBit z9)))), (mH, .inl (cZ, 100, .inl (fun z9 => bz (sh z9))))] sz) (fun (sh2 : Nat → Bool) => ([(oM, .inr (4, [.int th, .int (nI wb), .int (nI n), .int (nI sc), .int (nI np), .int (nI (n - wb - sc)), .ref mS, .ref mO, .ref mL, .ref mR, .ref mT, .ref mN, .ref mX, .ref mF, .ref mA, .ref mB, .ref mV, .int (nI mrc), .int (nI mcl), .int (bz ov), .ref mW, .ref mQ, .ref mY, .ref mE, .ref mC, .ref mG, .int (nI ps), .int (nI 0), .int (-1), .int (nI fr), .ref mH])), (mO, .inl (cI, 100, .inl (fun z9 => mo_op (kd z9)))), (mT, .inl (cI, 100, .inl (fun z9 => nI (mo_s kd lf z9)))), (mF, .inl (cZ, 14, .inl (fun z9 => bz (fr.testBit z9)))), (mH, .inl (cZ, 100, .inl (fun z9 => bz (sh2 z9))))] : va_W))) (va_A [(oM, .inr (4, [.int th, .int (nI wb), .int (nI n), .int (nI sc), .int (nI np), .int (nI (n - wb - sc)), .ref mS, .ref mO, .ref mL, .ref mR, .ref mT, .ref mN, .ref mX, .ref mF, .ref mA, .ref mB, .ref mV, .int (nI mrc), .int (nI mcl), .int (bz ov), .ref mW, .ref mQ, .ref mY, .ref mE, .ref mC, .ref mG, .int (nI ps), .int (nI cy), .int df, .int (nI hw9), .ref mH])), (mO, .inl (cI, 100, .inl (fun z9 => mo_op (kd z9)))), (mT, .inl (cI, 100, .inl (fun z9 => nI (mo_s kd lf z9)))), (mF, .inl (cZ, 14, .inl (fun z9 => bz (fr.testBit z9)))), (mH, .inl (cZ, 100, .inl (fun z9 => bz (sh z9))))] sz)) 0 0 (va_A [(oM, .inr (4, [.int th, .int (nI wb), .int (nI n), .int (nI sc), .int (nI np), .int (nI (n - wb - sc)), .ref mS, .ref mO, .ref mL, .ref mR, .ref mT, .ref mN, .ref mX, .ref mF, .ref mA, .ref mB, .ref mV, .int (nI mrc), .int (nI mcl), .int (bz ov), .ref mW, .ref mQ, .ref mY, .ref mE, .ref mC, .ref mG, .int (nI ps), .int (nI cy), .int df, .int (nI hw9), .ref mH])), (mO, .inl (cI, 100, .inl (fun z9 => mo_op (kd z9)))), (mT, .inl (cI, 100, .inl (fun z9 => nI (mo_s kd lf z9)))), (mF, .inl (cZ, 14, .inl (fun z9 => bz (fr.testBit z9)))), (mH, .inl (cZ, 100, .inl (fun z9 => bz (sh z9))))] sz) := by
  refine Met.ofW (cc := b_Mod_anew) (maxL := 2) (ret := none) (by decide) rfl ?_
  intro p e s m args below meth c s₁ B hml hv
  obtain ⟨rfl, hsz, hE, hP, hD0⟩ := hv
  have hx := B.exec
  have hb := B.bytes
  have hr := B.returns
  have hts9 := atoms_spec (ws := (bw y_Mod_anew b_Mod_anew 2 (none))) B.pre
  have hts : ∀ w ∈ gw, w.before _ s = true := fun w h => hts9 w (List.mem_cons_of_mem _ h)
  have hown : s.vm.findClass RX4 = some m.cls := findClass_of_methodNamed B.named
  have hlocks := B.notSynchronized
  subst hsz
  have hD := hD0.self (sz := s.heap.size)
  generalize hAe : va_A [(oM, .inr (4, [.int th, .int (nI wb), .int (nI n), .int (nI sc), .int (nI np), .int (nI (n - wb - sc)), .ref mS, .ref mO, .ref mL, .ref mR, .ref mT, .ref mN, .ref mX, .ref mF, .ref mA, .ref mB, .ref mV, .int (nI mrc), .int (nI mcl), .int (bz ov), .ref mW, .ref mQ, .ref mY, .ref mE, .ref mC, .ref mG, .int (nI ps), .int (nI cy), .int df, .int (nI hw9), .ref mH])), (mO, .inl (cI, 100, .inl (fun z9 => mo_op (kd z9)))), (mT, .inl (cI, 100, .inl (fun z9 => nI (mo_s kd lf z9)))), (mF, .inl (cZ, 14, .inl (fun z9 => bz (fr.testBit z9)))), (mH, .inl (cZ, 100, .inl (fun z9 => bz (sh z9))))] s.heap.size = A at hE hD ⊢
  have hA : ∀ q : Nat, s.heap.size ≤ q → A q := fun q h => by rw [← hAe]; exact Or.inr h
  have hS : va_S A s.heap s.heap [] := va_S.rf
  have hK := hE.1
  have hN := hE.2.1
  have hP : va_P (dC, dI) vwCl [(oM, .inr (4, [.int th, .int (nI wb), .int (nI n), .int (nI sc), .int (nI np), .int (nI (n - wb - sc)), .ref mS, .ref mO, .ref mL, .ref mR, .ref mT, .ref mN, .ref mX, .ref mF, .ref mA, .ref mB, .ref mV, .int (nI mrc), .int (nI mcl), .int (bz ov), .ref mW, .ref mQ, .ref mY, .ref mE, .ref mC, .ref mG, .int (nI ps), .int (nI cy), .int df, .int (nI hw9), .ref mH])), (mO, .inl (cI, 100, .inl (fun z9 => mo_op (kd z9)))), (mT, .inl (cI, 100, .inl (fun z9 => nI (mo_s kd lf z9)))), (mF, .inl (cZ, 14, .inl (fun z9 => bz (fr.testBit z9)))), (mH, .inl (cZ, 100, .inl (fun z9 => bz (sh z9))))] s.heap := hP
  have hl := lv_entry ([.ref oM]) (n := 2) (Nat.le_of_ble_eq_true rfl)
  rw [lg_entry_eq]
  generalize (lg_sl ([.ref oM]) ++ List.replicate (2 - (lg_sl ([.ref oM])).length) Slot.unset).toArray = ls at hl ⊢
  have hl : lv_has ls 2 [(0, .ref oM)] := hl
  refine lv_aload_n hx hb d_Mod_anew_0 rfl (lv_at hl 0 rfl) ?_
  refine lv_iconst (v := nI 0) hx hb d_Mod_anew_1 (by decide +kernel) ?_
  refine va_put (D := (dC, dI)) (ci := 4) (v := .int (nI 0)) (ty := .int) (C := RX4) (T := TX4) (N := 31) hx hb hts in_X4 tyX4 tyX4_ok nmX4 hown hK hP hD hS 0 rfl rfl 27 (by decide) (hts _ lk_Mod_100) (fun _ h9 => h9) rfl (by decide +kernel) rfl rfl (Nat.le_of_ble_eq_true rfl) d_Mod_anew_2 (fun H locs hP hD hS => ?_)
  have hP : va_P (dC, dI) vwCl [(oM, .inr (4, [.int th, .int (nI wb), .int (nI n), .int (nI sc), .int (nI np), .int (nI (n - wb - sc)), .ref mS, .ref mO, .ref mL, .ref mR, .ref mT, .ref mN, .ref mX, .ref mF, .ref mA, .ref mB, .ref mV, .int (nI mrc), .int (nI mcl), .int (bz ov), .ref mW, .ref mQ, .ref mY, .ref mE, .ref mC, .ref mG, .int (nI ps), .int (nI 0), .int df, .int (nI hw9), .ref mH])), (mO, .inl (cI, 100, .inl (fun z9 => mo_op (kd z9)))), (mT, .inl (cI, 100, .inl (fun z9 => nI (mo_s kd lf z9)))), (mF, .inl (cZ, 14, .inl (fun z9 => bz (fr.testBit z9)))), (mH, .inl (cZ, 100, .inl (fun z9 => bz (sh z9))))] H := hP
  have hD : va_D A [(oM, .inr (4, [.int th, .int (nI wb), .int (nI n), .int (nI sc), .int (nI np), .int (nI (n - wb - sc)), .ref mS, .ref mO, .ref mL, .ref mR, .ref mT, .ref mN, .ref mX, .ref mF, .ref mA, .ref mB, .ref mV, .int (nI mrc), .int (nI mcl), .int (bz ov), .ref mW, .ref mQ, .ref mY, .ref mE, .ref mC, .ref mG, .int (nI ps), .int (nI 0), .int df, .int (nI hw9), .ref mH])), (mO, .inl (cI, 100, .inl (fun z9 => mo_op (kd z9)))), (mT, .inl (cI, 100, .inl (fun z9 => nI (mo_s kd lf z9)))), (mF, .inl (cZ, 14, .inl (fun z9 => bz (fr.testBit z9)))), (mH, .inl (cZ, 100, .inl (fun z9 => bz (sh z9))))] := hD
  refine lv_aload_n hx hb d_Mod_anew_5 rfl (lv_at hl 0 rfl) ?_
  refine lv_iconst (v := (-1)) hx hb d_Mod_anew_6 (by decide +kernel) ?_
  refine va_put (D := (dC, dI)) (ci := 4) (v := .int (-1)) (ty := .int) (C := RX4) (T := TX4) (N := 31) hx hb hts in_X4 tyX4 tyX4_ok nmX4 hown hK hP hD hS 0 rfl rfl 28 (by decide) (hts _ lk_Mod_62) (fun _ h9 => h9) rfl (by decide +kernel) rfl rfl (Nat.le_of_ble_eq_true rfl) d_Mod_anew_7 (fun H locs hP hD hS => ?_)
  have hP : va_P (dC, dI) vwCl [(oM, .inr (4, [.int th, .int (nI wb), .int (nI n), .int (nI sc), .int (nI np), .int (nI (n - wb - sc)), .ref mS, .ref mO, .ref mL, .ref mR, .ref mT, .ref mN, .ref mX, .ref mF, .ref mA, .ref mB, .ref mV, .int (nI mrc), .int (nI mcl), .int (bz ov), .ref mW, .ref mQ, .ref mY, .ref mE, .ref mC, .ref mG, .int (nI ps), .int (nI 0), .int (-1), .int (nI hw9), .ref mH])), (mO, .inl (cI, 100, .inl (fun z9 => mo_op (kd z9)))), (mT, .inl (cI, 100, .inl (fun z9 => nI (mo_s kd lf z9)))), (mF, .inl (cZ, 14, .inl (fun z9 => bz (fr.testBit z9)))), (mH, .inl (cZ, 100, .inl (fun z9 => bz (sh z9))))] H := hP
  have hD : va_D A [(oM, .inr (4, [.int th, .int (nI wb), .int (nI n), .int (nI sc), .int (nI np), .int (nI (n - wb - sc)), .ref mS, .ref mO, .ref mL, .ref mR, .ref mT, .ref mN, .ref mX, .ref mF, .ref mA, .ref mB, .ref mV, .int (nI mrc), .int (nI mcl), .int (bz ov), .ref mW, .ref mQ, .ref mY, .ref mE, .ref mC, .ref mG, .int (nI ps), .int (nI 0), .int (-1), .int (nI hw9), .ref mH])), (mO, .inl (cI, 100, .inl (fun z9 => mo_op (kd z9)))), (mT, .inl (cI, 100, .inl (fun z9 => nI (mo_s kd lf z9)))), (mF, .inl (cZ, 14, .inl (fun z9 => bz (fr.testBit z9)))), (mH, .inl (cZ, 100, .inl (fun z9 => bz (sh z9))))] := hD
  refine lv_aload_n hx hb d_Mod_anew_10 rfl (lv_at hl 0 rfl) ?_
  refine lv_aload_n hx hb d_Mod_anew_11 rfl (lv_at hl 0 rfl) ?_
  have hPc := hP.sub (ws' := [(oM, .inr (4, [.int th, .int (nI wb), .int (nI n), .int (nI sc), .int (nI np), .int (nI (n - wb - sc)), .ref mS, .ref mO, .ref mL, .ref mR, .ref mT, .ref mN, .ref mX, .ref mF, .ref mA, .ref mB, .ref mV, .int (nI mrc), .int (nI mcl), .int (bz ov), .ref mW, .ref mQ, .ref mY, .ref mE, .ref mC, .ref mG, .int (nI ps), .int (nI 0), .int (-1), .int (nI hw9), .ref mH])), (mF, .inl (cZ, 14, .inl (fun z9 => bz (fr.testBit z9))))]) [0, 3] rfl
  refine bx_callR (va_runV (As := []) (rest := [.ref oM]) ⟨hx, hb, hml, hown, hts⟩ (k_Mod_beginning l dC dI cI cZ cJ oM mS mO mL mR mT mN mX mF mA mB mV mW mQ mY mE mC mG mH wb n sc s1 np fr kd lf rt nx pl pr th no tr mrc mcl ov mw mq mb lb cm mg ps 0 (-1) hw9 sh hwf.1.2.2.2.2 hfr) (bx_cV (n := 0) hts mc_Mod_beginning lk_Mod_103 mi_Mod_beginning ms_Mod_beginning ini_Mod (by decide +kernel) ⟨Nat.le_of_ble_eq_true rfl, Nat.le_of_ble_eq_true rfl⟩) (bx_prV hE hS hPc (ci := 4) (q0 := 0) rfl rfl) rfl rfl hl.1 rfl (lv_room (Nat.le_of_ble_eq_true rfl)) d_Mod_anew_12 ⟨Nat.le_of_ble_eq_true rfl, Nat.le_of_ble_eq_true rfl⟩) (fun r_1 hw_r_1 => ?_)
  refine bx_top (y := nI fr) hw_r_1 ?_
  refine va_put (D := (dC, dI)) (ci := 4) (v := .int (nI fr)) (ty := .int) (C := RX4) (T := TX4) (N := 31) hx hb hts in_X4 tyX4 tyX4_ok nmX4 hown hK hP hD hS 0 rfl rfl 29 (by decide) (hts _ lk_Mod_107) (fun _ h9 => h9) rfl (by decide +kernel) rfl rfl (Nat.le_of_ble_eq_true rfl) d_Mod_anew_15 (fun H locs hP hD hS => ?_)
  have hP : va_P (dC, dI) vwCl [(oM, .inr (4, [.int th, .int (nI wb), .int (nI n), .int (nI sc), .int (nI np), .int (nI (n - wb - sc)), .ref mS, .ref mO, .ref mL, .ref mR, .ref mT, .ref mN, .ref mX, .ref mF, .ref mA, .ref mB, .ref mV, .int (nI mrc), .int (nI mcl), .int (bz ov), .ref mW, .ref mQ, .ref mY, .ref mE, .ref mC, .ref mG, .int (nI ps), .int (nI 0), .int (-1), .int (nI fr), .ref mH])), (mO, .inl (cI, 100, .inl (fun z9 => mo_op (kd z9)))), (mT, .inl (cI, 100, .inl (fun z9 => nI (mo_s kd lf z9)))), (mF, .inl (cZ, 14, .inl (fun z9 => bz (fr.testBit z9)))), (mH, .inl (cZ, 100, .inl (fun z9 => bz (sh z9))))] H := hP
  have hD : va_D A [(oM, .inr (4, [.int th, .int (nI wb), .int (nI n), .int (nI sc), .int (nI np), .int (nI (n - wb - sc)), .ref mS, .ref mO, .ref mL, .ref mR, .ref mT, .ref mN, .ref mX, .ref mF, .ref mA, .ref mB, .ref mV, .int (nI mrc), .int (nI mcl), .int (bz ov), .ref mW, .ref mQ, .ref mY, .ref mE, .ref mC, .ref mG, .int (nI ps), .int (nI 0), .int (-1), .int (nI fr), .ref mH])), (mO, .inl (cI, 100, .inl (fun z9 => mo_op (kd z9)))), (mT, .inl (cI, 100, .inl (fun z9 => nI (mo_s kd lf z9)))), (mF, .inl (cZ, 14, .inl (fun z9 => bz (fr.testBit z9)))), (mH, .inl (cZ, 100, .inl (fun z9 => bz (sh z9))))] := hD
  refine lv_iconst (v := nI 0) hx hb d_Mod_anew_18 (by decide +kernel) ?_
  refine lv_istore_n (lv' := [(1, .int (nI 0)), (0, .ref oM)]) hx hb d_Mod_anew_19 rfl hl (by decide) rfl (fun ls hl => ?_)
  refine bx_gen (fun V hV => ?_)
  have loop : ∀ (k9 i9 : Nat) (sh : Nat → Bool) (H : Heap) (locs : List Loc) (ls : Array Slot), i9 + k9 = n → (mo_fst kd lf fr sh i9) → va_P (dC, dI) vwCl [(oM, .inr (4, [.int th, .int (nI wb), .int (nI n), .int (nI sc), .int (nI np), .int (nI (n - wb - sc)), .ref mS, .ref mO, .ref mL, .ref mR, .ref mT, .ref mN, .ref mX, .ref mF, .ref mA, .ref mB, .ref mV, .int (nI mrc), .int (nI mcl), .int (bz ov), .ref mW, .ref mQ, .ref mY, .ref mE, .ref mC, .ref mG, .int (nI ps), .int (nI 0), .int (-1), .int (nI fr), .ref mH])), (mO, .inl (cI, 100, .inl (fun z9 => mo_op (kd z9)))), (mT, .inl (cI, 100, .inl (fun z9 => nI (mo_s kd lf z9)))), (mF, .inl (cZ, 14, .inl (fun z9 => bz (fr.testBit z9)))), (mH, .inl (cZ, 100, .inl (fun z9 => bz (sh z9))))] H → va_D A [(oM, .inr (4, [.int th, .int (nI wb), .int (nI n), .int (nI sc), .int (nI np), .int (nI (n - wb - sc)), .ref mS, .ref mO, .ref mL, .ref mR, .ref mT, .ref mN, .ref mX, .ref mF, .ref mA, .ref mB, .ref mV, .int (nI mrc), .int (nI mcl), .int (bz ov), .ref mW, .ref mQ, .ref mY, .ref mE, .ref mC, .ref mG, .int (nI ps), .int (nI 0), .int (-1), .int (nI fr), .ref mH])), (mO, .inl (cI, 100, .inl (fun z9 => mo_op (kd z9)))), (mT, .inl (cI, 100, .inl (fun z9 => nI (mo_s kd lf z9)))), (mF, .inl (cZ, 14, .inl (fun z9 => bz (fr.testBit z9)))), (mH, .inl (cZ, 100, .inl (fun z9 => bz (sh z9))))] → va_S A s.heap H locs → lv_has ls 2 [(0, .ref oM), (1, .int (nI i9))] → V H locs 0 0 (F0 m 20 ls []) := by
    intro k9
    induction k9 with
    | zero =>
      intro i9 sh H locs ls hik hi_s hP hD hS hl
      refine (hV _ _ _ _ _).mpr ?_
      refine lv_iload_n hx hb d_Mod_anew_20 rfl (lv_at hl 1 rfl) ?_
      refine lv_aload_n hx hb d_Mod_anew_21 rfl (lv_at hl 0 rfl) ?_
      refine va_get (D := (dC, dI)) (ci := 4) (v := .int (nI n)) (C := RX4) (T := TX4) (N := 31) hx hb hts in_X4 hown hK hP 0 rfl rfl 2 (by decide) (hts _ lk_Mod_72) (fun _ h9 => h9) rfl d_Mod_anew_22 ?_
      refine lv_icmp_ge (tgt := 70) hx hb d_Mod_anew_25 (by decide) (fun _ => ?_) (fun c9 => absurd (by rw [show i9 = n by omega]; exact nI_le (Nat.le_refl n) (by have := hwf.1; omega)) c9)
      have hP9 := hP
      have hD9 := hD
      exact W.vret hx hb hr (fun t ht hW => ⟨⟨sh, rfl, by rw [show n = i9 by omega]; exact hi_s, by rw [ht]; exact hP9, hD9⟩, hS.F ht⟩) hS.2.2 d_Mod_anew_70
    | succ k9 ih =>
      intro i9 sh H locs ls hik hi_s hP hD hS hl
      refine (hV _ _ _ _ _).mpr ?_
      refine lv_iload_n hx hb d_Mod_anew_20 rfl (lv_at hl 1 rfl) ?_
      refine lv_aload_n hx hb d_Mod_anew_21 rfl (lv_at hl 0 rfl) ?_
      refine va_get (D := (dC, dI)) (ci := 4) (v := .int (nI n)) (C := RX4) (T := TX4) (N := 31) hx hb hts in_X4 hown hK hP 0 rfl rfl 2 (by decide) (hts _ lk_Mod_72) (fun _ h9 => h9) rfl d_Mod_anew_22 ?_
      refine lv_icmp_ge (tgt := 70) hx hb d_Mod_anew_25 (by decide) (fun c9 => absurd c9 (nI_ge (by omega) (by have := hwf.1; omega))) (fun _ => ?_)
      have hb9 := hwf.1
      obtain ⟨g1, g2, g3, g4, g5⟩ := hwf.2 i9 (by omega)
      refine lv_aload_n hx hb d_Mod_anew_28 rfl (lv_at hl 0 rfl) ?_
      refine va_get (D := (dC, dI)) (ci := 4) (v := .ref mH) (C := RX4) (T := TX4) (N := 31) hx hb hts in_X4 hown hK hP 0 rfl rfl 30 (by decide) (hts _ lk_Mod_66) (fun _ h9 => h9) rfl d_Mod_anew_29 ?_
      refine lv_iload_n hx hb d_Mod_anew_32 rfl (lv_at hl 1 rfl) ?_
      refine lv_aload_n hx hb d_Mod_anew_33 rfl (lv_at hl 0 rfl) ?_
      refine va_get (D := (dC, dI)) (ci := 4) (v := .ref mO) (C := RX4) (T := TX4) (N := 31) hx hb hts in_X4 hown hK hP 0 rfl rfl 7 (by decide) (hts _ lk_Mod_13) (fun _ h9 => h9) rfl d_Mod_anew_34 ?_
      refine lv_iload_n hx hb d_Mod_anew_37 rfl (lv_at hl 1 rfl) ?_
      refine bx_iald hx hb hK hP 1 0 rfl rfl (k := i9) rfl (by omega) (by decide) d_Mod_anew_38 ?_
      refine lv_bipush (v := (-2)) hx hb d_Mod_anew_39 (by decide +kernel) ?_
      refine lv_icmp_ne (tgt := 62) hx hb d_Mod_anew_41 (by decide) (fun c_1 => ?_) (fun c_1 => ?_)
      · refine lv_iconst (v := nI 0) hx hb d_Mod_anew_62 (by decide +kernel) ?_
        refine bx_top (y := bz false) rfl ?_
        refine bx_zast hx hb hK hP hD hS 4 1 rfl rfl (k := i9) rfl (by omega) (by decide) (g := fun z9 => bz ((va_up sh i9 false) z9)) (bn_upB _ _ _) d_Mod_anew_63 (fun H locs hP hD hS => ?_)
        have hP : va_P (dC, dI) vwCl [(oM, .inr (4, [.int th, .int (nI wb), .int (nI n), .int (nI sc), .int (nI np), .int (nI (n - wb - sc)), .ref mS, .ref mO, .ref mL, .ref mR, .ref mT, .ref mN, .ref mX, .ref mF, .ref mA, .ref mB, .ref mV, .int (nI mrc), .int (nI mcl), .int (bz ov), .ref mW, .ref mQ, .ref mY, .ref mE, .ref mC, .ref mG, .int (nI ps), .int (nI 0), .int (-1), .int (nI fr), .ref mH])), (mO, .inl (cI, 100, .inl (fun z9 => mo_op (kd z9)))), (mT, .inl (cI, 100, .inl (fun z9 => nI (mo_s kd lf z9)))), (mF, .inl (cZ, 14, .inl (fun z9 => bz (fr.testBit z9)))), (mH, .inl (cZ, 100, .inl (fun z9 => bz ((va_up sh i9 false) z9))))] H := hP
        have hD : va_D A [(oM, .inr (4, [.int th, .int (nI wb), .int (nI n), .int (nI sc), .int (nI np), .int (nI (n - wb - sc)), .ref mS, .ref mO, .ref mL, .ref mR, .ref mT, .ref mN, .ref mX, .ref mF, .ref mA, .ref mB, .ref mV, .int (nI mrc), .int (nI mcl), .int (bz ov), .ref mW, .ref mQ, .ref mY, .ref mE, .ref mC, .ref mG, .int (nI ps), .int (nI 0), .int (-1), .int (nI fr), .ref mH])), (mO, .inl (cI, 100, .inl (fun z9 => mo_op (kd z9)))), (mT, .inl (cI, 100, .inl (fun z9 => nI (mo_s kd lf z9)))), (mF, .inl (cZ, 14, .inl (fun z9 => bz (fr.testBit z9)))), (mH, .inl (cZ, 100, .inl (fun z9 => bz ((va_up sh i9 false) z9))))] := hD
        refine lv_iinc (v := nI (i9 + 1)) (lv' := [(1, .int (nI (i9 + 1))), (0, .ref oM)]) hx hb d_Mod_anew_64 hl (k := 1) rfl (bx_inc _) (by decide) rfl (fun ls hl => ?_)
        refine lv_goto (tgt := 20) hx hb d_Mod_anew_67 (by decide) ?_
        exact (hV _ _ _ _ _).mp (ih (i9 + 1) (va_up sh i9 false) _ _ ls (by omega) (mo_fst_up hi_s (by rw [decide_eq_false (fun h => c_1 ((mo_op7 _ g1).mpr h))]; rfl)) hP hD hS (lv_sub hl [1, 0] rfl))
      · have g6 : kd i9 = 7 := (mo_op7 _ g1).mp c_1
        have g7 := g5 g6
        have g8 : mo_s kd lf i9 = lf i9 := if_pos g6
        refine lv_aload_n hx hb d_Mod_anew_44 rfl (lv_at hl 0 rfl) ?_
        refine va_get (D := (dC, dI)) (ci := 4) (v := .ref mF) (C := RX4) (T := TX4) (N := 31) hx hb hts in_X4 hown hK hP 0 rfl rfl 13 (by decide) (hts _ lk_Mod_31) (fun _ h9 => h9) rfl d_Mod_anew_45 ?_
        refine lv_aload_n hx hb d_Mod_anew_48 rfl (lv_at hl 0 rfl) ?_
        refine va_get (D := (dC, dI)) (ci := 4) (v := .ref mT) (C := RX4) (T := TX4) (N := 31) hx hb hts in_X4 hown hK hP 0 rfl rfl 10 (by decide) (hts _ lk_Mod_22) (fun _ h9 => h9) rfl d_Mod_anew_49 ?_
        refine lv_iload_n hx hb d_Mod_anew_52 rfl (lv_at hl 1 rfl) ?_
        refine bx_iald hx hb hK hP 2 0 rfl rfl (k := i9) rfl (by omega) (by decide) d_Mod_anew_53 ?_
        refine bx_zald hx hb hK hP 3 1 rfl rfl (k := (mo_s kd lf i9)) rfl (by rw [g8]; omega) (by decide) d_Mod_anew_54 ?_
        refine bx_top (y := bz (fr.testBit (lf i9))) (by rw [g8]) ?_
        refine lv_if_eq (tgt := 62) hx hb d_Mod_anew_55 (by decide) (fun c_2 => ?_) (fun c_2 => ?_)
        · refine lv_iconst (v := nI 0) hx hb d_Mod_anew_62 (by decide +kernel) ?_
          refine bx_top (y := bz false) rfl ?_
          refine bx_zast hx hb hK hP hD hS 4 1 rfl rfl (k := i9) rfl (by omega) (by decide) (g := fun z9 => bz ((va_up sh i9 false) z9)) (bn_upB _ _ _) d_Mod_anew_63 (fun H locs hP hD hS => ?_)
          have hP : va_P (dC, dI) vwCl [(oM, .inr (4, [.int th, .int (nI wb), .int (nI n), .int (nI sc), .int (nI np), .int (nI (n - wb - sc)), .ref mS, .ref mO, .ref mL, .ref mR, .ref mT, .ref mN, .ref mX, .ref mF, .ref mA, .ref mB, .ref mV, .int (nI mrc), .int (nI mcl), .int (bz ov), .ref mW, .ref mQ, .ref mY, .ref mE, .ref mC, .ref mG, .int (nI ps), .int (nI 0), .int (-1), .int (nI fr), .ref mH])), (mO, .inl (cI, 100, .inl (fun z9 => mo_op (kd z9)))), (mT, .inl (cI, 100, .inl (fun z9 => nI (mo_s kd lf z9)))), (mF, .inl (cZ, 14, .inl (fun z9 => bz (fr.testBit z9)))), (mH, .inl (cZ, 100, .inl (fun z9 => bz ((va_up sh i9 false) z9))))] H := hP
          have hD : va_D A [(oM, .inr (4, [.int th, .int (nI wb), .int (nI n), .int (nI sc), .int (nI np), .int (nI (n - wb - sc)), .ref mS, .ref mO, .ref mL, .ref mR, .ref mT, .ref mN, .ref mX, .ref mF, .ref mA, .ref mB, .ref mV, .int (nI mrc), .int (nI mcl), .int (bz ov), .ref mW, .ref mQ, .ref mY, .ref mE, .ref mC, .ref mG, .int (nI ps), .int (nI 0), .int (-1), .int (nI fr), .ref mH])), (mO, .inl (cI, 100, .inl (fun z9 => mo_op (kd z9)))), (mT, .inl (cI, 100, .inl (fun z9 => nI (mo_s kd lf z9)))), (mF, .inl (cZ, 14, .inl (fun z9 => bz (fr.testBit z9)))), (mH, .inl (cZ, 100, .inl (fun z9 => bz ((va_up sh i9 false) z9))))] := hD
          refine lv_iinc (v := nI (i9 + 1)) (lv' := [(1, .int (nI (i9 + 1))), (0, .ref oM)]) hx hb d_Mod_anew_64 hl (k := 1) rfl (bx_inc _) (by decide) rfl (fun ls hl => ?_)
          refine lv_goto (tgt := 20) hx hb d_Mod_anew_67 (by decide) ?_
          exact (hV _ _ _ _ _).mp (ih (i9 + 1) (va_up sh i9 false) _ _ ls (by omega) (mo_fst_up hi_s (by rw [(bz_0 _).mp c_2, Bool.and_false])) hP hD hS (lv_sub hl [1, 0] rfl))
        · refine lv_iconst (v := nI 1) hx hb d_Mod_anew_58 (by decide +kernel) ?_
          refine lv_goto (tgt := 63) hx hb d_Mod_anew_59 (by decide) ?_
          refine bx_top (y := bz true) rfl ?_
          refine bx_zast hx hb hK hP hD hS 4 1 rfl rfl (k := i9) rfl (by omega) (by decide) (g := fun z9 => bz ((va_up sh i9 true) z9)) (bn_upB _ _ _) d_Mod_anew_63 (fun H locs hP hD hS => ?_)
          have hP : va_P (dC, dI) vwCl [(oM, .inr (4, [.int th, .int (nI wb), .int (nI n), .int (nI sc), .int (nI np), .int (nI (n - wb - sc)), .ref mS, .ref mO, .ref mL, .ref mR, .ref mT, .ref mN, .ref mX, .ref mF, .ref mA, .ref mB, .ref mV, .int (nI mrc), .int (nI mcl), .int (bz ov), .ref mW, .ref mQ, .ref mY, .ref mE, .ref mC, .ref mG, .int (nI ps), .int (nI 0), .int (-1), .int (nI fr), .ref mH])), (mO, .inl (cI, 100, .inl (fun z9 => mo_op (kd z9)))), (mT, .inl (cI, 100, .inl (fun z9 => nI (mo_s kd lf z9)))), (mF, .inl (cZ, 14, .inl (fun z9 => bz (fr.testBit z9)))), (mH, .inl (cZ, 100, .inl (fun z9 => bz ((va_up sh i9 true) z9))))] H := hP
          have hD : va_D A [(oM, .inr (4, [.int th, .int (nI wb), .int (nI n), .int (nI sc), .int (nI np), .int (nI (n - wb - sc)), .ref mS, .ref mO, .ref mL, .ref mR, .ref mT, .ref mN, .ref mX, .ref mF, .ref mA, .ref mB, .ref mV, .int (nI mrc), .int (nI mcl), .int (bz ov), .ref mW, .ref mQ, .ref mY, .ref mE, .ref mC, .ref mG, .int (nI ps), .int (nI 0), .int (-1), .int (nI fr), .ref mH])), (mO, .inl (cI, 100, .inl (fun z9 => mo_op (kd z9)))), (mT, .inl (cI, 100, .inl (fun z9 => nI (mo_s kd lf z9)))), (mF, .inl (cZ, 14, .inl (fun z9 => bz (fr.testBit z9)))), (mH, .inl (cZ, 100, .inl (fun z9 => bz ((va_up sh i9 true) z9))))] := hD
          refine lv_iinc (v := nI (i9 + 1)) (lv' := [(1, .int (nI (i9 + 1))), (0, .ref oM)]) hx hb d_Mod_anew_64 hl (k := 1) rfl (bx_inc _) (by decide) rfl (fun ls hl => ?_)
          refine lv_goto (tgt := 20) hx hb d_Mod_anew_67 (by decide) ?_
          exact (hV _ _ _ _ _).mp (ih (i9 + 1) (va_up sh i9 true) _ _ ls (by omega) (mo_fst_up hi_s (by rw [(bz_n0 _).mp c_2, decide_eq_true g6]; rfl)) hP hD hS (lv_sub hl [1, 0] rfl))
  exact loop n 0 sh _ _ ls (Nat.zero_add _) (mo_fst_0 _ _ _ _) hP hD hS (lv_sub hl [1, 0] rfl)

set_option maxHeartbeats 4000000 in
set_option maxRecDepth 100000 in
theorem k_Mod_forget (l : Launch) (dC : Nat → ClassId) (dI : Nat → Nat → Nat) (cI cZ cJ : ClassId) (sz : Nat) (oM mS mO mL mR mT mN mX mF mA mB mV mW mQ mY mE mC mG mH : Nat) (wb n sc s1 np fr : Nat) (kd lf rt nx pl pr : Nat → Nat) (th : Int32) (no : Nat → Nat) (tr : Nat → Bool) (mrc mcl : Nat) (ov : Bool) (mw : Nat → Nat) (mq : Nat → Int32) (mb lb : Nat → Nat) (cm : Nat → Bool) (mg : Nat → Nat) (ps cy : Nat) (df : Int32) (hw9 : Nat) (sh : Nat → Bool) (hwf : bm_wf wb n sc kd lf rt) (hfr : fr < 2 ^ sc) (hrc : mrc ≤ 16384) (hmw : ∀ k, k < mrc → mw k < 16384) (hcm : ∀ q, q < 16384 → cm q = true → ∃ k, 0 ≤ k ∧ k < mrc ∧ mw k = q) : Met l y_Mod_forget (bw y_Mod_forget b_Mod_forget 2 (none)) ({ frames := 2, cells := 0, slots := 0, locals := 43 }) (bx_pW dC dI cI cZ cJ [.ref oM] [(oM, .inr (4, [.int th, .int (nI wb), .int (nI n), .int (nI sc), .int (nI np), .int (nI (n - wb - sc)), .ref mS, .ref mO, .ref mL, .ref mR, .ref mT, .ref mN, .ref mX, .ref mF, .ref mA, .ref mB, .ref mV, .int (nI mrc), .int (nI mcl), .int (bz ov), .ref mW, .ref mQ, .ref mY, .ref mE, .ref mC, .ref mG, .int (nI ps), .int (nI cy), .int df, .int (nI hw9), .ref mH])), (mO, .inl (cI, 100, .inl (fun z9 => mo_op (kd z9)))), (mT, .inl (cI, 100, .inl (fun z9 => nI (mo_s kd lf z9)))), (mF, .inl (cZ, 14, .inl (fun z9 => bz (fr.testBit z9)))), (mW, .inl (cI, 16384, .inl (fun z9 => nI (mw z9)))), (mC, .inl (cZ, 16384, .inl (fun z9 => bz (cm z9)))), (mH, .inl (cZ, 100, .inl (fun z9 => bz (sh z9))))] sz) (va_Qv (fun (u9 : (Nat → Bool) × (Nat → Bool)) => match u9 with | (cm2, sh2) => (∀ q, q < 16384 → cm2 q = false) ∧ mo_fst kd lf fr sh2 n) (bx_B dC dI (va_A [(oM, .inr (4, [.int th, .int (nI wb), .int (nI n), .int (nI sc), .int (nI np), .int (nI (n - wb - sc)), .ref mS, .ref mO, .ref mL, .ref mR, .ref mT, .ref mN, .ref mX, .ref mF, .ref mA, .ref mB, .ref mV, .int (nI mrc), .int (nI mcl), .int (bz ov), .ref mW, .ref mQ, .ref mY, .ref mE, .ref mC, .ref mG, .int (nI ps), .int (nI cy), .int df, .int (nI hw9), .ref mH])), (mO, .inl (cI, 100, .inl (fun z9 => mo_op (kd z9)))), (mT, .inl (cI, 100, .inl (fun z9 => nI (mo_s kd lf z9)))), (mF, .inl (cZ, 14, .inl (fun z9 => bz (fr.testBit z9)))), (mW, .inl (cI, 16384, .inl (fun z9 => nI (mw z9)))), (mC, .inl (cZ, 16384, .inl (fun z9 => bz (cm z9)))), (mH, .inl (cZ, 100, .inl (fun z9 => bz (sh z9))))] sz) (fun (u9 : (Nat → Bool) × (Nat → Bool)) => match u9 with | (cm2, sh2) => ([(oM, .inr (4, [.int th, .int (nI wb), .int (nI n), .int (nI sc), .int (nI np), .int (nI (n - wb - sc)), .ref mS, .ref mO, .ref mL, .ref mR, .ref mT, .ref mN, .ref mX, .ref mF, .ref mA, .ref mB, .ref mV, .int (nI 0), .int (nI 0), .int (bz false), .ref mW, .ref mQ, .ref mY, .ref mE, .ref mC, .ref mG, .int (nI 0), .int (nI 0), .int (-1), .int (nI fr), .ref mH])), (mO, .inl (cI, 100, .inl (fun z9 => mo_op (kd z9)))), (mT, .inl (cI, 100, .inl (fun z9 => nI (mo_s kd lf z9)))), (mF, .inl (cZ, 14, .inl (fun z9 => bz (fr.testBit z9)))), (mW, .inl (cI, 16384, .inl (fun z9 => nI (mw z9)))), (mC, .inl (cZ, 16384, .inl (fun z9 => bz (cm2 z9)))), (mH, .inl (cZ, 100, .inl (fun z9 => bz (sh2 z9))))] : va_W))) (va_A [(oM, .inr (4, [.int th, .int (nI wb), .int (nI n), .int (nI sc), .int (nI np), .int (nI (n - wb - sc)), .ref mS, .ref mO, .ref mL, .ref mR, .ref mT, .ref mN, .ref mX, .ref mF, .ref mA, .ref mB, .ref mV, .int (nI mrc), .int (nI mcl), .int (bz ov), .ref mW, .ref mQ, .ref mY, .ref mE, .ref mC, .ref mG, .int (nI ps), .int (nI cy), .int df, .int (nI hw9), .ref mH])), (mO, .inl (cI, 100, .inl (fun z9 => mo_op (kd z9)))), (mT, .inl (cI, 100, .inl (fun z9 => nI (mo_s kd lf z9)))), (mF, .inl (cZ, 14, .inl (fun z9 => bz (fr.testBit z9)))), (mW, .inl (cI, 16384, .inl (fun z9 => nI (mw z9)))), (mC, .inl (cZ, 16384, .inl (fun z9 => bz (cm z9)))), (mH, .inl (cZ, 100, .inl (fun z9 => bz (sh z9))))] sz)) 0 0 (va_A [(oM, .inr (4, [.int th, .int (nI wb), .int (nI n), .int (nI sc), .int (nI np), .int (nI (n - wb - sc)), .ref mS, .ref mO, .ref mL, .ref mR, .ref mT, .ref mN, .ref mX, .ref mF, .ref mA, .ref mB, .ref mV, .int (nI mrc), .int (nI mcl), .int (bz ov), .ref mW, .ref mQ, .ref mY, .ref mE, .ref mC, .ref mG, .int (nI ps), .int (nI cy), .int df, .int (nI hw9), .ref mH])), (mO, .inl (cI, 100, .inl (fun z9 => mo_op (kd z9)))), (mT, .inl (cI, 100, .inl (fun z9 => nI (mo_s kd lf z9)))), (mF, .inl (cZ, 14, .inl (fun z9 => bz (fr.testBit z9)))), (mW, .inl (cI, 16384, .inl (fun z9 => nI (mw z9)))), (mC, .inl (cZ, 16384, .inl (fun z9 => bz (cm z9)))), (mH, .inl (cZ, 100, .inl (fun z9 => bz (sh z9))))] sz) := by
  refine Met.ofW (cc := b_Mod_forget) (maxL := 2) (ret := none) (by decide) rfl ?_
  intro p e s m args below meth c s₁ B hml hv
  obtain ⟨rfl, hsz, hE, hP, hD0⟩ := hv
  have hx := B.exec
  have hb := B.bytes
  have hr := B.returns
  have hts9 := atoms_spec (ws := (bw y_Mod_forget b_Mod_forget 2 (none))) B.pre
  have hts : ∀ w ∈ gw, w.before _ s = true := fun w h => hts9 w (List.mem_cons_of_mem _ h)
  have hown : s.vm.findClass RX4 = some m.cls := findClass_of_methodNamed B.named
  have hlocks := B.notSynchronized
  subst hsz
  have hD := hD0.self (sz := s.heap.size)
  generalize hAe : va_A [(oM, .inr (4, [.int th, .int (nI wb), .int (nI n), .int (nI sc), .int (nI np), .int (nI (n - wb - sc)), .ref mS, .ref mO, .ref mL, .ref mR, .ref mT, .ref mN, .ref mX, .ref mF, .ref mA, .ref mB, .ref mV, .int (nI mrc), .int (nI mcl), .int (bz ov), .ref mW, .ref mQ, .ref mY, .ref mE, .ref mC, .ref mG, .int (nI ps), .int (nI cy), .int df, .int (nI hw9), .ref mH])), (mO, .inl (cI, 100, .inl (fun z9 => mo_op (kd z9)))), (mT, .inl (cI, 100, .inl (fun z9 => nI (mo_s kd lf z9)))), (mF, .inl (cZ, 14, .inl (fun z9 => bz (fr.testBit z9)))), (mW, .inl (cI, 16384, .inl (fun z9 => nI (mw z9)))), (mC, .inl (cZ, 16384, .inl (fun z9 => bz (cm z9)))), (mH, .inl (cZ, 100, .inl (fun z9 => bz (sh z9))))] s.heap.size = A at hE hD ⊢
  have hA : ∀ q : Nat, s.heap.size ≤ q → A q := fun q h => by rw [← hAe]; exact Or.inr h
  have hS : va_S A s.heap s.heap [] := va_S.rf
  have hK := hE.1
  have hN := hE.2.1
  have hP : va_P (dC, dI) vwCl [(oM, .inr (4, [.int th, .int (nI wb), .int (nI n), .int (nI sc), .int (nI np), .int (nI (n - wb - sc)), .ref mS, .ref mO, .ref mL, .ref mR, .ref mT, .ref mN, .ref mX, .ref mF, .ref mA, .ref mB, .ref mV, .int (nI mrc), .int (nI mcl), .int (bz ov), .ref mW, .ref mQ, .ref mY, .ref mE, .ref mC, .ref mG, .int (nI ps), .int (nI cy), .int df, .int (nI hw9), .ref mH])), (mO, .inl (cI, 100, .inl (fun z9 => mo_op (kd z9)))), (mT, .inl (cI, 100, .inl (fun z9 => nI (mo_s kd lf z9)))), (mF, .inl (cZ, 14, .inl (fun z9 => bz (fr.testBit z9)))), (mW, .inl (cI, 16384, .inl (fun z9 => nI (mw z9)))), (mC, .inl (cZ, 16384, .inl (fun z9 => bz (cm z9)))), (mH, .inl (cZ, 100, .inl (fun z9 => bz (sh z9))))] s.heap := hP
  have hl := lv_entry ([.ref oM]) (n := 2) (Nat.le_of_ble_eq_true rfl)
  rw [lg_entry_eq]
  generalize (lg_sl ([.ref oM]) ++ List.replicate (2 - (lg_sl ([.ref oM])).length) Slot.unset).toArray = ls at hl ⊢
  have hl : lv_has ls 2 [(0, .ref oM)] := hl
  refine lv_iconst (v := nI 0) hx hb d_Mod_forget_0 (by decide +kernel) ?_
  refine lv_istore_n (lv' := [(1, .int (nI 0)), (0, .ref oM)]) hx hb d_Mod_forget_1 rfl hl (by decide) rfl (fun ls hl => ?_)
  refine bx_gen (fun V hV => ?_)
  have loop : ∀ (k9 i9 : Nat) (cm : Nat → Bool) (H : Heap) (locs : List Loc) (ls : Array Slot), i9 + k9 = mrc → (∀ q, q < 16384 → cm q = true → ∃ k, i9 ≤ k ∧ k < mrc ∧ mw k = q) → va_P (dC, dI) vwCl [(oM, .inr (4, [.int th, .int (nI wb), .int (nI n), .int (nI sc), .int (nI np), .int (nI (n - wb - sc)), .ref mS, .ref mO, .ref mL, .ref mR, .ref mT, .ref mN, .ref mX, .ref mF, .ref mA, .ref mB, .ref mV, .int (nI mrc), .int (nI mcl), .int (bz ov), .ref mW, .ref mQ, .ref mY, .ref mE, .ref mC, .ref mG, .int (nI ps), .int (nI cy), .int df, .int (nI hw9), .ref mH])), (mO, .inl (cI, 100, .inl (fun z9 => mo_op (kd z9)))), (mT, .inl (cI, 100, .inl (fun z9 => nI (mo_s kd lf z9)))), (mF, .inl (cZ, 14, .inl (fun z9 => bz (fr.testBit z9)))), (mW, .inl (cI, 16384, .inl (fun z9 => nI (mw z9)))), (mC, .inl (cZ, 16384, .inl (fun z9 => bz (cm z9)))), (mH, .inl (cZ, 100, .inl (fun z9 => bz (sh z9))))] H → va_D A [(oM, .inr (4, [.int th, .int (nI wb), .int (nI n), .int (nI sc), .int (nI np), .int (nI (n - wb - sc)), .ref mS, .ref mO, .ref mL, .ref mR, .ref mT, .ref mN, .ref mX, .ref mF, .ref mA, .ref mB, .ref mV, .int (nI mrc), .int (nI mcl), .int (bz ov), .ref mW, .ref mQ, .ref mY, .ref mE, .ref mC, .ref mG, .int (nI ps), .int (nI cy), .int df, .int (nI hw9), .ref mH])), (mO, .inl (cI, 100, .inl (fun z9 => mo_op (kd z9)))), (mT, .inl (cI, 100, .inl (fun z9 => nI (mo_s kd lf z9)))), (mF, .inl (cZ, 14, .inl (fun z9 => bz (fr.testBit z9)))), (mW, .inl (cI, 16384, .inl (fun z9 => nI (mw z9)))), (mC, .inl (cZ, 16384, .inl (fun z9 => bz (cm z9)))), (mH, .inl (cZ, 100, .inl (fun z9 => bz (sh z9))))] → va_S A s.heap H locs → lv_has ls 2 [(0, .ref oM), (1, .int (nI i9))] → V H locs 0 0 (F0 m 2 ls []) := by
    intro k9
    induction k9 with
    | zero =>
      intro i9 cm H locs ls hik hi_c hP hD hS hl
      refine (hV _ _ _ _ _).mpr ?_
      refine lv_iload_n hx hb d_Mod_forget_2 rfl (lv_at hl 1 rfl) ?_
      refine lv_aload_n hx hb d_Mod_forget_3 rfl (lv_at hl 0 rfl) ?_
      refine va_get (D := (dC, dI)) (ci := 4) (v := .int (nI mrc)) (C := RX4) (T := TX4) (N := 31) hx hb hts in_X4 hown hK hP 0 rfl rfl 17 (by decide) (hts _ lk_Mod_81) (fun _ h9 => h9) rfl d_Mod_forget_4 ?_
      refine lv_icmp_ge (tgt := 28) hx hb d_Mod_forget_7 (by decide) (fun _ => ?_) (fun c9 => absurd (by rw [show i9 = mrc by omega]; exact nI_le (Nat.le_refl mrc) (by omega)) c9)
      refine lv_aload_n hx hb d_Mod_forget_28 rfl (lv_at hl 0 rfl) ?_
      refine lv_iconst (v := nI 0) hx hb d_Mod_forget_29 (by decide +kernel) ?_
      refine va_put (D := (dC, dI)) (ci := 4) (v := .int (nI 0)) (ty := .int) (C := RX4) (T := TX4) (N := 31) hx hb hts in_X4 tyX4 tyX4_ok nmX4 hown hK hP hD hS 0 rfl rfl 17 (by decide) (hts _ lk_Mod_81) (fun _ h9 => h9) rfl (by decide +kernel) rfl rfl (Nat.le_of_ble_eq_true rfl) d_Mod_forget_30 (fun H locs hP hD hS => ?_)
      have hP : va_P (dC, dI) vwCl [(oM, .inr (4, [.int th, .int (nI wb), .int (nI n), .int (nI sc), .int (nI np), .int (nI (n - wb - sc)), .ref mS, .ref mO, .ref mL, .ref mR, .ref mT, .ref mN, .ref mX, .ref mF, .ref mA, .ref mB, .ref mV, .int (nI 0), .int (nI mcl), .int (bz ov), .ref mW, .ref mQ, .ref mY, .ref mE, .ref mC, .ref mG, .int (nI ps), .int (nI cy), .int df, .int (nI hw9), .ref mH])), (mO, .inl (cI, 100, .inl (fun z9 => mo_op (kd z9)))), (mT, .inl (cI, 100, .inl (fun z9 => nI (mo_s kd lf z9)))), (mF, .inl (cZ, 14, .inl (fun z9 => bz (fr.testBit z9)))), (mW, .inl (cI, 16384, .inl (fun z9 => nI (mw z9)))), (mC, .inl (cZ, 16384, .inl (fun z9 => bz (cm z9)))), (mH, .inl (cZ, 100, .inl (fun z9 => bz (sh z9))))] H := hP
      have hD : va_D A [(oM, .inr (4, [.int th, .int (nI wb), .int (nI n), .int (nI sc), .int (nI np), .int (nI (n - wb - sc)), .ref mS, .ref mO, .ref mL, .ref mR, .ref mT, .ref mN, .ref mX, .ref mF, .ref mA, .ref mB, .ref mV, .int (nI 0), .int (nI mcl), .int (bz ov), .ref mW, .ref mQ, .ref mY, .ref mE, .ref mC, .ref mG, .int (nI ps), .int (nI cy), .int df, .int (nI hw9), .ref mH])), (mO, .inl (cI, 100, .inl (fun z9 => mo_op (kd z9)))), (mT, .inl (cI, 100, .inl (fun z9 => nI (mo_s kd lf z9)))), (mF, .inl (cZ, 14, .inl (fun z9 => bz (fr.testBit z9)))), (mW, .inl (cI, 16384, .inl (fun z9 => nI (mw z9)))), (mC, .inl (cZ, 16384, .inl (fun z9 => bz (cm z9)))), (mH, .inl (cZ, 100, .inl (fun z9 => bz (sh z9))))] := hD
      refine lv_aload_n hx hb d_Mod_forget_33 rfl (lv_at hl 0 rfl) ?_
      refine lv_iconst (v := nI 0) hx hb d_Mod_forget_34 (by decide +kernel) ?_
      refine va_put (D := (dC, dI)) (ci := 4) (v := .int (nI 0)) (ty := .int) (C := RX4) (T := TX4) (N := 31) hx hb hts in_X4 tyX4 tyX4_ok nmX4 hown hK hP hD hS 0 rfl rfl 18 (by decide) (hts _ lk_Mod_84) (fun _ h9 => h9) rfl (by decide +kernel) rfl rfl (Nat.le_of_ble_eq_true rfl) d_Mod_forget_35 (fun H locs hP hD hS => ?_)
      have hP : va_P (dC, dI) vwCl [(oM, .inr (4, [.int th, .int (nI wb), .int (nI n), .int (nI sc), .int (nI np), .int (nI (n - wb - sc)), .ref mS, .ref mO, .ref mL, .ref mR, .ref mT, .ref mN, .ref mX, .ref mF, .ref mA, .ref mB, .ref mV, .int (nI 0), .int (nI 0), .int (bz ov), .ref mW, .ref mQ, .ref mY, .ref mE, .ref mC, .ref mG, .int (nI ps), .int (nI cy), .int df, .int (nI hw9), .ref mH])), (mO, .inl (cI, 100, .inl (fun z9 => mo_op (kd z9)))), (mT, .inl (cI, 100, .inl (fun z9 => nI (mo_s kd lf z9)))), (mF, .inl (cZ, 14, .inl (fun z9 => bz (fr.testBit z9)))), (mW, .inl (cI, 16384, .inl (fun z9 => nI (mw z9)))), (mC, .inl (cZ, 16384, .inl (fun z9 => bz (cm z9)))), (mH, .inl (cZ, 100, .inl (fun z9 => bz (sh z9))))] H := hP
      have hD : va_D A [(oM, .inr (4, [.int th, .int (nI wb), .int (nI n), .int (nI sc), .int (nI np), .int (nI (n - wb - sc)), .ref mS, .ref mO, .ref mL, .ref mR, .ref mT, .ref mN, .ref mX, .ref mF, .ref mA, .ref mB, .ref mV, .int (nI 0), .int (nI 0), .int (bz ov), .ref mW, .ref mQ, .ref mY, .ref mE, .ref mC, .ref mG, .int (nI ps), .int (nI cy), .int df, .int (nI hw9), .ref mH])), (mO, .inl (cI, 100, .inl (fun z9 => mo_op (kd z9)))), (mT, .inl (cI, 100, .inl (fun z9 => nI (mo_s kd lf z9)))), (mF, .inl (cZ, 14, .inl (fun z9 => bz (fr.testBit z9)))), (mW, .inl (cI, 16384, .inl (fun z9 => nI (mw z9)))), (mC, .inl (cZ, 16384, .inl (fun z9 => bz (cm z9)))), (mH, .inl (cZ, 100, .inl (fun z9 => bz (sh z9))))] := hD
      refine lv_aload_n hx hb d_Mod_forget_38 rfl (lv_at hl 0 rfl) ?_
      refine lv_iconst (v := nI 0) hx hb d_Mod_forget_39 (by decide +kernel) ?_
      refine bx_top (y := bz false) rfl ?_
      refine va_put (D := (dC, dI)) (ci := 4) (v := .int (bz false)) (ty := .boolean) (C := RX4) (T := TX4) (N := 31) hx hb hts in_X4 tyX4 tyX4_ok nmX4 hown hK hP hD hS 0 rfl rfl 19 (by decide) (hts _ lk_Mod_87) (fun _ h9 => h9) rfl (by decide +kernel) (bz_nar _) (bz_fit _) (Nat.le_of_ble_eq_true rfl) d_Mod_forget_40 (fun H locs hP hD hS => ?_)
      have hP : va_P (dC, dI) vwCl [(oM, .inr (4, [.int th, .int (nI wb), .int (nI n), .int (nI sc), .int (nI np), .int (nI (n - wb - sc)), .ref mS, .ref mO, .ref mL, .ref mR, .ref mT, .ref mN, .ref mX, .ref mF, .ref mA, .ref mB, .ref mV, .int (nI 0), .int (nI 0), .int (bz false), .ref mW, .ref mQ, .ref mY, .ref mE, .ref mC, .ref mG, .int (nI ps), .int (nI cy), .int df, .int (nI hw9), .ref mH])), (mO, .inl (cI, 100, .inl (fun z9 => mo_op (kd z9)))), (mT, .inl (cI, 100, .inl (fun z9 => nI (mo_s kd lf z9)))), (mF, .inl (cZ, 14, .inl (fun z9 => bz (fr.testBit z9)))), (mW, .inl (cI, 16384, .inl (fun z9 => nI (mw z9)))), (mC, .inl (cZ, 16384, .inl (fun z9 => bz (cm z9)))), (mH, .inl (cZ, 100, .inl (fun z9 => bz (sh z9))))] H := hP
      have hD : va_D A [(oM, .inr (4, [.int th, .int (nI wb), .int (nI n), .int (nI sc), .int (nI np), .int (nI (n - wb - sc)), .ref mS, .ref mO, .ref mL, .ref mR, .ref mT, .ref mN, .ref mX, .ref mF, .ref mA, .ref mB, .ref mV, .int (nI 0), .int (nI 0), .int (bz false), .ref mW, .ref mQ, .ref mY, .ref mE, .ref mC, .ref mG, .int (nI ps), .int (nI cy), .int df, .int (nI hw9), .ref mH])), (mO, .inl (cI, 100, .inl (fun z9 => mo_op (kd z9)))), (mT, .inl (cI, 100, .inl (fun z9 => nI (mo_s kd lf z9)))), (mF, .inl (cZ, 14, .inl (fun z9 => bz (fr.testBit z9)))), (mW, .inl (cI, 16384, .inl (fun z9 => nI (mw z9)))), (mC, .inl (cZ, 16384, .inl (fun z9 => bz (cm z9)))), (mH, .inl (cZ, 100, .inl (fun z9 => bz (sh z9))))] := hD
      refine lv_aload_n hx hb d_Mod_forget_43 rfl (lv_at hl 0 rfl) ?_
      refine lv_iconst (v := nI 0) hx hb d_Mod_forget_44 (by decide +kernel) ?_
      refine va_put (D := (dC, dI)) (ci := 4) (v := .int (nI 0)) (ty := .int) (C := RX4) (T := TX4) (N := 31) hx hb hts in_X4 tyX4 tyX4_ok nmX4 hown hK hP hD hS 0 rfl rfl 26 (by decide) (hts _ lk_Mod_91) (fun _ h9 => h9) rfl (by decide +kernel) rfl rfl (Nat.le_of_ble_eq_true rfl) d_Mod_forget_45 (fun H locs hP hD hS => ?_)
      have hP : va_P (dC, dI) vwCl [(oM, .inr (4, [.int th, .int (nI wb), .int (nI n), .int (nI sc), .int (nI np), .int (nI (n - wb - sc)), .ref mS, .ref mO, .ref mL, .ref mR, .ref mT, .ref mN, .ref mX, .ref mF, .ref mA, .ref mB, .ref mV, .int (nI 0), .int (nI 0), .int (bz false), .ref mW, .ref mQ, .ref mY, .ref mE, .ref mC, .ref mG, .int (nI 0), .int (nI cy), .int df, .int (nI hw9), .ref mH])), (mO, .inl (cI, 100, .inl (fun z9 => mo_op (kd z9)))), (mT, .inl (cI, 100, .inl (fun z9 => nI (mo_s kd lf z9)))), (mF, .inl (cZ, 14, .inl (fun z9 => bz (fr.testBit z9)))), (mW, .inl (cI, 16384, .inl (fun z9 => nI (mw z9)))), (mC, .inl (cZ, 16384, .inl (fun z9 => bz (cm z9)))), (mH, .inl (cZ, 100, .inl (fun z9 => bz (sh z9))))] H := hP
      have hD : va_D A [(oM, .inr (4, [.int th, .int (nI wb), .int (nI n), .int (nI sc), .int (nI np), .int (nI (n - wb - sc)), .ref mS, .ref mO, .ref mL, .ref mR, .ref mT, .ref mN, .ref mX, .ref mF, .ref mA, .ref mB, .ref mV, .int (nI 0), .int (nI 0), .int (bz false), .ref mW, .ref mQ, .ref mY, .ref mE, .ref mC, .ref mG, .int (nI 0), .int (nI cy), .int df, .int (nI hw9), .ref mH])), (mO, .inl (cI, 100, .inl (fun z9 => mo_op (kd z9)))), (mT, .inl (cI, 100, .inl (fun z9 => nI (mo_s kd lf z9)))), (mF, .inl (cZ, 14, .inl (fun z9 => bz (fr.testBit z9)))), (mW, .inl (cI, 16384, .inl (fun z9 => nI (mw z9)))), (mC, .inl (cZ, 16384, .inl (fun z9 => bz (cm z9)))), (mH, .inl (cZ, 100, .inl (fun z9 => bz (sh z9))))] := hD
      refine lv_aload_n hx hb d_Mod_forget_48 rfl (lv_at hl 0 rfl) ?_
      have hPc := hP.sub (ws' := [(oM, .inr (4, [.int th, .int (nI wb), .int (nI n), .int (nI sc), .int (nI np), .int (nI (n - wb - sc)), .ref mS, .ref mO, .ref mL, .ref mR, .ref mT, .ref mN, .ref mX, .ref mF, .ref mA, .ref mB, .ref mV, .int (nI 0), .int (nI 0), .int (bz false), .ref mW, .ref mQ, .ref mY, .ref mE, .ref mC, .ref mG, .int (nI 0), .int (nI cy), .int df, .int (nI hw9), .ref mH])), (mO, .inl (cI, 100, .inl (fun z9 => mo_op (kd z9)))), (mT, .inl (cI, 100, .inl (fun z9 => nI (mo_s kd lf z9)))), (mF, .inl (cZ, 14, .inl (fun z9 => bz (fr.testBit z9)))), (mH, .inl (cZ, 100, .inl (fun z9 => bz (sh z9))))]) [0, 1, 2, 3, 6] rfl
      have hDc := hD.sub (ws' := [(oM, .inr (4, [.int th, .int (nI wb), .int (nI n), .int (nI sc), .int (nI np), .int (nI (n - wb - sc)), .ref mS, .ref mO, .ref mL, .ref mR, .ref mT, .ref mN, .ref mX, .ref mF, .ref mA, .ref mB, .ref mV, .int (nI 0), .int (nI 0), .int (bz false), .ref mW, .ref mQ, .ref mY, .ref mE, .ref mC, .ref mG, .int (nI 0), .int (nI cy), .int df, .int (nI hw9), .ref mH])), (mO, .inl (cI, 100, .inl (fun z9 => mo_op (kd z9)))), (mT, .inl (cI, 100, .inl (fun z9 => nI (mo_s kd lf z9)))), (mF, .inl (cZ, 14, .inl (fun z9 => bz (fr.testBit z9)))), (mH, .inl (cZ, 100, .inl (fun z9 => bz (sh z9))))]) [0, 1, 2, 3, 6] (by decide) rfl
      have hFc := va_free (wc := [(oM, .inr (4, [.int th, .int (nI wb), .int (nI n), .int (nI sc), .int (nI np), .int (nI (n - wb - sc)), .ref mS, .ref mO, .ref mL, .ref mR, .ref mT, .ref mN, .ref mX, .ref mF, .ref mA, .ref mB, .ref mV, .int (nI 0), .int (nI 0), .int (bz false), .ref mW, .ref mQ, .ref mY, .ref mE, .ref mC, .ref mG, .int (nI 0), .int (nI cy), .int df, .int (nI hw9), .ref mH])), (mO, .inl (cI, 100, .inl (fun z9 => mo_op (kd z9)))), (mT, .inl (cI, 100, .inl (fun z9 => nI (mo_s kd lf z9)))), (mF, .inl (cZ, 14, .inl (fun z9 => bz (fr.testBit z9)))), (mH, .inl (cZ, 100, .inl (fun z9 => bz (sh z9))))]) hD hS hA [0, 1, 2, 3, 6] rfl
      refine va_callv (va_runV (As := []) (rest := []) ⟨hx, hb, hml, hown, hts⟩ (k_Mod_anew l dC dI cI cZ cJ H.size oM mS mO mL mR mT mN mX mF mA mB mV mW mQ mY mE mC mG mH wb n sc s1 np fr kd lf rt nx pl pr th no tr 0 0 false mw mq mb lb cm mg 0 cy df hw9 sh hwf hfr) (bx_cV (n := 0) hts mc_Mod_anew lk_Mod_94 mi_Mod_anew ms_Mod_anew ini_Mod (by decide +kernel) ⟨Nat.le_of_ble_eq_true rfl, Nat.le_of_ble_eq_true rfl⟩) (bx_pwV hE hS hPc hDc hFc (ci := 4) (q0 := 0) rfl rfl) rfl rfl hl.1 rfl (lv_room (Nat.le_of_ble_eq_true rfl)) d_Mod_forget_49 ⟨Nat.le_of_ble_eq_true rfl, Nat.le_of_ble_eq_true rfl⟩) hS (fun q _ h => hFc q h) hFc (fun sh2 t H1 locs ht hvm hw hB hz1 hk1 hS => ?_)
      obtain ⟨hP1, hD1⟩ := hB
      rw [ht] at hP1
      obtain ⟨hP, hD⟩ := va_join (wr := [(mW, .inl (cI, 16384, .inl (fun z9 => nI (mw z9)))), (mC, .inl (cZ, 16384, .inl (fun z9 => bz (cm z9))))]) (w1 := [(oM, .inr (4, [.int th, .int (nI wb), .int (nI n), .int (nI sc), .int (nI np), .int (nI (n - wb - sc)), .ref mS, .ref mO, .ref mL, .ref mR, .ref mT, .ref mN, .ref mX, .ref mF, .ref mA, .ref mB, .ref mV, .int (nI 0), .int (nI 0), .int (bz false), .ref mW, .ref mQ, .ref mY, .ref mE, .ref mC, .ref mG, .int (nI 0), .int (nI 0), .int (-1), .int (nI fr), .ref mH])), (mO, .inl (cI, 100, .inl (fun z9 => mo_op (kd z9)))), (mT, .inl (cI, 100, .inl (fun z9 => nI (mo_s kd lf z9)))), (mF, .inl (cZ, 14, .inl (fun z9 => bz (fr.testBit z9)))), (mH, .inl (cZ, 100, .inl (fun z9 => bz (sh2 z9))))]) hP hD [0, 1, 2, 3, 6] [4, 5] rfl rfl (by decide) (by decide) hk1 hFc hP1 hD1
      generalize H1 = H at hP hS ⊢
      have hP : va_P (dC, dI) vwCl [(mW, .inl (cI, 16384, .inl (fun z9 => nI (mw z9)))), (mC, .inl (cZ, 16384, .inl (fun z9 => bz (cm z9)))), (oM, .inr (4, [.int th, .int (nI wb), .int (nI n), .int (nI sc), .int (nI np), .int (nI (n - wb - sc)), .ref mS, .ref mO, .ref mL, .ref mR, .ref mT, .ref mN, .ref mX, .ref mF, .ref mA, .ref mB, .ref mV, .int (nI 0), .int (nI 0), .int (bz false), .ref mW, .ref mQ, .ref mY, .ref mE, .ref mC, .ref mG, .int (nI 0), .int (nI 0), .int (-1), .int (nI fr), .ref mH])), (mO, .inl (cI, 100, .inl (fun z9 => mo_op (kd z9)))), (mT, .inl (cI, 100, .inl (fun z9 => nI (mo_s kd lf z9)))), (mF, .inl (cZ, 14, .inl (fun z9 => bz (fr.testBit z9)))), (mH, .inl (cZ, 100, .inl (fun z9 => bz (sh2 z9))))] H := hP
      have hD : va_D A [(mW, .inl (cI, 16384, .inl (fun z9 => nI (mw z9)))), (mC, .inl (cZ, 16384, .inl (fun z9 => bz (cm z9)))), (oM, .inr (4, [.int th, .int (nI wb), .int (nI n), .int (nI sc), .int (nI np), .int (nI (n - wb - sc)), .ref mS, .ref mO, .ref mL, .ref mR, .ref mT, .ref mN, .ref mX, .ref mF, .ref mA, .ref mB, .ref mV, .int (nI 0), .int (nI 0), .int (bz false), .ref mW, .ref mQ, .ref mY, .ref mE, .ref mC, .ref mG, .int (nI 0), .int (nI 0), .int (-1), .int (nI fr), .ref mH])), (mO, .inl (cI, 100, .inl (fun z9 => mo_op (kd z9)))), (mT, .inl (cI, 100, .inl (fun z9 => nI (mo_s kd lf z9)))), (mF, .inl (cZ, 14, .inl (fun z9 => bz (fr.testBit z9)))), (mH, .inl (cZ, 100, .inl (fun z9 => bz (sh2 z9))))] := hD
      have hP9 := hP.sub (ws' := [(oM, .inr (4, [.int th, .int (nI wb), .int (nI n), .int (nI sc), .int (nI np), .int (nI (n - wb - sc)), .ref mS, .ref mO, .ref mL, .ref mR, .ref mT, .ref mN, .ref mX, .ref mF, .ref mA, .ref mB, .ref mV, .int (nI 0), .int (nI 0), .int (bz false), .ref mW, .ref mQ, .ref mY, .ref mE, .ref mC, .ref mG, .int (nI 0), .int (nI 0), .int (-1), .int (nI fr), .ref mH])), (mO, .inl (cI, 100, .inl (fun z9 => mo_op (kd z9)))), (mT, .inl (cI, 100, .inl (fun z9 => nI (mo_s kd lf z9)))), (mF, .inl (cZ, 14, .inl (fun z9 => bz (fr.testBit z9)))), (mW, .inl (cI, 16384, .inl (fun z9 => nI (mw z9)))), (mC, .inl (cZ, 16384, .inl (fun z9 => bz (cm z9)))), (mH, .inl (cZ, 100, .inl (fun z9 => bz (sh2 z9))))]) [2, 3, 4, 5, 0, 1, 6] rfl
      have hD9 := hD.sub (ws' := [(oM, .inr (4, [.int th, .int (nI wb), .int (nI n), .int (nI sc), .int (nI np), .int (nI (n - wb - sc)), .ref mS, .ref mO, .ref mL, .ref mR, .ref mT, .ref mN, .ref mX, .ref mF, .ref mA, .ref mB, .ref mV, .int (nI 0), .int (nI 0), .int (bz false), .ref mW, .ref mQ, .ref mY, .ref mE, .ref mC, .ref mG, .int (nI 0), .int (nI 0), .int (-1), .int (nI fr), .ref mH])), (mO, .inl (cI, 100, .inl (fun z9 => mo_op (kd z9)))), (mT, .inl (cI, 100, .inl (fun z9 => nI (mo_s kd lf z9)))), (mF, .inl (cZ, 14, .inl (fun z9 => bz (fr.testBit z9)))), (mW, .inl (cI, 16384, .inl (fun z9 => nI (mw z9)))), (mC, .inl (cZ, 16384, .inl (fun z9 => bz (cm z9)))), (mH, .inl (cZ, 100, .inl (fun z9 => bz (sh2 z9))))]) [2, 3, 4, 5, 0, 1, 6] (by decide) rfl
      exact W.vret hx hb hr (fun t ht hW => ⟨⟨(cm, sh2), rfl, ⟨fun q hq => by
        cases h : cm q with
        | false => rfl
        | true =>
          obtain ⟨k, h1, h2, h3⟩ := hi_c q hq h
          omega, hw⟩, by rw [ht]; exact hP9, hD9⟩, hS.F ht⟩) hS.2.2 d_Mod_forget_52
    | succ k9 ih =>
      intro i9 cm H locs ls hik hi_c hP hD hS hl
      refine (hV _ _ _ _ _).mpr ?_
      refine lv_iload_n hx hb d_Mod_forget_2 rfl (lv_at hl 1 rfl) ?_
      refine lv_aload_n hx hb d_Mod_forget_3 rfl (lv_at hl 0 rfl) ?_
      refine va_get (D := (dC, dI)) (ci := 4) (v := .int (nI mrc)) (C := RX4) (T := TX4) (N := 31) hx hb hts in_X4 hown hK hP 0 rfl rfl 17 (by decide) (hts _ lk_Mod_81) (fun _ h9 => h9) rfl d_Mod_forget_4 ?_
      refine lv_icmp_ge (tgt := 28) hx hb d_Mod_forget_7 (by decide) (fun c9 => absurd c9 (nI_ge (by omega) (by omega))) (fun _ => ?_)
      refine lv_aload_n hx hb d_Mod_forget_10 rfl (lv_at hl 0 rfl) ?_
      refine va_get (D := (dC, dI)) (ci := 4) (v := .ref mC) (C := RX4) (T := TX4) (N := 31) hx hb hts in_X4 hown hK hP 0 rfl rfl 24 (by decide) (hts _ lk_Mod_56) (fun _ h9 => h9) rfl d_Mod_forget_11 ?_
      refine lv_aload_n hx hb d_Mod_forget_14 rfl (lv_at hl 0 rfl) ?_
      refine va_get (D := (dC, dI)) (ci := 4) (v := .ref mW) (C := RX4) (T := TX4) (N := 31) hx hb hts in_X4 hown hK hP 0 rfl rfl 20 (by decide) (hts _ lk_Mod_44) (fun _ h9 => h9) rfl d_Mod_forget_15 ?_
      refine lv_iload_n hx hb d_Mod_forget_18 rfl (lv_at hl 1 rfl) ?_
      refine bx_iald hx hb hK hP 4 0 rfl rfl (k := i9) rfl (by omega) (by decide) d_Mod_forget_19 ?_
      refine lv_iconst (v := nI 0) hx hb d_Mod_forget_20 (by decide +kernel) ?_
      refine bx_top (y := bz false) rfl ?_
      have g1 := hmw i9 (by omega)
      refine bx_zast hx hb hK hP hD hS 5 1 rfl rfl (k := (mw i9)) rfl g1 (by decide) (g := fun z9 => bz ((va_up cm (mw i9) false) z9)) (bn_upB _ _ _) d_Mod_forget_21 (fun H locs hP hD hS => ?_)
      have hP : va_P (dC, dI) vwCl [(oM, .inr (4, [.int th, .int (nI wb), .int (nI n), .int (nI sc), .int (nI np), .int (nI (n - wb - sc)), .ref mS, .ref mO, .ref mL, .ref mR, .ref mT, .ref mN, .ref mX, .ref mF, .ref mA, .ref mB, .ref mV, .int (nI mrc), .int (nI mcl), .int (bz ov), .ref mW, .ref mQ, .ref mY, .ref mE, .ref mC, .ref mG, .int (nI ps), .int (nI cy), .int df, .int (nI hw9), .ref mH])), (mO, .inl (cI, 100, .inl (fun z9 => mo_op (kd z9)))), (mT, .inl (cI, 100, .inl (fun z9 => nI (mo_s kd lf z9)))), (mF, .inl (cZ, 14, .inl (fun z9 => bz (fr.testBit z9)))), (mW, .inl (cI, 16384, .inl (fun z9 => nI (mw z9)))), (mC, .inl (cZ, 16384, .inl (fun z9 => bz ((va_up cm (mw i9) false) z9)))), (mH, .inl (cZ, 100, .inl (fun z9 => bz (sh z9))))] H := hP
      have hD : va_D A [(oM, .inr (4, [.int th, .int (nI wb), .int (nI n), .int (nI sc), .int (nI np), .int (nI (n - wb - sc)), .ref mS, .ref mO, .ref mL, .ref mR, .ref mT, .ref mN, .ref mX, .ref mF, .ref mA, .ref mB, .ref mV, .int (nI mrc), .int (nI mcl), .int (bz ov), .ref mW, .ref mQ, .ref mY, .ref mE, .ref mC, .ref mG, .int (nI ps), .int (nI cy), .int df, .int (nI hw9), .ref mH])), (mO, .inl (cI, 100, .inl (fun z9 => mo_op (kd z9)))), (mT, .inl (cI, 100, .inl (fun z9 => nI (mo_s kd lf z9)))), (mF, .inl (cZ, 14, .inl (fun z9 => bz (fr.testBit z9)))), (mW, .inl (cI, 16384, .inl (fun z9 => nI (mw z9)))), (mC, .inl (cZ, 16384, .inl (fun z9 => bz ((va_up cm (mw i9) false) z9)))), (mH, .inl (cZ, 100, .inl (fun z9 => bz (sh z9))))] := hD
      refine lv_iinc (v := nI (i9 + 1)) (lv' := [(1, .int (nI (i9 + 1))), (0, .ref oM)]) hx hb d_Mod_forget_22 hl (k := 1) rfl (bx_inc _) (by decide) rfl (fun ls hl => ?_)
      refine lv_goto (tgt := 2) hx hb d_Mod_forget_25 (by decide) ?_
      exact (hV _ _ _ _ _).mp (ih (i9 + 1) (va_up cm (mw i9) false) _ _ ls (by omega) (fun q hq h => by
        by_cases z : q = mw i9
        · rw [z, va_up_self] at h
          cases h
        · rw [va_up_ne _ _ z] at h
          obtain ⟨k, h1, h2, h3⟩ := hi_c q hq h
          exact ⟨k, by have : k ≠ i9 := fun e => z (by rw [← h3, e]); omega, h2, h3⟩) hP hD hS (lv_sub hl [1, 0] rfl))
  exact loop mrc 0 cm _ _ ls (Nat.zero_add _) hcm hP hD hS (lv_sub hl [1, 0] rfl)
