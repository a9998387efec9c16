set_option maxHeartbeats 4000000 in
set_option maxRecDepth 100000 in
theorem k_Net_lanesOfState (l : Launch) (dC : Nat → ClassId) (dI : Nat → Nat → Nat) (cI cZ cJ : ClassId) (k r0 : Nat) (hk : k < 32) : Met l y_Net_lanesOfState (bw y_Net_lanesOfState b_Net_lanesOfState 2 (some .int)) ({ frames := 0, cells := 0, slots := 0, locals := 0 }) (bx_pR dC dI cI cZ cJ [.int (nI k), .int (nI r0)] []) (bx_qR (fun r => r = if r0.testBit k then (-1) else nI 0)) 0 0 (fun _ => False) := by
  refine Met.ofW (cc := b_Net_lanesOfState) (maxL := 2) (ret := some .int) (by decide) rfl ?_
  intro p e s m args below meth c s₁ B hml hv
  obtain ⟨rfl, hE, hP⟩ := hv
  have hx := B.exec
  have hb := B.bytes
  have hr := B.returns
  have hts9 := atoms_spec (ws := (bw y_Net_lanesOfState b_Net_lanesOfState 2 (some .int))) B.pre
  have hts : ∀ w ∈ gw, w.before _ s = true := fun w h => hts9 w (List.mem_cons_of_mem _ h)
  have hown : s.vm.findClass RX2 = some m.cls := findClass_of_methodNamed B.named
  have hlocks := B.notSynchronized
  have hK := hE.1
  have hN := hE.2.1
  have hS : va_S (fun _ => False) s.heap s.heap [] := va_S.rf
  have hP : va_P (dC, dI) vwCl [] s.heap := hP
  have hl := lv_entry ([.int (nI k), .int (nI r0)]) (n := 2) (Nat.le_of_ble_eq_true rfl)
  rw [lg_entry_eq]
  generalize (lg_sl ([.int (nI k), .int (nI r0)]) ++ List.replicate (2 - (lg_sl ([.int (nI k), .int (nI r0)])).length) Slot.unset).toArray = ls at hl ⊢
  have hl : lv_has ls 2 [(0, .int (nI k)), (1, .int (nI r0))] := hl
  refine lv_iload_n hx hb d_Net_lanesOfState_0 rfl (lv_at hl 1 rfl) ?_
  refine lv_iload_n hx hb d_Net_lanesOfState_1 rfl (lv_at hl 0 rfl) ?_
  refine lv_ishr hx hb d_Net_lanesOfState_2 ?_
  refine lv_iconst (v := nI 1) hx hb d_Net_lanesOfState_3 (by decide +kernel) ?_
  refine lv_iand hx hb d_Net_lanesOfState_4 ?_
  refine bx_top (y := bz (r0.testBit k)) (bn_bitN r0 k hk) ?_
  refine lv_if_ne (tgt := 12) hx hb d_Net_lanesOfState_5 (by decide) (fun c_1 => ?_) (fun c_1 => ?_)
  · refine lv_iconst (v := (-1)) hx hb d_Net_lanesOfState_12 (by decide +kernel) ?_
    exact W.iret (v := (-1)) hx hb hr (fun t ht hW => ⟨(-1), rfl, (if_pos ((bz_n0 _).mp c_1)).symm, ht⟩) (fun q h => by cases h) d_Net_lanesOfState_13
  · refine lv_iconst (v := nI 0) hx hb d_Net_lanesOfState_8 (by decide +kernel) ?_
    refine lv_goto (tgt := 13) hx hb d_Net_lanesOfState_9 (by decide) ?_
    exact W.iret (v := nI 0) hx hb hr (fun t ht hW => ⟨nI 0, rfl, (if_neg (by rw [(bz_0 _).mp (c_1)]; decide)).symm, ht⟩) (fun q h => by cases h) d_Net_lanesOfState_13

set_option maxHeartbeats 4000000 in
set_option maxRecDepth 100000 in
theorem k_Net_lanesOf (l : Launch) (dC : Nat → ClassId) (dI : Nat → Nat → Nat) (cI cZ cJ : ClassId) (oN aK aL aR aX aP aQ wb n sc s1 np fr : Nat) (kd lf rt nx pl pr : Nat → Nat) (aZ : Nat) (i r0 : Nat) (ln : Nat → Int32) (hi : i < 100) (hkd : kd i ≤ 7) (hlf : kd i ≤ 3 → lf i < i) (hrt : kd i ≤ 2 → rt i < i) (h6 : kd i = 6 → lf i < 4) (h7 : kd i = 7 → lf i < 14) (hln : bm_ln kd lf rt r0 ln i) : Met l y_Net_lanesOf (bw y_Net_lanesOf b_Net_lanesOf 6 (some .int)) ({ frames := 1, cells := 0, slots := 0, locals := 21 }) (bx_pR dC dI cI cZ cJ [.ref oN, .int (nI i), .int (nI r0), .ref aZ] [(oN, .inr (2, [.int (nI wb), .int (nI (2 ^ wb)), .ref aK, .ref aL, .ref aR, .ref aX, .ref aP, .ref aQ, .int (nI n), .int (nI sc), .int (nI s1), .int (nI np), .int (nI fr)])), (aK, .inl (cI, 100, .inl (fun z9 => nI (kd z9)))), (aL, .inl (cI, 100, .inl (fun z9 => nI (lf z9)))), (aR, .inl (cI, 100, .inl (fun z9 => nI (rt z9)))), (aX, .inl (cI, 14, .inl (fun z9 => nI (nx z9)))), (aP, .inl (cI, 16, .inl (fun z9 => nI (pl z9)))), (aQ, .inl (cI, 16, .inl (fun z9 => nI (pr z9)))), (aZ, .inl (cI, 100, .inl ln))]) (bx_qR (fun r => ∀ w, w < 16 → bt r w = bm_gate (kd i) (lf i) (rt i) (bm_vals kd lf rt (fun s => r0.testBit s) w i) (fun s => r0.testBit s) w)) 0 0 (fun _ => False) := by
  refine Met.ofW (cc := b_Net_lanesOf) (maxL := 6) (ret := some .int) (by decide) rfl ?_
  intro p e s m args below meth c s₁ B hml hv
  obtain ⟨rfl, hE, hP⟩ := hv
  have hx := B.exec
  have hb := B.bytes
  have hr := B.returns
  have hts9 := atoms_spec (ws := (bw y_Net_lanesOf b_Net_lanesOf 6 (some .int))) B.pre
  have hts : ∀ w ∈ gw, w.before _ s = true := fun w h => hts9 w (List.mem_cons_of_mem _ h)
  have hown : s.vm.findClass RX2 = some m.cls := findClass_of_methodNamed B.named
  have hlocks := B.notSynchronized
  have hK := hE.1
  have hN := hE.2.1
  have hS : va_S (fun _ => False) s.heap s.heap [] := va_S.rf
  have hP : va_P (dC, dI) vwCl [(oN, .inr (2, [.int (nI wb), .int (nI (2 ^ wb)), .ref aK, .ref aL, .ref aR, .ref aX, .ref aP, .ref aQ, .int (nI n), .int (nI sc), .int (nI s1), .int (nI np), .int (nI fr)])), (aK, .inl (cI, 100, .inl (fun z9 => nI (kd z9)))), (aL, .inl (cI, 100, .inl (fun z9 => nI (lf z9)))), (aR, .inl (cI, 100, .inl (fun z9 => nI (rt z9)))), (aX, .inl (cI, 14, .inl (fun z9 => nI (nx z9)))), (aP, .inl (cI, 16, .inl (fun z9 => nI (pl z9)))), (aQ, .inl (cI, 16, .inl (fun z9 => nI (pr z9)))), (aZ, .inl (cI, 100, .inl ln))] s.heap := hP
  have hl := lv_entry ([.ref oN, .int (nI i), .int (nI r0), .ref aZ]) (n := 6) (Nat.le_of_ble_eq_true rfl)
  rw [lg_entry_eq]
  generalize (lg_sl ([.ref oN, .int (nI i), .int (nI r0), .ref aZ]) ++ List.replicate (6 - (lg_sl ([.ref oN, .int (nI i), .int (nI r0), .ref aZ])).length) Slot.unset).toArray = ls at hl ⊢
  have hl : lv_has ls 6 [(0, .ref oN), (1, .int (nI i)), (2, .int (nI r0)), (3, .ref aZ)] := hl
  refine lv_aload_n hx hb d_Net_lanesOf_0 rfl (lv_at hl 0 rfl) ?_
  refine va_get (D := (dC, dI)) (ci := 2) (v := .ref aL) (C := RX2) (T := TX2) (N := 13) hx hb hts in_X2 hown hK hP 0 rfl rfl 3 (by decide) (hts _ lk_Net_15) (fun _ h9 => h9) rfl d_Net_lanesOf_1 ?_
  refine lv_iload_n hx hb d_Net_lanesOf_4 rfl (lv_at hl 1 rfl) ?_
  refine bx_iald hx hb hK hP 2 0 rfl rfl (k := i) rfl hi (by decide) d_Net_lanesOf_5 ?_
  refine lv_istore (lv' := [(4, .int (nI (lf i))), (0, .ref oN), (1, .int (nI i)), (2, .int (nI r0)), (3, .ref aZ)]) hx hb d_Net_lanesOf_6 hl (by decide) rfl (fun ls hl => ?_)
  refine lv_aload_n hx hb d_Net_lanesOf_8 rfl (lv_at hl 1 rfl) ?_
  refine va_get (D := (dC, dI)) (ci := 2) (v := .ref aR) (C := RX2) (T := TX2) (N := 13) hx hb hts in_X2 hown hK hP 0 rfl rfl 4 (by decide) (hts _ lk_Net_18) (fun _ h9 => h9) rfl d_Net_lanesOf_9 ?_
  refine lv_iload_n hx hb d_Net_lanesOf_12 rfl (lv_at hl 2 rfl) ?_
  refine bx_iald hx hb hK hP 3 0 rfl rfl (k := i) rfl hi (by decide) d_Net_lanesOf_13 ?_
  refine lv_istore (lv' := [(5, .int (nI (rt i))), (4, .int (nI (lf i))), (0, .ref oN), (1, .int (nI i)), (2, .int (nI r0)), (3, .ref aZ)]) hx hb d_Net_lanesOf_14 hl (by decide) rfl (fun ls hl => ?_)
  refine lv_aload_n hx hb d_Net_lanesOf_16 rfl (lv_at hl 2 rfl) ?_
  refine va_get (D := (dC, dI)) (ci := 2) (v := .ref aK) (C := RX2) (T := TX2) (N := 13) hx hb hts in_X2 hown hK hP 0 rfl rfl 2 (by decide) (hts _ lk_Net_11) (fun _ h9 => h9) rfl d_Net_lanesOf_17 ?_
  refine lv_iload_n hx hb d_Net_lanesOf_20 rfl (lv_at hl 3 rfl) ?_
  refine bx_iald hx hb hK hP 1 0 rfl rfl (k := i) rfl hi (by decide) d_Net_lanesOf_21 ?_
  have h9 : kd i = 0 ∨ kd i = 1 ∨ kd i = 2 ∨ kd i = 3 ∨ kd i = 4 ∨ kd i = 5 ∨ kd i = 6 ∨ kd i = 7 := by omega
  rcases h9 with h9 | h9 | h9 | h9 | h9 | h9 | h9 | h9
  · refine bx_top (y := nI 0) (by rw [h9]) ?_
    refine lv_tableIn (tgt := 64) hx hb d_Net_lanesOf_22 (by decide +kernel) (by decide +kernel) rfl (by decide) ?_
    have hL := hlf (by omega)
    have hR := hrt (by omega)
    refine lv_aload_n hx hb d_Net_lanesOf_64 rfl (lv_at hl 5 rfl) ?_
    refine lv_iload hx hb d_Net_lanesOf_65 (lv_at hl 1 rfl) ?_
    refine bx_iald hx hb hK hP 7 0 rfl rfl (k := (lf i)) rfl (by omega) (by decide) d_Net_lanesOf_67 ?_
    refine lv_aload_n hx hb d_Net_lanesOf_68 rfl (lv_at hl 5 rfl) ?_
    refine lv_iload hx hb d_Net_lanesOf_69 (lv_at hl 0 rfl) ?_
    refine bx_iald hx hb hK hP 7 0 rfl rfl (k := (rt i)) rfl (by omega) (by decide) d_Net_lanesOf_71 ?_
    refine lv_iand hx hb d_Net_lanesOf_72 ?_
    exact W.iret (v := (ln (lf i)) &&& (ln (rt i))) hx hb hr (fun t ht hW => ⟨(ln (lf i)) &&& (ln (rt i)), rfl, (fun w hw => by rw [b_and, hln _ hL w hw, hln _ hR w hw]; simp [bm_gate, h9]), ht⟩) (fun q h => by cases h) d_Net_lanesOf_73
  · refine bx_top (y := nI 1) (by rw [h9]) ?_
    refine lv_tableIn (tgt := 74) hx hb d_Net_lanesOf_22 (by decide +kernel) (by decide +kernel) rfl (by decide) ?_
    have hL := hlf (by omega)
    have hR := hrt (by omega)
    refine lv_aload_n hx hb d_Net_lanesOf_74 rfl (lv_at hl 5 rfl) ?_
    refine lv_iload hx hb d_Net_lanesOf_75 (lv_at hl 1 rfl) ?_
    refine bx_iald hx hb hK hP 7 0 rfl rfl (k := (lf i)) rfl (by omega) (by decide) d_Net_lanesOf_77 ?_
    refine lv_aload_n hx hb d_Net_lanesOf_78 rfl (lv_at hl 5 rfl) ?_
    refine lv_iload hx hb d_Net_lanesOf_79 (lv_at hl 0 rfl) ?_
    refine bx_iald hx hb hK hP 7 0 rfl rfl (k := (rt i)) rfl (by omega) (by decide) d_Net_lanesOf_81 ?_
    refine lv_ior hx hb d_Net_lanesOf_82 ?_
    exact W.iret (v := (ln (lf i)) ||| (ln (rt i))) hx hb hr (fun t ht hW => ⟨(ln (lf i)) ||| (ln (rt i)), rfl, (fun w hw => by rw [b_or, hln _ hL w hw, hln _ hR w hw]; simp [bm_gate, h9]), ht⟩) (fun q h => by cases h) d_Net_lanesOf_83
  · refine bx_top (y := nI 2) (by rw [h9]) ?_
    refine lv_tableIn (tgt := 84) hx hb d_Net_lanesOf_22 (by decide +kernel) (by decide +kernel) rfl (by decide) ?_
    have hL := hlf (by omega)
    have hR := hrt (by omega)
    refine lv_aload_n hx hb d_Net_lanesOf_84 rfl (lv_at hl 5 rfl) ?_
    refine lv_iload hx hb d_Net_lanesOf_85 (lv_at hl 1 rfl) ?_
    refine bx_iald hx hb hK hP 7 0 rfl rfl (k := (lf i)) rfl (by omega) (by decide) d_Net_lanesOf_87 ?_
    refine lv_aload_n hx hb d_Net_lanesOf_88 rfl (lv_at hl 5 rfl) ?_
    refine lv_iload hx hb d_Net_lanesOf_89 (lv_at hl 0 rfl) ?_
    refine bx_iald hx hb hK hP 7 0 rfl rfl (k := (rt i)) rfl (by omega) (by decide) d_Net_lanesOf_91 ?_
    refine lv_ixor hx hb d_Net_lanesOf_92 ?_
    exact W.iret (v := (ln (lf i)) ^^^ (ln (rt i))) hx hb hr (fun t ht hW => ⟨(ln (lf i)) ^^^ (ln (rt i)), rfl, (fun w hw => by rw [b_xor, hln _ hL w hw, hln _ hR w hw]; simp [bm_gate, h9]), ht⟩) (fun q h => by cases h) d_Net_lanesOf_93
  · refine bx_top (y := nI 3) (by rw [h9]) ?_
    refine lv_tableIn (tgt := 94) hx hb d_Net_lanesOf_22 (by decide +kernel) (by decide +kernel) rfl (by decide) ?_
    have hL := hlf (by omega)
    refine lv_aload_n hx hb d_Net_lanesOf_94 rfl (lv_at hl 5 rfl) ?_
    refine lv_iload hx hb d_Net_lanesOf_95 (lv_at hl 1 rfl) ?_
    refine bx_iald hx hb hK hP 7 0 rfl rfl (k := (lf i)) rfl (by omega) (by decide) d_Net_lanesOf_97 ?_
    refine lv_iconst (v := (-1)) hx hb d_Net_lanesOf_98 (by decide +kernel) ?_
    refine lv_ixor hx hb d_Net_lanesOf_99 ?_
    exact W.iret (v := (ln (lf i)) ^^^ (-1)) hx hb hr (fun t ht hW => ⟨(ln (lf i)) ^^^ (-1), rfl, (fun w hw => by rw [b_xor, hln _ hL w hw, b_m1 w (by omega)]; simp [bm_gate, h9]), ht⟩) (fun q h => by cases h) d_Net_lanesOf_100
  · refine bx_top (y := nI 4) (by rw [h9]) ?_
    refine lv_tableIn (tgt := 101) hx hb d_Net_lanesOf_22 (by decide +kernel) (by decide +kernel) rfl (by decide) ?_
    refine lv_iconst (v := nI 0) hx hb d_Net_lanesOf_101 (by decide +kernel) ?_
    exact W.iret (v := nI 0) hx hb hr (fun t ht hW => ⟨nI 0, rfl, (fun w hw => by rw [show nI 0 = 0 from rfl, b_0]; simp [bm_gate, h9]), ht⟩) (fun q h => by cases h) d_Net_lanesOf_102
  · refine bx_top (y := nI 5) (by rw [h9]) ?_
    refine lv_tableIn (tgt := 103) hx hb d_Net_lanesOf_22 (by decide +kernel) (by decide +kernel) rfl (by decide) ?_
    refine lv_iconst (v := (-1)) hx hb d_Net_lanesOf_103 (by decide +kernel) ?_
    exact W.iret (v := (-1)) hx hb hr (fun t ht hW => ⟨(-1), rfl, (fun w hw => by rw [b_m1 w (by omega)]; simp [bm_gate, h9]), ht⟩) (fun q h => by cases h) d_Net_lanesOf_104
  · refine bx_top (y := nI 6) (by rw [h9]) ?_
    refine lv_tableIn (tgt := 105) hx hb d_Net_lanesOf_22 (by decide +kernel) (by decide +kernel) rfl (by decide) ?_
    have h6 := h6 h9
    obtain ⟨tL, hZ, hT⟩ := hE.2.2
    refine va_gets hx hb hZ hS hown (hts _ lk_Net_74) (fun _ h => h) d_Net_lanesOf_105 ?_
    refine lv_iload hx hb d_Net_lanesOf_108 (lv_at hl 1 rfl) ?_
    refine va_ti hx hb hT hS (vp_in_nI h6 (by decide)) (v := .int (bm_LW (lf i))) (by rw [nI_clamp (by omega)]) d_Net_lanesOf_110 ?_
    exact W.iret (v := bm_LW (lf i)) hx hb hr (fun t ht hW => ⟨bm_LW (lf i), rfl, (fun w hw => by rw [bm_LW_bit _ h6 w hw]; simp [bm_gate, h9]), ht⟩) (fun q h => by cases h) d_Net_lanesOf_111
  · refine bx_top (y := nI 7) (by rw [h9]) ?_
    refine lv_tableOut (tgt := 112) hx hb d_Net_lanesOf_22 (Or.inr (by decide +kernel)) (by decide) ?_
    have h7 := h7 h9
    refine lv_iload hx hb d_Net_lanesOf_112 (lv_at hl 1 rfl) ?_
    refine lv_iload_n hx hb d_Net_lanesOf_114 rfl (lv_at hl 4 rfl) ?_
    have hPc := hP.sub (ws' := []) [] rfl
    refine bx_callR (va_runS (As := [.int (nI (lf i)), .int (nI r0)]) (rest := []) ⟨hx, hb, hml, hown, hts⟩ (k_Net_lanesOfState l dC dI cI cZ cJ (lf i) r0 (by omega)) (bx_cS (n := 2) hts mc_Net_lanesOfState lk_Net_66 mi_Net_lanesOfState ini_Net (by decide +kernel) ⟨Nat.le_of_ble_eq_true rfl, Nat.le_of_ble_eq_true rfl⟩) (bx_prS hE hS hPc) rfl rfl hl.1 rfl (lv_room (Nat.le_of_ble_eq_true rfl)) d_Net_lanesOf_115 ⟨Nat.zero_le _, Nat.zero_le _⟩) (fun r_1 hw_r_1 => ?_)
    subst hw_r_1
    exact W.iret (v := if r0.testBit (lf i) then (-1) else nI 0) hx hb hr (fun t ht hW => ⟨if r0.testBit (lf i) then (-1) else nI 0, rfl, (fun w hw => by rw [bm_lane _ w (by omega)]; simp [bm_gate, h9]), ht⟩) (fun q h => by cases h) d_Net_lanesOf_118

set_option maxHeartbeats 4000000 in
set_option maxRecDepth 100000 in
theorem k_Net_settle (l : Launch) (dC : Nat → ClassId) (dI : Nat → Nat → Nat) (cI cZ cJ : ClassId) (sz : Nat) (oN aK aL aR aX aP aQ wb n sc s1 np fr : Nat) (kd lf rt nx pl pr : Nat → Nat) (aZ r0 : Nat) (ln0 : Nat → Int32) (hwf : bm_wf wb n sc kd lf rt) : Met l y_Net_settle (bw y_Net_settle b_Net_settle 4 (none)) ({ frames := 2, cells := 0, slots := 0, locals := 46 }) (bx_pW dC dI cI cZ cJ [.ref oN, .int (nI r0), .ref aZ] [(oN, .inr (2, [.int (nI wb), .int (nI (2 ^ wb)), .ref aK, .ref aL, .ref aR, .ref aX, .ref aP, .ref aQ, .int (nI n), .int (nI sc), .int (nI s1), .int (nI np), .int (nI fr)])), (aK, .inl (cI, 100, .inl (fun z9 => nI (kd z9)))), (aL, .inl (cI, 100, .inl (fun z9 => nI (lf z9)))), (aR, .inl (cI, 100, .inl (fun z9 => nI (rt z9)))), (aX, .inl (cI, 14, .inl (fun z9 => nI (nx z9)))), (aP, .inl (cI, 16, .inl (fun z9 => nI (pl z9)))), (aQ, .inl (cI, 16, .inl (fun z9 => nI (pr z9)))), (aZ, .inl (cI, 100, .inl ln0))] sz) (va_Qv (fun (ln : Nat → Int32) => bm_ln kd lf rt r0 ln n) (bx_B dC dI (va_A [(oN, .inr (2, [.int (nI wb), .int (nI (2 ^ wb)), .ref aK, .ref aL, .ref aR, .ref aX, .ref aP, .ref aQ, .int (nI n), .int (nI sc), .int (nI s1), .int (nI np), .int (nI fr)])), (aK, .inl (cI, 100, .inl (fun z9 => nI (kd z9)))), (aL, .inl (cI, 100, .inl (fun z9 => nI (lf z9)))), (aR, .inl (cI, 100, .inl (fun z9 => nI (rt z9)))), (aX, .inl (cI, 14, .inl (fun z9 => nI (nx z9)))), (aP, .inl (cI, 16, .inl (fun z9 => nI (pl z9)))), (aQ, .inl (cI, 16, .inl (fun z9 => nI (pr z9)))), (aZ, .inl (cI, 100, .inl ln0))] sz) (fun (ln : Nat → Int32) => ([(oN, .inr (2, [.int (nI wb), .int (nI (2 ^ wb)), .ref aK, .ref aL, .ref aR, .ref aX, .ref aP, .ref aQ, .int (nI n), .int (nI sc), .int (nI s1), .int (nI np), .int (nI fr)])), (aK, .inl (cI, 100, .inl (fun z9 => nI (kd z9)))), (aL, .inl (cI, 100, .inl (fun z9 => nI (lf z9)))), (aR, .inl (cI, 100, .inl (fun z9 => nI (rt z9)))), (aX, .inl (cI, 14, .inl (fun z9 => nI (nx z9)))), (aP, .inl (cI, 16, .inl (fun z9 => nI (pl z9)))), (aQ, .inl (cI, 16, .inl (fun z9 => nI (pr z9)))), (aZ, .inl (cI, 100, .inl ln))] : va_W))) (va_A [(oN, .inr (2, [.int (nI wb), .int (nI (2 ^ wb)), .ref aK, .ref aL, .ref aR, .ref aX, .ref aP, .ref aQ, .int (nI n), .int (nI sc), .int (nI s1), .int (nI np), .int (nI fr)])), (aK, .inl (cI, 100, .inl (fun z9 => nI (kd z9)))), (aL, .inl (cI, 100, .inl (fun z9 => nI (lf z9)))), (aR, .inl (cI, 100, .inl (fun z9 => nI (rt z9)))), (aX, .inl (cI, 14, .inl (fun z9 => nI (nx z9)))), (aP, .inl (cI, 16, .inl (fun z9 => nI (pl z9)))), (aQ, .inl (cI, 16, .inl (fun z9 => nI (pr z9)))), (aZ, .inl (cI, 100, .inl ln0))] sz)) 0 0 (va_A [(oN, .inr (2, [.int (nI wb), .int (nI (2 ^ wb)), .ref aK, .ref aL, .ref aR, .ref aX, .ref aP, .ref aQ, .int (nI n), .int (nI sc), .int (nI s1), .int (nI np), .int (nI fr)])), (aK, .inl (cI, 100, .inl (fun z9 => nI (kd z9)))), (aL, .inl (cI, 100, .inl (fun z9 => nI (lf z9)))), (aR, .inl (cI, 100, .inl (fun z9 => nI (rt z9)))), (aX, .inl (cI, 14, .inl (fun z9 => nI (nx z9)))), (aP, .inl (cI, 16, .inl (fun z9 => nI (pl z9)))), (aQ, .inl (cI, 16, .inl (fun z9 => nI (pr z9)))), (aZ, .inl (cI, 100, .inl ln0))] sz) := by
  refine Met.ofW (cc := b_Net_settle) (maxL := 4) (ret := none) (by decide) rfl ?_
  intro p e s m args below meth c s₁ B hml hv
  obtain ⟨rfl, hsz, hE, hP, hD0⟩ := hv
  have hx := B.exec
  have hb := B.bytes
  have hr := B.returns
  have hts9 := atoms_spec (ws := (bw y_Net_settle b_Net_settle 4 (none))) B.pre
  have hts : ∀ w ∈ gw, w.before _ s = true := fun w h => hts9 w (List.mem_cons_of_mem _ h)
  have hown : s.vm.findClass RX2 = some m.cls := findClass_of_methodNamed B.named
  have hlocks := B.notSynchronized
  subst hsz
  have hD := hD0.self (sz := s.heap.size)
  generalize hAe : va_A [(oN, .inr (2, [.int (nI wb), .int (nI (2 ^ wb)), .ref aK, .ref aL, .ref aR, .ref aX, .ref aP, .ref aQ, .int (nI n), .int (nI sc), .int (nI s1), .int (nI np), .int (nI fr)])), (aK, .inl (cI, 100, .inl (fun z9 => nI (kd z9)))), (aL, .inl (cI, 100, .inl (fun z9 => nI (lf z9)))), (aR, .inl (cI, 100, .inl (fun z9 => nI (rt z9)))), (aX, .inl (cI, 14, .inl (fun z9 => nI (nx z9)))), (aP, .inl (cI, 16, .inl (fun z9 => nI (pl z9)))), (aQ, .inl (cI, 16, .inl (fun z9 => nI (pr z9)))), (aZ, .inl (cI, 100, .inl ln0))] s.heap.size = A at hE hD ⊢
  have hA : ∀ q : Nat, s.heap.size ≤ q → A q := fun q h => by rw [← hAe]; exact Or.inr h
  have hS : va_S A s.heap s.heap [] := va_S.rf
  have hK := hE.1
  have hN := hE.2.1
  have hP : va_P (dC, dI) vwCl [(oN, .inr (2, [.int (nI wb), .int (nI (2 ^ wb)), .ref aK, .ref aL, .ref aR, .ref aX, .ref aP, .ref aQ, .int (nI n), .int (nI sc), .int (nI s1), .int (nI np), .int (nI fr)])), (aK, .inl (cI, 100, .inl (fun z9 => nI (kd z9)))), (aL, .inl (cI, 100, .inl (fun z9 => nI (lf z9)))), (aR, .inl (cI, 100, .inl (fun z9 => nI (rt z9)))), (aX, .inl (cI, 14, .inl (fun z9 => nI (nx z9)))), (aP, .inl (cI, 16, .inl (fun z9 => nI (pl z9)))), (aQ, .inl (cI, 16, .inl (fun z9 => nI (pr z9)))), (aZ, .inl (cI, 100, .inl ln0))] s.heap := hP
  have hl := lv_entry ([.ref oN, .int (nI r0), .ref aZ]) (n := 4) (Nat.le_of_ble_eq_true rfl)
  rw [lg_entry_eq]
  generalize (lg_sl ([.ref oN, .int (nI r0), .ref aZ]) ++ List.replicate (4 - (lg_sl ([.ref oN, .int (nI r0), .ref aZ])).length) Slot.unset).toArray = ls at hl ⊢
  have hl : lv_has ls 4 [(0, .ref oN), (1, .int (nI r0)), (2, .ref aZ)] := hl
  refine lv_iconst (v := nI 0) hx hb d_Net_settle_0 (by decide +kernel) ?_
  refine lv_istore_n (lv' := [(3, .int (nI 0)), (0, .ref oN), (1, .int (nI r0)), (2, .ref aZ)]) hx hb d_Net_settle_1 rfl hl (by decide) rfl (fun ls hl => ?_)
  refine bx_gen (fun V hV => ?_)
  have loop : ∀ (k9 i9 : Nat) (ln : Nat → Int32) (H : Heap) (locs : List Loc) (ls : Array Slot), i9 + k9 = n → (bm_ln kd lf rt r0 ln i9) → va_P (dC, dI) vwCl [(oN, .inr (2, [.int (nI wb), .int (nI (2 ^ wb)), .ref aK, .ref aL, .ref aR, .ref aX, .ref aP, .ref aQ, .int (nI n), .int (nI sc), .int (nI s1), .int (nI np), .int (nI fr)])), (aK, .inl (cI, 100, .inl (fun z9 => nI (kd z9)))), (aL, .inl (cI, 100, .inl (fun z9 => nI (lf z9)))), (aR, .inl (cI, 100, .inl (fun z9 => nI (rt z9)))), (aX, .inl (cI, 14, .inl (fun z9 => nI (nx z9)))), (aP, .inl (cI, 16, .inl (fun z9 => nI (pl z9)))), (aQ, .inl (cI, 16, .inl (fun z9 => nI (pr z9)))), (aZ, .inl (cI, 100, .inl ln))] H → va_D A [(oN, .inr (2, [.int (nI wb), .int (nI (2 ^ wb)), .ref aK, .ref aL, .ref aR, .ref aX, .ref aP, .ref aQ, .int (nI n), .int (nI sc), .int (nI s1), .int (nI np), .int (nI fr)])), (aK, .inl (cI, 100, .inl (fun z9 => nI (kd z9)))), (aL, .inl (cI, 100, .inl (fun z9 => nI (lf z9)))), (aR, .inl (cI, 100, .inl (fun z9 => nI (rt z9)))), (aX, .inl (cI, 14, .inl (fun z9 => nI (nx z9)))), (aP, .inl (cI, 16, .inl (fun z9 => nI (pl z9)))), (aQ, .inl (cI, 16, .inl (fun z9 => nI (pr z9)))), (aZ, .inl (cI, 100, .inl ln))] → va_S A s.heap H locs → lv_has ls 4 [(0, .ref oN), (1, .int (nI r0)), (2, .ref aZ), (3, .int (nI i9))] → V H locs 0 0 (F0 m 2 ls []) := by
    intro k9
    induction k9 with
    | zero =>
      intro i9 ln H locs ls hik hi_ln hP hD hS hl
      refine (hV _ _ _ _ _).mpr ?_
      refine lv_iload_n hx hb d_Net_settle_2 rfl (lv_at hl 3 rfl) ?_
      refine lv_aload_n hx hb d_Net_settle_3 rfl (lv_at hl 0 rfl) ?_
      refine va_get (D := (dC, dI)) (ci := 2) (v := .int (nI n)) (C := RX2) (T := TX2) (N := 13) hx hb hts in_X2 hown hK hP 0 rfl rfl 8 (by decide) (hts _ lk_Net_37) (fun _ h9 => h9) rfl d_Net_settle_4 ?_
      refine lv_icmp_ge (tgt := 26) hx hb d_Net_settle_7 (by decide) (fun _ => ?_) (fun c9 => absurd (by rw [show i9 = n by omega]; exact nI_le (Nat.le_refl n) (by have := hwf.1; omega)) c9)
      have hP9 := hP
      have hD9 := hD
      exact W.vret hx hb hr (fun t ht hW => ⟨⟨ln, rfl, by rw [show n = i9 by omega]; exact hi_ln, by rw [ht]; exact hP9, hD9⟩, hS.F ht⟩) hS.2.2 d_Net_settle_26
    | succ k9 ih =>
      intro i9 ln H locs ls hik hi_ln hP hD hS hl
      refine (hV _ _ _ _ _).mpr ?_
      refine lv_iload_n hx hb d_Net_settle_2 rfl (lv_at hl 3 rfl) ?_
      refine lv_aload_n hx hb d_Net_settle_3 rfl (lv_at hl 0 rfl) ?_
      refine va_get (D := (dC, dI)) (ci := 2) (v := .int (nI n)) (C := RX2) (T := TX2) (N := 13) hx hb hts in_X2 hown hK hP 0 rfl rfl 8 (by decide) (hts _ lk_Net_37) (fun _ h9 => h9) rfl d_Net_settle_4 ?_
      refine lv_icmp_ge (tgt := 26) hx hb d_Net_settle_7 (by decide) (fun c9 => absurd c9 (nI_ge (by omega) (by have := hwf.1; omega))) (fun _ => ?_)
      refine lv_aload_n hx hb d_Net_settle_10 rfl (lv_at hl 2 rfl) ?_
      refine lv_iload_n hx hb d_Net_settle_11 rfl (lv_at hl 3 rfl) ?_
      refine lv_aload_n hx hb d_Net_settle_12 rfl (lv_at hl 0 rfl) ?_
      refine lv_iload_n hx hb d_Net_settle_13 rfl (lv_at hl 3 rfl) ?_
      refine lv_iload_n hx hb d_Net_settle_14 rfl (lv_at hl 1 rfl) ?_
      refine lv_aload_n hx hb d_Net_settle_15 rfl (lv_at hl 2 rfl) ?_
      have hb9 := hwf.1
      obtain ⟨g1, g2, g3, g4, g5⟩ := hwf.2 i9 (by omega)
      have hPc := hP.sub (ws' := [(oN, .inr (2, [.int (nI wb), .int (nI (2 ^ wb)), .ref aK, .ref aL, .ref aR, .ref aX, .ref aP, .ref aQ, .int (nI n), .int (nI sc), .int (nI s1), .int (nI np), .int (nI fr)])), (aK, .inl (cI, 100, .inl (fun z9 => nI (kd z9)))), (aL, .inl (cI, 100, .inl (fun z9 => nI (lf z9)))), (aR, .inl (cI, 100, .inl (fun z9 => nI (rt z9)))), (aX, .inl (cI, 14, .inl (fun z9 => nI (nx z9)))), (aP, .inl (cI, 16, .inl (fun z9 => nI (pl z9)))), (aQ, .inl (cI, 16, .inl (fun z9 => nI (pr z9)))), (aZ, .inl (cI, 100, .inl ln))]) [0, 1, 2, 3, 4, 5, 6, 7] rfl
      refine bx_callR (va_runV (As := [.int (nI i9), .int (nI r0), .ref aZ]) (rest := [.int (nI i9), .ref aZ]) ⟨hx, hb, hml, hown, hts⟩ (k_Net_lanesOf l dC dI cI cZ cJ oN aK aL aR aX aP aQ wb n sc s1 np fr kd lf rt nx pl pr aZ i9 r0 ln (by omega) g1 g2 g3 (fun h => by have := g4 h; omega) (fun h => by have := g5 h; omega) hi_ln) (bx_cV (n := 3) hts mc_Net_lanesOf lk_Net_70 mi_Net_lanesOf ms_Net_lanesOf ini_Net (by decide +kernel) ⟨Nat.le_of_ble_eq_true rfl, Nat.le_of_ble_eq_true rfl⟩) (bx_prV hE hS hPc (ci := 2) (q0 := 0) rfl rfl) rfl rfl hl.1 rfl (lv_room (Nat.le_of_ble_eq_true rfl)) d_Net_settle_16 ⟨Nat.zero_le _, Nat.zero_le _⟩) (fun r_1 hw_r_1 => ?_)
      refine bx_iast hx hb hK hP hD hS 7 0 rfl rfl (k := i9) rfl (by omega) (by decide) (g := upd ln i9 r_1) rfl d_Net_settle_19 (fun H locs hP hD hS => ?_)
      have hP : va_P (dC, dI) vwCl [(oN, .inr (2, [.int (nI wb), .int (nI (2 ^ wb)), .ref aK, .ref aL, .ref aR, .ref aX, .ref aP, .ref aQ, .int (nI n), .int (nI sc), .int (nI s1), .int (nI np), .int (nI fr)])), (aK, .inl (cI, 100, .inl (fun z9 => nI (kd z9)))), (aL, .inl (cI, 100, .inl (fun z9 => nI (lf z9)))), (aR, .inl (cI, 100, .inl (fun z9 => nI (rt z9)))), (aX, .inl (cI, 14, .inl (fun z9 => nI (nx z9)))), (aP, .inl (cI, 16, .inl (fun z9 => nI (pl z9)))), (aQ, .inl (cI, 16, .inl (fun z9 => nI (pr z9)))), (aZ, .inl (cI, 100, .inl (upd ln i9 r_1)))] H := hP
      have hD : va_D A [(oN, .inr (2, [.int (nI wb), .int (nI (2 ^ wb)), .ref aK, .ref aL, .ref aR, .ref aX, .ref aP, .ref aQ, .int (nI n), .int (nI sc), .int (nI s1), .int (nI np), .int (nI fr)])), (aK, .inl (cI, 100, .inl (fun z9 => nI (kd z9)))), (aL, .inl (cI, 100, .inl (fun z9 => nI (lf z9)))), (aR, .inl (cI, 100, .inl (fun z9 => nI (rt z9)))), (aX, .inl (cI, 14, .inl (fun z9 => nI (nx z9)))), (aP, .inl (cI, 16, .inl (fun z9 => nI (pl z9)))), (aQ, .inl (cI, 16, .inl (fun z9 => nI (pr z9)))), (aZ, .inl (cI, 100, .inl (upd ln i9 r_1)))] := hD
      refine lv_iinc (v := nI (i9 + 1)) (lv' := [(3, .int (nI (i9 + 1))), (0, .ref oN), (1, .int (nI r0)), (2, .ref aZ)]) hx hb d_Net_settle_20 hl (k := 3) rfl (bx_inc _) (by decide) rfl (fun ls hl => ?_)
      refine lv_goto (tgt := 2) hx hb d_Net_settle_23 (by decide) ?_
      exact (hV _ _ _ _ _).mp (ih (i9 + 1) (upd ln i9 r_1) _ _ ls (by omega) (bm_ln_up hi_ln hw_r_1) hP hD hS (lv_sub hl [1, 2, 3, 0] rfl))
  exact loop n 0 ln0 _ _ ls (Nat.zero_add _) (bm_ln_0 _ _ _ _ _) hP hD hS (lv_sub hl [1, 2, 3, 0] rfl)

set_option maxHeartbeats 4000000 in
set_option maxRecDepth 100000 in
theorem k_Net_layAsAtFirst (l : Launch) (dC : Nat → ClassId) (dI : Nat → Nat → Nat) (cI cZ cJ : ClassId) (sz : Nat) (oN aK aL aR aX aP aQ wb n sc s1 np fr : Nat) (kd lf rt nx pl pr : Nat → Nat) (aZ : Nat) (ln0 : Nat → Int32) (hwf : bm_wf wb n sc kd lf rt) : Met l y_Net_layAsAtFirst (bw y_Net_layAsAtFirst b_Net_layAsAtFirst 3 (none)) ({ frames := 1, cells := 0, slots := 0, locals := 21 }) (bx_pW dC dI cI cZ cJ [.ref oN, .ref aZ] [(oN, .inr (2, [.int (nI wb), .int (nI (2 ^ wb)), .ref aK, .ref aL, .ref aR, .ref aX, .ref aP, .ref aQ, .int (nI n), .int (nI sc), .int (nI s1), .int (nI np), .int (nI fr)])), (aK, .inl (cI, 100, .inl (fun z9 => nI (kd z9)))), (aL, .inl (cI, 100, .inl (fun z9 => nI (lf z9)))), (aR, .inl (cI, 100, .inl (fun z9 => nI (rt z9)))), (aX, .inl (cI, 14, .inl (fun z9 => nI (nx z9)))), (aP, .inl (cI, 16, .inl (fun z9 => nI (pl z9)))), (aQ, .inl (cI, 16, .inl (fun z9 => nI (pr z9)))), (aZ, .inl (cI, 100, .inl ln0))] sz) (va_Qv (fun (ln : Nat → Int32) => bm_fst kd lf fr ln n) (bx_B dC dI (va_A [(oN, .inr (2, [.int (nI wb), .int (nI (2 ^ wb)), .ref aK, .ref aL, .ref aR, .ref aX, .ref aP, .ref aQ, .int (nI n), .int (nI sc), .int (nI s1), .int (nI np), .int (nI fr)])), (aK, .inl (cI, 100, .inl (fun z9 => nI (kd z9)))), (aL, .inl (cI, 100, .inl (fun z9 => nI (lf z9)))), (aR, .inl (cI, 100, .inl (fun z9 => nI (rt z9)))), (aX, .inl (cI, 14, .inl (fun z9 => nI (nx z9)))), (aP, .inl (cI, 16, .inl (fun z9 => nI (pl z9)))), (aQ, .inl (cI, 16, .inl (fun z9 => nI (pr z9)))), (aZ, .inl (cI, 100, .inl ln0))] sz) (fun (ln : Nat → Int32) => ([(oN, .inr (2, [.int (nI wb), .int (nI (2 ^ wb)), .ref aK, .ref aL, .ref aR, .ref aX, .ref aP, .ref aQ, .int (nI n), .int (nI sc), .int (nI s1), .int (nI np), .int (nI fr)])), (aK, .inl (cI, 100, .inl (fun z9 => nI (kd z9)))), (aL, .inl (cI, 100, .inl (fun z9 => nI (lf z9)))), (aR, .inl (cI, 100, .inl (fun z9 => nI (rt z9)))), (aX, .inl (cI, 14, .inl (fun z9 => nI (nx z9)))), (aP, .inl (cI, 16, .inl (fun z9 => nI (pl z9)))), (aQ, .inl (cI, 16, .inl (fun z9 => nI (pr z9)))), (aZ, .inl (cI, 100, .inl ln))] : va_W))) (va_A [(oN, .inr (2, [.int (nI wb), .int (nI (2 ^ wb)), .ref aK, .ref aL, .ref aR, .ref aX, .ref aP, .ref aQ, .int (nI n), .int (nI sc), .int (nI s1), .int (nI np), .int (nI fr)])), (aK, .inl (cI, 100, .inl (fun z9 => nI (kd z9)))), (aL, .inl (cI, 100, .inl (fun z9 => nI (lf z9)))), (aR, .inl (cI, 100, .inl (fun z9 => nI (rt z9)))), (aX, .inl (cI, 14, .inl (fun z9 => nI (nx z9)))), (aP, .inl (cI, 16, .inl (fun z9 => nI (pl z9)))), (aQ, .inl (cI, 16, .inl (fun z9 => nI (pr z9)))), (aZ, .inl (cI, 100, .inl ln0))] sz)) 0 0 (va_A [(oN, .inr (2, [.int (nI wb), .int (nI (2 ^ wb)), .ref aK, .ref aL, .ref aR, .ref aX, .ref aP, .ref aQ, .int (nI n), .int (nI sc), .int (nI s1), .int (nI np), .int (nI fr)])), (aK, .inl (cI, 100, .inl (fun z9 => nI (kd z9)))), (aL, .inl (cI, 100, .inl (fun z9 => nI (lf z9)))), (aR, .inl (cI, 100, .inl (fun z9 => nI (rt z9)))), (aX, .inl (cI, 14, .inl (fun z9 => nI (nx z9)))), (aP, .inl (cI, 16, .inl (fun z9 => nI (pl z9)))), (aQ, .inl (cI, 16, .inl (fun z9 => nI (pr z9)))), (aZ, .inl (cI, 100, .inl ln0))] sz) := by
  refine Met.ofW (cc := b_Net_layAsAtFirst) (maxL := 3) (ret := none) (by decide) rfl ?_
  intro p e s m args below meth c s₁ B hml hv
  obtain ⟨rfl, hsz, hE, hP, hD0⟩ := hv
  have hx := B.exec
  have hb := B.bytes
  have hr := B.returns
  have hts9 := atoms_spec (ws := (bw y_Net_layAsAtFirst b_Net_layAsAtFirst 3 (none))) B.pre
  have hts : ∀ w ∈ gw, w.before _ s = true := fun w h => hts9 w (List.mem_cons_of_mem _ h)
  have hown : s.vm.findClass RX2 = some m.cls := findClass_of_methodNamed B.named
  have hlocks := B.notSynchronized
  subst hsz
  have hD := hD0.self (sz := s.heap.size)
  generalize hAe : va_A [(oN, .inr (2, [.int (nI wb), .int (nI (2 ^ wb)), .ref aK, .ref aL, .ref aR, .ref aX, .ref aP, .ref aQ, .int (nI n), .int (nI sc), .int (nI s1), .int (nI np), .int (nI fr)])), (aK, .inl (cI, 100, .inl (fun z9 => nI (kd z9)))), (aL, .inl (cI, 100, .inl (fun z9 => nI (lf z9)))), (aR, .inl (cI, 100, .inl (fun z9 => nI (rt z9)))), (aX, .inl (cI, 14, .inl (fun z9 => nI (nx z9)))), (aP, .inl (cI, 16, .inl (fun z9 => nI (pl z9)))), (aQ, .inl (cI, 16, .inl (fun z9 => nI (pr z9)))), (aZ, .inl (cI, 100, .inl ln0))] s.heap.size = A at hE hD ⊢
  have hA : ∀ q : Nat, s.heap.size ≤ q → A q := fun q h => by rw [← hAe]; exact Or.inr h
  have hS : va_S A s.heap s.heap [] := va_S.rf
  have hK := hE.1
  have hN := hE.2.1
  have hP : va_P (dC, dI) vwCl [(oN, .inr (2, [.int (nI wb), .int (nI (2 ^ wb)), .ref aK, .ref aL, .ref aR, .ref aX, .ref aP, .ref aQ, .int (nI n), .int (nI sc), .int (nI s1), .int (nI np), .int (nI fr)])), (aK, .inl (cI, 100, .inl (fun z9 => nI (kd z9)))), (aL, .inl (cI, 100, .inl (fun z9 => nI (lf z9)))), (aR, .inl (cI, 100, .inl (fun z9 => nI (rt z9)))), (aX, .inl (cI, 14, .inl (fun z9 => nI (nx z9)))), (aP, .inl (cI, 16, .inl (fun z9 => nI (pl z9)))), (aQ, .inl (cI, 16, .inl (fun z9 => nI (pr z9)))), (aZ, .inl (cI, 100, .inl ln0))] s.heap := hP
  have hl := lv_entry ([.ref oN, .ref aZ]) (n := 3) (Nat.le_of_ble_eq_true rfl)
  rw [lg_entry_eq]
  generalize (lg_sl ([.ref oN, .ref aZ]) ++ List.replicate (3 - (lg_sl ([.ref oN, .ref aZ])).length) Slot.unset).toArray = ls at hl ⊢
  have hl : lv_has ls 3 [(0, .ref oN), (1, .ref aZ)] := hl
  refine lv_iconst (v := nI 0) hx hb d_Net_layAsAtFirst_0 (by decide +kernel) ?_
  refine lv_istore_n (lv' := [(2, .int (nI 0)), (0, .ref oN), (1, .ref aZ)]) hx hb d_Net_layAsAtFirst_1 rfl hl (by decide) rfl (fun ls hl => ?_)
  refine bx_gen (fun V hV => ?_)
  have loop : ∀ (k9 i9 : Nat) (ln : Nat → Int32) (H : Heap) (locs : List Loc) (ls : Array Slot), i9 + k9 = n → (bm_fst kd lf fr ln i9) → va_P (dC, dI) vwCl [(oN, .inr (2, [.int (nI wb), .int (nI (2 ^ wb)), .ref aK, .ref aL, .ref aR, .ref aX, .ref aP, .ref aQ, .int (nI n), .int (nI sc), .int (nI s1), .int (nI np), .int (nI fr)])), (aK, .inl (cI, 100, .inl (fun z9 => nI (kd z9)))), (aL, .inl (cI, 100, .inl (fun z9 => nI (lf z9)))), (aR, .inl (cI, 100, .inl (fun z9 => nI (rt z9)))), (aX, .inl (cI, 14, .inl (fun z9 => nI (nx z9)))), (aP, .inl (cI, 16, .inl (fun z9 => nI (pl z9)))), (aQ, .inl (cI, 16, .inl (fun z9 => nI (pr z9)))), (aZ, .inl (cI, 100, .inl ln))] H → va_D A [(oN, .inr (2, [.int (nI wb), .int (nI (2 ^ wb)), .ref aK, .ref aL, .ref aR, .ref aX, .ref aP, .ref aQ, .int (nI n), .int (nI sc), .int (nI s1), .int (nI np), .int (nI fr)])), (aK, .inl (cI, 100, .inl (fun z9 => nI (kd z9)))), (aL, .inl (cI, 100, .inl (fun z9 => nI (lf z9)))), (aR, .inl (cI, 100, .inl (fun z9 => nI (rt z9)))), (aX, .inl (cI, 14, .inl (fun z9 => nI (nx z9)))), (aP, .inl (cI, 16, .inl (fun z9 => nI (pl z9)))), (aQ, .inl (cI, 16, .inl (fun z9 => nI (pr z9)))), (aZ, .inl (cI, 100, .inl ln))] → va_S A s.heap H locs → lv_has ls 3 [(0, .ref oN), (1, .ref aZ), (2, .int (nI i9))] → V H locs 0 0 (F0 m 2 ls []) := by
    intro k9
    induction k9 with
    | zero =>
      intro i9 ln H locs ls hik hi_ln hP hD hS hl
      refine (hV _ _ _ _ _).mpr ?_
      refine lv_iload_n hx hb d_Net_layAsAtFirst_2 rfl (lv_at hl 2 rfl) ?_
      refine lv_aload_n hx hb d_Net_layAsAtFirst_3 rfl (lv_at hl 0 rfl) ?_
      refine va_get (D := (dC, dI)) (ci := 2) (v := .int (nI n)) (C := RX2) (T := TX2) (N := 13) hx hb hts in_X2 hown hK hP 0 rfl rfl 8 (by decide) (hts _ lk_Net_37) (fun _ h9 => h9) rfl d_Net_layAsAtFirst_4 ?_
      refine lv_icmp_ge (tgt := 47) hx hb d_Net_layAsAtFirst_7 (by decide) (fun _ => ?_) (fun c9 => absurd (by rw [show i9 = n by omega]; exact nI_le (Nat.le_refl n) (by have := hwf.1; omega)) c9)
      have hP9 := hP
      have hD9 := hD
      exact W.vret hx hb hr (fun t ht hW => ⟨⟨ln, rfl, by rw [show n = i9 by omega]; exact hi_ln, by rw [ht]; exact hP9, hD9⟩, hS.F ht⟩) hS.2.2 d_Net_layAsAtFirst_47
    | succ k9 ih =>
      intro i9 ln H locs ls hik hi_ln hP hD hS hl
      refine (hV _ _ _ _ _).mpr ?_
      refine lv_iload_n hx hb d_Net_layAsAtFirst_2 rfl (lv_at hl 2 rfl) ?_
      refine lv_aload_n hx hb d_Net_layAsAtFirst_3 rfl (lv_at hl 0 rfl) ?_
      refine va_get (D := (dC, dI)) (ci := 2) (v := .int (nI n)) (C := RX2) (T := TX2) (N := 13) hx hb hts in_X2 hown hK hP 0 rfl rfl 8 (by decide) (hts _ lk_Net_37) (fun _ h9 => h9) rfl d_Net_layAsAtFirst_4 ?_
      refine lv_icmp_ge (tgt := 47) hx hb d_Net_layAsAtFirst_7 (by decide) (fun c9 => absurd c9 (nI_ge (by omega) (by have := hwf.1; omega))) (fun _ => ?_)
      have hb9 := hwf.1
      obtain ⟨g1, g2, g3, g4, g5⟩ := hwf.2 i9 (by omega)
      refine lv_aload_n hx hb d_Net_layAsAtFirst_10 rfl (lv_at hl 1 rfl) ?_
      refine lv_iload_n hx hb d_Net_layAsAtFirst_11 rfl (lv_at hl 2 rfl) ?_
      refine lv_aload_n hx hb d_Net_layAsAtFirst_12 rfl (lv_at hl 0 rfl) ?_
      refine va_get (D := (dC, dI)) (ci := 2) (v := .ref aK) (C := RX2) (T := TX2) (N := 13) hx hb hts in_X2 hown hK hP 0 rfl rfl 2 (by decide) (hts _ lk_Net_11) (fun _ h9 => h9) rfl d_Net_layAsAtFirst_13 ?_
      refine lv_iload_n hx hb d_Net_layAsAtFirst_16 rfl (lv_at hl 2 rfl) ?_
      refine bx_iald hx hb hK hP 1 0 rfl rfl (k := i9) rfl (by omega) (by decide) d_Net_layAsAtFirst_17 ?_
      refine lv_bipush (v := nI 7) hx hb d_Net_layAsAtFirst_18 (by decide +kernel) ?_
      refine lv_icmp_ne (tgt := 39) hx hb d_Net_layAsAtFirst_20 (by decide) (fun c_1 => ?_) (fun c_1 => ?_)
      · refine lv_iconst (v := nI 0) hx hb d_Net_layAsAtFirst_39 (by decide +kernel) ?_
        refine bx_iast hx hb hK hP hD hS 7 0 rfl rfl (k := i9) rfl (by omega) (by decide) (g := upd ln i9 (nI 0)) rfl d_Net_layAsAtFirst_40 (fun H locs hP hD hS => ?_)
        have hP : va_P (dC, dI) vwCl [(oN, .inr (2, [.int (nI wb), .int (nI (2 ^ wb)), .ref aK, .ref aL, .ref aR, .ref aX, .ref aP, .ref aQ, .int (nI n), .int (nI sc), .int (nI s1), .int (nI np), .int (nI fr)])), (aK, .inl (cI, 100, .inl (fun z9 => nI (kd z9)))), (aL, .inl (cI, 100, .inl (fun z9 => nI (lf z9)))), (aR, .inl (cI, 100, .inl (fun z9 => nI (rt z9)))), (aX, .inl (cI, 14, .inl (fun z9 => nI (nx z9)))), (aP, .inl (cI, 16, .inl (fun z9 => nI (pl z9)))), (aQ, .inl (cI, 16, .inl (fun z9 => nI (pr z9)))), (aZ, .inl (cI, 100, .inl (upd ln i9 (nI 0))))] H := hP
        have hD : va_D A [(oN, .inr (2, [.int (nI wb), .int (nI (2 ^ wb)), .ref aK, .ref aL, .ref aR, .ref aX, .ref aP, .ref aQ, .int (nI n), .int (nI sc), .int (nI s1), .int (nI np), .int (nI fr)])), (aK, .inl (cI, 100, .inl (fun z9 => nI (kd z9)))), (aL, .inl (cI, 100, .inl (fun z9 => nI (lf z9)))), (aR, .inl (cI, 100, .inl (fun z9 => nI (rt z9)))), (aX, .inl (cI, 14, .inl (fun z9 => nI (nx z9)))), (aP, .inl (cI, 16, .inl (fun z9 => nI (pl z9)))), (aQ, .inl (cI, 16, .inl (fun z9 => nI (pr z9)))), (aZ, .inl (cI, 100, .inl (upd ln i9 (nI 0))))] := hD
        refine lv_iinc (v := nI (i9 + 1)) (lv' := [(2, .int (nI (i9 + 1))), (0, .ref oN), (1, .ref aZ)]) hx hb d_Net_layAsAtFirst_41 hl (k := 2) rfl (bx_inc _) (by decide) rfl (fun ls hl => ?_)
        refine lv_goto (tgt := 2) hx hb d_Net_layAsAtFirst_44 (by decide) ?_
        exact (hV _ _ _ _ _).mp (ih (i9 + 1) (upd ln i9 (nI 0)) _ _ ls (by omega) (bm_fst_up hi_ln (by rw [if_neg (fun h => c_1 (by rw [h]))])) hP hD hS (lv_sub hl [1, 2, 0] rfl))
      · have g6 : kd i9 = 7 := (nI_eq (by omega) (by decide)).mp (c_1)
        have g7 := g5 g6
        refine lv_aload_n hx hb d_Net_layAsAtFirst_23 rfl (lv_at hl 0 rfl) ?_
        refine va_get (D := (dC, dI)) (ci := 2) (v := .ref aL) (C := RX2) (T := TX2) (N := 13) hx hb hts in_X2 hown hK hP 0 rfl rfl 3 (by decide) (hts _ lk_Net_15) (fun _ h9 => h9) rfl d_Net_layAsAtFirst_24 ?_
        refine lv_iload_n hx hb d_Net_layAsAtFirst_27 rfl (lv_at hl 2 rfl) ?_
        refine bx_iald hx hb hK hP 2 0 rfl rfl (k := i9) rfl (by omega) (by decide) d_Net_layAsAtFirst_28 ?_
        refine lv_aload_n hx hb d_Net_layAsAtFirst_29 rfl (lv_at hl 0 rfl) ?_
        refine va_get (D := (dC, dI)) (ci := 2) (v := .int (nI fr)) (C := RX2) (T := TX2) (N := 13) hx hb hts in_X2 hown hK hP 0 rfl rfl 12 (by decide) (hts _ lk_Net_60) (fun _ h9 => h9) rfl d_Net_layAsAtFirst_30 ?_
        have hPc := hP.sub (ws' := []) [] rfl
        refine bx_callR (va_runS (As := [.int (nI (lf i9)), .int (nI fr)]) (rest := [.int (nI i9), .ref aZ]) ⟨hx, hb, hml, hown, hts⟩ (k_Net_lanesOfState l dC dI cI cZ cJ (lf i9) fr (by omega)) (bx_cS (n := 2) hts mc_Net_lanesOfState lk_Net_66 mi_Net_lanesOfState ini_Net (by decide +kernel) ⟨Nat.le_of_ble_eq_true rfl, Nat.le_of_ble_eq_true rfl⟩) (bx_prS hE hS hPc) rfl rfl hl.1 rfl (lv_room (Nat.le_of_ble_eq_true rfl)) d_Net_layAsAtFirst_33 ⟨Nat.zero_le _, Nat.zero_le _⟩) (fun r_1 hw_r_1 => ?_)
        refine lv_goto (tgt := 40) hx hb d_Net_layAsAtFirst_36 (by decide) ?_
        refine bx_iast hx hb hK hP hD hS 7 0 rfl rfl (k := i9) rfl (by omega) (by decide) (g := upd ln i9 r_1) rfl d_Net_layAsAtFirst_40 (fun H locs hP hD hS => ?_)
        have hP : va_P (dC, dI) vwCl [(oN, .inr (2, [.int (nI wb), .int (nI (2 ^ wb)), .ref aK, .ref aL, .ref aR, .ref aX, .ref aP, .ref aQ, .int (nI n), .int (nI sc), .int (nI s1), .int (nI np), .int (nI fr)])), (aK, .inl (cI, 100, .inl (fun z9 => nI (kd z9)))), (aL, .inl (cI, 100, .inl (fun z9 => nI (lf z9)))), (aR, .inl (cI, 100, .inl (fun z9 => nI (rt z9)))), (aX, .inl (cI, 14, .inl (fun z9 => nI (nx z9)))), (aP, .inl (cI, 16, .inl (fun z9 => nI (pl z9)))), (aQ, .inl (cI, 16, .inl (fun z9 => nI (pr z9)))), (aZ, .inl (cI, 100, .inl (upd ln i9 r_1)))] H := hP
        have hD : va_D A [(oN, .inr (2, [.int (nI wb), .int (nI (2 ^ wb)), .ref aK, .ref aL, .ref aR, .ref aX, .ref aP, .ref aQ, .int (nI n), .int (nI sc), .int (nI s1), .int (nI np), .int (nI fr)])), (aK, .inl (cI, 100, .inl (fun z9 => nI (kd z9)))), (aL, .inl (cI, 100, .inl (fun z9 => nI (lf z9)))), (aR, .inl (cI, 100, .inl (fun z9 => nI (rt z9)))), (aX, .inl (cI, 14, .inl (fun z9 => nI (nx z9)))), (aP, .inl (cI, 16, .inl (fun z9 => nI (pl z9)))), (aQ, .inl (cI, 16, .inl (fun z9 => nI (pr z9)))), (aZ, .inl (cI, 100, .inl (upd ln i9 r_1)))] := hD
        refine lv_iinc (v := nI (i9 + 1)) (lv' := [(2, .int (nI (i9 + 1))), (0, .ref oN), (1, .ref aZ)]) hx hb d_Net_layAsAtFirst_41 hl (k := 2) rfl (bx_inc _) (by decide) rfl (fun ls hl => ?_)
        refine lv_goto (tgt := 2) hx hb d_Net_layAsAtFirst_44 (by decide) ?_
        exact (hV _ _ _ _ _).mp (ih (i9 + 1) (upd ln i9 r_1) _ _ ls (by omega) (bm_fst_up hi_ln (by rw [if_pos g6]; exact hw_r_1)) hP hD hS (lv_sub hl [1, 2, 0] rfl))
  exact loop n 0 ln0 _ _ ls (Nat.zero_add _) (bm_fst_0 _ _ _ _) hP hD hS (lv_sub hl [1, 2, 0] rfl)

set_option maxHeartbeats 4000000 in
set_option maxRecDepth 100000 in
theorem k_Net_rowAfter (l : Launch) (dC : Nat → ClassId) (dI : Nat → Nat → Nat) (cI cZ cJ : ClassId) (oN aK aL aR aX aP aQ wb n sc s1 np fr : Nat) (kd lf rt nx pl pr : Nat → Nat) (aZ w : Nat) (ln : Nat → Int32) (hw : w < 16) (hsc : sc ≤ 14) (hnx : ∀ s, s < sc → nx s < 100) : Met l y_Net_rowAfter (bw y_Net_rowAfter b_Net_rowAfter 5 (some .int)) ({ frames := 0, cells := 0, slots := 0, locals := 0 }) (bx_pR dC dI cI cZ cJ [.ref oN, .int (nI w), .ref aZ] [(oN, .inr (2, [.int (nI wb), .int (nI (2 ^ wb)), .ref aK, .ref aL, .ref aR, .ref aX, .ref aP, .ref aQ, .int (nI n), .int (nI sc), .int (nI s1), .int (nI np), .int (nI fr)])), (aK, .inl (cI, 100, .inl (fun z9 => nI (kd z9)))), (aL, .inl (cI, 100, .inl (fun z9 => nI (lf z9)))), (aR, .inl (cI, 100, .inl (fun z9 => nI (rt z9)))), (aX, .inl (cI, 14, .inl (fun z9 => nI (nx z9)))), (aP, .inl (cI, 16, .inl (fun z9 => nI (pl z9)))), (aQ, .inl (cI, 16, .inl (fun z9 => nI (pr z9)))), (aZ, .inl (cI, 100, .inl ln))]) (bx_qR (fun r => r = nI (bn_row (fun s => bt (ln (nx s)) w) sc))) 0 0 (fun _ => False) := by
  refine Met.ofW (cc := b_Net_rowAfter) (maxL := 5) (ret := some .int) (by decide) rfl ?_
  intro p e s m args below meth c s₁ B hml hv
  obtain ⟨rfl, hE, hP⟩ := hv
  have hx := B.exec
  have hb := B.bytes
  have hr := B.returns
  have hts9 := atoms_spec (ws := (bw y_Net_rowAfter b_Net_rowAfter 5 (some .int))) B.pre
  have hts : ∀ w ∈ gw, w.before _ s = true := fun w h => hts9 w (List.mem_cons_of_mem _ h)
  have hown : s.vm.findClass RX2 = some m.cls := findClass_of_methodNamed B.named
  have hlocks := B.notSynchronized
  have hK := hE.1
  have hN := hE.2.1
  have hS : va_S (fun _ => False) s.heap s.heap [] := va_S.rf
  have hP : va_P (dC, dI) vwCl [(oN, .inr (2, [.int (nI wb), .int (nI (2 ^ wb)), .ref aK, .ref aL, .ref aR, .ref aX, .ref aP, .ref aQ, .int (nI n), .int (nI sc), .int (nI s1), .int (nI np), .int (nI fr)])), (aK, .inl (cI, 100, .inl (fun z9 => nI (kd z9)))), (aL, .inl (cI, 100, .inl (fun z9 => nI (lf z9)))), (aR, .inl (cI, 100, .inl (fun z9 => nI (rt z9)))), (aX, .inl (cI, 14, .inl (fun z9 => nI (nx z9)))), (aP, .inl (cI, 16, .inl (fun z9 => nI (pl z9)))), (aQ, .inl (cI, 16, .inl (fun z9 => nI (pr z9)))), (aZ, .inl (cI, 100, .inl ln))] s.heap := hP
  have hl := lv_entry ([.ref oN, .int (nI w), .ref aZ]) (n := 5) (Nat.le_of_ble_eq_true rfl)
  rw [lg_entry_eq]
  generalize (lg_sl ([.ref oN, .int (nI w), .ref aZ]) ++ List.replicate (5 - (lg_sl ([.ref oN, .int (nI w), .ref aZ])).length) Slot.unset).toArray = ls at hl ⊢
  have hl : lv_has ls 5 [(0, .ref oN), (1, .int (nI w)), (2, .ref aZ)] := hl
  refine lv_iconst (v := nI 0) hx hb d_Net_rowAfter_0 (by decide +kernel) ?_
  refine lv_istore_n (lv' := [(3, .int (nI 0)), (0, .ref oN), (1, .int (nI w)), (2, .ref aZ)]) hx hb d_Net_rowAfter_1 rfl hl (by decide) rfl (fun ls hl => ?_)
  refine lv_iconst (v := nI 0) hx hb d_Net_rowAfter_2 (by decide +kernel) ?_
  refine lv_istore (lv' := [(4, .int (nI 0)), (3, .int (nI 0)), (0, .ref oN), (1, .int (nI w)), (2, .ref aZ)]) hx hb d_Net_rowAfter_3 hl (by decide) rfl (fun ls hl => ?_)
  refine bx_gen (fun V hV => ?_)
  have loop : ∀ (k9 i9 : Nat) (ls : Array Slot), i9 + k9 = sc → lv_has ls 5 [(0, .ref oN), (1, .int (nI w)), (2, .ref aZ), (3, .int (nI (bn_row (fun s => bt (ln (nx s)) w) i9))), (4, .int (nI i9))] → V s.heap [] 0 0 (F0 m 5 ls []) := by
    intro k9
    induction k9 with
    | zero =>
      intro i9 ls hik hl
      refine (hV _ _ _ _ _).mpr ?_
      refine lv_iload hx hb d_Net_rowAfter_5 (lv_at hl 4 rfl) ?_
      refine lv_aload_n hx hb d_Net_rowAfter_7 rfl (lv_at hl 0 rfl) ?_
      refine va_get (D := (dC, dI)) (ci := 2) (v := .int (nI sc)) (C := RX2) (T := TX2) (N := 13) hx hb hts in_X2 hown hK hP 0 rfl rfl 9 (by decide) (hts _ lk_Net_40) (fun _ h9 => h9) rfl d_Net_rowAfter_8 ?_
      refine lv_icmp_ge (tgt := 39) hx hb d_Net_rowAfter_11 (by decide) (fun _ => ?_) (fun c9 => absurd (by rw [show i9 = sc by omega]; exact nI_le (Nat.le_refl sc) (by omega)) c9)
      refine lv_iload_n hx hb d_Net_rowAfter_39 rfl (lv_at hl 3 rfl) ?_
      exact W.iret (v := nI (bn_row (fun s => bt (ln (nx s)) w) i9)) hx hb hr (fun t ht hW => ⟨nI (bn_row (fun s => bt (ln (nx s)) w) i9), rfl, by rw [show sc = i9 by omega], ht⟩) (fun q h => by cases h) d_Net_rowAfter_40
    | succ k9 ih =>
      intro i9 ls hik hl
      refine (hV _ _ _ _ _).mpr ?_
      refine lv_iload hx hb d_Net_rowAfter_5 (lv_at hl 4 rfl) ?_
      refine lv_aload_n hx hb d_Net_rowAfter_7 rfl (lv_at hl 0 rfl) ?_
      refine va_get (D := (dC, dI)) (ci := 2) (v := .int (nI sc)) (C := RX2) (T := TX2) (N := 13) hx hb hts in_X2 hown hK hP 0 rfl rfl 9 (by decide) (hts _ lk_Net_40) (fun _ h9 => h9) rfl d_Net_rowAfter_8 ?_
      refine lv_icmp_ge (tgt := 39) hx hb d_Net_rowAfter_11 (by decide) (fun c9 => absurd c9 (nI_ge (by omega) (by omega))) (fun _ => ?_)
      refine lv_iload_n hx hb d_Net_rowAfter_14 rfl (lv_at hl 3 rfl) ?_
      refine lv_aload_n hx hb d_Net_rowAfter_15 rfl (lv_at hl 2 rfl) ?_
      refine lv_aload_n hx hb d_Net_rowAfter_16 rfl (lv_at hl 0 rfl) ?_
      refine va_get (D := (dC, dI)) (ci := 2) (v := .ref aX) (C := RX2) (T := TX2) (N := 13) hx hb hts in_X2 hown hK hP 0 rfl rfl 5 (by decide) (hts _ lk_Net_21) (fun _ h9 => h9) rfl d_Net_rowAfter_17 ?_
      refine lv_iload hx hb d_Net_rowAfter_20 (lv_at hl 4 rfl) ?_
      refine bx_iald hx hb hK hP 4 0 rfl rfl (k := i9) rfl (by omega) (by decide) d_Net_rowAfter_22 ?_
      refine bx_iald hx hb hK hP 7 0 rfl rfl (k := (nx i9)) rfl (hnx i9 (by omega)) (by decide) d_Net_rowAfter_23 ?_
      refine lv_iload_n hx hb d_Net_rowAfter_24 rfl (lv_at hl 1 rfl) ?_
      refine lv_ishr hx hb d_Net_rowAfter_25 ?_
      refine lv_iconst (v := nI 1) hx hb d_Net_rowAfter_26 (by decide +kernel) ?_
      refine lv_iand hx hb d_Net_rowAfter_27 ?_
      refine bx_top (y := bz (bt (ln (nx i9)) w)) (bn_bit _ w (by omega)) ?_
      refine lv_iload hx hb d_Net_rowAfter_28 (lv_at hl 4 rfl) ?_
      refine lv_ishl hx hb d_Net_rowAfter_30 ?_
      refine lv_ior hx hb d_Net_rowAfter_31 ?_
      refine bx_top (y := nI (bn_row (fun s => bt (ln (nx s)) w) (i9 + 1))) (bn_put _ i9 _ (by omega) (bn_row_lt _ _)) ?_
      refine lv_istore_n (lv' := [(3, .int (nI (bn_row (fun s => bt (ln (nx s)) w) (i9 + 1)))), (0, .ref oN), (1, .int (nI w)), (2, .ref aZ), (4, .int (nI i9))]) hx hb d_Net_rowAfter_32 rfl hl (by decide) rfl (fun ls hl => ?_)
      refine lv_iinc (v := nI (i9 + 1)) (lv' := [(4, .int (nI (i9 + 1))), (3, .int (nI (bn_row (fun s => bt (ln (nx s)) w) (i9 + 1)))), (0, .ref oN), (1, .int (nI w)), (2, .ref aZ)]) hx hb d_Net_rowAfter_33 hl (k := 4) rfl (bx_inc _) (by decide) rfl (fun ls hl => ?_)
      refine lv_goto (tgt := 5) hx hb d_Net_rowAfter_36 (by decide) ?_
      exact (hV _ _ _ _ _).mp (ih (i9 + 1) ls (by omega) (lv_sub hl [2, 3, 4, 1, 0] rfl))
  exact loop sc 0 ls (Nat.zero_add _) (lv_sub hl [2, 3, 4, 1, 0] rfl)

set_option maxHeartbeats 4000000 in
set_option maxRecDepth 100000 in
theorem k_Net_firstDifferingPair (l : Launch) (dC : Nat → ClassId) (dI : Nat → Nat → Nat) (cI cZ cJ : ClassId) (oN aK aL aR aX aP aQ wb n sc s1 np fr : Nat) (kd lf rt nx pl pr : Nat → Nat) (aZ w : Nat) (ln : Nat → Int32) (hw : w < 16) (hnp : np ≤ 16) (hpl : ∀ p, p < np → pl p < 100 ∧ pr p < 100) : Met l y_Net_firstDifferingPair (bw y_Net_firstDifferingPair b_Net_firstDifferingPair 5 (some .int)) ({ frames := 0, cells := 0, slots := 0, locals := 0 }) (bx_pR dC dI cI cZ cJ [.ref oN, .int (nI w), .ref aZ] [(oN, .inr (2, [.int (nI wb), .int (nI (2 ^ wb)), .ref aK, .ref aL, .ref aR, .ref aX, .ref aP, .ref aQ, .int (nI n), .int (nI sc), .int (nI s1), .int (nI np), .int (nI fr)])), (aK, .inl (cI, 100, .inl (fun z9 => nI (kd z9)))), (aL, .inl (cI, 100, .inl (fun z9 => nI (lf z9)))), (aR, .inl (cI, 100, .inl (fun z9 => nI (rt z9)))), (aX, .inl (cI, 14, .inl (fun z9 => nI (nx z9)))), (aP, .inl (cI, 16, .inl (fun z9 => nI (pl z9)))), (aQ, .inl (cI, 16, .inl (fun z9 => nI (pr z9)))), (aZ, .inl (cI, 100, .inl ln))]) (bx_qR (fun r => (r = (-1) ∧ ∀ q, q < np → (bt (ln (pl q)) w ^^ bt (ln (pr q)) w) = false) ∨ ∃ q, q < np ∧ r = nI q ∧ (bt (ln (pl q)) w ^^ bt (ln (pr q)) w) = true ∧ ∀ q2, q2 < q → (bt (ln (pl q2)) w ^^ bt (ln (pr q2)) w) = false)) 0 0 (fun _ => False) := by
  refine Met.ofW (cc := b_Net_firstDifferingPair) (maxL := 5) (ret := some .int) (by decide) rfl ?_
  intro p e s m args below meth c s₁ B hml hv
  obtain ⟨rfl, hE, hP⟩ := hv
  have hx := B.exec
  have hb := B.bytes
  have hr := B.returns
  have hts9 := atoms_spec (ws := (bw y_Net_firstDifferingPair b_Net_firstDifferingPair 5 (some .int))) B.pre
  have hts : ∀ w ∈ gw, w.before _ s = true := fun w h => hts9 w (List.mem_cons_of_mem _ h)
  have hown : s.vm.findClass RX2 = some m.cls := findClass_of_methodNamed B.named
  have hlocks := B.notSynchronized
  have hK := hE.1
  have hN := hE.2.1
  have hS : va_S (fun _ => False) s.heap s.heap [] := va_S.rf
  have hP : va_P (dC, dI) vwCl [(oN, .inr (2, [.int (nI wb), .int (nI (2 ^ wb)), .ref aK, .ref aL, .ref aR, .ref aX, .ref aP, .ref aQ, .int (nI n), .int (nI sc), .int (nI s1), .int (nI np), .int (nI fr)])), (aK, .inl (cI, 100, .inl (fun z9 => nI (kd z9)))), (aL, .inl (cI, 100, .inl (fun z9 => nI (lf z9)))), (aR, .inl (cI, 100, .inl (fun z9 => nI (rt z9)))), (aX, .inl (cI, 14, .inl (fun z9 => nI (nx z9)))), (aP, .inl (cI, 16, .inl (fun z9 => nI (pl z9)))), (aQ, .inl (cI, 16, .inl (fun z9 => nI (pr z9)))), (aZ, .inl (cI, 100, .inl ln))] s.heap := hP
  have hl := lv_entry ([.ref oN, .int (nI w), .ref aZ]) (n := 5) (Nat.le_of_ble_eq_true rfl)
  rw [lg_entry_eq]
  generalize (lg_sl ([.ref oN, .int (nI w), .ref aZ]) ++ List.replicate (5 - (lg_sl ([.ref oN, .int (nI w), .ref aZ])).length) Slot.unset).toArray = ls at hl ⊢
  have hl : lv_has ls 5 [(0, .ref oN), (1, .int (nI w)), (2, .ref aZ)] := hl
  refine lv_iconst (v := nI 0) hx hb d_Net_firstDifferingPair_0 (by decide +kernel) ?_
  refine lv_istore_n (lv' := [(3, .int (nI 0)), (0, .ref oN), (1, .int (nI w)), (2, .ref aZ)]) hx hb d_Net_firstDifferingPair_1 rfl hl (by decide) rfl (fun ls hl => ?_)
  refine bx_gen (fun V hV => ?_)
  have loop : ∀ (k9 i9 : Nat) (ls : Array Slot), i9 + k9 = np → (∀ q, q < i9 → (bt (ln (pl q)) w ^^ bt (ln (pr q)) w) = false) → lv_has ls 5 [(0, .ref oN), (1, .int (nI w)), (2, .ref aZ), (3, .int (nI i9))] → V s.heap [] 0 0 (F0 m 2 ls []) := by
    intro k9
    induction k9 with
    | zero =>
      intro i9 ls hik hi_d hl
      refine (hV _ _ _ _ _).mpr ?_
      refine lv_iload_n hx hb d_Net_firstDifferingPair_2 rfl (lv_at hl 3 rfl) ?_
      refine lv_aload_n hx hb d_Net_firstDifferingPair_3 rfl (lv_at hl 0 rfl) ?_
      refine va_get (D := (dC, dI)) (ci := 2) (v := .int (nI np)) (C := RX2) (T := TX2) (N := 13) hx hb hts in_X2 hown hK hP 0 rfl rfl 11 (by decide) (hts _ lk_Net_43) (fun _ h9 => h9) rfl d_Net_firstDifferingPair_4 ?_
      refine lv_icmp_ge (tgt := 46) hx hb d_Net_firstDifferingPair_7 (by decide) (fun _ => ?_) (fun c9 => absurd (by rw [show i9 = np by omega]; exact nI_le (Nat.le_refl np) (by omega)) c9)
      refine lv_iconst (v := (-1)) hx hb d_Net_firstDifferingPair_46 (by decide +kernel) ?_
      exact W.iret (v := (-1)) hx hb hr (fun t ht hW => ⟨(-1), rfl, Or.inl ⟨rfl, fun q hq => hi_d q (by omega)⟩, ht⟩) (fun q h => by cases h) d_Net_firstDifferingPair_47
    | succ k9 ih =>
      intro i9 ls hik hi_d hl
      refine (hV _ _ _ _ _).mpr ?_
      refine lv_iload_n hx hb d_Net_firstDifferingPair_2 rfl (lv_at hl 3 rfl) ?_
      refine lv_aload_n hx hb d_Net_firstDifferingPair_3 rfl (lv_at hl 0 rfl) ?_
      refine va_get (D := (dC, dI)) (ci := 2) (v := .int (nI np)) (C := RX2) (T := TX2) (N := 13) hx hb hts in_X2 hown hK hP 0 rfl rfl 11 (by decide) (hts _ lk_Net_43) (fun _ h9 => h9) rfl d_Net_firstDifferingPair_4 ?_
      refine lv_icmp_ge (tgt := 46) hx hb d_Net_firstDifferingPair_7 (by decide) (fun c9 => absurd c9 (nI_ge (by omega) (by omega))) (fun _ => ?_)
      have hq9 := hpl i9 (by omega)
      refine lv_aload_n hx hb d_Net_firstDifferingPair_10 rfl (lv_at hl 2 rfl) ?_
      refine lv_aload_n hx hb d_Net_firstDifferingPair_11 rfl (lv_at hl 0 rfl) ?_
      refine va_get (D := (dC, dI)) (ci := 2) (v := .ref aP) (C := RX2) (T := TX2) (N := 13) hx hb hts in_X2 hown hK hP 0 rfl rfl 6 (by decide) (hts _ lk_Net_24) (fun _ h9 => h9) rfl d_Net_firstDifferingPair_12 ?_
      refine lv_iload_n hx hb d_Net_firstDifferingPair_15 rfl (lv_at hl 3 rfl) ?_
      refine bx_iald hx hb hK hP 5 0 rfl rfl (k := i9) rfl (by omega) (by decide) d_Net_firstDifferingPair_16 ?_
      refine bx_iald hx hb hK hP 7 0 rfl rfl (k := (pl i9)) rfl hq9.1 (by decide) d_Net_firstDifferingPair_17 ?_
      refine lv_aload_n hx hb d_Net_firstDifferingPair_18 rfl (lv_at hl 2 rfl) ?_
      refine lv_aload_n hx hb d_Net_firstDifferingPair_19 rfl (lv_at hl 0 rfl) ?_
      refine va_get (D := (dC, dI)) (ci := 2) (v := .ref aQ) (C := RX2) (T := TX2) (N := 13) hx hb hts in_X2 hown hK hP 0 rfl rfl 7 (by decide) (hts _ lk_Net_27) (fun _ h9 => h9) rfl d_Net_firstDifferingPair_20 ?_
      refine lv_iload_n hx hb d_Net_firstDifferingPair_23 rfl (lv_at hl 3 rfl) ?_
      refine bx_iald hx hb hK hP 6 0 rfl rfl (k := i9) rfl (by omega) (by decide) d_Net_firstDifferingPair_24 ?_
      refine bx_iald hx hb hK hP 7 0 rfl rfl (k := (pr i9)) rfl hq9.2 (by decide) d_Net_firstDifferingPair_25 ?_
      refine lv_ixor hx hb d_Net_firstDifferingPair_26 ?_
      refine lv_istore (lv' := [(4, .int ((ln (pl i9)) ^^^ (ln (pr i9)))), (0, .ref oN), (1, .int (nI w)), (2, .ref aZ), (3, .int (nI i9))]) hx hb d_Net_firstDifferingPair_27 hl (by decide) rfl (fun ls hl => ?_)
      refine lv_iload hx hb d_Net_firstDifferingPair_29 (lv_at hl 0 rfl) ?_
      refine lv_iload_n hx hb d_Net_firstDifferingPair_31 rfl (lv_at hl 2 rfl) ?_
      refine lv_ishr hx hb d_Net_firstDifferingPair_32 ?_
      refine lv_iconst (v := nI 1) hx hb d_Net_firstDifferingPair_33 (by decide +kernel) ?_
      refine lv_iand hx hb d_Net_firstDifferingPair_34 ?_
      refine bx_top (y := bz (bt (ln (pl i9) ^^^ ln (pr i9)) w)) (bn_bit _ w (by omega)) ?_
      refine lv_if_eq (tgt := 40) hx hb d_Net_firstDifferingPair_35 (by decide) (fun c_1 => ?_) (fun c_1 => ?_)
      · refine lv_iinc (v := nI (i9 + 1)) (lv' := [(3, .int (nI (i9 + 1))), (4, .int ((ln (pl i9)) ^^^ (ln (pr i9)))), (0, .ref oN), (1, .int (nI w)), (2, .ref aZ)]) hx hb d_Net_firstDifferingPair_40 hl (k := 4) rfl (bx_inc _) (by decide) rfl (fun ls hl => ?_)
        refine lv_goto (tgt := 2) hx hb d_Net_firstDifferingPair_43 (by decide) ?_
        exact (hV _ _ _ _ _).mp (ih (i9 + 1) ls (by omega) (lt_s hi_d (by rw [← b_xor]; exact (bz_0 _).mp c_1)) (lv_sub hl [2, 3, 4, 0] rfl))
      · refine lv_iload_n hx hb d_Net_firstDifferingPair_38 rfl (lv_at hl 4 rfl) ?_
        exact W.iret (v := nI i9) hx hb hr (fun t ht hW => ⟨nI i9, rfl, Or.inr ⟨i9, by omega, rfl, by rw [← b_xor]; exact (bz_n0 _).mp c_1, hi_d⟩, ht⟩) (fun q h => by cases h) d_Net_firstDifferingPair_39
  exact loop np 0 ls (Nat.zero_add _) lt_0 (lv_sub hl [1, 2, 3, 0] rfl)

set_option maxHeartbeats 4000000 in
set_option maxRecDepth 100000 in
theorem k_Net_leastDifferingWord (l : Launch) (dC : Nat → ClassId) (dI : Nat → Nat → Nat) (cI cZ cJ : ClassId) (oN aK aL aR aX aP aQ wb n sc s1 np fr : Nat) (kd lf rt nx pl pr : Nat → Nat) (aZ : Nat) (ln : Nat → Int32) (hB : 2 ^ wb ≤ 16) (hnp : np ≤ 16) (hpl : ∀ p, p < np → pl p < 100 ∧ pr p < 100) : Met l y_Net_leastDifferingWord (bw y_Net_leastDifferingWord b_Net_leastDifferingWord 4 (some .int)) ({ frames := 0, cells := 0, slots := 0, locals := 0 }) (bx_pR dC dI cI cZ cJ [.ref oN, .ref aZ] [(oN, .inr (2, [.int (nI wb), .int (nI (2 ^ wb)), .ref aK, .ref aL, .ref aR, .ref aX, .ref aP, .ref aQ, .int (nI n), .int (nI sc), .int (nI s1), .int (nI np), .int (nI fr)])), (aK, .inl (cI, 100, .inl (fun z9 => nI (kd z9)))), (aL, .inl (cI, 100, .inl (fun z9 => nI (lf z9)))), (aR, .inl (cI, 100, .inl (fun z9 => nI (rt z9)))), (aX, .inl (cI, 14, .inl (fun z9 => nI (nx z9)))), (aP, .inl (cI, 16, .inl (fun z9 => nI (pl z9)))), (aQ, .inl (cI, 16, .inl (fun z9 => nI (pr z9)))), (aZ, .inl (cI, 100, .inl ln))]) (bx_qR (fun r => (r = (-1) ∧ ∀ w, w < 2 ^ wb → bn_any (fun q => bt (ln (pl q)) w ^^ bt (ln (pr q)) w) np = false) ∨ ∃ w, w < 2 ^ wb ∧ r = nI w ∧ bn_any (fun q => bt (ln (pl q)) w ^^ bt (ln (pr q)) w) np = true ∧ ∀ w2, w2 < w → bn_any (fun q => bt (ln (pl q)) w2 ^^ bt (ln (pr q)) w2) np = false)) 0 0 (fun _ => False) := by
  refine Met.ofW (cc := b_Net_leastDifferingWord) (maxL := 4) (ret := some .int) (by decide) rfl ?_
  intro p e s m args below meth c s₁ B hml hv
  obtain ⟨rfl, hE, hP⟩ := hv
  have hx := B.exec
  have hb := B.bytes
  have hr := B.returns
  have hts9 := atoms_spec (ws := (bw y_Net_leastDifferingWord b_Net_leastDifferingWord 4 (some .int))) B.pre
  have hts : ∀ w ∈ gw, w.before _ s = true := fun w h => hts9 w (List.mem_cons_of_mem _ h)
  have hown : s.vm.findClass RX2 = some m.cls := findClass_of_methodNamed B.named
  have hlocks := B.notSynchronized
  have hK := hE.1
  have hN := hE.2.1
  have hS : va_S (fun _ => False) s.heap s.heap [] := va_S.rf
  have hP : va_P (dC, dI) vwCl [(oN, .inr (2, [.int (nI wb), .int (nI (2 ^ wb)), .ref aK, .ref aL, .ref aR, .ref aX, .ref aP, .ref aQ, .int (nI n), .int (nI sc), .int (nI s1), .int (nI np), .int (nI fr)])), (aK, .inl (cI, 100, .inl (fun z9 => nI (kd z9)))), (aL, .inl (cI, 100, .inl (fun z9 => nI (lf z9)))), (aR, .inl (cI, 100, .inl (fun z9 => nI (rt z9)))), (aX, .inl (cI, 14, .inl (fun z9 => nI (nx z9)))), (aP, .inl (cI, 16, .inl (fun z9 => nI (pl z9)))), (aQ, .inl (cI, 16, .inl (fun z9 => nI (pr z9)))), (aZ, .inl (cI, 100, .inl ln))] s.heap := hP
  have hl := lv_entry ([.ref oN, .ref aZ]) (n := 4) (Nat.le_of_ble_eq_true rfl)
  rw [lg_entry_eq]
  generalize (lg_sl ([.ref oN, .ref aZ]) ++ List.replicate (4 - (lg_sl ([.ref oN, .ref aZ])).length) Slot.unset).toArray = ls at hl ⊢
  have hl : lv_has ls 4 [(0, .ref oN), (1, .ref aZ)] := hl
  refine lv_iconst (v := nI 0) hx hb d_Net_leastDifferingWord_0 (by decide +kernel) ?_
  refine lv_istore_n (lv' := [(2, .int (nI 0)), (0, .ref oN), (1, .ref aZ)]) hx hb d_Net_leastDifferingWord_1 rfl hl (by decide) rfl (fun ls hl => ?_)
  refine lv_iconst (v := nI 0) hx hb d_Net_leastDifferingWord_2 (by decide +kernel) ?_
  refine lv_istore_n (lv' := [(3, .int (nI 0)), (2, .int (nI 0)), (0, .ref oN), (1, .ref aZ)]) hx hb d_Net_leastDifferingWord_3 rfl hl (by decide) rfl (fun ls hl => ?_)
  refine bx_gen (fun V hV => ?_)
  have loop : ∀ (k9 i9 : Nat) (df : Int32) (ls : Array Slot), i9 + k9 = np → (∀ w, w < 16 → bt df w = bn_any (fun q => bt (ln (pl q)) w ^^ bt (ln (pr q)) w) i9) → lv_has ls 4 [(0, .ref oN), (1, .ref aZ), (2, .int df), (3, .int (nI i9))] → V s.heap [] 0 0 (F0 m 4 ls []) := by
    intro k9
    induction k9 with
    | zero =>
      intro i9 df ls hik hi_d hl
      refine (hV _ _ _ _ _).mpr ?_
      refine lv_iload_n hx hb d_Net_leastDifferingWord_4 rfl (lv_at hl 3 rfl) ?_
      refine lv_aload_n hx hb d_Net_leastDifferingWord_5 rfl (lv_at hl 0 rfl) ?_
      refine va_get (D := (dC, dI)) (ci := 2) (v := .int (nI np)) (C := RX2) (T := TX2) (N := 13) hx hb hts in_X2 hown hK hP 0 rfl rfl 11 (by decide) (hts _ lk_Net_43) (fun _ h9 => h9) rfl d_Net_leastDifferingWord_6 ?_
      refine lv_icmp_ge (tgt := 38) hx hb d_Net_leastDifferingWord_9 (by decide) (fun _ => ?_) (fun c9 => absurd (by rw [show i9 = np by omega]; exact nI_le (Nat.le_refl np) (by omega)) c9)
      refine lv_iconst (v := nI 0) hx hb d_Net_leastDifferingWord_38 (by decide +kernel) ?_
      refine lv_istore_n (lv' := [(3, .int (nI 0)), (0, .ref oN), (1, .ref aZ), (2, .int df)]) hx hb d_Net_leastDifferingWord_39 rfl hl (by decide) rfl (fun ls hl => ?_)
      have hdf : ∀ w, w < 16 → bt df w = bn_any (fun q => bt (ln (pl q)) w ^^ bt (ln (pr q)) w) np := fun w hw => by rw [show np = i9 by omega]; exact hi_d w hw
      refine bx_gen (fun V hV => ?_)
      have loop2 : ∀ (k9 i9 : Nat) (ls : Array Slot), i9 + k9 = 2 ^ wb → (∀ w, w < i9 → bn_any (fun q => bt (ln (pl q)) w ^^ bt (ln (pr q)) w) np = false) → lv_has ls 4 [(0, .ref oN), (1, .ref aZ), (2, .int df), (3, .int (nI i9))] → V s.heap [] 0 0 (F0 m 40 ls []) := by
        intro k9
        induction k9 with
        | zero =>
          intro i9 ls hik hi_w hl
          refine (hV _ _ _ _ _).mpr ?_
          refine lv_iload_n hx hb d_Net_leastDifferingWord_40 rfl (lv_at hl 3 rfl) ?_
          refine lv_aload_n hx hb d_Net_leastDifferingWord_41 rfl (lv_at hl 0 rfl) ?_
          refine va_get (D := (dC, dI)) (ci := 2) (v := .int (nI (2 ^ wb))) (C := RX2) (T := TX2) (N := 13) hx hb hts in_X2 hown hK hP 0 rfl rfl 1 (by decide) (hts _ lk_Net_34) (fun _ h9 => h9) rfl d_Net_leastDifferingWord_42 ?_
          refine lv_icmp_ge (tgt := 64) hx hb d_Net_leastDifferingWord_45 (by decide) (fun _ => ?_) (fun c9 => absurd (by rw [show i9 = 2 ^ wb by omega]; exact nI_le (Nat.le_refl _) (by omega)) c9)
          refine lv_iconst (v := (-1)) hx hb d_Net_leastDifferingWord_64 (by decide +kernel) ?_
          exact W.iret (v := (-1)) hx hb hr (fun t ht hW => ⟨(-1), rfl, Or.inl ⟨rfl, fun w hw => hi_w w (by omega)⟩, ht⟩) (fun q h => by cases h) d_Net_leastDifferingWord_65
        | succ k9 ih =>
          intro i9 ls hik hi_w hl
          refine (hV _ _ _ _ _).mpr ?_
          refine lv_iload_n hx hb d_Net_leastDifferingWord_40 rfl (lv_at hl 3 rfl) ?_
          refine lv_aload_n hx hb d_Net_leastDifferingWord_41 rfl (lv_at hl 0 rfl) ?_
          refine va_get (D := (dC, dI)) (ci := 2) (v := .int (nI (2 ^ wb))) (C := RX2) (T := TX2) (N := 13) hx hb hts in_X2 hown hK hP 0 rfl rfl 1 (by decide) (hts _ lk_Net_34) (fun _ h9 => h9) rfl d_Net_leastDifferingWord_42 ?_
          refine lv_icmp_ge (tgt := 64) hx hb d_Net_leastDifferingWord_45 (by decide) (fun c9 => absurd c9 (nI_ge (by omega) (by omega))) (fun _ => ?_)
          refine lv_iload_n hx hb d_Net_leastDifferingWord_48 rfl (lv_at hl 2 rfl) ?_
          refine lv_iload_n hx hb d_Net_leastDifferingWord_49 rfl (lv_at hl 3 rfl) ?_
          refine lv_ishr hx hb d_Net_leastDifferingWord_50 ?_
          refine lv_iconst (v := nI 1) hx hb d_Net_leastDifferingWord_51 (by decide +kernel) ?_
          refine lv_iand hx hb d_Net_leastDifferingWord_52 ?_
          refine bx_top (y := bz (bt df i9)) (bn_bit _ i9 (by omega)) ?_
          refine lv_if_eq (tgt := 58) hx hb d_Net_leastDifferingWord_53 (by decide) (fun c_1 => ?_) (fun c_1 => ?_)
          · refine lv_iinc (v := nI (i9 + 1)) (lv' := [(3, .int (nI (i9 + 1))), (0, .ref oN), (1, .ref aZ), (2, .int df)]) hx hb d_Net_leastDifferingWord_58 hl (k := 3) rfl (bx_inc _) (by decide) rfl (fun ls hl => ?_)
            refine lv_goto (tgt := 40) hx hb d_Net_leastDifferingWord_61 (by decide) ?_
            exact (hV _ _ _ _ _).mp (ih (i9 + 1) ls (by omega) (lt_s hi_w (by rw [← hdf i9 (by omega)]; exact (bz_0 _).mp c_1)) (lv_sub hl [1, 2, 3, 0] rfl))
          · refine lv_iload_n hx hb d_Net_leastDifferingWord_56 rfl (lv_at hl 3 rfl) ?_
            exact W.iret (v := nI i9) hx hb hr (fun t ht hW => ⟨nI i9, rfl, Or.inr ⟨i9, by omega, rfl, by rw [← hdf i9 (by omega)]; exact (bz_n0 _).mp c_1, hi_w⟩, ht⟩) (fun q h => by cases h) d_Net_leastDifferingWord_57
      exact loop2 (2 ^ wb) 0 ls (Nat.zero_add _) lt_0 (lv_sub hl [1, 2, 3, 0] rfl)
    | succ k9 ih =>
      intro i9 df ls hik hi_d hl
      refine (hV _ _ _ _ _).mpr ?_
      refine lv_iload_n hx hb d_Net_leastDifferingWord_4 rfl (lv_at hl 3 rfl) ?_
      refine lv_aload_n hx hb d_Net_leastDifferingWord_5 rfl (lv_at hl 0 rfl) ?_
      refine va_get (D := (dC, dI)) (ci := 2) (v := .int (nI np)) (C := RX2) (T := TX2) (N := 13) hx hb hts in_X2 hown hK hP 0 rfl rfl 11 (by decide) (hts _ lk_Net_43) (fun _ h9 => h9) rfl d_Net_leastDifferingWord_6 ?_
      refine lv_icmp_ge (tgt := 38) hx hb d_Net_leastDifferingWord_9 (by decide) (fun c9 => absurd c9 (nI_ge (by omega) (by omega))) (fun _ => ?_)
      have hq9 := hpl i9 (by omega)
      refine lv_iload_n hx hb d_Net_leastDifferingWord_12 rfl (lv_at hl 2 rfl) ?_
      refine lv_aload_n hx hb d_Net_leastDifferingWord_13 rfl (lv_at hl 1 rfl) ?_
      refine lv_aload_n hx hb d_Net_leastDifferingWord_14 rfl (lv_at hl 0 rfl) ?_
      refine va_get (D := (dC, dI)) (ci := 2) (v := .ref aP) (C := RX2) (T := TX2) (N := 13) hx hb hts in_X2 hown hK hP 0 rfl rfl 6 (by decide) (hts _ lk_Net_24) (fun _ h9 => h9) rfl d_Net_leastDifferingWord_15 ?_
      refine lv_iload_n hx hb d_Net_leastDifferingWord_18 rfl (lv_at hl 3 rfl) ?_
      refine bx_iald hx hb hK hP 5 0 rfl rfl (k := i9) rfl (by omega) (by decide) d_Net_leastDifferingWord_19 ?_
      refine bx_iald hx hb hK hP 7 0 rfl rfl (k := (pl i9)) rfl hq9.1 (by decide) d_Net_leastDifferingWord_20 ?_
      refine lv_aload_n hx hb d_Net_leastDifferingWord_21 rfl (lv_at hl 1 rfl) ?_
      refine lv_aload_n hx hb d_Net_leastDifferingWord_22 rfl (lv_at hl 0 rfl) ?_
      refine va_get (D := (dC, dI)) (ci := 2) (v := .ref aQ) (C := RX2) (T := TX2) (N := 13) hx hb hts in_X2 hown hK hP 0 rfl rfl 7 (by decide) (hts _ lk_Net_27) (fun _ h9 => h9) rfl d_Net_leastDifferingWord_23 ?_
      refine lv_iload_n hx hb d_Net_leastDifferingWord_26 rfl (lv_at hl 3 rfl) ?_
      refine bx_iald hx hb hK hP 6 0 rfl rfl (k := i9) rfl (by omega) (by decide) d_Net_leastDifferingWord_27 ?_
      refine bx_iald hx hb hK hP 7 0 rfl rfl (k := (pr i9)) rfl hq9.2 (by decide) d_Net_leastDifferingWord_28 ?_
      refine lv_ixor hx hb d_Net_leastDifferingWord_29 ?_
      refine lv_ior hx hb d_Net_leastDifferingWord_30 ?_
      refine lv_istore_n (lv' := [(2, .int (df ||| ((ln (pl i9)) ^^^ (ln (pr i9))))), (0, .ref oN), (1, .ref aZ), (3, .int (nI i9))]) hx hb d_Net_leastDifferingWord_31 rfl hl (by decide) rfl (fun ls hl => ?_)
      refine lv_iinc (v := nI (i9 + 1)) (lv' := [(3, .int (nI (i9 + 1))), (2, .int (df ||| ((ln (pl i9)) ^^^ (ln (pr i9))))), (0, .ref oN), (1, .ref aZ)]) hx hb d_Net_leastDifferingWord_32 hl (k := 3) rfl (bx_inc _) (by decide) rfl (fun ls hl => ?_)
      refine lv_goto (tgt := 4) hx hb d_Net_leastDifferingWord_35 (by decide) ?_
      exact (hV _ _ _ _ _).mp (ih (i9 + 1) (df ||| (ln (pl i9) ^^^ ln (pr i9))) ls (by omega) (fun w hw => by rw [b_or, b_xor, hi_d w hw]; rfl) (lv_sub hl [2, 3, 1, 0] rfl))
  exact loop np 0 (nI 0) ls (Nat.zero_add _) (fun w hw => by rw [show nI 0 = 0 from rfl, b_0]; rfl) (lv_sub hl [2, 3, 1, 0] rfl)
