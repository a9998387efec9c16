set_option maxHeartbeats 4000000 in
set_option maxRecDepth 100000 in
theorem k_Mod_made (l : Launch) (dC : Nat → ClassId) (dI : Nat → Nat → Nat) (cI cZ cJ : ClassId) (oM mS mO mL mR mT mN mX mF mA mB mV mW mQ mY mE mC mG mH : Nat) (wb n sc s1 np fr : Nat) (kd lf rt nx pl pr : Nat → Nat) (th : Int32) (no : Nat → Nat) (tr : Nat → Bool) (mrc mcl : Nat) (ov : Bool) (mw : Nat → Nat) (mq : Nat → Int32) (mb lb : Nat → Nat) (cm : Nat → Bool) (mg : Nat → Nat) (ps cy : Nat) (df : Int32) (hw9 : Nat) (sh : Nat → Bool) (k : Nat) (hk : k < 100) (hkd : kd k ≤ 5) (hlr : lf k < 100 ∧ rt k < 100) : Met l y_Mod_made (bw y_Mod_made b_Mod_made 4 (some .boolean)) ({ frames := 0, cells := 0, slots := 0, locals := 0 }) (bx_pR dC dI cI cZ cJ [.ref oM, .int (nI k)] [(oM, .inr (4, [.int th, .int (nI wb), .int (nI n), .int (nI sc), .int (nI np), .int (nI (n - wb - sc)), .ref mS, .ref mO, .ref mL, .ref mR, .ref mT, .ref mN, .ref mX, .ref mF, .ref mA, .ref mB, .ref mV, .int (nI mrc), .int (nI mcl), .int (bz ov), .ref mW, .ref mQ, .ref mY, .ref mE, .ref mC, .ref mG, .int (nI ps), .int (nI cy), .int df, .int (nI hw9), .ref mH])), (mO, .inl (cI, 100, .inl (fun z9 => mo_op (kd z9)))), (mL, .inl (cI, 100, .inl (fun z9 => nI (mo_l kd lf z9)))), (mR, .inl (cI, 100, .inl (fun z9 => nI (rt z9)))), (mT, .inl (cI, 100, .inl (fun z9 => nI (mo_s kd lf z9)))), (mV, .inl (cZ, 100, .inl (fun z9 => bz (tr z9))))]) (bx_qR (fun r => r = bz (bm_gate (kd k) (lf k) (rt k) tr (fun _ => false) 0))) 0 0 (fun _ => False) := by
  refine Met.ofW (cc := b_Mod_made) (maxL := 4) (ret := some .boolean) (by decide) rfl ?_
  intro p e s m args below meth c s₁ B hml hv
  obtain ⟨rfl, hE, hP⟩ := hv
  have hx := B.exec
  have hb := B.bytes
  have hr := B.returns
  have hts9 := atoms_spec (ws := (bw y_Mod_made b_Mod_made 4 (some .boolean))) B.pre
  have hts : ∀ w ∈ gw, w.before _ s = true := fun w h => hts9 w (List.mem_cons_of_mem _ h)
  have hown : s.vm.findClass RX4 = some m.cls := findClass_of_methodNamed B.named
  have hlocks := B.notSynchronized
  have hK := hE.1
  have hN := hE.2.1
  have hS : va_S (fun _ => False) s.heap s.heap [] := va_S.rf
  have hP : va_P (dC, dI) vwCl [(oM, .inr (4, [.int th, .int (nI wb), .int (nI n), .int (nI sc), .int (nI np), .int (nI (n - wb - sc)), .ref mS, .ref mO, .ref mL, .ref mR, .ref mT, .ref mN, .ref mX, .ref mF, .ref mA, .ref mB, .ref mV, .int (nI mrc), .int (nI mcl), .int (bz ov), .ref mW, .ref mQ, .ref mY, .ref mE, .ref mC, .ref mG, .int (nI ps), .int (nI cy), .int df, .int (nI hw9), .ref mH])), (mO, .inl (cI, 100, .inl (fun z9 => mo_op (kd z9)))), (mL, .inl (cI, 100, .inl (fun z9 => nI (mo_l kd lf z9)))), (mR, .inl (cI, 100, .inl (fun z9 => nI (rt z9)))), (mT, .inl (cI, 100, .inl (fun z9 => nI (mo_s kd lf z9)))), (mV, .inl (cZ, 100, .inl (fun z9 => bz (tr z9))))] s.heap := hP
  have hl := lv_entry ([.ref oM, .int (nI k)]) (n := 4) (Nat.le_of_ble_eq_true rfl)
  rw [lg_entry_eq]
  generalize (lg_sl ([.ref oM, .int (nI k)]) ++ List.replicate (4 - (lg_sl ([.ref oM, .int (nI k)])).length) Slot.unset).toArray = ls at hl ⊢
  have hl : lv_has ls 4 [(0, .ref oM), (1, .int (nI k))] := hl
  have g1 : mo_l kd lf k = lf k := if_pos hkd
  have g2 : mo_op (kd k) = nI (kd k) := mo_opk _ hkd
  refine lv_aload_n hx hb d_Mod_made_0 rfl (lv_at hl 0 rfl) ?_
  refine va_get (D := (dC, dI)) (ci := 4) (v := .ref mV) (C := RX4) (T := TX4) (N := 31) hx hb hts in_X4 hown hK hP 0 rfl rfl 16 (by decide) (hts _ lk_Mod_41) (fun _ h9 => h9) rfl d_Mod_made_1 ?_
  refine lv_aload_n hx hb d_Mod_made_4 rfl (lv_at hl 0 rfl) ?_
  refine va_get (D := (dC, dI)) (ci := 4) (v := .ref mL) (C := RX4) (T := TX4) (N := 31) hx hb hts in_X4 hown hK hP 0 rfl rfl 8 (by decide) (hts _ lk_Mod_16) (fun _ h9 => h9) rfl d_Mod_made_5 ?_
  refine lv_iload_n hx hb d_Mod_made_8 rfl (lv_at hl 1 rfl) ?_
  refine bx_iald hx hb hK hP 2 0 rfl rfl (k := k) rfl hk (by decide) d_Mod_made_9 ?_
  refine bx_top (y := nI (lf k)) (by rw [g1]) ?_
  refine bx_zald hx hb hK hP 5 1 rfl rfl (k := (lf k)) rfl hlr.1 (by decide) d_Mod_made_10 ?_
  refine lv_istore_n (lv' := [(2, .int (bz (tr (lf k)))), (0, .ref oM), (1, .int (nI k))]) hx hb d_Mod_made_11 rfl hl (by decide) rfl (fun ls hl => ?_)
  refine lv_aload_n hx hb d_Mod_made_12 rfl (lv_at hl 1 rfl) ?_
  refine va_get (D := (dC, dI)) (ci := 4) (v := .ref mV) (C := RX4) (T := TX4) (N := 31) hx hb hts in_X4 hown hK hP 0 rfl rfl 16 (by decide) (hts _ lk_Mod_41) (fun _ h9 => h9) rfl d_Mod_made_13 ?_
  refine lv_aload_n hx hb d_Mod_made_16 rfl (lv_at hl 1 rfl) ?_
  refine va_get (D := (dC, dI)) (ci := 4) (v := .ref mR) (C := RX4) (T := TX4) (N := 31) hx hb hts in_X4 hown hK hP 0 rfl rfl 9 (by decide) (hts _ lk_Mod_19) (fun _ h9 => h9) rfl d_Mod_made_17 ?_
  refine lv_iload_n hx hb d_Mod_made_20 rfl (lv_at hl 2 rfl) ?_
  refine bx_iald hx hb hK hP 3 0 rfl rfl (k := k) rfl hk (by decide) d_Mod_made_21 ?_
  refine bx_zald hx hb hK hP 5 1 rfl rfl (k := (rt k)) rfl hlr.2 (by decide) d_Mod_made_22 ?_
  refine lv_istore_n (lv' := [(3, .int (bz (tr (rt k)))), (2, .int (bz (tr (lf k)))), (0, .ref oM), (1, .int (nI k))]) hx hb d_Mod_made_23 rfl hl (by decide) rfl (fun ls hl => ?_)
  refine lv_aload_n hx hb d_Mod_made_24 rfl (lv_at hl 2 rfl) ?_
  refine va_get (D := (dC, dI)) (ci := 4) (v := .ref mO) (C := RX4) (T := TX4) (N := 31) hx hb hts in_X4 hown hK hP 0 rfl rfl 7 (by decide) (hts _ lk_Mod_13) (fun _ h9 => h9) rfl d_Mod_made_25 ?_
  refine lv_iload_n hx hb d_Mod_made_28 rfl (lv_at hl 3 rfl) ?_
  refine bx_iald hx hb hK hP 1 0 rfl rfl (k := k) rfl hk (by decide) d_Mod_made_29 ?_
  refine bx_top (y := nI (kd k)) g2 ?_
  have h9 : kd k = 0 ∨ kd k = 1 ∨ kd k = 2 ∨ kd k = 3 ∨ kd k = 4 ∨ kd k = 5 := by omega
  rcases h9 with h9 | h9 | h9 | h9 | h9 | h9
  · refine bx_top (y := nI 0) (by rw [h9]) ?_
    refine lv_tableIn (tgt := 60) hx hb d_Mod_made_30 (by decide +kernel) (by decide +kernel) rfl (by decide) ?_
    refine lv_iload_n hx hb d_Mod_made_60 rfl (lv_at hl 1 rfl) ?_
    refine lv_if_eq (tgt := 72) hx hb d_Mod_made_61 (by decide) (fun c_1 => ?_) (fun c_1 => ?_)
    · refine lv_iconst (v := nI 0) hx hb d_Mod_made_72 (by decide +kernel) ?_
      exact W.zret (v := nI 0) hx hb hr rfl (fun t ht hW => ⟨nI 0, rfl, bz_eq0 (by simp [bm_gate, h9, (bz_0 _).mp c_1]), ht⟩) (fun q h => by cases h) d_Mod_made_73
    · refine lv_iload_n hx hb d_Mod_made_64 rfl (lv_at hl 0 rfl) ?_
      refine lv_if_eq (tgt := 72) hx hb d_Mod_made_65 (by decide) (fun c_2 => ?_) (fun c_2 => ?_)
      · refine lv_iconst (v := nI 0) hx hb d_Mod_made_72 (by decide +kernel) ?_
        exact W.zret (v := nI 0) hx hb hr rfl (fun t ht hW => ⟨nI 0, rfl, bz_eq0 (by simp [bm_gate, h9, (bz_n0 _).mp c_1, (bz_0 _).mp c_2]), ht⟩) (fun q h => by cases h) d_Mod_made_73
      · refine lv_iconst (v := nI 1) hx hb d_Mod_made_68 (by decide +kernel) ?_
        refine lv_goto (tgt := 73) hx hb d_Mod_made_69 (by decide) ?_
        exact W.zret (v := nI 1) hx hb hr rfl (fun t ht hW => ⟨nI 1, rfl, bz_eq1 (by simp [bm_gate, h9, (bz_n0 _).mp c_1, (bz_n0 _).mp c_2]), ht⟩) (fun q h => by cases h) d_Mod_made_73
  · refine bx_top (y := nI 1) (by rw [h9]) ?_
    refine lv_tableIn (tgt := 74) hx hb d_Mod_made_30 (by decide +kernel) (by decide +kernel) rfl (by decide) ?_
    refine lv_iload_n hx hb d_Mod_made_74 rfl (lv_at hl 1 rfl) ?_
    refine lv_if_ne (tgt := 82) hx hb d_Mod_made_75 (by decide) (fun c_1 => ?_) (fun c_1 => ?_)
    · refine lv_iconst (v := nI 1) hx hb d_Mod_made_82 (by decide +kernel) ?_
      refine lv_goto (tgt := 87) hx hb d_Mod_made_83 (by decide) ?_
      exact W.zret (v := nI 1) hx hb hr rfl (fun t ht hW => ⟨nI 1, rfl, bz_eq1 (by simp [bm_gate, h9, (bz_n0 _).mp c_1]), ht⟩) (fun q h => by cases h) d_Mod_made_87
    · refine lv_iload_n hx hb d_Mod_made_78 rfl (lv_at hl 0 rfl) ?_
      refine lv_if_eq (tgt := 86) hx hb d_Mod_made_79 (by decide) (fun c_2 => ?_) (fun c_2 => ?_)
      · refine lv_iconst (v := nI 0) hx hb d_Mod_made_86 (by decide +kernel) ?_
        exact W.zret (v := nI 0) hx hb hr rfl (fun t ht hW => ⟨nI 0, rfl, bz_eq0 (by simp [bm_gate, h9, (bz_0 _).mp c_1, (bz_0 _).mp c_2]), ht⟩) (fun q h => by cases h) d_Mod_made_87
      · refine lv_iconst (v := nI 1) hx hb d_Mod_made_82 (by decide +kernel) ?_
        refine lv_goto (tgt := 87) hx hb d_Mod_made_83 (by decide) ?_
        exact W.zret (v := nI 1) hx hb hr rfl (fun t ht hW => ⟨nI 1, rfl, bz_eq1 (by simp [bm_gate, h9, (bz_0 _).mp c_1, (bz_n0 _).mp c_2]), ht⟩) (fun q h => by cases h) d_Mod_made_87
  · refine bx_top (y := nI 2) (by rw [h9]) ?_
    refine lv_tableIn (tgt := 88) hx hb d_Mod_made_30 (by decide +kernel) (by decide +kernel) rfl (by decide) ?_
    refine lv_iload_n hx hb d_Mod_made_88 rfl (lv_at hl 1 rfl) ?_
    refine lv_iload_n hx hb d_Mod_made_89 rfl (lv_at hl 0 rfl) ?_
    refine lv_icmp_eq (tgt := 97) hx hb d_Mod_made_90 (by decide) (fun c_1 => ?_) (fun c_1 => ?_)
    · refine lv_iconst (v := nI 0) hx hb d_Mod_made_97 (by decide +kernel) ?_
      exact W.zret (v := nI 0) hx hb hr rfl (fun t ht hW => ⟨nI 0, rfl, bz_eq0 (by simp [bm_gate, h9, bz_inj c_1]), ht⟩) (fun q h => by cases h) d_Mod_made_98
    · refine lv_iconst (v := nI 1) hx hb d_Mod_made_93 (by decide +kernel) ?_
      refine lv_goto (tgt := 98) hx hb d_Mod_made_94 (by decide) ?_
      exact W.zret (v := nI 1) hx hb hr rfl (fun t ht hW => ⟨nI 1, rfl, bz_eq1 (by simp [bm_gate, h9, show (tr (lf k) ^^ tr (rt k)) = true from by cases e1 : tr (lf k) <;> cases e2 : tr (rt k) <;> first | rfl | exact absurd (by rw [e1, e2]) c_1]), ht⟩) (fun q h => by cases h) d_Mod_made_98
  · refine bx_top (y := nI 3) (by rw [h9]) ?_
    refine lv_tableIn (tgt := 99) hx hb d_Mod_made_30 (by decide +kernel) (by decide +kernel) rfl (by decide) ?_
    refine lv_iload_n hx hb d_Mod_made_99 rfl (lv_at hl 1 rfl) ?_
    refine lv_if_ne (tgt := 107) hx hb d_Mod_made_100 (by decide) (fun c_1 => ?_) (fun c_1 => ?_)
    · refine lv_iconst (v := nI 0) hx hb d_Mod_made_107 (by decide +kernel) ?_
      exact W.zret (v := nI 0) hx hb hr rfl (fun t ht hW => ⟨nI 0, rfl, bz_eq0 (by simp [bm_gate, h9, (bz_n0 _).mp c_1]), ht⟩) (fun q h => by cases h) d_Mod_made_108
    · refine lv_iconst (v := nI 1) hx hb d_Mod_made_103 (by decide +kernel) ?_
      refine lv_goto (tgt := 108) hx hb d_Mod_made_104 (by decide) ?_
      exact W.zret (v := nI 1) hx hb hr rfl (fun t ht hW => ⟨nI 1, rfl, bz_eq1 (by simp [bm_gate, h9, (bz_0 _).mp c_1]), ht⟩) (fun q h => by cases h) d_Mod_made_108
  · refine bx_top (y := nI 4) (by rw [h9]) ?_
    refine lv_tableOut (tgt := 109) hx hb d_Mod_made_30 (Or.inr (by decide +kernel)) (by decide) ?_
    refine lv_aload_n hx hb d_Mod_made_109 rfl (lv_at hl 2 rfl) ?_
    refine va_get (D := (dC, dI)) (ci := 4) (v := .ref mO) (C := RX4) (T := TX4) (N := 31) hx hb hts in_X4 hown hK hP 0 rfl rfl 7 (by decide) (hts _ lk_Mod_13) (fun _ h9 => h9) rfl d_Mod_made_110 ?_
    refine lv_iload_n hx hb d_Mod_made_113 rfl (lv_at hl 3 rfl) ?_
    refine bx_iald hx hb hK hP 1 0 rfl rfl (k := k) rfl hk (by decide) d_Mod_made_114 ?_
    refine bx_top (y := nI 4) (by rw [g2, h9]) ?_
    refine lv_iconst (v := nI 5) hx hb d_Mod_made_115 (by decide +kernel) ?_
    refine lv_icmp_ne (tgt := 123) hx hb d_Mod_made_116 (by decide) (fun _ => ?_) (fun c9 => absurd c9 (by decide +kernel))
    refine lv_iconst (v := nI 0) hx hb d_Mod_made_123 (by decide +kernel) ?_
    exact W.zret (v := nI 0) hx hb hr rfl (fun t ht hW => ⟨nI 0, rfl, bz_eq0 (by simp [bm_gate, h9]), ht⟩) (fun q h => by cases h) d_Mod_made_124
  · refine bx_top (y := nI 5) (by rw [h9]) ?_
    refine lv_tableOut (tgt := 109) hx hb d_Mod_made_30 (Or.inr (by decide +kernel)) (by decide) ?_
    refine lv_aload_n hx hb d_Mod_made_109 rfl (lv_at hl 2 rfl) ?_
    refine va_get (D := (dC, dI)) (ci := 4) (v := .ref mO) (C := RX4) (T := TX4) (N := 31) hx hb hts in_X4 hown hK hP 0 rfl rfl 7 (by decide) (hts _ lk_Mod_13) (fun _ h9 => h9) rfl d_Mod_made_110 ?_
    refine lv_iload_n hx hb d_Mod_made_113 rfl (lv_at hl 3 rfl) ?_
    refine bx_iald hx hb hK hP 1 0 rfl rfl (k := k) rfl hk (by decide) d_Mod_made_114 ?_
    refine bx_top (y := nI 5) (by rw [g2, h9]) ?_
    refine lv_iconst (v := nI 5) hx hb d_Mod_made_115 (by decide +kernel) ?_
    refine lv_icmp_ne (tgt := 123) hx hb d_Mod_made_116 (by decide) (fun c9 => absurd c9 (fun h => h rfl)) (fun _ => ?_)
    refine lv_iconst (v := nI 1) hx hb d_Mod_made_119 (by decide +kernel) ?_
    refine lv_goto (tgt := 124) hx hb d_Mod_made_120 (by decide) ?_
    exact W.zret (v := nI 1) hx hb hr rfl (fun t ht hW => ⟨nI 1, rfl, bz_eq1 (by simp [bm_gate, h9]), ht⟩) (fun q h => by cases h) d_Mod_made_124

set_option maxHeartbeats 4000000 in
set_option maxRecDepth 100000 in
theorem k_Mod_work (l : Launch) (dC : Nat → ClassId) (dI : Nat → Nat → Nat) (cI cZ cJ : ClassId) (sz : Nat) (oM mS mO mL mR mT mN mX mF mA mB mV mW mQ mY mE mC mG mH : Nat) (wb n sc s1 np fr : Nat) (kd lf rt nx pl pr : Nat → Nat) (th : Int32) (no : Nat → Nat) (tr : Nat → Bool) (mrc mcl : Nat) (ov : Bool) (mw : Nat → Nat) (mq : Nat → Int32) (mb lb : Nat → Nat) (cm : Nat → Bool) (mg : Nat → Nat) (ps cy : Nat) (df : Int32) (hw9 : Nat) (sh : Nat → Bool) (r0 w : Nat) (x : Int32) (hwf : bm_wf wb n sc kd lf rt) (hlr : ∀ k, k < n → lf k < 100 ∧ rt k < 100) (h66 : ∀ k, k < n → kd k = 6 → lf k = k) (hxw : ∀ k, k < wb → bt x k = w.testBit k) : Met l y_Mod_work (bw y_Mod_work b_Mod_work 4 (none)) ({ frames := 1, cells := 0, slots := 0, locals := 23 }) (bx_pW dC dI cI cZ cJ [.ref oM, .int (nI r0), .int x] [(oM, .inr (4, [.int th, .int (nI wb), .int (nI n), .int (nI sc), .int (nI np), .int (nI (n - wb - sc)), .ref mS, .ref mO, .ref mL, .ref mR, .ref mT, .ref mN, .ref mX, .ref mF, .ref mA, .ref mB, .ref mV, .int (nI mrc), .int (nI mcl), .int (bz ov), .ref mW, .ref mQ, .ref mY, .ref mE, .ref mC, .ref mG, .int (nI ps), .int (nI cy), .int df, .int (nI hw9), .ref mH])), (mO, .inl (cI, 100, .inl (fun z9 => mo_op (kd z9)))), (mL, .inl (cI, 100, .inl (fun z9 => nI (mo_l kd lf z9)))), (mR, .inl (cI, 100, .inl (fun z9 => nI (rt z9)))), (mT, .inl (cI, 100, .inl (fun z9 => nI (mo_s kd lf z9)))), (mV, .inl (cZ, 100, .inl (fun z9 => bz (tr z9))))] sz) (va_Qv (fun (tr2 : Nat → Bool) => mo_tr kd lf rt r0 w tr2 n) (bx_B dC dI (va_A [(oM, .inr (4, [.int th, .int (nI wb), .int (nI n), .int (nI sc), .int (nI np), .int (nI (n - wb - sc)), .ref mS, .ref mO, .ref mL, .ref mR, .ref mT, .ref mN, .ref mX, .ref mF, .ref mA, .ref mB, .ref mV, .int (nI mrc), .int (nI mcl), .int (bz ov), .ref mW, .ref mQ, .ref mY, .ref mE, .ref mC, .ref mG, .int (nI ps), .int (nI cy), .int df, .int (nI hw9), .ref mH])), (mO, .inl (cI, 100, .inl (fun z9 => mo_op (kd z9)))), (mL, .inl (cI, 100, .inl (fun z9 => nI (mo_l kd lf z9)))), (mR, .inl (cI, 100, .inl (fun z9 => nI (rt z9)))), (mT, .inl (cI, 100, .inl (fun z9 => nI (mo_s kd lf z9)))), (mV, .inl (cZ, 100, .inl (fun z9 => bz (tr z9))))] sz) (fun (tr2 : Nat → Bool) => ([(oM, .inr (4, [.int th, .int (nI wb), .int (nI n), .int (nI sc), .int (nI np), .int (nI (n - wb - sc)), .ref mS, .ref mO, .ref mL, .ref mR, .ref mT, .ref mN, .ref mX, .ref mF, .ref mA, .ref mB, .ref mV, .int (nI mrc), .int (nI mcl), .int (bz ov), .ref mW, .ref mQ, .ref mY, .ref mE, .ref mC, .ref mG, .int (nI ps), .int (nI cy), .int df, .int (nI hw9), .ref mH])), (mO, .inl (cI, 100, .inl (fun z9 => mo_op (kd z9)))), (mL, .inl (cI, 100, .inl (fun z9 => nI (mo_l kd lf z9)))), (mR, .inl (cI, 100, .inl (fun z9 => nI (rt z9)))), (mT, .inl (cI, 100, .inl (fun z9 => nI (mo_s kd lf z9)))), (mV, .inl (cZ, 100, .inl (fun z9 => bz (tr2 z9))))] : va_W))) (va_A [(oM, .inr (4, [.int th, .int (nI wb), .int (nI n), .int (nI sc), .int (nI np), .int (nI (n - wb - sc)), .ref mS, .ref mO, .ref mL, .ref mR, .ref mT, .ref mN, .ref mX, .ref mF, .ref mA, .ref mB, .ref mV, .int (nI mrc), .int (nI mcl), .int (bz ov), .ref mW, .ref mQ, .ref mY, .ref mE, .ref mC, .ref mG, .int (nI ps), .int (nI cy), .int df, .int (nI hw9), .ref mH])), (mO, .inl (cI, 100, .inl (fun z9 => mo_op (kd z9)))), (mL, .inl (cI, 100, .inl (fun z9 => nI (mo_l kd lf z9)))), (mR, .inl (cI, 100, .inl (fun z9 => nI (rt z9)))), (mT, .inl (cI, 100, .inl (fun z9 => nI (mo_s kd lf z9)))), (mV, .inl (cZ, 100, .inl (fun z9 => bz (tr z9))))] sz)) 0 0 (va_A [(oM, .inr (4, [.int th, .int (nI wb), .int (nI n), .int (nI sc), .int (nI np), .int (nI (n - wb - sc)), .ref mS, .ref mO, .ref mL, .ref mR, .ref mT, .ref mN, .ref mX, .ref mF, .ref mA, .ref mB, .ref mV, .int (nI mrc), .int (nI mcl), .int (bz ov), .ref mW, .ref mQ, .ref mY, .ref mE, .ref mC, .ref mG, .int (nI ps), .int (nI cy), .int df, .int (nI hw9), .ref mH])), (mO, .inl (cI, 100, .inl (fun z9 => mo_op (kd z9)))), (mL, .inl (cI, 100, .inl (fun z9 => nI (mo_l kd lf z9)))), (mR, .inl (cI, 100, .inl (fun z9 => nI (rt z9)))), (mT, .inl (cI, 100, .inl (fun z9 => nI (mo_s kd lf z9)))), (mV, .inl (cZ, 100, .inl (fun z9 => bz (tr z9))))] sz) := by
  refine Met.ofW (cc := b_Mod_work) (maxL := 4) (ret := none) (by decide) rfl ?_
  intro p e s m args below meth c s₁ B hml hv
  obtain ⟨rfl, hsz, hE, hP, hD0⟩ := hv
  have hx := B.exec
  have hb := B.bytes
  have hr := B.returns
  have hts9 := atoms_spec (ws := (bw y_Mod_work b_Mod_work 4 (none))) B.pre
  have hts : ∀ w ∈ gw, w.before _ s = true := fun w h => hts9 w (List.mem_cons_of_mem _ h)
  have hown : s.vm.findClass RX4 = some m.cls := findClass_of_methodNamed B.named
  have hlocks := B.notSynchronized
  subst hsz
  have hD := hD0.self (sz := s.heap.size)
  generalize hAe : va_A [(oM, .inr (4, [.int th, .int (nI wb), .int (nI n), .int (nI sc), .int (nI np), .int (nI (n - wb - sc)), .ref mS, .ref mO, .ref mL, .ref mR, .ref mT, .ref mN, .ref mX, .ref mF, .ref mA, .ref mB, .ref mV, .int (nI mrc), .int (nI mcl), .int (bz ov), .ref mW, .ref mQ, .ref mY, .ref mE, .ref mC, .ref mG, .int (nI ps), .int (nI cy), .int df, .int (nI hw9), .ref mH])), (mO, .inl (cI, 100, .inl (fun z9 => mo_op (kd z9)))), (mL, .inl (cI, 100, .inl (fun z9 => nI (mo_l kd lf z9)))), (mR, .inl (cI, 100, .inl (fun z9 => nI (rt z9)))), (mT, .inl (cI, 100, .inl (fun z9 => nI (mo_s kd lf z9)))), (mV, .inl (cZ, 100, .inl (fun z9 => bz (tr z9))))] s.heap.size = A at hE hD ⊢
  have hA : ∀ q : Nat, s.heap.size ≤ q → A q := fun q h => by rw [← hAe]; exact Or.inr h
  have hS : va_S A s.heap s.heap [] := va_S.rf
  have hK := hE.1
  have hN := hE.2.1
  have hP : va_P (dC, dI) vwCl [(oM, .inr (4, [.int th, .int (nI wb), .int (nI n), .int (nI sc), .int (nI np), .int (nI (n - wb - sc)), .ref mS, .ref mO, .ref mL, .ref mR, .ref mT, .ref mN, .ref mX, .ref mF, .ref mA, .ref mB, .ref mV, .int (nI mrc), .int (nI mcl), .int (bz ov), .ref mW, .ref mQ, .ref mY, .ref mE, .ref mC, .ref mG, .int (nI ps), .int (nI cy), .int df, .int (nI hw9), .ref mH])), (mO, .inl (cI, 100, .inl (fun z9 => mo_op (kd z9)))), (mL, .inl (cI, 100, .inl (fun z9 => nI (mo_l kd lf z9)))), (mR, .inl (cI, 100, .inl (fun z9 => nI (rt z9)))), (mT, .inl (cI, 100, .inl (fun z9 => nI (mo_s kd lf z9)))), (mV, .inl (cZ, 100, .inl (fun z9 => bz (tr z9))))] s.heap := hP
  have hl := lv_entry ([.ref oM, .int (nI r0), .int x]) (n := 4) (Nat.le_of_ble_eq_true rfl)
  rw [lg_entry_eq]
  generalize (lg_sl ([.ref oM, .int (nI r0), .int x]) ++ List.replicate (4 - (lg_sl ([.ref oM, .int (nI r0), .int x])).length) Slot.unset).toArray = ls at hl ⊢
  have hl : lv_has ls 4 [(0, .ref oM), (1, .int (nI r0)), (2, .int x)] := hl
  refine lv_iconst (v := nI 0) hx hb d_Mod_work_0 (by decide +kernel) ?_
  refine lv_istore_n (lv' := [(3, .int (nI 0)), (0, .ref oM), (1, .int (nI r0)), (2, .int x)]) hx hb d_Mod_work_1 rfl hl (by decide) rfl (fun ls hl => ?_)
  refine bx_gen (fun V hV => ?_)
  have loop : ∀ (k9 i9 : Nat) (tr : Nat → Bool) (H : Heap) (locs : List Loc) (ls : Array Slot), i9 + k9 = n → (mo_tr kd lf rt r0 w tr i9) → va_P (dC, dI) vwCl [(oM, .inr (4, [.int th, .int (nI wb), .int (nI n), .int (nI sc), .int (nI np), .int (nI (n - wb - sc)), .ref mS, .ref mO, .ref mL, .ref mR, .ref mT, .ref mN, .ref mX, .ref mF, .ref mA, .ref mB, .ref mV, .int (nI mrc), .int (nI mcl), .int (bz ov), .ref mW, .ref mQ, .ref mY, .ref mE, .ref mC, .ref mG, .int (nI ps), .int (nI cy), .int df, .int (nI hw9), .ref mH])), (mO, .inl (cI, 100, .inl (fun z9 => mo_op (kd z9)))), (mL, .inl (cI, 100, .inl (fun z9 => nI (mo_l kd lf z9)))), (mR, .inl (cI, 100, .inl (fun z9 => nI (rt z9)))), (mT, .inl (cI, 100, .inl (fun z9 => nI (mo_s kd lf z9)))), (mV, .inl (cZ, 100, .inl (fun z9 => bz (tr z9))))] H → va_D A [(oM, .inr (4, [.int th, .int (nI wb), .int (nI n), .int (nI sc), .int (nI np), .int (nI (n - wb - sc)), .ref mS, .ref mO, .ref mL, .ref mR, .ref mT, .ref mN, .ref mX, .ref mF, .ref mA, .ref mB, .ref mV, .int (nI mrc), .int (nI mcl), .int (bz ov), .ref mW, .ref mQ, .ref mY, .ref mE, .ref mC, .ref mG, .int (nI ps), .int (nI cy), .int df, .int (nI hw9), .ref mH])), (mO, .inl (cI, 100, .inl (fun z9 => mo_op (kd z9)))), (mL, .inl (cI, 100, .inl (fun z9 => nI (mo_l kd lf z9)))), (mR, .inl (cI, 100, .inl (fun z9 => nI (rt z9)))), (mT, .inl (cI, 100, .inl (fun z9 => nI (mo_s kd lf z9)))), (mV, .inl (cZ, 100, .inl (fun z9 => bz (tr z9))))] → va_S A s.heap H locs → lv_has ls 4 [(0, .ref oM), (1, .int (nI r0)), (2, .int x), (3, .int (nI i9))] → V H locs 0 0 (F0 m 2 ls []) := by
    intro k9
    induction k9 with
    | zero =>
      intro i9 tr H locs ls hik hi_t hP hD hS hl
      refine (hV _ _ _ _ _).mpr ?_
      refine lv_iload_n hx hb d_Mod_work_2 rfl (lv_at hl 3 rfl) ?_
      refine lv_aload_n hx hb d_Mod_work_3 rfl (lv_at hl 0 rfl) ?_
      refine va_get (D := (dC, dI)) (ci := 4) (v := .int (nI n)) (C := RX4) (T := TX4) (N := 31) hx hb hts in_X4 hown hK hP 0 rfl rfl 2 (by decide) (hts _ lk_Mod_72) (fun _ h9 => h9) rfl d_Mod_work_4 ?_
      refine lv_icmp_ge (tgt := 87) hx hb d_Mod_work_7 (by decide) (fun _ => ?_) (fun c9 => absurd (by rw [show i9 = n by omega]; exact nI_le (Nat.le_refl n) (by have := hwf.1; omega)) c9)
      have hP9 := hP
      have hD9 := hD
      exact W.vret hx hb hr (fun t ht hW => ⟨⟨tr, rfl, by rw [show n = i9 by omega]; exact hi_t, by rw [ht]; exact hP9, hD9⟩, hS.F ht⟩) hS.2.2 d_Mod_work_87
    | succ k9 ih =>
      intro i9 tr H locs ls hik hi_t hP hD hS hl
      refine (hV _ _ _ _ _).mpr ?_
      refine lv_iload_n hx hb d_Mod_work_2 rfl (lv_at hl 3 rfl) ?_
      refine lv_aload_n hx hb d_Mod_work_3 rfl (lv_at hl 0 rfl) ?_
      refine va_get (D := (dC, dI)) (ci := 4) (v := .int (nI n)) (C := RX4) (T := TX4) (N := 31) hx hb hts in_X4 hown hK hP 0 rfl rfl 2 (by decide) (hts _ lk_Mod_72) (fun _ h9 => h9) rfl d_Mod_work_4 ?_
      refine lv_icmp_ge (tgt := 87) hx hb d_Mod_work_7 (by decide) (fun c9 => absurd c9 (nI_ge (by omega) (by have := hwf.1; omega))) (fun _ => ?_)
      have hb9 := hwf.1
      obtain ⟨g1, g2, g3, g4, g5⟩ := hwf.2 i9 (by omega)
      refine lv_aload_n hx hb d_Mod_work_10 rfl (lv_at hl 0 rfl) ?_
      refine va_get (D := (dC, dI)) (ci := 4) (v := .ref mV) (C := RX4) (T := TX4) (N := 31) hx hb hts in_X4 hown hK hP 0 rfl rfl 16 (by decide) (hts _ lk_Mod_41) (fun _ h9 => h9) rfl d_Mod_work_11 ?_
      refine lv_iload_n hx hb d_Mod_work_14 rfl (lv_at hl 3 rfl) ?_
      refine lv_aload_n hx hb d_Mod_work_15 rfl (lv_at hl 0 rfl) ?_
      refine va_get (D := (dC, dI)) (ci := 4) (v := .ref mO) (C := RX4) (T := TX4) (N := 31) hx hb hts in_X4 hown hK hP 0 rfl rfl 7 (by decide) (hts _ lk_Mod_13) (fun _ h9 => h9) rfl d_Mod_work_16 ?_
      refine lv_iload_n hx hb d_Mod_work_19 rfl (lv_at hl 3 rfl) ?_
      refine bx_iald hx hb hK hP 1 0 rfl rfl (k := i9) rfl (by omega) (by decide) d_Mod_work_20 ?_
      refine lv_iconst (v := (-1)) hx hb d_Mod_work_21 (by decide +kernel) ?_
      refine lv_icmp_ne (tgt := 42) hx hb d_Mod_work_22 (by decide) (fun c_1 => ?_) (fun c_1 => ?_)
      · refine lv_aload_n hx hb d_Mod_work_42 rfl (lv_at hl 0 rfl) ?_
        refine va_get (D := (dC, dI)) (ci := 4) (v := .ref mO) (C := RX4) (T := TX4) (N := 31) hx hb hts in_X4 hown hK hP 0 rfl rfl 7 (by decide) (hts _ lk_Mod_13) (fun _ h9 => h9) rfl d_Mod_work_43 ?_
        refine lv_iload_n hx hb d_Mod_work_46 rfl (lv_at hl 3 rfl) ?_
        refine bx_iald hx hb hK hP 1 0 rfl rfl (k := i9) rfl (by omega) (by decide) d_Mod_work_47 ?_
        refine lv_bipush (v := (-2)) hx hb d_Mod_work_48 (by decide +kernel) ?_
        refine lv_icmp_ne (tgt := 75) hx hb d_Mod_work_50 (by decide) (fun c_3 => ?_) (fun c_3 => ?_)
        · have n6 : ¬ kd i9 = 6 := fun h => c_1 ((mo_op6 _ g1).mpr h)
          have n7 : ¬ kd i9 = 7 := fun h => c_3 ((mo_op7 _ g1).mpr h)
          refine lv_aload_n hx hb d_Mod_work_75 rfl (lv_at hl 0 rfl) ?_
          refine lv_iload_n hx hb d_Mod_work_76 rfl (lv_at hl 3 rfl) ?_
          have hPc := hP.sub (ws' := [(oM, .inr (4, [.int th, .int (nI wb), .int (nI n), .int (nI sc), .int (nI np), .int (nI (n - wb - sc)), .ref mS, .ref mO, .ref mL, .ref mR, .ref mT, .ref mN, .ref mX, .ref mF, .ref mA, .ref mB, .ref mV, .int (nI mrc), .int (nI mcl), .int (bz ov), .ref mW, .ref mQ, .ref mY, .ref mE, .ref mC, .ref mG, .int (nI ps), .int (nI cy), .int df, .int (nI hw9), .ref mH])), (mO, .inl (cI, 100, .inl (fun z9 => mo_op (kd z9)))), (mL, .inl (cI, 100, .inl (fun z9 => nI (mo_l kd lf z9)))), (mR, .inl (cI, 100, .inl (fun z9 => nI (rt z9)))), (mT, .inl (cI, 100, .inl (fun z9 => nI (mo_s kd lf z9)))), (mV, .inl (cZ, 100, .inl (fun z9 => bz (tr z9))))]) [0, 1, 2, 3, 4, 5] rfl
          refine bx_callR (va_runV (As := [.int (nI i9)]) (rest := [.int (nI i9), .ref mV]) ⟨hx, hb, hml, hown, hts⟩ (k_Mod_made l dC dI cI cZ cJ oM mS mO mL mR mT mN mX mF mA mB mV mW mQ mY mE mC mG mH wb n sc s1 np fr kd lf rt nx pl pr th no tr mrc mcl ov mw mq mb lb cm mg ps cy df hw9 sh i9 (by omega) (by omega) (hlr i9 (by omega))) (bx_cV (n := 1) hts mc_Mod_made lk_Mod_124 mi_Mod_made ms_Mod_made ini_Mod (by decide +kernel) ⟨Nat.le_of_ble_eq_true rfl, Nat.le_of_ble_eq_true rfl⟩) (bx_prV hE hS hPc (ci := 4) (q0 := 0) rfl rfl) rfl rfl hl.1 rfl (lv_room (Nat.le_of_ble_eq_true rfl)) d_Mod_work_77 ⟨Nat.le_of_ble_eq_true rfl, Nat.le_of_ble_eq_true rfl⟩) (fun r_1 hw_r_1 => ?_)
          subst hw_r_1
          refine bx_zast hx hb hK hP hD hS 5 1 rfl rfl (k := i9) rfl (by omega) (by decide) (g := fun z9 => bz ((va_up tr i9 (bm_gate (kd i9) (lf i9) (rt i9) tr (fun _ => false) 0)) z9)) (bn_upB _ _ _) d_Mod_work_80 (fun H locs hP hD hS => ?_)
          have hP : va_P (dC, dI) vwCl [(oM, .inr (4, [.int th, .int (nI wb), .int (nI n), .int (nI sc), .int (nI np), .int (nI (n - wb - sc)), .ref mS, .ref mO, .ref mL, .ref mR, .ref mT, .ref mN, .ref mX, .ref mF, .ref mA, .ref mB, .ref mV, .int (nI mrc), .int (nI mcl), .int (bz ov), .ref mW, .ref mQ, .ref mY, .ref mE, .ref mC, .ref mG, .int (nI ps), .int (nI cy), .int df, .int (nI hw9), .ref mH])), (mO, .inl (cI, 100, .inl (fun z9 => mo_op (kd z9)))), (mL, .inl (cI, 100, .inl (fun z9 => nI (mo_l kd lf z9)))), (mR, .inl (cI, 100, .inl (fun z9 => nI (rt z9)))), (mT, .inl (cI, 100, .inl (fun z9 => nI (mo_s kd lf z9)))), (mV, .inl (cZ, 100, .inl (fun z9 => bz ((va_up tr i9 (bm_gate (kd i9) (lf i9) (rt i9) tr (fun _ => false) 0)) z9))))] H := hP
          have hD : va_D A [(oM, .inr (4, [.int th, .int (nI wb), .int (nI n), .int (nI sc), .int (nI np), .int (nI (n - wb - sc)), .ref mS, .ref mO, .ref mL, .ref mR, .ref mT, .ref mN, .ref mX, .ref mF, .ref mA, .ref mB, .ref mV, .int (nI mrc), .int (nI mcl), .int (bz ov), .ref mW, .ref mQ, .ref mY, .ref mE, .ref mC, .ref mG, .int (nI ps), .int (nI cy), .int df, .int (nI hw9), .ref mH])), (mO, .inl (cI, 100, .inl (fun z9 => mo_op (kd z9)))), (mL, .inl (cI, 100, .inl (fun z9 => nI (mo_l kd lf z9)))), (mR, .inl (cI, 100, .inl (fun z9 => nI (rt z9)))), (mT, .inl (cI, 100, .inl (fun z9 => nI (mo_s kd lf z9)))), (mV, .inl (cZ, 100, .inl (fun z9 => bz ((va_up tr i9 (bm_gate (kd i9) (lf i9) (rt i9) tr (fun _ => false) 0)) z9))))] := hD
          refine lv_iinc (v := nI (i9 + 1)) (lv' := [(3, .int (nI (i9 + 1))), (0, .ref oM), (1, .int (nI r0)), (2, .int x)]) hx hb d_Mod_work_81 hl (k := 3) rfl (bx_inc _) (by decide) rfl (fun ls hl => ?_)
          refine lv_goto (tgt := 2) hx hb d_Mod_work_84 (by decide) ?_
          exact (hV _ _ _ _ _).mp (ih (i9 + 1) (va_up tr i9 (bm_gate (kd i9) (lf i9) (rt i9) tr (fun _ => false) 0)) _ _ ls (by omega) (mo_tr_up hi_t (mo_gate_eq (by omega) (fun h => hi_t _ (g2 h)) (fun h => hi_t _ (g3 h)))) hP hD hS (lv_sub hl [1, 2, 3, 0] rfl))
        · have g6 : kd i9 = 7 := (mo_op7 _ g1).mp c_3
          have g7 := g5 g6
          have g8 : mo_s kd lf i9 = lf i9 := if_pos g6
          have g9 : bm_gate (kd i9) (lf i9) (rt i9) (bm_vals kd lf rt (fun s => r0.testBit s) w i9) (fun s => r0.testBit s) w = r0.testBit (lf i9) := by simp [bm_gate, g6]
          refine lv_iload_n hx hb d_Mod_work_53 rfl (lv_at hl 1 rfl) ?_
          refine lv_aload_n hx hb d_Mod_work_54 rfl (lv_at hl 0 rfl) ?_
          refine va_get (D := (dC, dI)) (ci := 4) (v := .ref mT) (C := RX4) (T := TX4) (N := 31) hx hb hts in_X4 hown hK hP 0 rfl rfl 10 (by decide) (hts _ lk_Mod_22) (fun _ h9 => h9) rfl d_Mod_work_55 ?_
          refine lv_iload_n hx hb d_Mod_work_58 rfl (lv_at hl 3 rfl) ?_
          refine bx_iald hx hb hK hP 4 0 rfl rfl (k := i9) rfl (by omega) (by decide) d_Mod_work_59 ?_
          refine bx_top (y := nI (lf i9)) (by rw [g8]) ?_
          refine lv_ishr hx hb d_Mod_work_60 ?_
          refine lv_iconst (v := nI 1) hx hb d_Mod_work_61 (by decide +kernel) ?_
          refine lv_iand hx hb d_Mod_work_62 ?_
          refine bx_top (y := bz (r0.testBit (lf i9))) (bn_bitN _ _ (by omega)) ?_
          refine lv_iconst (v := nI 1) hx hb d_Mod_work_63 (by decide +kernel) ?_
          refine lv_icmp_ne (tgt := 71) hx hb d_Mod_work_64 (by decide) (fun c_2 => ?_) (fun c_2 => ?_)
          · refine lv_iconst (v := nI 0) hx hb d_Mod_work_71 (by decide +kernel) ?_
            refine lv_goto (tgt := 80) hx hb d_Mod_work_72 (by decide) ?_
            refine bx_top (y := bz false) rfl ?_
            refine bx_zast hx hb hK hP hD hS 5 1 rfl rfl (k := i9) rfl (by omega) (by decide) (g := fun z9 => bz ((va_up tr i9 false) z9)) (bn_upB _ _ _) d_Mod_work_80 (fun H locs hP hD hS => ?_)
            have hP : va_P (dC, dI) vwCl [(oM, .inr (4, [.int th, .int (nI wb), .int (nI n), .int (nI sc), .int (nI np), .int (nI (n - wb - sc)), .ref mS, .ref mO, .ref mL, .ref mR, .ref mT, .ref mN, .ref mX, .ref mF, .ref mA, .ref mB, .ref mV, .int (nI mrc), .int (nI mcl), .int (bz ov), .ref mW, .ref mQ, .ref mY, .ref mE, .ref mC, .ref mG, .int (nI ps), .int (nI cy), .int df, .int (nI hw9), .ref mH])), (mO, .inl (cI, 100, .inl (fun z9 => mo_op (kd z9)))), (mL, .inl (cI, 100, .inl (fun z9 => nI (mo_l kd lf z9)))), (mR, .inl (cI, 100, .inl (fun z9 => nI (rt z9)))), (mT, .inl (cI, 100, .inl (fun z9 => nI (mo_s kd lf z9)))), (mV, .inl (cZ, 100, .inl (fun z9 => bz ((va_up tr i9 false) z9))))] H := hP
            have hD : va_D A [(oM, .inr (4, [.int th, .int (nI wb), .int (nI n), .int (nI sc), .int (nI np), .int (nI (n - wb - sc)), .ref mS, .ref mO, .ref mL, .ref mR, .ref mT, .ref mN, .ref mX, .ref mF, .ref mA, .ref mB, .ref mV, .int (nI mrc), .int (nI mcl), .int (bz ov), .ref mW, .ref mQ, .ref mY, .ref mE, .ref mC, .ref mG, .int (nI ps), .int (nI cy), .int df, .int (nI hw9), .ref mH])), (mO, .inl (cI, 100, .inl (fun z9 => mo_op (kd z9)))), (mL, .inl (cI, 100, .inl (fun z9 => nI (mo_l kd lf z9)))), (mR, .inl (cI, 100, .inl (fun z9 => nI (rt z9)))), (mT, .inl (cI, 100, .inl (fun z9 => nI (mo_s kd lf z9)))), (mV, .inl (cZ, 100, .inl (fun z9 => bz ((va_up tr i9 false) z9))))] := hD
            refine lv_iinc (v := nI (i9 + 1)) (lv' := [(3, .int (nI (i9 + 1))), (0, .ref oM), (1, .int (nI r0)), (2, .int x)]) hx hb d_Mod_work_81 hl (k := 3) rfl (bx_inc _) (by decide) rfl (fun ls hl => ?_)
            refine lv_goto (tgt := 2) hx hb d_Mod_work_84 (by decide) ?_
            exact (hV _ _ _ _ _).mp (ih (i9 + 1) (va_up tr i9 false) _ _ ls (by omega) (mo_tr_up hi_t (by rw [g9]; cases e9 : r0.testBit (lf i9) with
                | false => rfl
                | true => exact absurd (by rw [e9]; rfl) c_2)) hP hD hS (lv_sub hl [1, 2, 3, 0] rfl))
          · refine lv_iconst (v := nI 1) hx hb d_Mod_work_67 (by decide +kernel) ?_
            refine lv_goto (tgt := 80) hx hb d_Mod_work_68 (by decide) ?_
            refine bx_top (y := bz true) rfl ?_
            refine bx_zast hx hb hK hP hD hS 5 1 rfl rfl (k := i9) rfl (by omega) (by decide) (g := fun z9 => bz ((va_up tr i9 true) z9)) (bn_upB _ _ _) d_Mod_work_80 (fun H locs hP hD hS => ?_)
            have hP : va_P (dC, dI) vwCl [(oM, .inr (4, [.int th, .int (nI wb), .int (nI n), .int (nI sc), .int (nI np), .int (nI (n - wb - sc)), .ref mS, .ref mO, .ref mL, .ref mR, .ref mT, .ref mN, .ref mX, .ref mF, .ref mA, .ref mB, .ref mV, .int (nI mrc), .int (nI mcl), .int (bz ov), .ref mW, .ref mQ, .ref mY, .ref mE, .ref mC, .ref mG, .int (nI ps), .int (nI cy), .int df, .int (nI hw9), .ref mH])), (mO, .inl (cI, 100, .inl (fun z9 => mo_op (kd z9)))), (mL, .inl (cI, 100, .inl (fun z9 => nI (mo_l kd lf z9)))), (mR, .inl (cI, 100, .inl (fun z9 => nI (rt z9)))), (mT, .inl (cI, 100, .inl (fun z9 => nI (mo_s kd lf z9)))), (mV, .inl (cZ, 100, .inl (fun z9 => bz ((va_up tr i9 true) z9))))] H := hP
            have hD : va_D A [(oM, .inr (4, [.int th, .int (nI wb), .int (nI n), .int (nI sc), .int (nI np), .int (nI (n - wb - sc)), .ref mS, .ref mO, .ref mL, .ref mR, .ref mT, .ref mN, .ref mX, .ref mF, .ref mA, .ref mB, .ref mV, .int (nI mrc), .int (nI mcl), .int (bz ov), .ref mW, .ref mQ, .ref mY, .ref mE, .ref mC, .ref mG, .int (nI ps), .int (nI cy), .int df, .int (nI hw9), .ref mH])), (mO, .inl (cI, 100, .inl (fun z9 => mo_op (kd z9)))), (mL, .inl (cI, 100, .inl (fun z9 => nI (mo_l kd lf z9)))), (mR, .inl (cI, 100, .inl (fun z9 => nI (rt z9)))), (mT, .inl (cI, 100, .inl (fun z9 => nI (mo_s kd lf z9)))), (mV, .inl (cZ, 100, .inl (fun z9 => bz ((va_up tr i9 true) z9))))] := hD
            refine lv_iinc (v := nI (i9 + 1)) (lv' := [(3, .int (nI (i9 + 1))), (0, .ref oM), (1, .int (nI r0)), (2, .int x)]) hx hb d_Mod_work_81 hl (k := 3) rfl (bx_inc _) (by decide) rfl (fun ls hl => ?_)
            refine lv_goto (tgt := 2) hx hb d_Mod_work_84 (by decide) ?_
            exact (hV _ _ _ _ _).mp (ih (i9 + 1) (va_up tr i9 true) _ _ ls (by omega) (mo_tr_up hi_t (by rw [g9]; exact bz_inj (show bz true = _ from c_2.symm))) hP hD hS (lv_sub hl [1, 2, 3, 0] rfl))
      · have g6 : kd i9 = 6 := (mo_op6 _ g1).mp c_1
        have g7 := g4 g6
        have g8 := h66 i9 (by omega) g6
        have g9 : bm_gate (kd i9) (lf i9) (rt i9) (bm_vals kd lf rt (fun s => r0.testBit s) w i9) (fun s => r0.testBit s) w = bt x i9 := by rw [hxw i9 (by omega)]; simp [bm_gate, g6, g8]
        refine lv_iload_n hx hb d_Mod_work_25 rfl (lv_at hl 2 rfl) ?_
        refine lv_iload_n hx hb d_Mod_work_26 rfl (lv_at hl 3 rfl) ?_
        refine lv_ishr hx hb d_Mod_work_27 ?_
        refine lv_iconst (v := nI 1) hx hb d_Mod_work_28 (by decide +kernel) ?_
        refine lv_iand hx hb d_Mod_work_29 ?_
        refine bx_top (y := bz (bt x i9)) (bn_bit _ i9 (by omega)) ?_
        refine lv_iconst (v := nI 1) hx hb d_Mod_work_30 (by decide +kernel) ?_
        refine lv_icmp_ne (tgt := 38) hx hb d_Mod_work_31 (by decide) (fun c_2 => ?_) (fun c_2 => ?_)
        · refine lv_iconst (v := nI 0) hx hb d_Mod_work_38 (by decide +kernel) ?_
          refine lv_goto (tgt := 80) hx hb d_Mod_work_39 (by decide) ?_
          refine bx_top (y := bz false) rfl ?_
          refine bx_zast hx hb hK hP hD hS 5 1 rfl rfl (k := i9) rfl (by omega) (by decide) (g := fun z9 => bz ((va_up tr i9 false) z9)) (bn_upB _ _ _) d_Mod_work_80 (fun H locs hP hD hS => ?_)
          have hP : va_P (dC, dI) vwCl [(oM, .inr (4, [.int th, .int (nI wb), .int (nI n), .int (nI sc), .int (nI np), .int (nI (n - wb - sc)), .ref mS, .ref mO, .ref mL, .ref mR, .ref mT, .ref mN, .ref mX, .ref mF, .ref mA, .ref mB, .ref mV, .int (nI mrc), .int (nI mcl), .int (bz ov), .ref mW, .ref mQ, .ref mY, .ref mE, .ref mC, .ref mG, .int (nI ps), .int (nI cy), .int df, .int (nI hw9), .ref mH])), (mO, .inl (cI, 100, .inl (fun z9 => mo_op (kd z9)))), (mL, .inl (cI, 100, .inl (fun z9 => nI (mo_l kd lf z9)))), (mR, .inl (cI, 100, .inl (fun z9 => nI (rt z9)))), (mT, .inl (cI, 100, .inl (fun z9 => nI (mo_s kd lf z9)))), (mV, .inl (cZ, 100, .inl (fun z9 => bz ((va_up tr i9 false) z9))))] H := hP
          have hD : va_D A [(oM, .inr (4, [.int th, .int (nI wb), .int (nI n), .int (nI sc), .int (nI np), .int (nI (n - wb - sc)), .ref mS, .ref mO, .ref mL, .ref mR, .ref mT, .ref mN, .ref mX, .ref mF, .ref mA, .ref mB, .ref mV, .int (nI mrc), .int (nI mcl), .int (bz ov), .ref mW, .ref mQ, .ref mY, .ref mE, .ref mC, .ref mG, .int (nI ps), .int (nI cy), .int df, .int (nI hw9), .ref mH])), (mO, .inl (cI, 100, .inl (fun z9 => mo_op (kd z9)))), (mL, .inl (cI, 100, .inl (fun z9 => nI (mo_l kd lf z9)))), (mR, .inl (cI, 100, .inl (fun z9 => nI (rt z9)))), (mT, .inl (cI, 100, .inl (fun z9 => nI (mo_s kd lf z9)))), (mV, .inl (cZ, 100, .inl (fun z9 => bz ((va_up tr i9 false) z9))))] := hD
          refine lv_iinc (v := nI (i9 + 1)) (lv' := [(3, .int (nI (i9 + 1))), (0, .ref oM), (1, .int (nI r0)), (2, .int x)]) hx hb d_Mod_work_81 hl (k := 3) rfl (bx_inc _) (by decide) rfl (fun ls hl => ?_)
          refine lv_goto (tgt := 2) hx hb d_Mod_work_84 (by decide) ?_
          exact (hV _ _ _ _ _).mp (ih (i9 + 1) (va_up tr i9 false) _ _ ls (by omega) (mo_tr_up hi_t (by rw [g9]; cases e9 : bt x i9 with
              | false => rfl
              | true => exact absurd (by rw [e9]; rfl) c_2)) hP hD hS (lv_sub hl [1, 2, 3, 0] rfl))
        · refine lv_iconst (v := nI 1) hx hb d_Mod_work_34 (by decide +kernel) ?_
          refine lv_goto (tgt := 80) hx hb d_Mod_work_35 (by decide) ?_
          refine bx_top (y := bz true) rfl ?_
          refine bx_zast hx hb hK hP hD hS 5 1 rfl rfl (k := i9) rfl (by omega) (by decide) (g := fun z9 => bz ((va_up tr i9 true) z9)) (bn_upB _ _ _) d_Mod_work_80 (fun H locs hP hD hS => ?_)
          have hP : va_P (dC, dI) vwCl [(oM, .inr (4, [.int th, .int (nI wb), .int (nI n), .int (nI sc), .int (nI np), .int (nI (n - wb - sc)), .ref mS, .ref mO, .ref mL, .ref mR, .ref mT, .ref mN, .ref mX, .ref mF, .ref mA, .ref mB, .ref mV, .int (nI mrc), .int (nI mcl), .int (bz ov), .ref mW, .ref mQ, .ref mY, .ref mE, .ref mC, .ref mG, .int (nI ps), .int (nI cy), .int df, .int (nI hw9), .ref mH])), (mO, .inl (cI, 100, .inl (fun z9 => mo_op (kd z9)))), (mL, .inl (cI, 100, .inl (fun z9 => nI (mo_l kd lf z9)))), (mR, .inl (cI, 100, .inl (fun z9 => nI (rt z9)))), (mT, .inl (cI, 100, .inl (fun z9 => nI (mo_s kd lf z9)))), (mV, .inl (cZ, 100, .inl (fun z9 => bz ((va_up tr i9 true) z9))))] H := hP
          have hD : va_D A [(oM, .inr (4, [.int th, .int (nI wb), .int (nI n), .int (nI sc), .int (nI np), .int (nI (n - wb - sc)), .ref mS, .ref mO, .ref mL, .ref mR, .ref mT, .ref mN, .ref mX, .ref mF, .ref mA, .ref mB, .ref mV, .int (nI mrc), .int (nI mcl), .int (bz ov), .ref mW, .ref mQ, .ref mY, .ref mE, .ref mC, .ref mG, .int (nI ps), .int (nI cy), .int df, .int (nI hw9), .ref mH])), (mO, .inl (cI, 100, .inl (fun z9 => mo_op (kd z9)))), (mL, .inl (cI, 100, .inl (fun z9 => nI (mo_l kd lf z9)))), (mR, .inl (cI, 100, .inl (fun z9 => nI (rt z9)))), (mT, .inl (cI, 100, .inl (fun z9 => nI (mo_s kd lf z9)))), (mV, .inl (cZ, 100, .inl (fun z9 => bz ((va_up tr i9 true) z9))))] := hD
          refine lv_iinc (v := nI (i9 + 1)) (lv' := [(3, .int (nI (i9 + 1))), (0, .ref oM), (1, .int (nI r0)), (2, .int x)]) hx hb d_Mod_work_81 hl (k := 3) rfl (bx_inc _) (by decide) rfl (fun ls hl => ?_)
          refine lv_goto (tgt := 2) hx hb d_Mod_work_84 (by decide) ?_
          exact (hV _ _ _ _ _).mp (ih (i9 + 1) (va_up tr i9 true) _ _ ls (by omega) (mo_tr_up hi_t (by rw [g9]; exact bz_inj (show bz true = _ from c_2.symm))) hP hD hS (lv_sub hl [1, 2, 3, 0] rfl))
  exact loop n 0 tr _ _ ls (Nat.zero_add _) (mo_tr_0 _ _ _ _ _ _) hP hD hS (lv_sub hl [1, 2, 3, 0] rfl)

set_option maxHeartbeats 4000000 in
set_option maxRecDepth 100000 in
theorem k_Mod_difference (l : Launch) (dC : Nat → ClassId) (dI : Nat → Nat → Nat) (cI cZ cJ : ClassId) (oM mS mO mL mR mT mN mX mF mA mB mV mW mQ mY mE mC mG mH : Nat) (wb n sc s1 np fr : Nat) (kd lf rt nx pl pr : Nat → Nat) (th : Int32) (no : Nat → Nat) (tr : Nat → Bool) (mrc mcl : Nat) (ov : Bool) (mw : Nat → Nat) (mq : Nat → Int32) (mb lb : Nat → Nat) (cm : Nat → Bool) (mg : Nat → Nat) (ps cy : Nat) (df : Int32) (hw9 : Nat) (sh : Nat → Bool) (hnp : np ≤ 16) (hpl : ∀ p, p < np → pl p < 100 ∧ pr p < 100) : Met l y_Mod_difference (bw y_Mod_difference b_Mod_difference 2 (some .int)) ({ frames := 0, cells := 0, slots := 0, locals := 0 }) (bx_pR dC dI cI cZ cJ [.ref oM] [(oM, .inr (4, [.int th, .int (nI wb), .int (nI n), .int (nI sc), .int (nI np), .int (nI (n - wb - sc)), .ref mS, .ref mO, .ref mL, .ref mR, .ref mT, .ref mN, .ref mX, .ref mF, .ref mA, .ref mB, .ref mV, .int (nI mrc), .int (nI mcl), .int (bz ov), .ref mW, .ref mQ, .ref mY, .ref mE, .ref mC, .ref mG, .int (nI ps), .int (nI cy), .int df, .int (nI hw9), .ref mH])), (mA, .inl (cI, 16, .inl (fun z9 => nI (pl z9)))), (mB, .inl (cI, 16, .inl (fun z9 => nI (pr z9)))), (mV, .inl (cZ, 100, .inl (fun z9 => bz (tr z9))))]) (bx_qR (fun r => (r = (-1) ∧ ∀ q, q < np → (tr (pl q) ^^ tr (pr q)) = false) ∨ ∃ q, q < np ∧ r = nI q ∧ (tr (pl q) ^^ tr (pr q)) = true ∧ ∀ q2, q2 < q → (tr (pl q2) ^^ tr (pr q2)) = false)) 0 0 (fun _ => False) := by
  refine Met.ofW (cc := b_Mod_difference) (maxL := 2) (ret := some .int) (by decide) rfl ?_
  intro p e s m args below meth c s₁ B hml hv
  obtain ⟨rfl, hE, hP⟩ := hv
  have hx := B.exec
  have hb := B.bytes
  have hr := B.returns
  have hts9 := atoms_spec (ws := (bw y_Mod_difference b_Mod_difference 2 (some .int))) B.pre
  have hts : ∀ w ∈ gw, w.before _ s = true := fun w h => hts9 w (List.mem_cons_of_mem _ h)
  have hown : s.vm.findClass RX4 = some m.cls := findClass_of_methodNamed B.named
  have hlocks := B.notSynchronized
  have hK := hE.1
  have hN := hE.2.1
  have hS : va_S (fun _ => False) s.heap s.heap [] := va_S.rf
  have hP : va_P (dC, dI) vwCl [(oM, .inr (4, [.int th, .int (nI wb), .int (nI n), .int (nI sc), .int (nI np), .int (nI (n - wb - sc)), .ref mS, .ref mO, .ref mL, .ref mR, .ref mT, .ref mN, .ref mX, .ref mF, .ref mA, .ref mB, .ref mV, .int (nI mrc), .int (nI mcl), .int (bz ov), .ref mW, .ref mQ, .ref mY, .ref mE, .ref mC, .ref mG, .int (nI ps), .int (nI cy), .int df, .int (nI hw9), .ref mH])), (mA, .inl (cI, 16, .inl (fun z9 => nI (pl z9)))), (mB, .inl (cI, 16, .inl (fun z9 => nI (pr z9)))), (mV, .inl (cZ, 100, .inl (fun z9 => bz (tr z9))))] s.heap := hP
  have hl := lv_entry ([.ref oM]) (n := 2) (Nat.le_of_ble_eq_true rfl)
  rw [lg_entry_eq]
  generalize (lg_sl ([.ref oM]) ++ List.replicate (2 - (lg_sl ([.ref oM])).length) Slot.unset).toArray = ls at hl ⊢
  have hl : lv_has ls 2 [(0, .ref oM)] := hl
  refine lv_iconst (v := nI 0) hx hb d_Mod_difference_0 (by decide +kernel) ?_
  refine lv_istore_n (lv' := [(1, .int (nI 0)), (0, .ref oM)]) hx hb d_Mod_difference_1 rfl hl (by decide) rfl (fun ls hl => ?_)
  refine bx_gen (fun V hV => ?_)
  have loop : ∀ (k9 i9 : Nat) (ls : Array Slot), i9 + k9 = np → (∀ q, q < i9 → (tr (pl q) ^^ tr (pr q)) = false) → lv_has ls 2 [(0, .ref oM), (1, .int (nI i9))] → V s.heap [] 0 0 (F0 m 2 ls []) := by
    intro k9
    induction k9 with
    | zero =>
      intro i9 ls hik hi_d hl
      refine (hV _ _ _ _ _).mpr ?_
      refine lv_iload_n hx hb d_Mod_difference_2 rfl (lv_at hl 1 rfl) ?_
      refine lv_aload_n hx hb d_Mod_difference_3 rfl (lv_at hl 0 rfl) ?_
      refine va_get (D := (dC, dI)) (ci := 4) (v := .int (nI np)) (C := RX4) (T := TX4) (N := 31) hx hb hts in_X4 hown hK hP 0 rfl rfl 4 (by decide) (hts _ lk_Mod_121) (fun _ h9 => h9) rfl d_Mod_difference_4 ?_
      refine lv_icmp_ge (tgt := 43) hx hb d_Mod_difference_7 (by decide) (fun _ => ?_) (fun c9 => absurd (by rw [show i9 = np by omega]; exact nI_le (Nat.le_refl np) (by omega)) c9)
      refine lv_iconst (v := (-1)) hx hb d_Mod_difference_43 (by decide +kernel) ?_
      exact W.iret (v := (-1)) hx hb hr (fun t ht hW => ⟨(-1), rfl, Or.inl ⟨rfl, fun q hq => hi_d q (by omega)⟩, ht⟩) (fun q h => by cases h) d_Mod_difference_44
    | succ k9 ih =>
      intro i9 ls hik hi_d hl
      refine (hV _ _ _ _ _).mpr ?_
      refine lv_iload_n hx hb d_Mod_difference_2 rfl (lv_at hl 1 rfl) ?_
      refine lv_aload_n hx hb d_Mod_difference_3 rfl (lv_at hl 0 rfl) ?_
      refine va_get (D := (dC, dI)) (ci := 4) (v := .int (nI np)) (C := RX4) (T := TX4) (N := 31) hx hb hts in_X4 hown hK hP 0 rfl rfl 4 (by decide) (hts _ lk_Mod_121) (fun _ h9 => h9) rfl d_Mod_difference_4 ?_
      refine lv_icmp_ge (tgt := 43) hx hb d_Mod_difference_7 (by decide) (fun c9 => absurd c9 (nI_ge (by omega) (by omega))) (fun _ => ?_)
      have hq9 := hpl i9 (by omega)
      refine lv_aload_n hx hb d_Mod_difference_10 rfl (lv_at hl 0 rfl) ?_
      refine va_get (D := (dC, dI)) (ci := 4) (v := .ref mV) (C := RX4) (T := TX4) (N := 31) hx hb hts in_X4 hown hK hP 0 rfl rfl 16 (by decide) (hts _ lk_Mod_41) (fun _ h9 => h9) rfl d_Mod_difference_11 ?_
      refine lv_aload_n hx hb d_Mod_difference_14 rfl (lv_at hl 0 rfl) ?_
      refine va_get (D := (dC, dI)) (ci := 4) (v := .ref mA) (C := RX4) (T := TX4) (N := 31) hx hb hts in_X4 hown hK hP 0 rfl rfl 14 (by decide) (hts _ lk_Mod_35) (fun _ h9 => h9) rfl d_Mod_difference_15 ?_
      refine lv_iload_n hx hb d_Mod_difference_18 rfl (lv_at hl 1 rfl) ?_
      refine bx_iald hx hb hK hP 1 0 rfl rfl (k := i9) rfl (by omega) (by decide) d_Mod_difference_19 ?_
      refine bx_zald hx hb hK hP 3 1 rfl rfl (k := (pl i9)) rfl hq9.1 (by decide) d_Mod_difference_20 ?_
      refine lv_aload_n hx hb d_Mod_difference_21 rfl (lv_at hl 0 rfl) ?_
      refine va_get (D := (dC, dI)) (ci := 4) (v := .ref mV) (C := RX4) (T := TX4) (N := 31) hx hb hts in_X4 hown hK hP 0 rfl rfl 16 (by decide) (hts _ lk_Mod_41) (fun _ h9 => h9) rfl d_Mod_difference_22 ?_
      refine lv_aload_n hx hb d_Mod_difference_25 rfl (lv_at hl 0 rfl) ?_
      refine va_get (D := (dC, dI)) (ci := 4) (v := .ref mB) (C := RX4) (T := TX4) (N := 31) hx hb hts in_X4 hown hK hP 0 rfl rfl 15 (by decide) (hts _ lk_Mod_38) (fun _ h9 => h9) rfl d_Mod_difference_26 ?_
      refine lv_iload_n hx hb d_Mod_difference_29 rfl (lv_at hl 1 rfl) ?_
      refine bx_iald hx hb hK hP 2 0 rfl rfl (k := i9) rfl (by omega) (by decide) d_Mod_difference_30 ?_
      refine bx_zald hx hb hK hP 3 1 rfl rfl (k := (pr i9)) rfl hq9.2 (by decide) d_Mod_difference_31 ?_
      refine lv_icmp_eq (tgt := 37) hx hb d_Mod_difference_32 (by decide) (fun c_1 => ?_) (fun c_1 => ?_)
      · refine lv_iinc (v := nI (i9 + 1)) (lv' := [(1, .int (nI (i9 + 1))), (0, .ref oM)]) hx hb d_Mod_difference_37 hl (k := 1) rfl (bx_inc _) (by decide) rfl (fun ls hl => ?_)
        refine lv_goto (tgt := 2) hx hb d_Mod_difference_40 (by decide) ?_
        exact (hV _ _ _ _ _).mp (ih (i9 + 1) ls (by omega) (lt_s hi_d (by rw [bz_inj c_1]; exact Bool.xor_self _)) (lv_sub hl [1, 0] rfl))
      · refine lv_iload_n hx hb d_Mod_difference_35 rfl (lv_at hl 1 rfl) ?_
        exact W.iret (v := nI i9) hx hb hr (fun t ht hW => ⟨nI i9, rfl, Or.inr ⟨i9, by omega, rfl, by cases e1 : tr (pl i9) <;> cases e2 : tr (pr i9) <;> first | rfl | exact absurd (by rw [e1, e2]) c_1, hi_d⟩, ht⟩) (fun q h => by cases h) d_Mod_difference_36
  exact loop np 0 ls (Nat.zero_add _) lt_0 (lv_sub hl [1, 0] rfl)

set_option maxHeartbeats 4000000 in
set_option maxRecDepth 100000 in
theorem k_Mod_after (l : Launch) (dC : Nat → ClassId) (dI : Nat → Nat → Nat) (cI cZ cJ : ClassId) (oM mS mO mL mR mT mN mX mF mA mB mV mW mQ mY mE mC mG mH : Nat) (wb n sc s1 np fr : Nat) (kd lf rt nx pl pr : Nat → Nat) (th : Int32) (no : Nat → Nat) (tr : Nat → Bool) (mrc mcl : Nat) (ov : Bool) (mw : Nat → Nat) (mq : Nat → Int32) (mb lb : Nat → Nat) (cm : Nat → Bool) (mg : Nat → Nat) (ps cy : Nat) (df : Int32) (hw9 : Nat) (sh : Nat → Bool) (hsc : sc ≤ 14) (hnx : ∀ s, s < sc → nx s < 100) : Met l y_Mod_after (bw y_Mod_after b_Mod_after 3 (some .int)) ({ frames := 0, cells := 0, slots := 0, locals := 0 }) (bx_pR dC dI cI cZ cJ [.ref oM] [(oM, .inr (4, [.int th, .int (nI wb), .int (nI n), .int (nI sc), .int (nI np), .int (nI (n - wb - sc)), .ref mS, .ref mO, .ref mL, .ref mR, .ref mT, .ref mN, .ref mX, .ref mF, .ref mA, .ref mB, .ref mV, .int (nI mrc), .int (nI mcl), .int (bz ov), .ref mW, .ref mQ, .ref mY, .ref mE, .ref mC, .ref mG, .int (nI ps), .int (nI cy), .int df, .int (nI hw9), .ref mH])), (mX, .inl (cI, 14, .inl (fun z9 => nI (nx z9)))), (mV, .inl (cZ, 100, .inl (fun z9 => bz (tr z9))))]) (bx_qR (fun r => r = nI (bn_row (fun s => tr (nx s)) sc))) 0 0 (fun _ => False) := by
  refine Met.ofW (cc := b_Mod_after) (maxL := 3) (ret := some .int) (by decide) rfl ?_
  intro p e s m args below meth c s₁ B hml hv
  obtain ⟨rfl, hE, hP⟩ := hv
  have hx := B.exec
  have hb := B.bytes
  have hr := B.returns
  have hts9 := atoms_spec (ws := (bw y_Mod_after b_Mod_after 3 (some .int))) B.pre
  have hts : ∀ w ∈ gw, w.before _ s = true := fun w h => hts9 w (List.mem_cons_of_mem _ h)
  have hown : s.vm.findClass RX4 = some m.cls := findClass_of_methodNamed B.named
  have hlocks := B.notSynchronized
  have hK := hE.1
  have hN := hE.2.1
  have hS : va_S (fun _ => False) s.heap s.heap [] := va_S.rf
  have hP : va_P (dC, dI) vwCl [(oM, .inr (4, [.int th, .int (nI wb), .int (nI n), .int (nI sc), .int (nI np), .int (nI (n - wb - sc)), .ref mS, .ref mO, .ref mL, .ref mR, .ref mT, .ref mN, .ref mX, .ref mF, .ref mA, .ref mB, .ref mV, .int (nI mrc), .int (nI mcl), .int (bz ov), .ref mW, .ref mQ, .ref mY, .ref mE, .ref mC, .ref mG, .int (nI ps), .int (nI cy), .int df, .int (nI hw9), .ref mH])), (mX, .inl (cI, 14, .inl (fun z9 => nI (nx z9)))), (mV, .inl (cZ, 100, .inl (fun z9 => bz (tr z9))))] s.heap := hP
  have hl := lv_entry ([.ref oM]) (n := 3) (Nat.le_of_ble_eq_true rfl)
  rw [lg_entry_eq]
  generalize (lg_sl ([.ref oM]) ++ List.replicate (3 - (lg_sl ([.ref oM])).length) Slot.unset).toArray = ls at hl ⊢
  have hl : lv_has ls 3 [(0, .ref oM)] := hl
  refine lv_iconst (v := nI 0) hx hb d_Mod_after_0 (by decide +kernel) ?_
  refine lv_istore_n (lv' := [(1, .int (nI 0)), (0, .ref oM)]) hx hb d_Mod_after_1 rfl hl (by decide) rfl (fun ls hl => ?_)
  refine lv_iconst (v := nI 0) hx hb d_Mod_after_2 (by decide +kernel) ?_
  refine lv_istore_n (lv' := [(2, .int (nI 0)), (1, .int (nI 0)), (0, .ref oM)]) hx hb d_Mod_after_3 rfl hl (by decide) rfl (fun ls hl => ?_)
  refine bx_gen (fun V hV => ?_)
  have loop : ∀ (k9 i9 : Nat) (ls : Array Slot), i9 + k9 = sc → lv_has ls 3 [(0, .ref oM), (1, .int (nI (bn_row (fun s => tr (nx s)) i9))), (2, .int (nI i9))] → V s.heap [] 0 0 (F0 m 4 ls []) := by
    intro k9
    induction k9 with
    | zero =>
      intro i9 ls hik hl
      refine (hV _ _ _ _ _).mpr ?_
      refine lv_iload_n hx hb d_Mod_after_4 rfl (lv_at hl 2 rfl) ?_
      refine lv_aload_n hx hb d_Mod_after_5 rfl (lv_at hl 0 rfl) ?_
      refine va_get (D := (dC, dI)) (ci := 4) (v := .int (nI sc)) (C := RX4) (T := TX4) (N := 31) hx hb hts in_X4 hown hK hP 0 rfl rfl 3 (by decide) (hts _ lk_Mod_97) (fun _ h9 => h9) rfl d_Mod_after_6 ?_
      refine lv_icmp_ge (tgt := 42) hx hb d_Mod_after_9 (by decide) (fun _ => ?_) (fun c9 => absurd (by rw [show i9 = sc by omega]; exact nI_le (Nat.le_refl sc) (by omega)) c9)
      refine lv_iload_n hx hb d_Mod_after_42 rfl (lv_at hl 1 rfl) ?_
      exact W.iret (v := nI (bn_row (fun s => tr (nx s)) i9)) hx hb hr (fun t ht hW => ⟨nI (bn_row (fun s => tr (nx s)) i9), rfl, by rw [show i9 = sc by omega], ht⟩) (fun q h => by cases h) d_Mod_after_43
    | succ k9 ih =>
      intro i9 ls hik hl
      refine (hV _ _ _ _ _).mpr ?_
      refine lv_iload_n hx hb d_Mod_after_4 rfl (lv_at hl 2 rfl) ?_
      refine lv_aload_n hx hb d_Mod_after_5 rfl (lv_at hl 0 rfl) ?_
      refine va_get (D := (dC, dI)) (ci := 4) (v := .int (nI sc)) (C := RX4) (T := TX4) (N := 31) hx hb hts in_X4 hown hK hP 0 rfl rfl 3 (by decide) (hts _ lk_Mod_97) (fun _ h9 => h9) rfl d_Mod_after_6 ?_
      refine lv_icmp_ge (tgt := 42) hx hb d_Mod_after_9 (by decide) (fun c9 => absurd c9 (nI_ge (by omega) (by omega))) (fun _ => ?_)
      refine lv_iload_n hx hb d_Mod_after_12 rfl (lv_at hl 1 rfl) ?_
      refine lv_aload_n hx hb d_Mod_after_13 rfl (lv_at hl 0 rfl) ?_
      refine va_get (D := (dC, dI)) (ci := 4) (v := .ref mV) (C := RX4) (T := TX4) (N := 31) hx hb hts in_X4 hown hK hP 0 rfl rfl 16 (by decide) (hts _ lk_Mod_41) (fun _ h9 => h9) rfl d_Mod_after_14 ?_
      refine lv_aload_n hx hb d_Mod_after_17 rfl (lv_at hl 0 rfl) ?_
      refine va_get (D := (dC, dI)) (ci := 4) (v := .ref mX) (C := RX4) (T := TX4) (N := 31) hx hb hts in_X4 hown hK hP 0 rfl rfl 12 (by decide) (hts _ lk_Mod_28) (fun _ h9 => h9) rfl d_Mod_after_18 ?_
      refine lv_iload_n hx hb d_Mod_after_21 rfl (lv_at hl 2 rfl) ?_
      refine bx_iald hx hb hK hP 1 0 rfl rfl (k := i9) rfl (by omega) (by decide) d_Mod_after_22 ?_
      refine bx_zald hx hb hK hP 2 1 rfl rfl (k := (nx i9)) rfl (hnx i9 (by omega)) (by decide) d_Mod_after_23 ?_
      refine lv_if_eq (tgt := 33) hx hb d_Mod_after_24 (by decide) (fun c_1 => ?_) (fun c_1 => ?_)
      · refine lv_iconst (v := nI 0) hx hb d_Mod_after_33 (by decide +kernel) ?_
        refine lv_ior hx hb d_Mod_after_34 ?_
        refine bx_top (y := nI (bn_row (fun s => tr (nx s)) (i9 + 1))) (bn_row_f ((bz_0 _).mp c_1)) ?_
        refine lv_istore_n (lv' := [(1, .int (nI (bn_row (fun s => tr (nx s)) (i9 + 1)))), (0, .ref oM), (2, .int (nI i9))]) hx hb d_Mod_after_35 rfl hl (by decide) rfl (fun ls hl => ?_)
        refine lv_iinc (v := nI (i9 + 1)) (lv' := [(2, .int (nI (i9 + 1))), (1, .int (nI (bn_row (fun s => tr (nx s)) (i9 + 1)))), (0, .ref oM)]) hx hb d_Mod_after_36 hl (k := 2) rfl (bx_inc _) (by decide) rfl (fun ls hl => ?_)
        refine lv_goto (tgt := 4) hx hb d_Mod_after_39 (by decide) ?_
        exact (hV _ _ _ _ _).mp (ih (i9 + 1) ls (by omega) (lv_sub hl [2, 1, 0] rfl))
      · refine lv_iconst (v := nI 1) hx hb d_Mod_after_27 (by decide +kernel) ?_
        refine lv_iload_n hx hb d_Mod_after_28 rfl (lv_at hl 2 rfl) ?_
        refine lv_ishl hx hb d_Mod_after_29 ?_
        refine lv_goto (tgt := 34) hx hb d_Mod_after_30 (by decide) ?_
        refine lv_ior hx hb d_Mod_after_34 ?_
        refine bx_top (y := nI (bn_row (fun s => tr (nx s)) (i9 + 1))) (bn_row_t ((bz_n0 _).mp c_1) (by omega)) ?_
        refine lv_istore_n (lv' := [(1, .int (nI (bn_row (fun s => tr (nx s)) (i9 + 1)))), (0, .ref oM), (2, .int (nI i9))]) hx hb d_Mod_after_35 rfl hl (by decide) rfl (fun ls hl => ?_)
        refine lv_iinc (v := nI (i9 + 1)) (lv' := [(2, .int (nI (i9 + 1))), (1, .int (nI (bn_row (fun s => tr (nx s)) (i9 + 1)))), (0, .ref oM)]) hx hb d_Mod_after_36 hl (k := 2) rfl (bx_inc _) (by decide) rfl (fun ls hl => ?_)
        refine lv_goto (tgt := 4) hx hb d_Mod_after_39 (by decide) ?_
        exact (hV _ _ _ _ _).mp (ih (i9 + 1) ls (by omega) (lv_sub hl [2, 1, 0] rfl))
  exact loop sc 0 ls (Nat.zero_add _) (lv_sub hl [2, 1, 0] rfl)

set_option maxHeartbeats 4000000 in
set_option maxRecDepth 100000 in
theorem k_Mod_come (l : Launch) (dC : Nat → ClassId) (dI : Nat → Nat → Nat) (cI cZ cJ : ClassId) (sz : Nat) (oM mS mO mL mR mT mN mX mF mA mB mV mW mQ mY mE mC mG mH : Nat) (wb n sc s1 np fr : Nat) (kd lf rt nx pl pr : Nat → Nat) (th : Int32) (no : Nat → Nat) (tr : Nat → Bool) (mrc mcl : Nat) (ov : Bool) (mw : Nat → Nat) (mq : Nat → Int32) (mb lb : Nat → Nat) (cm : Nat → Bool) (mg : Nat → Nat) (ps cy : Nat) (df : Int32) (hw9 : Nat) (sh : Nat → Bool) (r0 w9 : Nat) (f9 : Int32) (hr0 : r0 < 16384) (hrc : cm r0 = false → mrc < 16384) : Met l y_Mod_come (bw y_Mod_come b_Mod_come 4 (none)) ({ frames := 0, cells := 0, slots := 0, locals := 0 }) (bx_pW dC dI cI cZ cJ [.ref oM, .int (nI r0), .int f9, .int (nI w9)] [(oM, .inr (4, [.int th, .int (nI wb), .int (nI n), .int (nI sc), .int (nI np), .int (nI (n - wb - sc)), .ref mS, .ref mO, .ref mL, .ref mR, .ref mT, .ref mN, .ref mX, .ref mF, .ref mA, .ref mB, .ref mV, .int (nI mrc), .int (nI mcl), .int (bz ov), .ref mW, .ref mQ, .ref mY, .ref mE, .ref mC, .ref mG, .int (nI ps), .int (nI cy), .int df, .int (nI hw9), .ref mH])), (mW, .inl (cI, 16384, .inl (fun z9 => nI (mw z9)))), (mQ, .inl (cI, 16384, .inl mq)), (mY, .inl (cI, 16384, .inl (fun z9 => nI (mb z9)))), (mC, .inl (cZ, 16384, .inl (fun z9 => bz (cm z9))))] sz) (va_Qv (fun (u9 : Nat × (Nat → Nat) × (Nat → Int32) × (Nat → Nat) × (Nat → Bool)) => match u9 with | (rc2, mw2, mq2, mb2, cm2) => (rc2, mw2, mq2, mb2, cm2) = if cm r0 then (mrc, mw, mq, mb, cm) else (mrc + 1, va_up mw mrc r0, upd mq mrc f9, va_up mb mrc w9, va_up cm r0 true)) (bx_B dC dI (va_A [(oM, .inr (4, [.int th, .int (nI wb), .int (nI n), .int (nI sc), .int (nI np), .int (nI (n - wb - sc)), .ref mS, .ref mO, .ref mL, .ref mR, .ref mT, .ref mN, .ref mX, .ref mF, .ref mA, .ref mB, .ref mV, .int (nI mrc), .int (nI mcl), .int (bz ov), .ref mW, .ref mQ, .ref mY, .ref mE, .ref mC, .ref mG, .int (nI ps), .int (nI cy), .int df, .int (nI hw9), .ref mH])), (mW, .inl (cI, 16384, .inl (fun z9 => nI (mw z9)))), (mQ, .inl (cI, 16384, .inl mq)), (mY, .inl (cI, 16384, .inl (fun z9 => nI (mb z9)))), (mC, .inl (cZ, 16384, .inl (fun z9 => bz (cm z9))))] sz) (fun (u9 : Nat × (Nat → Nat) × (Nat → Int32) × (Nat → Nat) × (Nat → Bool)) => match u9 with | (rc2, mw2, mq2, mb2, cm2) => ([(oM, .inr (4, [.int th, .int (nI wb), .int (nI n), .int (nI sc), .int (nI np), .int (nI (n - wb - sc)), .ref mS, .ref mO, .ref mL, .ref mR, .ref mT, .ref mN, .ref mX, .ref mF, .ref mA, .ref mB, .ref mV, .int (nI rc2), .int (nI mcl), .int (bz ov), .ref mW, .ref mQ, .ref mY, .ref mE, .ref mC, .ref mG, .int (nI ps), .int (nI cy), .int df, .int (nI hw9), .ref mH])), (mW, .inl (cI, 16384, .inl (fun z9 => nI (mw2 z9)))), (mQ, .inl (cI, 16384, .inl mq2)), (mY, .inl (cI, 16384, .inl (fun z9 => nI (mb2 z9)))), (mC, .inl (cZ, 16384, .inl (fun z9 => bz (cm2 z9))))] : va_W))) (va_A [(oM, .inr (4, [.int th, .int (nI wb), .int (nI n), .int (nI sc), .int (nI np), .int (nI (n - wb - sc)), .ref mS, .ref mO, .ref mL, .ref mR, .ref mT, .ref mN, .ref mX, .ref mF, .ref mA, .ref mB, .ref mV, .int (nI mrc), .int (nI mcl), .int (bz ov), .ref mW, .ref mQ, .ref mY, .ref mE, .ref mC, .ref mG, .int (nI ps), .int (nI cy), .int df, .int (nI hw9), .ref mH])), (mW, .inl (cI, 16384, .inl (fun z9 => nI (mw z9)))), (mQ, .inl (cI, 16384, .inl mq)), (mY, .inl (cI, 16384, .inl (fun z9 => nI (mb z9)))), (mC, .inl (cZ, 16384, .inl (fun z9 => bz (cm z9))))] sz)) 0 0 (va_A [(oM, .inr (4, [.int th, .int (nI wb), .int (nI n), .int (nI sc), .int (nI np), .int (nI (n - wb - sc)), .ref mS, .ref mO, .ref mL, .ref mR, .ref mT, .ref mN, .ref mX, .ref mF, .ref mA, .ref mB, .ref mV, .int (nI mrc), .int (nI mcl), .int (bz ov), .ref mW, .ref mQ, .ref mY, .ref mE, .ref mC, .ref mG, .int (nI ps), .int (nI cy), .int df, .int (nI hw9), .ref mH])), (mW, .inl (cI, 16384, .inl (fun z9 => nI (mw z9)))), (mQ, .inl (cI, 16384, .inl mq)), (mY, .inl (cI, 16384, .inl (fun z9 => nI (mb z9)))), (mC, .inl (cZ, 16384, .inl (fun z9 => bz (cm z9))))] sz) := by
  refine Met.ofW (cc := b_Mod_come) (maxL := 4) (ret := none) (by decide) rfl ?_
  intro p e s m args below meth c s₁ B hml hv
  obtain ⟨rfl, hsz, hE, hP, hD0⟩ := hv
  have hx := B.exec
  have hb := B.bytes
  have hr := B.returns
  have hts9 := atoms_spec (ws := (bw y_Mod_come b_Mod_come 4 (none))) B.pre
  have hts : ∀ w ∈ gw, w.before _ s = true := fun w h => hts9 w (List.mem_cons_of_mem _ h)
  have hown : s.vm.findClass RX4 = some m.cls := findClass_of_methodNamed B.named
  have hlocks := B.notSynchronized
  subst hsz
  have hD := hD0.self (sz := s.heap.size)
  generalize hAe : va_A [(oM, .inr (4, [.int th, .int (nI wb), .int (nI n), .int (nI sc), .int (nI np), .int (nI (n - wb - sc)), .ref mS, .ref mO, .ref mL, .ref mR, .ref mT, .ref mN, .ref mX, .ref mF, .ref mA, .ref mB, .ref mV, .int (nI mrc), .int (nI mcl), .int (bz ov), .ref mW, .ref mQ, .ref mY, .ref mE, .ref mC, .ref mG, .int (nI ps), .int (nI cy), .int df, .int (nI hw9), .ref mH])), (mW, .inl (cI, 16384, .inl (fun z9 => nI (mw z9)))), (mQ, .inl (cI, 16384, .inl mq)), (mY, .inl (cI, 16384, .inl (fun z9 => nI (mb z9)))), (mC, .inl (cZ, 16384, .inl (fun z9 => bz (cm z9))))] s.heap.size = A at hE hD ⊢
  have hA : ∀ q : Nat, s.heap.size ≤ q → A q := fun q h => by rw [← hAe]; exact Or.inr h
  have hS : va_S A s.heap s.heap [] := va_S.rf
  have hK := hE.1
  have hN := hE.2.1
  have hP : va_P (dC, dI) vwCl [(oM, .inr (4, [.int th, .int (nI wb), .int (nI n), .int (nI sc), .int (nI np), .int (nI (n - wb - sc)), .ref mS, .ref mO, .ref mL, .ref mR, .ref mT, .ref mN, .ref mX, .ref mF, .ref mA, .ref mB, .ref mV, .int (nI mrc), .int (nI mcl), .int (bz ov), .ref mW, .ref mQ, .ref mY, .ref mE, .ref mC, .ref mG, .int (nI ps), .int (nI cy), .int df, .int (nI hw9), .ref mH])), (mW, .inl (cI, 16384, .inl (fun z9 => nI (mw z9)))), (mQ, .inl (cI, 16384, .inl mq)), (mY, .inl (cI, 16384, .inl (fun z9 => nI (mb z9)))), (mC, .inl (cZ, 16384, .inl (fun z9 => bz (cm z9))))] s.heap := hP
  have hl := lv_entry ([.ref oM, .int (nI r0), .int f9, .int (nI w9)]) (n := 4) (Nat.le_of_ble_eq_true rfl)
  rw [lg_entry_eq]
  generalize (lg_sl ([.ref oM, .int (nI r0), .int f9, .int (nI w9)]) ++ List.replicate (4 - (lg_sl ([.ref oM, .int (nI r0), .int f9, .int (nI w9)])).length) Slot.unset).toArray = ls at hl ⊢
  have hl : lv_has ls 4 [(0, .ref oM), (1, .int (nI r0)), (2, .int f9), (3, .int (nI w9))] := hl
  refine lv_aload_n hx hb d_Mod_come_0 rfl (lv_at hl 0 rfl) ?_
  refine va_get (D := (dC, dI)) (ci := 4) (v := .ref mC) (C := RX4) (T := TX4) (N := 31) hx hb hts in_X4 hown hK hP 0 rfl rfl 24 (by decide) (hts _ lk_Mod_56) (fun _ h9 => h9) rfl d_Mod_come_1 ?_
  refine lv_iload_n hx hb d_Mod_come_4 rfl (lv_at hl 1 rfl) ?_
  refine bx_zald hx hb hK hP 4 1 rfl rfl (k := r0) rfl hr0 (by decide) d_Mod_come_5 ?_
  refine lv_if_eq (tgt := 10) hx hb d_Mod_come_6 (by decide) (fun c_1 => ?_) (fun c_1 => ?_)
  · have hb9 : cm r0 = false := (bz_0 _).mp c_1
    have hp9 := hrc hb9
    refine lv_aload_n hx hb d_Mod_come_10 rfl (lv_at hl 0 rfl) ?_
    refine va_get (D := (dC, dI)) (ci := 4) (v := .ref mC) (C := RX4) (T := TX4) (N := 31) hx hb hts in_X4 hown hK hP 0 rfl rfl 24 (by decide) (hts _ lk_Mod_56) (fun _ h9 => h9) rfl d_Mod_come_11 ?_
    refine lv_iload_n hx hb d_Mod_come_14 rfl (lv_at hl 1 rfl) ?_
    refine lv_iconst (v := nI 1) hx hb d_Mod_come_15 (by decide +kernel) ?_
    refine bx_top (y := bz true) rfl ?_
    refine bx_zast hx hb hK hP hD hS 4 1 rfl rfl (k := r0) rfl hr0 (by decide) (g := fun z9 => bz ((va_up cm r0 true) z9)) (bn_upB _ _ _) d_Mod_come_16 (fun H locs hP hD hS => ?_)
    have hP : va_P (dC, dI) vwCl [(oM, .inr (4, [.int th, .int (nI wb), .int (nI n), .int (nI sc), .int (nI np), .int (nI (n - wb - sc)), .ref mS, .ref mO, .ref mL, .ref mR, .ref mT, .ref mN, .ref mX, .ref mF, .ref mA, .ref mB, .ref mV, .int (nI mrc), .int (nI mcl), .int (bz ov), .ref mW, .ref mQ, .ref mY, .ref mE, .ref mC, .ref mG, .int (nI ps), .int (nI cy), .int df, .int (nI hw9), .ref mH])), (mW, .inl (cI, 16384, .inl (fun z9 => nI (mw z9)))), (mQ, .inl (cI, 16384, .inl mq)), (mY, .inl (cI, 16384, .inl (fun z9 => nI (mb z9)))), (mC, .inl (cZ, 16384, .inl (fun z9 => bz ((va_up cm r0 true) z9))))] H := hP
    have hD : va_D A [(oM, .inr (4, [.int th, .int (nI wb), .int (nI n), .int (nI sc), .int (nI np), .int (nI (n - wb - sc)), .ref mS, .ref mO, .ref mL, .ref mR, .ref mT, .ref mN, .ref mX, .ref mF, .ref mA, .ref mB, .ref mV, .int (nI mrc), .int (nI mcl), .int (bz ov), .ref mW, .ref mQ, .ref mY, .ref mE, .ref mC, .ref mG, .int (nI ps), .int (nI cy), .int df, .int (nI hw9), .ref mH])), (mW, .inl (cI, 16384, .inl (fun z9 => nI (mw z9)))), (mQ, .inl (cI, 16384, .inl mq)), (mY, .inl (cI, 16384, .inl (fun z9 => nI (mb z9)))), (mC, .inl (cZ, 16384, .inl (fun z9 => bz ((va_up cm r0 true) z9))))] := hD
    refine lv_aload_n hx hb d_Mod_come_17 rfl (lv_at hl 0 rfl) ?_
    refine va_get (D := (dC, dI)) (ci := 4) (v := .ref mW) (C := RX4) (T := TX4) (N := 31) hx hb hts in_X4 hown hK hP 0 rfl rfl 20 (by decide) (hts _ lk_Mod_44) (fun _ h9 => h9) rfl d_Mod_come_18 ?_
    refine lv_aload_n hx hb d_Mod_come_21 rfl (lv_at hl 0 rfl) ?_
    refine va_get (D := (dC, dI)) (ci := 4) (v := .int (nI mrc)) (C := RX4) (T := TX4) (N := 31) hx hb hts in_X4 hown hK hP 0 rfl rfl 17 (by decide) (hts _ lk_Mod_81) (fun _ h9 => h9) rfl d_Mod_come_22 ?_
    refine lv_iload_n hx hb d_Mod_come_25 rfl (lv_at hl 1 rfl) ?_
    refine bx_iast hx hb hK hP hD hS 1 0 rfl rfl (k := mrc) rfl hp9 (by decide) (g := fun z9 => nI ((va_up mw mrc r0) z9)) (bn_upN _ _ _) d_Mod_come_26 (fun H locs hP hD hS => ?_)
    have hP : va_P (dC, dI) vwCl [(oM, .inr (4, [.int th, .int (nI wb), .int (nI n), .int (nI sc), .int (nI np), .int (nI (n - wb - sc)), .ref mS, .ref mO, .ref mL, .ref mR, .ref mT, .ref mN, .ref mX, .ref mF, .ref mA, .ref mB, .ref mV, .int (nI mrc), .int (nI mcl), .int (bz ov), .ref mW, .ref mQ, .ref mY, .ref mE, .ref mC, .ref mG, .int (nI ps), .int (nI cy), .int df, .int (nI hw9), .ref mH])), (mW, .inl (cI, 16384, .inl (fun z9 => nI ((va_up mw mrc r0) z9)))), (mQ, .inl (cI, 16384, .inl mq)), (mY, .inl (cI, 16384, .inl (fun z9 => nI (mb z9)))), (mC, .inl (cZ, 16384, .inl (fun z9 => bz ((va_up cm r0 true) z9))))] H := hP
    have hD : va_D A [(oM, .inr (4, [.int th, .int (nI wb), .int (nI n), .int (nI sc), .int (nI np), .int (nI (n - wb - sc)), .ref mS, .ref mO, .ref mL, .ref mR, .ref mT, .ref mN, .ref mX, .ref mF, .ref mA, .ref mB, .ref mV, .int (nI mrc), .int (nI mcl), .int (bz ov), .ref mW, .ref mQ, .ref mY, .ref mE, .ref mC, .ref mG, .int (nI ps), .int (nI cy), .int df, .int (nI hw9), .ref mH])), (mW, .inl (cI, 16384, .inl (fun z9 => nI ((va_up mw mrc r0) z9)))), (mQ, .inl (cI, 16384, .inl mq)), (mY, .inl (cI, 16384, .inl (fun z9 => nI (mb z9)))), (mC, .inl (cZ, 16384, .inl (fun z9 => bz ((va_up cm r0 true) z9))))] := hD
    refine lv_aload_n hx hb d_Mod_come_27 rfl (lv_at hl 0 rfl) ?_
    refine va_get (D := (dC, dI)) (ci := 4) (v := .ref mQ) (C := RX4) (T := TX4) (N := 31) hx hb hts in_X4 hown hK hP 0 rfl rfl 21 (by decide) (hts _ lk_Mod_47) (fun _ h9 => h9) rfl d_Mod_come_28 ?_
    refine lv_aload_n hx hb d_Mod_come_31 rfl (lv_at hl 0 rfl) ?_
    refine va_get (D := (dC, dI)) (ci := 4) (v := .int (nI mrc)) (C := RX4) (T := TX4) (N := 31) hx hb hts in_X4 hown hK hP 0 rfl rfl 17 (by decide) (hts _ lk_Mod_81) (fun _ h9 => h9) rfl d_Mod_come_32 ?_
    refine lv_iload_n hx hb d_Mod_come_35 rfl (lv_at hl 2 rfl) ?_
    refine bx_iast hx hb hK hP hD hS 2 0 rfl rfl (k := mrc) rfl hp9 (by decide) (g := upd mq mrc f9) rfl d_Mod_come_36 (fun H locs hP hD hS => ?_)
    have hP : va_P (dC, dI) vwCl [(oM, .inr (4, [.int th, .int (nI wb), .int (nI n), .int (nI sc), .int (nI np), .int (nI (n - wb - sc)), .ref mS, .ref mO, .ref mL, .ref mR, .ref mT, .ref mN, .ref mX, .ref mF, .ref mA, .ref mB, .ref mV, .int (nI mrc), .int (nI mcl), .int (bz ov), .ref mW, .ref mQ, .ref mY, .ref mE, .ref mC, .ref mG, .int (nI ps), .int (nI cy), .int df, .int (nI hw9), .ref mH])), (mW, .inl (cI, 16384, .inl (fun z9 => nI ((va_up mw mrc r0) z9)))), (mQ, .inl (cI, 16384, .inl (upd mq mrc f9))), (mY, .inl (cI, 16384, .inl (fun z9 => nI (mb z9)))), (mC, .inl (cZ, 16384, .inl (fun z9 => bz ((va_up cm r0 true) z9))))] H := hP
    have hD : va_D A [(oM, .inr (4, [.int th, .int (nI wb), .int (nI n), .int (nI sc), .int (nI np), .int (nI (n - wb - sc)), .ref mS, .ref mO, .ref mL, .ref mR, .ref mT, .ref mN, .ref mX, .ref mF, .ref mA, .ref mB, .ref mV, .int (nI mrc), .int (nI mcl), .int (bz ov), .ref mW, .ref mQ, .ref mY, .ref mE, .ref mC, .ref mG, .int (nI ps), .int (nI cy), .int df, .int (nI hw9), .ref mH])), (mW, .inl (cI, 16384, .inl (fun z9 => nI ((va_up mw mrc r0) z9)))), (mQ, .inl (cI, 16384, .inl (upd mq mrc f9))), (mY, .inl (cI, 16384, .inl (fun z9 => nI (mb z9)))), (mC, .inl (cZ, 16384, .inl (fun z9 => bz ((va_up cm r0 true) z9))))] := hD
    refine lv_aload_n hx hb d_Mod_come_37 rfl (lv_at hl 0 rfl) ?_
    refine va_get (D := (dC, dI)) (ci := 4) (v := .ref mY) (C := RX4) (T := TX4) (N := 31) hx hb hts in_X4 hown hK hP 0 rfl rfl 22 (by decide) (hts _ lk_Mod_50) (fun _ h9 => h9) rfl d_Mod_come_38 ?_
    refine lv_aload_n hx hb d_Mod_come_41 rfl (lv_at hl 0 rfl) ?_
    refine va_get (D := (dC, dI)) (ci := 4) (v := .int (nI mrc)) (C := RX4) (T := TX4) (N := 31) hx hb hts in_X4 hown hK hP 0 rfl rfl 17 (by decide) (hts _ lk_Mod_81) (fun _ h9 => h9) rfl d_Mod_come_42 ?_
    refine lv_iload_n hx hb d_Mod_come_45 rfl (lv_at hl 3 rfl) ?_
    refine bx_iast hx hb hK hP hD hS 3 0 rfl rfl (k := mrc) rfl hp9 (by decide) (g := fun z9 => nI ((va_up mb mrc w9) z9)) (bn_upN _ _ _) d_Mod_come_46 (fun H locs hP hD hS => ?_)
    have hP : va_P (dC, dI) vwCl [(oM, .inr (4, [.int th, .int (nI wb), .int (nI n), .int (nI sc), .int (nI np), .int (nI (n - wb - sc)), .ref mS, .ref mO, .ref mL, .ref mR, .ref mT, .ref mN, .ref mX, .ref mF, .ref mA, .ref mB, .ref mV, .int (nI mrc), .int (nI mcl), .int (bz ov), .ref mW, .ref mQ, .ref mY, .ref mE, .ref mC, .ref mG, .int (nI ps), .int (nI cy), .int df, .int (nI hw9), .ref mH])), (mW, .inl (cI, 16384, .inl (fun z9 => nI ((va_up mw mrc r0) z9)))), (mQ, .inl (cI, 16384, .inl (upd mq mrc f9))), (mY, .inl (cI, 16384, .inl (fun z9 => nI ((va_up mb mrc w9) z9)))), (mC, .inl (cZ, 16384, .inl (fun z9 => bz ((va_up cm r0 true) z9))))] H := hP
    have hD : va_D A [(oM, .inr (4, [.int th, .int (nI wb), .int (nI n), .int (nI sc), .int (nI np), .int (nI (n - wb - sc)), .ref mS, .ref mO, .ref mL, .ref mR, .ref mT, .ref mN, .ref mX, .ref mF, .ref mA, .ref mB, .ref mV, .int (nI mrc), .int (nI mcl), .int (bz ov), .ref mW, .ref mQ, .ref mY, .ref mE, .ref mC, .ref mG, .int (nI ps), .int (nI cy), .int df, .int (nI hw9), .ref mH])), (mW, .inl (cI, 16384, .inl (fun z9 => nI ((va_up mw mrc r0) z9)))), (mQ, .inl (cI, 16384, .inl (upd mq mrc f9))), (mY, .inl (cI, 16384, .inl (fun z9 => nI ((va_up mb mrc w9) z9)))), (mC, .inl (cZ, 16384, .inl (fun z9 => bz ((va_up cm r0 true) z9))))] := hD
    refine lv_aload_n hx hb d_Mod_come_47 rfl (lv_at hl 0 rfl) ?_
    refine lv_dup hx hb d_Mod_come_48 rfl ?_
    refine va_get (D := (dC, dI)) (ci := 4) (v := .int (nI mrc)) (C := RX4) (T := TX4) (N := 31) hx hb hts in_X4 hown hK hP 0 rfl rfl 17 (by decide) (hts _ lk_Mod_81) (fun _ h9 => h9) rfl d_Mod_come_49 ?_
    refine lv_iconst (v := nI 1) hx hb d_Mod_come_52 (by decide +kernel) ?_
    refine lv_iadd hx hb d_Mod_come_53 ?_
    refine bx_top (y := nI (mrc + 1)) (nI_1 mrc) ?_
    refine va_put (D := (dC, dI)) (ci := 4) (v := .int (nI (mrc + 1))) (ty := .int) (C := RX4) (T := TX4) (N := 31) hx hb hts in_X4 tyX4 tyX4_ok nmX4 hown hK hP hD hS 0 rfl rfl 17 (by decide) (hts _ lk_Mod_81) (fun _ h9 => h9) rfl (by decide +kernel) rfl rfl (Nat.le_of_ble_eq_true rfl) d_Mod_come_54 (fun H locs hP hD hS => ?_)
    have hP : va_P (dC, dI) vwCl [(oM, .inr (4, [.int th, .int (nI wb), .int (nI n), .int (nI sc), .int (nI np), .int (nI (n - wb - sc)), .ref mS, .ref mO, .ref mL, .ref mR, .ref mT, .ref mN, .ref mX, .ref mF, .ref mA, .ref mB, .ref mV, .int (nI (mrc + 1)), .int (nI mcl), .int (bz ov), .ref mW, .ref mQ, .ref mY, .ref mE, .ref mC, .ref mG, .int (nI ps), .int (nI cy), .int df, .int (nI hw9), .ref mH])), (mW, .inl (cI, 16384, .inl (fun z9 => nI ((va_up mw mrc r0) z9)))), (mQ, .inl (cI, 16384, .inl (upd mq mrc f9))), (mY, .inl (cI, 16384, .inl (fun z9 => nI ((va_up mb mrc w9) z9)))), (mC, .inl (cZ, 16384, .inl (fun z9 => bz ((va_up cm r0 true) z9))))] H := hP
    have hD : va_D A [(oM, .inr (4, [.int th, .int (nI wb), .int (nI n), .int (nI sc), .int (nI np), .int (nI (n - wb - sc)), .ref mS, .ref mO, .ref mL, .ref mR, .ref mT, .ref mN, .ref mX, .ref mF, .ref mA, .ref mB, .ref mV, .int (nI (mrc + 1)), .int (nI mcl), .int (bz ov), .ref mW, .ref mQ, .ref mY, .ref mE, .ref mC, .ref mG, .int (nI ps), .int (nI cy), .int df, .int (nI hw9), .ref mH])), (mW, .inl (cI, 16384, .inl (fun z9 => nI ((va_up mw mrc r0) z9)))), (mQ, .inl (cI, 16384, .inl (upd mq mrc f9))), (mY, .inl (cI, 16384, .inl (fun z9 => nI ((va_up mb mrc w9) z9)))), (mC, .inl (cZ, 16384, .inl (fun z9 => bz ((va_up cm r0 true) z9))))] := hD
    have hP9 := hP
    have hD9 := hD
    exact W.vret hx hb hr (fun t ht hW => ⟨⟨(mrc + 1, va_up mw mrc r0, upd mq mrc f9, va_up mb mrc w9, va_up cm r0 true), rfl, by rw [hb9]; rfl, by rw [ht]; exact hP9, hD9⟩, hS.F ht⟩) hS.2.2 d_Mod_come_57
  · have hb9 : cm r0 = true := (bz_n0 _).mp c_1
    have hP9 := hP
    have hD9 := hD
    exact W.vret hx hb hr (fun t ht hW => ⟨⟨(mrc, mw, mq, mb, cm), rfl, by rw [hb9]; rfl, by rw [ht]; exact hP9, hD9⟩, hS.F ht⟩) hS.2.2 d_Mod_come_9
