set_option maxHeartbeats 4000000 in
set_option maxRecDepth 100000 in
theorem k_Net_hasAllNodes (l : Launch) (dC : Nat → ClassId) (dI : Nat → Nat → Nat) (cI cZ cJ : ClassId) (oN aK aL aR aX aP aQ wb n sc s1 np fr : Nat) (kd lf rt nx pl pr : Nat → Nat) (h9 : n ≤ 100) : Met l y_Net_hasAllNodes (bw y_Net_hasAllNodes b_Net_hasAllNodes 1 (some .boolean)) ({ frames := 0, cells := 0, slots := 0, locals := 0 }) (bx_pR dC dI cI cZ cJ [.ref oN] [(oN, .inr (2, [.int (nI wb), .int (nI (2 ^ wb)), .ref aK, .ref aL, .ref aR, .ref aX, .ref aP, .ref aQ, .int (nI n), .int (nI sc), .int (nI s1), .int (nI np), .int (nI fr)])), (aK, .inl (cI, 100, .inl (fun z9 => nI (kd z9)))), (aL, .inl (cI, 100, .inl (fun z9 => nI (lf z9)))), (aR, .inl (cI, 100, .inl (fun z9 => nI (rt z9)))), (aX, .inl (cI, 14, .inl (fun z9 => nI (nx z9)))), (aP, .inl (cI, 16, .inl (fun z9 => nI (pl z9)))), (aQ, .inl (cI, 16, .inl (fun z9 => nI (pr z9))))]) (bx_qR (fun r => r = bz (decide (100 ≤ n)))) 0 0 (fun _ => False) := by
  refine Met.ofW (cc := b_Net_hasAllNodes) (maxL := 1) (ret := some .boolean) (by decide) rfl ?_
  intro p e s m args below meth c s₁ B hml hv
  obtain ⟨rfl, hE, hP⟩ := hv
  have hx := B.exec
  have hb := B.bytes
  have hr := B.returns
  have hts9 := atoms_spec (ws := (bw y_Net_hasAllNodes b_Net_hasAllNodes 1 (some .boolean))) B.pre
  have hts : ∀ w ∈ gw, w.before _ s = true := fun w h => hts9 w (List.mem_cons_of_mem _ h)
  have hown : s.vm.findClass RX2 = some m.cls := findClass_of_methodNamed B.named
  have hlocks := B.notSynchronized
  have hK := hE.1
  have hN := hE.2.1
  have hS : va_S (fun _ => False) s.heap s.heap [] := va_S.rf
  have hP : va_P (dC, dI) vwCl [(oN, .inr (2, [.int (nI wb), .int (nI (2 ^ wb)), .ref aK, .ref aL, .ref aR, .ref aX, .ref aP, .ref aQ, .int (nI n), .int (nI sc), .int (nI s1), .int (nI np), .int (nI fr)])), (aK, .inl (cI, 100, .inl (fun z9 => nI (kd z9)))), (aL, .inl (cI, 100, .inl (fun z9 => nI (lf z9)))), (aR, .inl (cI, 100, .inl (fun z9 => nI (rt z9)))), (aX, .inl (cI, 14, .inl (fun z9 => nI (nx z9)))), (aP, .inl (cI, 16, .inl (fun z9 => nI (pl z9)))), (aQ, .inl (cI, 16, .inl (fun z9 => nI (pr z9))))] s.heap := hP
  have hl := lv_entry ([.ref oN]) (n := 1) (Nat.le_of_ble_eq_true rfl)
  rw [lg_entry_eq]
  generalize (lg_sl ([.ref oN]) ++ List.replicate (1 - (lg_sl ([.ref oN])).length) Slot.unset).toArray = ls at hl ⊢
  have hl : lv_has ls 1 [(0, .ref oN)] := hl
  refine lv_aload_n hx hb d_Net_hasAllNodes_0 rfl (lv_at hl 0 rfl) ?_
  refine va_get (D := (dC, dI)) (ci := 2) (v := .int (nI n)) (C := RX2) (T := TX2) (N := 13) hx hb hts in_X2 hown hK hP 0 rfl rfl 8 (by decide) (hts _ lk_Net_37) (fun _ h9 => h9) rfl d_Net_hasAllNodes_1 ?_
  refine lv_bipush (v := nI 100) hx hb d_Net_hasAllNodes_4 (by decide +kernel) ?_
  refine lv_icmp_lt (tgt := 13) hx hb d_Net_hasAllNodes_6 (by decide) (fun c_1 => ?_) (fun c_1 => ?_)
  · refine lv_iconst (v := nI 0) hx hb d_Net_hasAllNodes_13 (by decide +kernel) ?_
    exact W.zret (v := nI 0) hx hb hr rfl (fun t ht hW => ⟨nI 0, rfl, bz_eq0 (decide_eq_false (by have := (nI_ltI (show n < 2 ^ 31 by omega) (by decide)).mp c_1; omega)), ht⟩) (fun q h => by cases h) d_Net_hasAllNodes_14
  · refine lv_iconst (v := nI 1) hx hb d_Net_hasAllNodes_9 (by decide +kernel) ?_
    refine lv_goto (tgt := 14) hx hb d_Net_hasAllNodes_10 (by decide) ?_
    exact W.zret (v := nI 1) hx hb hr rfl (fun t ht hW => ⟨nI 1, rfl, bz_eq1 (decide_eq_true (by have h3 : ¬ n < 100 := fun h => c_1 ((nI_ltI (by omega) (by decide)).mpr h); omega)), ht⟩) (fun q h => by cases h) d_Net_hasAllNodes_14

set_option maxHeartbeats 4000000 in
set_option maxRecDepth 100000 in
theorem k_Net_hasAllStates (l : Launch) (dC : Nat → ClassId) (dI : Nat → Nat → Nat) (cI cZ cJ : ClassId) (oN aK aL aR aX aP aQ wb n sc s1 np fr : Nat) (kd lf rt nx pl pr : Nat → Nat) (h9 : sc ≤ 100) : Met l y_Net_hasAllStates (bw y_Net_hasAllStates b_Net_hasAllStates 1 (some .boolean)) ({ frames := 0, cells := 0, slots := 0, locals := 0 }) (bx_pR dC dI cI cZ cJ [.ref oN] [(oN, .inr (2, [.int (nI wb), .int (nI (2 ^ wb)), .ref aK, .ref aL, .ref aR, .ref aX, .ref aP, .ref aQ, .int (nI n), .int (nI sc), .int (nI s1), .int (nI np), .int (nI fr)])), (aK, .inl (cI, 100, .inl (fun z9 => nI (kd z9)))), (aL, .inl (cI, 100, .inl (fun z9 => nI (lf z9)))), (aR, .inl (cI, 100, .inl (fun z9 => nI (rt z9)))), (aX, .inl (cI, 14, .inl (fun z9 => nI (nx z9)))), (aP, .inl (cI, 16, .inl (fun z9 => nI (pl z9)))), (aQ, .inl (cI, 16, .inl (fun z9 => nI (pr z9))))]) (bx_qR (fun r => r = bz (decide (14 ≤ sc)))) 0 0 (fun _ => False) := by
  refine Met.ofW (cc := b_Net_hasAllStates) (maxL := 1) (ret := some .boolean) (by decide) rfl ?_
  intro p e s m args below meth c s₁ B hml hv
  obtain ⟨rfl, hE, hP⟩ := hv
  have hx := B.exec
  have hb := B.bytes
  have hr := B.returns
  have hts9 := atoms_spec (ws := (bw y_Net_hasAllStates b_Net_hasAllStates 1 (some .boolean))) B.pre
  have hts : ∀ w ∈ gw, w.before _ s = true := fun w h => hts9 w (List.mem_cons_of_mem _ h)
  have hown : s.vm.findClass RX2 = some m.cls := findClass_of_methodNamed B.named
  have hlocks := B.notSynchronized
  have hK := hE.1
  have hN := hE.2.1
  have hS : va_S (fun _ => False) s.heap s.heap [] := va_S.rf
  have hP : va_P (dC, dI) vwCl [(oN, .inr (2, [.int (nI wb), .int (nI (2 ^ wb)), .ref aK, .ref aL, .ref aR, .ref aX, .ref aP, .ref aQ, .int (nI n), .int (nI sc), .int (nI s1), .int (nI np), .int (nI fr)])), (aK, .inl (cI, 100, .inl (fun z9 => nI (kd z9)))), (aL, .inl (cI, 100, .inl (fun z9 => nI (lf z9)))), (aR, .inl (cI, 100, .inl (fun z9 => nI (rt z9)))), (aX, .inl (cI, 14, .inl (fun z9 => nI (nx z9)))), (aP, .inl (cI, 16, .inl (fun z9 => nI (pl z9)))), (aQ, .inl (cI, 16, .inl (fun z9 => nI (pr z9))))] s.heap := hP
  have hl := lv_entry ([.ref oN]) (n := 1) (Nat.le_of_ble_eq_true rfl)
  rw [lg_entry_eq]
  generalize (lg_sl ([.ref oN]) ++ List.replicate (1 - (lg_sl ([.ref oN])).length) Slot.unset).toArray = ls at hl ⊢
  have hl : lv_has ls 1 [(0, .ref oN)] := hl
  refine lv_aload_n hx hb d_Net_hasAllStates_0 rfl (lv_at hl 0 rfl) ?_
  refine va_get (D := (dC, dI)) (ci := 2) (v := .int (nI sc)) (C := RX2) (T := TX2) (N := 13) hx hb hts in_X2 hown hK hP 0 rfl rfl 9 (by decide) (hts _ lk_Net_40) (fun _ h9 => h9) rfl d_Net_hasAllStates_1 ?_
  refine lv_bipush (v := nI 14) hx hb d_Net_hasAllStates_4 (by decide +kernel) ?_
  refine lv_icmp_lt (tgt := 13) hx hb d_Net_hasAllStates_6 (by decide) (fun c_1 => ?_) (fun c_1 => ?_)
  · refine lv_iconst (v := nI 0) hx hb d_Net_hasAllStates_13 (by decide +kernel) ?_
    exact W.zret (v := nI 0) hx hb hr rfl (fun t ht hW => ⟨nI 0, rfl, bz_eq0 (decide_eq_false (by have := (nI_ltI (show sc < 2 ^ 31 by omega) (by decide)).mp c_1; omega)), ht⟩) (fun q h => by cases h) d_Net_hasAllStates_14
  · refine lv_iconst (v := nI 1) hx hb d_Net_hasAllStates_9 (by decide +kernel) ?_
    refine lv_goto (tgt := 14) hx hb d_Net_hasAllStates_10 (by decide) ?_
    exact W.zret (v := nI 1) hx hb hr rfl (fun t ht hW => ⟨nI 1, rfl, bz_eq1 (decide_eq_true (by have h3 : ¬ sc < 14 := fun h => c_1 ((nI_ltI (by omega) (by decide)).mpr h); omega)), ht⟩) (fun q h => by cases h) d_Net_hasAllStates_14

set_option maxHeartbeats 4000000 in
set_option maxRecDepth 100000 in
theorem k_Net_hasAllPairs (l : Launch) (dC : Nat → ClassId) (dI : Nat → Nat → Nat) (cI cZ cJ : ClassId) (oN aK aL aR aX aP aQ wb n sc s1 np fr : Nat) (kd lf rt nx pl pr : Nat → Nat) (h9 : np ≤ 100) : Met l y_Net_hasAllPairs (bw y_Net_hasAllPairs b_Net_hasAllPairs 1 (some .boolean)) ({ frames := 0, cells := 0, slots := 0, locals := 0 }) (bx_pR dC dI cI cZ cJ [.ref oN] [(oN, .inr (2, [.int (nI wb), .int (nI (2 ^ wb)), .ref aK, .ref aL, .ref aR, .ref aX, .ref aP, .ref aQ, .int (nI n), .int (nI sc), .int (nI s1), .int (nI np), .int (nI fr)])), (aK, .inl (cI, 100, .inl (fun z9 => nI (kd z9)))), (aL, .inl (cI, 100, .inl (fun z9 => nI (lf z9)))), (aR, .inl (cI, 100, .inl (fun z9 => nI (rt z9)))), (aX, .inl (cI, 14, .inl (fun z9 => nI (nx z9)))), (aP, .inl (cI, 16, .inl (fun z9 => nI (pl z9)))), (aQ, .inl (cI, 16, .inl (fun z9 => nI (pr z9))))]) (bx_qR (fun r => r = bz (decide (16 ≤ np)))) 0 0 (fun _ => False) := by
  refine Met.ofW (cc := b_Net_hasAllPairs) (maxL := 1) (ret := some .boolean) (by decide) rfl ?_
  intro p e s m args below meth c s₁ B hml hv
  obtain ⟨rfl, hE, hP⟩ := hv
  have hx := B.exec
  have hb := B.bytes
  have hr := B.returns
  have hts9 := atoms_spec (ws := (bw y_Net_hasAllPairs b_Net_hasAllPairs 1 (some .boolean))) B.pre
  have hts : ∀ w ∈ gw, w.before _ s = true := fun w h => hts9 w (List.mem_cons_of_mem _ h)
  have hown : s.vm.findClass RX2 = some m.cls := findClass_of_methodNamed B.named
  have hlocks := B.notSynchronized
  have hK := hE.1
  have hN := hE.2.1
  have hS : va_S (fun _ => False) s.heap s.heap [] := va_S.rf
  have hP : va_P (dC, dI) vwCl [(oN, .inr (2, [.int (nI wb), .int (nI (2 ^ wb)), .ref aK, .ref aL, .ref aR, .ref aX, .ref aP, .ref aQ, .int (nI n), .int (nI sc), .int (nI s1), .int (nI np), .int (nI fr)])), (aK, .inl (cI, 100, .inl (fun z9 => nI (kd z9)))), (aL, .inl (cI, 100, .inl (fun z9 => nI (lf z9)))), (aR, .inl (cI, 100, .inl (fun z9 => nI (rt z9)))), (aX, .inl (cI, 14, .inl (fun z9 => nI (nx z9)))), (aP, .inl (cI, 16, .inl (fun z9 => nI (pl z9)))), (aQ, .inl (cI, 16, .inl (fun z9 => nI (pr z9))))] s.heap := hP
  have hl := lv_entry ([.ref oN]) (n := 1) (Nat.le_of_ble_eq_true rfl)
  rw [lg_entry_eq]
  generalize (lg_sl ([.ref oN]) ++ List.replicate (1 - (lg_sl ([.ref oN])).length) Slot.unset).toArray = ls at hl ⊢
  have hl : lv_has ls 1 [(0, .ref oN)] := hl
  refine lv_aload_n hx hb d_Net_hasAllPairs_0 rfl (lv_at hl 0 rfl) ?_
  refine va_get (D := (dC, dI)) (ci := 2) (v := .int (nI np)) (C := RX2) (T := TX2) (N := 13) hx hb hts in_X2 hown hK hP 0 rfl rfl 11 (by decide) (hts _ lk_Net_43) (fun _ h9 => h9) rfl d_Net_hasAllPairs_1 ?_
  refine lv_bipush (v := nI 16) hx hb d_Net_hasAllPairs_4 (by decide +kernel) ?_
  refine lv_icmp_lt (tgt := 13) hx hb d_Net_hasAllPairs_6 (by decide) (fun c_1 => ?_) (fun c_1 => ?_)
  · refine lv_iconst (v := nI 0) hx hb d_Net_hasAllPairs_13 (by decide +kernel) ?_
    exact W.zret (v := nI 0) hx hb hr rfl (fun t ht hW => ⟨nI 0, rfl, bz_eq0 (decide_eq_false (by have := (nI_ltI (show np < 2 ^ 31 by omega) (by decide)).mp c_1; omega)), ht⟩) (fun q h => by cases h) d_Net_hasAllPairs_14
  · refine lv_iconst (v := nI 1) hx hb d_Net_hasAllPairs_9 (by decide +kernel) ?_
    refine lv_goto (tgt := 14) hx hb d_Net_hasAllPairs_10 (by decide) ?_
    exact W.zret (v := nI 1) hx hb hr rfl (fun t ht hW => ⟨nI 1, rfl, bz_eq1 (decide_eq_true (by have h3 : ¬ np < 16 := fun h => c_1 ((nI_ltI (by omega) (by decide)).mpr h); omega)), ht⟩) (fun q h => by cases h) d_Net_hasAllPairs_14

set_option maxHeartbeats 4000000 in
set_option maxRecDepth 100000 in
theorem k_Net_isNode (l : Launch) (dC : Nat → ClassId) (dI : Nat → Nat → Nat) (cI cZ cJ : ClassId) (oN aK aL aR aX aP aQ wb n sc s1 np fr : Nat) (kd lf rt nx pl pr : Nat → Nat) (a : Int32) : Met l y_Net_isNode (bw y_Net_isNode b_Net_isNode 2 (some .boolean)) ({ frames := 0, cells := 0, slots := 0, locals := 0 }) (bx_pR dC dI cI cZ cJ [.ref oN, .int a] [(oN, .inr (2, [.int (nI wb), .int (nI (2 ^ wb)), .ref aK, .ref aL, .ref aR, .ref aX, .ref aP, .ref aQ, .int (nI n), .int (nI sc), .int (nI s1), .int (nI np), .int (nI fr)])), (aK, .inl (cI, 100, .inl (fun z9 => nI (kd z9)))), (aL, .inl (cI, 100, .inl (fun z9 => nI (lf z9)))), (aR, .inl (cI, 100, .inl (fun z9 => nI (rt z9)))), (aX, .inl (cI, 14, .inl (fun z9 => nI (nx z9)))), (aP, .inl (cI, 16, .inl (fun z9 => nI (pl z9)))), (aQ, .inl (cI, 16, .inl (fun z9 => nI (pr z9))))]) (bx_qR (fun r => r = bz (decide (¬ a < 0 ∧ a < nI n)))) 0 0 (fun _ => False) := by
  refine Met.ofW (cc := b_Net_isNode) (maxL := 2) (ret := some .boolean) (by decide) rfl ?_
  intro p e s m args below meth c s₁ B hml hv
  obtain ⟨rfl, hE, hP⟩ := hv
  have hx := B.exec
  have hb := B.bytes
  have hr := B.returns
  have hts9 := atoms_spec (ws := (bw y_Net_isNode b_Net_isNode 2 (some .boolean))) B.pre
  have hts : ∀ w ∈ gw, w.before _ s = true := fun w h => hts9 w (List.mem_cons_of_mem _ h)
  have hown : s.vm.findClass RX2 = some m.cls := findClass_of_methodNamed B.named
  have hlocks := B.notSynchronized
  have hK := hE.1
  have hN := hE.2.1
  have hS : va_S (fun _ => False) s.heap s.heap [] := va_S.rf
  have hP : va_P (dC, dI) vwCl [(oN, .inr (2, [.int (nI wb), .int (nI (2 ^ wb)), .ref aK, .ref aL, .ref aR, .ref aX, .ref aP, .ref aQ, .int (nI n), .int (nI sc), .int (nI s1), .int (nI np), .int (nI fr)])), (aK, .inl (cI, 100, .inl (fun z9 => nI (kd z9)))), (aL, .inl (cI, 100, .inl (fun z9 => nI (lf z9)))), (aR, .inl (cI, 100, .inl (fun z9 => nI (rt z9)))), (aX, .inl (cI, 14, .inl (fun z9 => nI (nx z9)))), (aP, .inl (cI, 16, .inl (fun z9 => nI (pl z9)))), (aQ, .inl (cI, 16, .inl (fun z9 => nI (pr z9))))] s.heap := hP
  have hl := lv_entry ([.ref oN, .int a]) (n := 2) (Nat.le_of_ble_eq_true rfl)
  rw [lg_entry_eq]
  generalize (lg_sl ([.ref oN, .int a]) ++ List.replicate (2 - (lg_sl ([.ref oN, .int a])).length) Slot.unset).toArray = ls at hl ⊢
  have hl : lv_has ls 2 [(0, .ref oN), (1, .int a)] := hl
  refine lv_iload_n hx hb d_Net_isNode_0 rfl (lv_at hl 1 rfl) ?_
  refine lv_if_lt (tgt := 16) hx hb d_Net_isNode_1 (by decide) (fun c_1 => ?_) (fun c_1 => ?_)
  · refine lv_iconst (v := nI 0) hx hb d_Net_isNode_16 (by decide +kernel) ?_
    exact W.zret (v := nI 0) hx hb hr rfl (fun t ht hW => ⟨nI 0, rfl, bz_eq0 (decide_eq_false (fun h => h.1 c_1)), ht⟩) (fun q h => by cases h) d_Net_isNode_17
  · refine lv_iload_n hx hb d_Net_isNode_4 rfl (lv_at hl 1 rfl) ?_
    refine lv_aload_n hx hb d_Net_isNode_5 rfl (lv_at hl 0 rfl) ?_
    refine va_get (D := (dC, dI)) (ci := 2) (v := .int (nI n)) (C := RX2) (T := TX2) (N := 13) hx hb hts in_X2 hown hK hP 0 rfl rfl 8 (by decide) (hts _ lk_Net_37) (fun _ h9 => h9) rfl d_Net_isNode_6 ?_
    refine lv_icmp_ge (tgt := 16) hx hb d_Net_isNode_9 (by decide) (fun c_2 => ?_) (fun c_2 => ?_)
    · refine lv_iconst (v := nI 0) hx hb d_Net_isNode_16 (by decide +kernel) ?_
      exact W.zret (v := nI 0) hx hb hr rfl (fun t ht hW => ⟨nI 0, rfl, bz_eq0 (decide_eq_false (fun h => absurd h.2 (k2_nlt c_2))), ht⟩) (fun q h => by cases h) d_Net_isNode_17
    · refine lv_iconst (v := nI 1) hx hb d_Net_isNode_12 (by decide +kernel) ?_
      refine lv_goto (tgt := 17) hx hb d_Net_isNode_13 (by decide) ?_
      exact W.zret (v := nI 1) hx hb hr rfl (fun t ht hW => ⟨nI 1, rfl, bz_eq1 (decide_eq_true ⟨c_1, k2_lt c_2⟩), ht⟩) (fun q h => by cases h) d_Net_isNode_17

set_option maxHeartbeats 4000000 in
set_option maxRecDepth 100000 in
theorem k_Net_isState (l : Launch) (dC : Nat → ClassId) (dI : Nat → Nat → Nat) (cI cZ cJ : ClassId) (oN aK aL aR aX aP aQ wb n sc s1 np fr : Nat) (kd lf rt nx pl pr : Nat → Nat) (a : Int32) (h9 : n ≤ 100) (h8 : ∀ k, k < n → kd k ≤ 7) : Met l y_Net_isState (bw y_Net_isState b_Net_isState 2 (some .boolean)) ({ frames := 1, cells := 0, slots := 0, locals := 21 }) (bx_pR dC dI cI cZ cJ [.ref oN, .int a] [(oN, .inr (2, [.int (nI wb), .int (nI (2 ^ wb)), .ref aK, .ref aL, .ref aR, .ref aX, .ref aP, .ref aQ, .int (nI n), .int (nI sc), .int (nI s1), .int (nI np), .int (nI fr)])), (aK, .inl (cI, 100, .inl (fun z9 => nI (kd z9)))), (aL, .inl (cI, 100, .inl (fun z9 => nI (lf z9)))), (aR, .inl (cI, 100, .inl (fun z9 => nI (rt z9)))), (aX, .inl (cI, 14, .inl (fun z9 => nI (nx z9)))), (aP, .inl (cI, 16, .inl (fun z9 => nI (pl z9)))), (aQ, .inl (cI, 16, .inl (fun z9 => nI (pr z9))))]) (bx_qR (fun r => r = bz (decide (¬ a < 0 ∧ a < nI n) && decide (kd a.toNatClampNeg = 7)))) 0 0 (fun _ => False) := by
  refine Met.ofW (cc := b_Net_isState) (maxL := 2) (ret := some .boolean) (by decide) rfl ?_
  intro p e s m args below meth c s₁ B hml hv
  obtain ⟨rfl, hE, hP⟩ := hv
  have hx := B.exec
  have hb := B.bytes
  have hr := B.returns
  have hts9 := atoms_spec (ws := (bw y_Net_isState b_Net_isState 2 (some .boolean))) B.pre
  have hts : ∀ w ∈ gw, w.before _ s = true := fun w h => hts9 w (List.mem_cons_of_mem _ h)
  have hown : s.vm.findClass RX2 = some m.cls := findClass_of_methodNamed B.named
  have hlocks := B.notSynchronized
  have hK := hE.1
  have hN := hE.2.1
  have hS : va_S (fun _ => False) s.heap s.heap [] := va_S.rf
  have hP : va_P (dC, dI) vwCl [(oN, .inr (2, [.int (nI wb), .int (nI (2 ^ wb)), .ref aK, .ref aL, .ref aR, .ref aX, .ref aP, .ref aQ, .int (nI n), .int (nI sc), .int (nI s1), .int (nI np), .int (nI fr)])), (aK, .inl (cI, 100, .inl (fun z9 => nI (kd z9)))), (aL, .inl (cI, 100, .inl (fun z9 => nI (lf z9)))), (aR, .inl (cI, 100, .inl (fun z9 => nI (rt z9)))), (aX, .inl (cI, 14, .inl (fun z9 => nI (nx z9)))), (aP, .inl (cI, 16, .inl (fun z9 => nI (pl z9)))), (aQ, .inl (cI, 16, .inl (fun z9 => nI (pr z9))))] s.heap := hP
  have hl := lv_entry ([.ref oN, .int a]) (n := 2) (Nat.le_of_ble_eq_true rfl)
  rw [lg_entry_eq]
  generalize (lg_sl ([.ref oN, .int a]) ++ List.replicate (2 - (lg_sl ([.ref oN, .int a])).length) Slot.unset).toArray = ls at hl ⊢
  have hl : lv_has ls 2 [(0, .ref oN), (1, .int a)] := hl
  refine lv_aload_n hx hb d_Net_isState_0 rfl (lv_at hl 0 rfl) ?_
  refine lv_iload_n hx hb d_Net_isState_1 rfl (lv_at hl 1 rfl) ?_
  have hPc := hP.sub (ws' := [(oN, .inr (2, [.int (nI wb), .int (nI (2 ^ wb)), .ref aK, .ref aL, .ref aR, .ref aX, .ref aP, .ref aQ, .int (nI n), .int (nI sc), .int (nI s1), .int (nI np), .int (nI fr)])), (aK, .inl (cI, 100, .inl (fun z9 => nI (kd z9)))), (aL, .inl (cI, 100, .inl (fun z9 => nI (lf z9)))), (aR, .inl (cI, 100, .inl (fun z9 => nI (rt z9)))), (aX, .inl (cI, 14, .inl (fun z9 => nI (nx z9)))), (aP, .inl (cI, 16, .inl (fun z9 => nI (pl z9)))), (aQ, .inl (cI, 16, .inl (fun z9 => nI (pr z9))))]) [0, 1, 2, 3, 4, 5, 6] rfl
  refine bx_callR (va_runV (As := [.int a]) (rest := []) ⟨hx, hb, hml, hown, hts⟩ (k_Net_isNode l dC dI cI cZ cJ oN aK aL aR aX aP aQ wb n sc s1 np fr kd lf rt nx pl pr a) (bx_cV (n := 1) hts mc_Net_isNode lk_Net_46 mi_Net_isNode ms_Net_isNode ini_Net (by decide +kernel) ⟨Nat.le_of_ble_eq_true rfl, Nat.le_of_ble_eq_true rfl⟩) (bx_prV hE hS hPc (ci := 2) (q0 := 0) rfl rfl) rfl rfl hl.1 rfl (lv_room (Nat.le_of_ble_eq_true rfl)) d_Net_isState_2 ⟨Nat.zero_le _, Nat.zero_le _⟩) (fun r_1 hw_r_1 => ?_)
  refine lv_if_eq (tgt := 23) hx hb d_Net_isState_5 (by decide) (fun c_1 => ?_) (fun c_1 => ?_)
  · refine lv_iconst (v := nI 0) hx hb d_Net_isState_23 (by decide +kernel) ?_
    exact W.zret (v := nI 0) hx hb hr rfl (fun t ht hW => ⟨nI 0, rfl, bz_eq0 (by rw [(bz_0 _).mp (hw_r_1.symm.trans c_1)]; rfl), ht⟩) (fun q h => by cases h) d_Net_isState_24
  · have q_1 := of_decide_eq_true ((bz_n0 _).mp (fun h => c_1 (hw_r_1.trans h)))
    obtain ⟨j, hj, rfl⟩ : ∃ j : Nat, j < n ∧ a = nI j := by
      obtain ⟨j, hj, e⟩ := nI_of q_1.1
      exact ⟨j, (nI_ltI hj (by omega)).mp (by rw [← e]; exact q_1.2), e⟩
    refine lv_aload_n hx hb d_Net_isState_8 rfl (lv_at hl 0 rfl) ?_
    refine va_get (D := (dC, dI)) (ci := 2) (v := .ref aK) (C := RX2) (T := TX2) (N := 13) hx hb hts in_X2 hown hK hP 0 rfl rfl 2 (by decide) (hts _ lk_Net_11) (fun _ h9 => h9) rfl d_Net_isState_9 ?_
    refine lv_iload_n hx hb d_Net_isState_12 rfl (lv_at hl 1 rfl) ?_
    refine bx_iald hx hb hK hP 1 0 rfl rfl (k := j) rfl (by omega) (by decide) d_Net_isState_13 ?_
    refine lv_bipush (v := nI 7) hx hb d_Net_isState_14 (by decide +kernel) ?_
    refine lv_icmp_ne (tgt := 23) hx hb d_Net_isState_16 (by decide) (fun c_2 => ?_) (fun c_2 => ?_)
    · refine lv_iconst (v := nI 0) hx hb d_Net_isState_23 (by decide +kernel) ?_
      exact W.zret (v := nI 0) hx hb hr rfl (fun t ht hW => ⟨nI 0, rfl, bz_eq0 (by rw [nI_clamp (by omega), decide_eq_false (show ¬ kd j = 7 from fun h => c_2 (by rw [h])), Bool.and_false]), ht⟩) (fun q h => by cases h) d_Net_isState_24
    · refine lv_iconst (v := nI 1) hx hb d_Net_isState_19 (by decide +kernel) ?_
      refine lv_goto (tgt := 24) hx hb d_Net_isState_20 (by decide) ?_
      exact W.zret (v := nI 1) hx hb hr rfl (fun t ht hW => ⟨nI 1, rfl, bz_eq1 (by rw [nI_clamp (by omega), decide_eq_true q_1, decide_eq_true ((nI_eq (by have := h8 j (by omega); omega) (by decide)).mp (c_2))]; rfl), ht⟩) (fun q h => by cases h) d_Net_isState_24

set_option maxHeartbeats 4000000 in
set_option maxRecDepth 100000 in
theorem k_Net_gateCount (l : Launch) (dC : Nat → ClassId) (dI : Nat → Nat → Nat) (cI cZ cJ : ClassId) (oN aK aL aR aX aP aQ wb n sc s1 np fr : Nat) (kd lf rt nx pl pr : Nat → Nat) (h9 : wb + sc ≤ n) : Met l y_Net_gateCount (bw y_Net_gateCount b_Net_gateCount 1 (some .int)) ({ frames := 0, cells := 0, slots := 0, locals := 0 }) (bx_pR dC dI cI cZ cJ [.ref oN] [(oN, .inr (2, [.int (nI wb), .int (nI (2 ^ wb)), .ref aK, .ref aL, .ref aR, .ref aX, .ref aP, .ref aQ, .int (nI n), .int (nI sc), .int (nI s1), .int (nI np), .int (nI fr)])), (aK, .inl (cI, 100, .inl (fun z9 => nI (kd z9)))), (aL, .inl (cI, 100, .inl (fun z9 => nI (lf z9)))), (aR, .inl (cI, 100, .inl (fun z9 => nI (rt z9)))), (aX, .inl (cI, 14, .inl (fun z9 => nI (nx z9)))), (aP, .inl (cI, 16, .inl (fun z9 => nI (pl z9)))), (aQ, .inl (cI, 16, .inl (fun z9 => nI (pr z9))))]) (bx_qR (fun r => r = nI (n - wb - sc))) 0 0 (fun _ => False) := by
  refine Met.ofW (cc := b_Net_gateCount) (maxL := 1) (ret := some .int) (by decide) rfl ?_
  intro p e s m args below meth c s₁ B hml hv
  obtain ⟨rfl, hE, hP⟩ := hv
  have hx := B.exec
  have hb := B.bytes
  have hr := B.returns
  have hts9 := atoms_spec (ws := (bw y_Net_gateCount b_Net_gateCount 1 (some .int))) B.pre
  have hts : ∀ w ∈ gw, w.before _ s = true := fun w h => hts9 w (List.mem_cons_of_mem _ h)
  have hown : s.vm.findClass RX2 = some m.cls := findClass_of_methodNamed B.named
  have hlocks := B.notSynchronized
  have hK := hE.1
  have hN := hE.2.1
  have hS : va_S (fun _ => False) s.heap s.heap [] := va_S.rf
  have hP : va_P (dC, dI) vwCl [(oN, .inr (2, [.int (nI wb), .int (nI (2 ^ wb)), .ref aK, .ref aL, .ref aR, .ref aX, .ref aP, .ref aQ, .int (nI n), .int (nI sc), .int (nI s1), .int (nI np), .int (nI fr)])), (aK, .inl (cI, 100, .inl (fun z9 => nI (kd z9)))), (aL, .inl (cI, 100, .inl (fun z9 => nI (lf z9)))), (aR, .inl (cI, 100, .inl (fun z9 => nI (rt z9)))), (aX, .inl (cI, 14, .inl (fun z9 => nI (nx z9)))), (aP, .inl (cI, 16, .inl (fun z9 => nI (pl z9)))), (aQ, .inl (cI, 16, .inl (fun z9 => nI (pr z9))))] s.heap := hP
  have hl := lv_entry ([.ref oN]) (n := 1) (Nat.le_of_ble_eq_true rfl)
  rw [lg_entry_eq]
  generalize (lg_sl ([.ref oN]) ++ List.replicate (1 - (lg_sl ([.ref oN])).length) Slot.unset).toArray = ls at hl ⊢
  have hl : lv_has ls 1 [(0, .ref oN)] := hl
  refine lv_aload_n hx hb d_Net_gateCount_0 rfl (lv_at hl 0 rfl) ?_
  refine va_get (D := (dC, dI)) (ci := 2) (v := .int (nI n)) (C := RX2) (T := TX2) (N := 13) hx hb hts in_X2 hown hK hP 0 rfl rfl 8 (by decide) (hts _ lk_Net_37) (fun _ h9 => h9) rfl d_Net_gateCount_1 ?_
  refine lv_aload_n hx hb d_Net_gateCount_4 rfl (lv_at hl 0 rfl) ?_
  refine va_get (D := (dC, dI)) (ci := 2) (v := .int (nI wb)) (C := RX2) (T := TX2) (N := 13) hx hb hts in_X2 hown hK hP 0 rfl rfl 0 (by decide) (hts _ lk_Net_30) (fun _ h9 => h9) rfl d_Net_gateCount_5 ?_
  refine lv_isub hx hb d_Net_gateCount_8 ?_
  refine bx_top (y := nI (n - wb)) (pk_sub (by omega)) ?_
  refine lv_aload_n hx hb d_Net_gateCount_9 rfl (lv_at hl 0 rfl) ?_
  refine va_get (D := (dC, dI)) (ci := 2) (v := .int (nI sc)) (C := RX2) (T := TX2) (N := 13) hx hb hts in_X2 hown hK hP 0 rfl rfl 9 (by decide) (hts _ lk_Net_40) (fun _ h9 => h9) rfl d_Net_gateCount_10 ?_
  refine lv_isub hx hb d_Net_gateCount_13 ?_
  refine bx_top (y := nI (n - wb - sc)) (pk_sub (by omega)) ?_
  exact W.iret (v := nI (n - wb - sc)) hx hb hr (fun t ht hW => ⟨nI (n - wb - sc), rfl, rfl, ht⟩) (fun q h => by cases h) d_Net_gateCount_14

set_option maxHeartbeats 4000000 in
set_option maxRecDepth 100000 in
theorem k_Net_wantsLeft (l : Launch) (dC : Nat → ClassId) (dI : Nat → Nat → Nat) (cI cZ cJ : ClassId) (a : Int32) : Met l y_Net_wantsLeft (bw y_Net_wantsLeft b_Net_wantsLeft 1 (some .boolean)) ({ frames := 0, cells := 0, slots := 0, locals := 0 }) (bx_pR dC dI cI cZ cJ [.int a] []) (bx_qR (fun r => r = bz (decide (a ≤ nI 3)))) 0 0 (fun _ => False) := by
  refine Met.ofW (cc := b_Net_wantsLeft) (maxL := 1) (ret := some .boolean) (by decide) rfl ?_
  intro p e s m args below meth c s₁ B hml hv
  obtain ⟨rfl, hE, hP⟩ := hv
  have hx := B.exec
  have hb := B.bytes
  have hr := B.returns
  have hts9 := atoms_spec (ws := (bw y_Net_wantsLeft b_Net_wantsLeft 1 (some .boolean))) B.pre
  have hts : ∀ w ∈ gw, w.before _ s = true := fun w h => hts9 w (List.mem_cons_of_mem _ h)
  have hown : s.vm.findClass RX2 = some m.cls := findClass_of_methodNamed B.named
  have hlocks := B.notSynchronized
  have hK := hE.1
  have hN := hE.2.1
  have hS : va_S (fun _ => False) s.heap s.heap [] := va_S.rf
  have hP : va_P (dC, dI) vwCl [] s.heap := hP
  have hl := lv_entry ([.int a]) (n := 1) (Nat.le_of_ble_eq_true rfl)
  rw [lg_entry_eq]
  generalize (lg_sl ([.int a]) ++ List.replicate (1 - (lg_sl ([.int a])).length) Slot.unset).toArray = ls at hl ⊢
  have hl : lv_has ls 1 [(0, .int a)] := hl
  refine lv_iload_n hx hb d_Net_wantsLeft_0 rfl (lv_at hl 0 rfl) ?_
  refine lv_iconst (v := nI 3) hx hb d_Net_wantsLeft_1 (by decide +kernel) ?_
  refine lv_icmp_gt (tgt := 9) hx hb d_Net_wantsLeft_2 (by decide) (fun c_1 => ?_) (fun c_1 => ?_)
  · refine lv_iconst (v := nI 0) hx hb d_Net_wantsLeft_9 (by decide +kernel) ?_
    exact W.zret (v := nI 0) hx hb hr rfl (fun t ht hW => ⟨nI 0, rfl, bz_eq0 (decide_eq_false (k2_nle c_1)), ht⟩) (fun q h => by cases h) d_Net_wantsLeft_10
  · refine lv_iconst (v := nI 1) hx hb d_Net_wantsLeft_5 (by decide +kernel) ?_
    refine lv_goto (tgt := 10) hx hb d_Net_wantsLeft_6 (by decide) ?_
    exact W.zret (v := nI 1) hx hb hr rfl (fun t ht hW => ⟨nI 1, rfl, bz_eq1 (decide_eq_true (k2_le c_1)), ht⟩) (fun q h => by cases h) d_Net_wantsLeft_10

set_option maxHeartbeats 4000000 in
set_option maxRecDepth 100000 in
theorem k_Net_wantsRight (l : Launch) (dC : Nat → ClassId) (dI : Nat → Nat → Nat) (cI cZ cJ : ClassId) (a : Int32) : Met l y_Net_wantsRight (bw y_Net_wantsRight b_Net_wantsRight 1 (some .boolean)) ({ frames := 0, cells := 0, slots := 0, locals := 0 }) (bx_pR dC dI cI cZ cJ [.int a] []) (bx_qR (fun r => r = bz (decide (a < nI 3)))) 0 0 (fun _ => False) := by
  refine Met.ofW (cc := b_Net_wantsRight) (maxL := 1) (ret := some .boolean) (by decide) rfl ?_
  intro p e s m args below meth c s₁ B hml hv
  obtain ⟨rfl, hE, hP⟩ := hv
  have hx := B.exec
  have hb := B.bytes
  have hr := B.returns
  have hts9 := atoms_spec (ws := (bw y_Net_wantsRight b_Net_wantsRight 1 (some .boolean))) B.pre
  have hts : ∀ w ∈ gw, w.before _ s = true := fun w h => hts9 w (List.mem_cons_of_mem _ h)
  have hown : s.vm.findClass RX2 = some m.cls := findClass_of_methodNamed B.named
  have hlocks := B.notSynchronized
  have hK := hE.1
  have hN := hE.2.1
  have hS : va_S (fun _ => False) s.heap s.heap [] := va_S.rf
  have hP : va_P (dC, dI) vwCl [] s.heap := hP
  have hl := lv_entry ([.int a]) (n := 1) (Nat.le_of_ble_eq_true rfl)
  rw [lg_entry_eq]
  generalize (lg_sl ([.int a]) ++ List.replicate (1 - (lg_sl ([.int a])).length) Slot.unset).toArray = ls at hl ⊢
  have hl : lv_has ls 1 [(0, .int a)] := hl
  refine lv_iload_n hx hb d_Net_wantsRight_0 rfl (lv_at hl 0 rfl) ?_
  refine lv_iconst (v := nI 3) hx hb d_Net_wantsRight_1 (by decide +kernel) ?_
  refine lv_icmp_ge (tgt := 9) hx hb d_Net_wantsRight_2 (by decide) (fun c_1 => ?_) (fun c_1 => ?_)
  · refine lv_iconst (v := nI 0) hx hb d_Net_wantsRight_9 (by decide +kernel) ?_
    exact W.zret (v := nI 0) hx hb hr rfl (fun t ht hW => ⟨nI 0, rfl, bz_eq0 (decide_eq_false (k2_nlt c_1)), ht⟩) (fun q h => by cases h) d_Net_wantsRight_10
  · refine lv_iconst (v := nI 1) hx hb d_Net_wantsRight_5 (by decide +kernel) ?_
    refine lv_goto (tgt := 10) hx hb d_Net_wantsRight_6 (by decide) ?_
    exact W.zret (v := nI 1) hx hb hr rfl (fun t ht hW => ⟨nI 1, rfl, bz_eq1 (decide_eq_true (k2_lt c_1)), ht⟩) (fun q h => by cases h) d_Net_wantsRight_10

set_option maxHeartbeats 4000000 in
set_option maxRecDepth 100000 in
theorem k_Net_takesGate (l : Launch) (dC : Nat → ClassId) (dI : Nat → Nat → Nat) (cI cZ cJ : ClassId) (oN aK aL aR aX aP aQ wb n sc s1 np fr : Nat) (kd lf rt nx pl pr : Nat → Nat) (o a b : Int32) : Met l y_Net_takesGate (bw y_Net_takesGate b_Net_takesGate 4 (some .boolean)) ({ frames := 1, cells := 0, slots := 0, locals := 21 }) (bx_pR dC dI cI cZ cJ [.ref oN, .int o, .int a, .int b] [(oN, .inr (2, [.int (nI wb), .int (nI (2 ^ wb)), .ref aK, .ref aL, .ref aR, .ref aX, .ref aP, .ref aQ, .int (nI n), .int (nI sc), .int (nI s1), .int (nI np), .int (nI fr)])), (aK, .inl (cI, 100, .inl (fun z9 => nI (kd z9)))), (aL, .inl (cI, 100, .inl (fun z9 => nI (lf z9)))), (aR, .inl (cI, 100, .inl (fun z9 => nI (rt z9)))), (aX, .inl (cI, 14, .inl (fun z9 => nI (nx z9)))), (aP, .inl (cI, 16, .inl (fun z9 => nI (pl z9)))), (aQ, .inl (cI, 16, .inl (fun z9 => nI (pr z9))))]) (bx_qR (fun r => r = bz (decide (¬ o < 0 ∧ o ≤ nI 5) && (!decide (o ≤ nI 3) || decide (¬ a < 0 ∧ a < nI n)) && (!decide (o < nI 3) || decide (¬ b < 0 ∧ b < nI n))))) 0 0 (fun _ => False) := by
  refine Met.ofW (cc := b_Net_takesGate) (maxL := 4) (ret := some .boolean) (by decide) rfl ?_
  intro p e s m args below meth c s₁ B hml hv
  obtain ⟨rfl, hE, hP⟩ := hv
  have hx := B.exec
  have hb := B.bytes
  have hr := B.returns
  have hts9 := atoms_spec (ws := (bw y_Net_takesGate b_Net_takesGate 4 (some .boolean))) B.pre
  have hts : ∀ w ∈ gw, w.before _ s = true := fun w h => hts9 w (List.mem_cons_of_mem _ h)
  have hown : s.vm.findClass RX2 = some m.cls := findClass_of_methodNamed B.named
  have hlocks := B.notSynchronized
  have hK := hE.1
  have hN := hE.2.1
  have hS : va_S (fun _ => False) s.heap s.heap [] := va_S.rf
  have hP : va_P (dC, dI) vwCl [(oN, .inr (2, [.int (nI wb), .int (nI (2 ^ wb)), .ref aK, .ref aL, .ref aR, .ref aX, .ref aP, .ref aQ, .int (nI n), .int (nI sc), .int (nI s1), .int (nI np), .int (nI fr)])), (aK, .inl (cI, 100, .inl (fun z9 => nI (kd z9)))), (aL, .inl (cI, 100, .inl (fun z9 => nI (lf z9)))), (aR, .inl (cI, 100, .inl (fun z9 => nI (rt z9)))), (aX, .inl (cI, 14, .inl (fun z9 => nI (nx z9)))), (aP, .inl (cI, 16, .inl (fun z9 => nI (pl z9)))), (aQ, .inl (cI, 16, .inl (fun z9 => nI (pr z9))))] s.heap := hP
  have hl := lv_entry ([.ref oN, .int o, .int a, .int b]) (n := 4) (Nat.le_of_ble_eq_true rfl)
  rw [lg_entry_eq]
  generalize (lg_sl ([.ref oN, .int o, .int a, .int b]) ++ List.replicate (4 - (lg_sl ([.ref oN, .int o, .int a, .int b])).length) Slot.unset).toArray = ls at hl ⊢
  have hl : lv_has ls 4 [(0, .ref oN), (1, .int o), (2, .int a), (3, .int b)] := hl
  refine lv_iload_n hx hb d_Net_takesGate_0 rfl (lv_at hl 1 rfl) ?_
  refine lv_if_lt (tgt := 9) hx hb d_Net_takesGate_1 (by decide) (fun c_1 => ?_) (fun c_1 => ?_)
  · refine lv_iconst (v := nI 0) hx hb d_Net_takesGate_9 (by decide +kernel) ?_
    exact W.zret (v := nI 0) hx hb hr rfl (fun t ht hW => ⟨nI 0, rfl, bz_eq0 (by rw [show decide (¬ o < 0 ∧ o ≤ nI 5) = false from decide_eq_false (fun h => h.1 c_1)]; rfl), ht⟩) (fun q h => by cases h) d_Net_takesGate_10
  · refine lv_iload_n hx hb d_Net_takesGate_4 rfl (lv_at hl 1 rfl) ?_
    refine lv_iconst (v := nI 5) hx hb d_Net_takesGate_5 (by decide +kernel) ?_
    refine lv_icmp_le (tgt := 11) hx hb d_Net_takesGate_6 (by decide) (fun c_2 => ?_) (fun c_2 => ?_)
    · refine lv_iload_n hx hb d_Net_takesGate_11 rfl (lv_at hl 1 rfl) ?_
      have hPc := hP.sub (ws' := []) [] rfl
      refine bx_callR (va_runS (As := [.int o]) (rest := []) ⟨hx, hb, hml, hown, hts⟩ (k_Net_wantsLeft l dC dI cI cZ cJ o) (bx_cS (n := 1) hts mc_Net_wantsLeft lk_Net_50 mi_Net_wantsLeft ini_Net (by decide +kernel) ⟨Nat.le_of_ble_eq_true rfl, Nat.le_of_ble_eq_true rfl⟩) (bx_prS hE hS hPc) rfl rfl hl.1 rfl (lv_room (Nat.le_of_ble_eq_true rfl)) d_Net_takesGate_12 ⟨Nat.zero_le _, Nat.zero_le _⟩) (fun r_1 hw_r_1 => ?_)
      refine lv_if_eq (tgt := 26) hx hb d_Net_takesGate_15 (by decide) (fun c_3 => ?_) (fun c_3 => ?_)
      · refine lv_iload_n hx hb d_Net_takesGate_26 rfl (lv_at hl 1 rfl) ?_
        have hPc := hP.sub (ws' := []) [] rfl
        refine bx_callR (va_runS (As := [.int o]) (rest := []) ⟨hx, hb, hml, hown, hts⟩ (k_Net_wantsRight l dC dI cI cZ cJ o) (bx_cS (n := 1) hts mc_Net_wantsRight lk_Net_53 mi_Net_wantsRight ini_Net (by decide +kernel) ⟨Nat.le_of_ble_eq_true rfl, Nat.le_of_ble_eq_true rfl⟩) (bx_prS hE hS hPc) rfl rfl hl.1 rfl (lv_room (Nat.le_of_ble_eq_true rfl)) d_Net_takesGate_27 ⟨Nat.zero_le _, Nat.zero_le _⟩) (fun r_3 hw_r_3 => ?_)
        refine lv_if_eq (tgt := 41) hx hb d_Net_takesGate_30 (by decide) (fun c_5 => ?_) (fun c_5 => ?_)
        · refine lv_iconst (v := nI 1) hx hb d_Net_takesGate_41 (by decide +kernel) ?_
          refine lv_goto (tgt := 46) hx hb d_Net_takesGate_42 (by decide) ?_
          exact W.zret (v := nI 1) hx hb hr rfl (fun t ht hW => ⟨nI 1, rfl, bz_eq1 (by rw [decide_eq_true (show ¬ o < 0 ∧ o ≤ nI 5 from ⟨c_1, c_2⟩), (bz_0 _).mp (hw_r_1.symm.trans c_3), (bz_0 _).mp (hw_r_3.symm.trans c_5)]; rfl), ht⟩) (fun q h => by cases h) d_Net_takesGate_46
        · refine lv_aload_n hx hb d_Net_takesGate_33 rfl (lv_at hl 0 rfl) ?_
          refine lv_iload_n hx hb d_Net_takesGate_34 rfl (lv_at hl 3 rfl) ?_
          have hPc := hP.sub (ws' := [(oN, .inr (2, [.int (nI wb), .int (nI (2 ^ wb)), .ref aK, .ref aL, .ref aR, .ref aX, .ref aP, .ref aQ, .int (nI n), .int (nI sc), .int (nI s1), .int (nI np), .int (nI fr)])), (aK, .inl (cI, 100, .inl (fun z9 => nI (kd z9)))), (aL, .inl (cI, 100, .inl (fun z9 => nI (lf z9)))), (aR, .inl (cI, 100, .inl (fun z9 => nI (rt z9)))), (aX, .inl (cI, 14, .inl (fun z9 => nI (nx z9)))), (aP, .inl (cI, 16, .inl (fun z9 => nI (pl z9)))), (aQ, .inl (cI, 16, .inl (fun z9 => nI (pr z9))))]) [0, 1, 2, 3, 4, 5, 6] rfl
          refine bx_callR (va_runV (As := [.int b]) (rest := []) ⟨hx, hb, hml, hown, hts⟩ (k_Net_isNode l dC dI cI cZ cJ oN aK aL aR aX aP aQ wb n sc s1 np fr kd lf rt nx pl pr b) (bx_cV (n := 1) hts mc_Net_isNode lk_Net_46 mi_Net_isNode ms_Net_isNode ini_Net (by decide +kernel) ⟨Nat.le_of_ble_eq_true rfl, Nat.le_of_ble_eq_true rfl⟩) (bx_prV hE hS hPc (ci := 2) (q0 := 0) rfl rfl) rfl rfl hl.1 rfl (lv_room (Nat.le_of_ble_eq_true rfl)) d_Net_takesGate_35 ⟨Nat.zero_le _, Nat.zero_le _⟩) (fun r_4 hw_r_4 => ?_)
          refine lv_if_eq (tgt := 45) hx hb d_Net_takesGate_38 (by decide) (fun c_6 => ?_) (fun c_6 => ?_)
          · refine lv_iconst (v := nI 0) hx hb d_Net_takesGate_45 (by decide +kernel) ?_
            exact W.zret (v := nI 0) hx hb hr rfl (fun t ht hW => ⟨nI 0, rfl, bz_eq0 (by rw [decide_eq_true (show ¬ o < 0 ∧ o ≤ nI 5 from ⟨c_1, c_2⟩), (bz_0 _).mp (hw_r_1.symm.trans c_3), (bz_n0 _).mp (fun h => c_5 (hw_r_3.trans h)), (bz_0 _).mp (hw_r_4.symm.trans c_6)]; rfl), ht⟩) (fun q h => by cases h) d_Net_takesGate_46
          · refine lv_iconst (v := nI 1) hx hb d_Net_takesGate_41 (by decide +kernel) ?_
            refine lv_goto (tgt := 46) hx hb d_Net_takesGate_42 (by decide) ?_
            exact W.zret (v := nI 1) hx hb hr rfl (fun t ht hW => ⟨nI 1, rfl, bz_eq1 (by rw [decide_eq_true (show ¬ o < 0 ∧ o ≤ nI 5 from ⟨c_1, c_2⟩), (bz_0 _).mp (hw_r_1.symm.trans c_3), (bz_n0 _).mp (fun h => c_5 (hw_r_3.trans h)), (bz_n0 _).mp (fun h => c_6 (hw_r_4.trans h))]; rfl), ht⟩) (fun q h => by cases h) d_Net_takesGate_46
      · refine lv_aload_n hx hb d_Net_takesGate_18 rfl (lv_at hl 0 rfl) ?_
        refine lv_iload_n hx hb d_Net_takesGate_19 rfl (lv_at hl 2 rfl) ?_
        have hPc := hP.sub (ws' := [(oN, .inr (2, [.int (nI wb), .int (nI (2 ^ wb)), .ref aK, .ref aL, .ref aR, .ref aX, .ref aP, .ref aQ, .int (nI n), .int (nI sc), .int (nI s1), .int (nI np), .int (nI fr)])), (aK, .inl (cI, 100, .inl (fun z9 => nI (kd z9)))), (aL, .inl (cI, 100, .inl (fun z9 => nI (lf z9)))), (aR, .inl (cI, 100, .inl (fun z9 => nI (rt z9)))), (aX, .inl (cI, 14, .inl (fun z9 => nI (nx z9)))), (aP, .inl (cI, 16, .inl (fun z9 => nI (pl z9)))), (aQ, .inl (cI, 16, .inl (fun z9 => nI (pr z9))))]) [0, 1, 2, 3, 4, 5, 6] rfl
        refine bx_callR (va_runV (As := [.int a]) (rest := []) ⟨hx, hb, hml, hown, hts⟩ (k_Net_isNode l dC dI cI cZ cJ oN aK aL aR aX aP aQ wb n sc s1 np fr kd lf rt nx pl pr a) (bx_cV (n := 1) hts mc_Net_isNode lk_Net_46 mi_Net_isNode ms_Net_isNode ini_Net (by decide +kernel) ⟨Nat.le_of_ble_eq_true rfl, Nat.le_of_ble_eq_true rfl⟩) (bx_prV hE hS hPc (ci := 2) (q0 := 0) rfl rfl) rfl rfl hl.1 rfl (lv_room (Nat.le_of_ble_eq_true rfl)) d_Net_takesGate_20 ⟨Nat.zero_le _, Nat.zero_le _⟩) (fun r_2 hw_r_2 => ?_)
        refine lv_if_eq (tgt := 45) hx hb d_Net_takesGate_23 (by decide) (fun c_4 => ?_) (fun c_4 => ?_)
        · refine lv_iconst (v := nI 0) hx hb d_Net_takesGate_45 (by decide +kernel) ?_
          exact W.zret (v := nI 0) hx hb hr rfl (fun t ht hW => ⟨nI 0, rfl, bz_eq0 (by rw [decide_eq_true (show ¬ o < 0 ∧ o ≤ nI 5 from ⟨c_1, c_2⟩), (bz_n0 _).mp (fun h => c_3 (hw_r_1.trans h)), (bz_0 _).mp (hw_r_2.symm.trans c_4)]; rfl), ht⟩) (fun q h => by cases h) d_Net_takesGate_46
        · refine lv_iload_n hx hb d_Net_takesGate_26 rfl (lv_at hl 1 rfl) ?_
          have hPc := hP.sub (ws' := []) [] rfl
          refine bx_callR (va_runS (As := [.int o]) (rest := []) ⟨hx, hb, hml, hown, hts⟩ (k_Net_wantsRight l dC dI cI cZ cJ o) (bx_cS (n := 1) hts mc_Net_wantsRight lk_Net_53 mi_Net_wantsRight ini_Net (by decide +kernel) ⟨Nat.le_of_ble_eq_true rfl, Nat.le_of_ble_eq_true rfl⟩) (bx_prS hE hS hPc) rfl rfl hl.1 rfl (lv_room (Nat.le_of_ble_eq_true rfl)) d_Net_takesGate_27 ⟨Nat.zero_le _, Nat.zero_le _⟩) (fun r_3 hw_r_3 => ?_)
          refine lv_if_eq (tgt := 41) hx hb d_Net_takesGate_30 (by decide) (fun c_5 => ?_) (fun c_5 => ?_)
          · refine lv_iconst (v := nI 1) hx hb d_Net_takesGate_41 (by decide +kernel) ?_
            refine lv_goto (tgt := 46) hx hb d_Net_takesGate_42 (by decide) ?_
            exact W.zret (v := nI 1) hx hb hr rfl (fun t ht hW => ⟨nI 1, rfl, bz_eq1 (by rw [decide_eq_true (show ¬ o < 0 ∧ o ≤ nI 5 from ⟨c_1, c_2⟩), (bz_n0 _).mp (fun h => c_3 (hw_r_1.trans h)), (bz_n0 _).mp (fun h => c_4 (hw_r_2.trans h)), (bz_0 _).mp (hw_r_3.symm.trans c_5)]; rfl), ht⟩) (fun q h => by cases h) d_Net_takesGate_46
          · refine lv_aload_n hx hb d_Net_takesGate_33 rfl (lv_at hl 0 rfl) ?_
            refine lv_iload_n hx hb d_Net_takesGate_34 rfl (lv_at hl 3 rfl) ?_
            have hPc := hP.sub (ws' := [(oN, .inr (2, [.int (nI wb), .int (nI (2 ^ wb)), .ref aK, .ref aL, .ref aR, .ref aX, .ref aP, .ref aQ, .int (nI n), .int (nI sc), .int (nI s1), .int (nI np), .int (nI fr)])), (aK, .inl (cI, 100, .inl (fun z9 => nI (kd z9)))), (aL, .inl (cI, 100, .inl (fun z9 => nI (lf z9)))), (aR, .inl (cI, 100, .inl (fun z9 => nI (rt z9)))), (aX, .inl (cI, 14, .inl (fun z9 => nI (nx z9)))), (aP, .inl (cI, 16, .inl (fun z9 => nI (pl z9)))), (aQ, .inl (cI, 16, .inl (fun z9 => nI (pr z9))))]) [0, 1, 2, 3, 4, 5, 6] rfl
            refine bx_callR (va_runV (As := [.int b]) (rest := []) ⟨hx, hb, hml, hown, hts⟩ (k_Net_isNode l dC dI cI cZ cJ oN aK aL aR aX aP aQ wb n sc s1 np fr kd lf rt nx pl pr b) (bx_cV (n := 1) hts mc_Net_isNode lk_Net_46 mi_Net_isNode ms_Net_isNode ini_Net (by decide +kernel) ⟨Nat.le_of_ble_eq_true rfl, Nat.le_of_ble_eq_true rfl⟩) (bx_prV hE hS hPc (ci := 2) (q0 := 0) rfl rfl) rfl rfl hl.1 rfl (lv_room (Nat.le_of_ble_eq_true rfl)) d_Net_takesGate_35 ⟨Nat.zero_le _, Nat.zero_le _⟩) (fun r_4 hw_r_4 => ?_)
            refine lv_if_eq (tgt := 45) hx hb d_Net_takesGate_38 (by decide) (fun c_6 => ?_) (fun c_6 => ?_)
            · refine lv_iconst (v := nI 0) hx hb d_Net_takesGate_45 (by decide +kernel) ?_
              exact W.zret (v := nI 0) hx hb hr rfl (fun t ht hW => ⟨nI 0, rfl, bz_eq0 (by rw [decide_eq_true (show ¬ o < 0 ∧ o ≤ nI 5 from ⟨c_1, c_2⟩), (bz_n0 _).mp (fun h => c_3 (hw_r_1.trans h)), (bz_n0 _).mp (fun h => c_4 (hw_r_2.trans h)), (bz_n0 _).mp (fun h => c_5 (hw_r_3.trans h)), (bz_0 _).mp (hw_r_4.symm.trans c_6)]; rfl), ht⟩) (fun q h => by cases h) d_Net_takesGate_46
            · refine lv_iconst (v := nI 1) hx hb d_Net_takesGate_41 (by decide +kernel) ?_
              refine lv_goto (tgt := 46) hx hb d_Net_takesGate_42 (by decide) ?_
              exact W.zret (v := nI 1) hx hb hr rfl (fun t ht hW => ⟨nI 1, rfl, bz_eq1 (by rw [decide_eq_true (show ¬ o < 0 ∧ o ≤ nI 5 from ⟨c_1, c_2⟩), (bz_n0 _).mp (fun h => c_3 (hw_r_1.trans h)), (bz_n0 _).mp (fun h => c_4 (hw_r_2.trans h)), (bz_n0 _).mp (fun h => c_5 (hw_r_3.trans h)), (bz_n0 _).mp (fun h => c_6 (hw_r_4.trans h))]; rfl), ht⟩) (fun q h => by cases h) d_Net_takesGate_46
    · refine lv_iconst (v := nI 0) hx hb d_Net_takesGate_9 (by decide +kernel) ?_
      exact W.zret (v := nI 0) hx hb hr rfl (fun t ht hW => ⟨nI 0, rfl, bz_eq0 (by rw [show decide (¬ o < 0 ∧ o ≤ nI 5) = false from decide_eq_false (fun h => c_2 h.2)]; rfl), ht⟩) (fun q h => by cases h) d_Net_takesGate_10

set_option maxHeartbeats 4000000 in
set_option maxRecDepth 100000 in
theorem k_Net_addNode (l : Launch) (dC : Nat → ClassId) (dI : Nat → Nat → Nat) (cI cZ cJ : ClassId) (sz : Nat) (oN aK aL aR aX aP aQ wb n sc s1 np fr : Nat) (kd lf rt nx pl pr : Nat → Nat) (kk la ra : Nat) (h9 : n < 100) : Met l y_Net_addNode (bw y_Net_addNode b_Net_addNode 5 (some .int)) ({ frames := 0, cells := 0, slots := 0, locals := 0 }) (bx_pW dC dI cI cZ cJ [.ref oN, .int (nI kk), .int (nI la), .int (nI ra)] [(oN, .inr (2, [.int (nI wb), .int (nI (2 ^ wb)), .ref aK, .ref aL, .ref aR, .ref aX, .ref aP, .ref aQ, .int (nI n), .int (nI sc), .int (nI s1), .int (nI np), .int (nI fr)])), (aK, .inl (cI, 100, .inl (fun z9 => nI (kd z9)))), (aL, .inl (cI, 100, .inl (fun z9 => nI (lf z9)))), (aR, .inl (cI, 100, .inl (fun z9 => nI (rt z9)))), (aX, .inl (cI, 14, .inl (fun z9 => nI (nx z9)))), (aP, .inl (cI, 16, .inl (fun z9 => nI (pl z9)))), (aQ, .inl (cI, 16, .inl (fun z9 => nI (pr z9))))] sz) (va_Qi (fun (r : Int32) (_ : Unit) => r = nI n) (bx_B dC dI (va_A [(oN, .inr (2, [.int (nI wb), .int (nI (2 ^ wb)), .ref aK, .ref aL, .ref aR, .ref aX, .ref aP, .ref aQ, .int (nI n), .int (nI sc), .int (nI s1), .int (nI np), .int (nI fr)])), (aK, .inl (cI, 100, .inl (fun z9 => nI (kd z9)))), (aL, .inl (cI, 100, .inl (fun z9 => nI (lf z9)))), (aR, .inl (cI, 100, .inl (fun z9 => nI (rt z9)))), (aX, .inl (cI, 14, .inl (fun z9 => nI (nx z9)))), (aP, .inl (cI, 16, .inl (fun z9 => nI (pl z9)))), (aQ, .inl (cI, 16, .inl (fun z9 => nI (pr z9))))] sz) (fun (_ : Unit) => ([(oN, .inr (2, [.int (nI wb), .int (nI (2 ^ wb)), .ref aK, .ref aL, .ref aR, .ref aX, .ref aP, .ref aQ, .int (nI (n + 1)), .int (nI sc), .int (nI s1), .int (nI np), .int (nI fr)])), (aK, .inl (cI, 100, .inl (fun z9 => nI ((va_up kd n kk) z9)))), (aL, .inl (cI, 100, .inl (fun z9 => nI ((va_up lf n la) z9)))), (aR, .inl (cI, 100, .inl (fun z9 => nI ((va_up rt n ra) z9)))), (aX, .inl (cI, 14, .inl (fun z9 => nI (nx z9)))), (aP, .inl (cI, 16, .inl (fun z9 => nI (pl z9)))), (aQ, .inl (cI, 16, .inl (fun z9 => nI (pr z9))))] : va_W))) (va_A [(oN, .inr (2, [.int (nI wb), .int (nI (2 ^ wb)), .ref aK, .ref aL, .ref aR, .ref aX, .ref aP, .ref aQ, .int (nI n), .int (nI sc), .int (nI s1), .int (nI np), .int (nI fr)])), (aK, .inl (cI, 100, .inl (fun z9 => nI (kd z9)))), (aL, .inl (cI, 100, .inl (fun z9 => nI (lf z9)))), (aR, .inl (cI, 100, .inl (fun z9 => nI (rt z9)))), (aX, .inl (cI, 14, .inl (fun z9 => nI (nx z9)))), (aP, .inl (cI, 16, .inl (fun z9 => nI (pl z9)))), (aQ, .inl (cI, 16, .inl (fun z9 => nI (pr z9))))] sz)) 0 0 (va_A [(oN, .inr (2, [.int (nI wb), .int (nI (2 ^ wb)), .ref aK, .ref aL, .ref aR, .ref aX, .ref aP, .ref aQ, .int (nI n), .int (nI sc), .int (nI s1), .int (nI np), .int (nI fr)])), (aK, .inl (cI, 100, .inl (fun z9 => nI (kd z9)))), (aL, .inl (cI, 100, .inl (fun z9 => nI (lf z9)))), (aR, .inl (cI, 100, .inl (fun z9 => nI (rt z9)))), (aX, .inl (cI, 14, .inl (fun z9 => nI (nx z9)))), (aP, .inl (cI, 16, .inl (fun z9 => nI (pl z9)))), (aQ, .inl (cI, 16, .inl (fun z9 => nI (pr z9))))] sz) := by
  refine Met.ofW (cc := b_Net_addNode) (maxL := 5) (ret := some .int) (by decide) rfl ?_
  intro p e s m args below meth c s₁ B hml hv
  obtain ⟨rfl, hsz, hE, hP, hD0⟩ := hv
  have hx := B.exec
  have hb := B.bytes
  have hr := B.returns
  have hts9 := atoms_spec (ws := (bw y_Net_addNode b_Net_addNode 5 (some .int))) B.pre
  have hts : ∀ w ∈ gw, w.before _ s = true := fun w h => hts9 w (List.mem_cons_of_mem _ h)
  have hown : s.vm.findClass RX2 = some m.cls := findClass_of_methodNamed B.named
  have hlocks := B.notSynchronized
  subst hsz
  have hD := hD0.self (sz := s.heap.size)
  generalize hAe : va_A [(oN, .inr (2, [.int (nI wb), .int (nI (2 ^ wb)), .ref aK, .ref aL, .ref aR, .ref aX, .ref aP, .ref aQ, .int (nI n), .int (nI sc), .int (nI s1), .int (nI np), .int (nI fr)])), (aK, .inl (cI, 100, .inl (fun z9 => nI (kd z9)))), (aL, .inl (cI, 100, .inl (fun z9 => nI (lf z9)))), (aR, .inl (cI, 100, .inl (fun z9 => nI (rt z9)))), (aX, .inl (cI, 14, .inl (fun z9 => nI (nx z9)))), (aP, .inl (cI, 16, .inl (fun z9 => nI (pl z9)))), (aQ, .inl (cI, 16, .inl (fun z9 => nI (pr z9))))] s.heap.size = A at hE hD ⊢
  have hA : ∀ q : Nat, s.heap.size ≤ q → A q := fun q h => by rw [← hAe]; exact Or.inr h
  have hS : va_S A s.heap s.heap [] := va_S.rf
  have hK := hE.1
  have hN := hE.2.1
  have hP : va_P (dC, dI) vwCl [(oN, .inr (2, [.int (nI wb), .int (nI (2 ^ wb)), .ref aK, .ref aL, .ref aR, .ref aX, .ref aP, .ref aQ, .int (nI n), .int (nI sc), .int (nI s1), .int (nI np), .int (nI fr)])), (aK, .inl (cI, 100, .inl (fun z9 => nI (kd z9)))), (aL, .inl (cI, 100, .inl (fun z9 => nI (lf z9)))), (aR, .inl (cI, 100, .inl (fun z9 => nI (rt z9)))), (aX, .inl (cI, 14, .inl (fun z9 => nI (nx z9)))), (aP, .inl (cI, 16, .inl (fun z9 => nI (pl z9)))), (aQ, .inl (cI, 16, .inl (fun z9 => nI (pr z9))))] s.heap := hP
  have hl := lv_entry ([.ref oN, .int (nI kk), .int (nI la), .int (nI ra)]) (n := 5) (Nat.le_of_ble_eq_true rfl)
  rw [lg_entry_eq]
  generalize (lg_sl ([.ref oN, .int (nI kk), .int (nI la), .int (nI ra)]) ++ List.replicate (5 - (lg_sl ([.ref oN, .int (nI kk), .int (nI la), .int (nI ra)])).length) Slot.unset).toArray = ls at hl ⊢
  have hl : lv_has ls 5 [(0, .ref oN), (1, .int (nI kk)), (2, .int (nI la)), (3, .int (nI ra))] := hl
  refine lv_aload_n hx hb d_Net_addNode_0 rfl (lv_at hl 0 rfl) ?_
  refine va_get (D := (dC, dI)) (ci := 2) (v := .int (nI n)) (C := RX2) (T := TX2) (N := 13) hx hb hts in_X2 hown hK hP 0 rfl rfl 8 (by decide) (hts _ lk_Net_37) (fun _ h9 => h9) rfl d_Net_addNode_1 ?_
  refine lv_istore (lv' := [(4, .int (nI n)), (0, .ref oN), (1, .int (nI kk)), (2, .int (nI la)), (3, .int (nI ra))]) hx hb d_Net_addNode_4 hl (by decide) rfl (fun ls hl => ?_)
  refine lv_aload_n hx hb d_Net_addNode_6 rfl (lv_at hl 1 rfl) ?_
  refine va_get (D := (dC, dI)) (ci := 2) (v := .ref aK) (C := RX2) (T := TX2) (N := 13) hx hb hts in_X2 hown hK hP 0 rfl rfl 2 (by decide) (hts _ lk_Net_11) (fun _ h9 => h9) rfl d_Net_addNode_7 ?_
  refine lv_iload hx hb d_Net_addNode_10 (lv_at hl 0 rfl) ?_
  refine lv_iload_n hx hb d_Net_addNode_12 rfl (lv_at hl 2 rfl) ?_
  refine bx_iast hx hb hK hP hD hS 1 0 rfl rfl (k := n) rfl h9 (by decide) (g := fun z9 => nI ((va_up kd n kk) z9)) (bn_upN _ _ _) d_Net_addNode_13 (fun H locs hP hD hS => ?_)
  have hP : va_P (dC, dI) vwCl [(oN, .inr (2, [.int (nI wb), .int (nI (2 ^ wb)), .ref aK, .ref aL, .ref aR, .ref aX, .ref aP, .ref aQ, .int (nI n), .int (nI sc), .int (nI s1), .int (nI np), .int (nI fr)])), (aK, .inl (cI, 100, .inl (fun z9 => nI ((va_up kd n kk) z9)))), (aL, .inl (cI, 100, .inl (fun z9 => nI (lf z9)))), (aR, .inl (cI, 100, .inl (fun z9 => nI (rt z9)))), (aX, .inl (cI, 14, .inl (fun z9 => nI (nx z9)))), (aP, .inl (cI, 16, .inl (fun z9 => nI (pl z9)))), (aQ, .inl (cI, 16, .inl (fun z9 => nI (pr z9))))] H := hP
  have hD : va_D A [(oN, .inr (2, [.int (nI wb), .int (nI (2 ^ wb)), .ref aK, .ref aL, .ref aR, .ref aX, .ref aP, .ref aQ, .int (nI n), .int (nI sc), .int (nI s1), .int (nI np), .int (nI fr)])), (aK, .inl (cI, 100, .inl (fun z9 => nI ((va_up kd n kk) z9)))), (aL, .inl (cI, 100, .inl (fun z9 => nI (lf z9)))), (aR, .inl (cI, 100, .inl (fun z9 => nI (rt z9)))), (aX, .inl (cI, 14, .inl (fun z9 => nI (nx z9)))), (aP, .inl (cI, 16, .inl (fun z9 => nI (pl z9)))), (aQ, .inl (cI, 16, .inl (fun z9 => nI (pr z9))))] := hD
  refine lv_aload_n hx hb d_Net_addNode_14 rfl (lv_at hl 1 rfl) ?_
  refine va_get (D := (dC, dI)) (ci := 2) (v := .ref aL) (C := RX2) (T := TX2) (N := 13) hx hb hts in_X2 hown hK hP 0 rfl rfl 3 (by decide) (hts _ lk_Net_15) (fun _ h9 => h9) rfl d_Net_addNode_15 ?_
  refine lv_iload hx hb d_Net_addNode_18 (lv_at hl 0 rfl) ?_
  refine lv_iload_n hx hb d_Net_addNode_20 rfl (lv_at hl 3 rfl) ?_
  refine bx_iast hx hb hK hP hD hS 2 0 rfl rfl (k := n) rfl h9 (by decide) (g := fun z9 => nI ((va_up lf n la) z9)) (bn_upN _ _ _) d_Net_addNode_21 (fun H locs hP hD hS => ?_)
  have hP : va_P (dC, dI) vwCl [(oN, .inr (2, [.int (nI wb), .int (nI (2 ^ wb)), .ref aK, .ref aL, .ref aR, .ref aX, .ref aP, .ref aQ, .int (nI n), .int (nI sc), .int (nI s1), .int (nI np), .int (nI fr)])), (aK, .inl (cI, 100, .inl (fun z9 => nI ((va_up kd n kk) z9)))), (aL, .inl (cI, 100, .inl (fun z9 => nI ((va_up lf n la) z9)))), (aR, .inl (cI, 100, .inl (fun z9 => nI (rt z9)))), (aX, .inl (cI, 14, .inl (fun z9 => nI (nx z9)))), (aP, .inl (cI, 16, .inl (fun z9 => nI (pl z9)))), (aQ, .inl (cI, 16, .inl (fun z9 => nI (pr z9))))] H := hP
  have hD : va_D A [(oN, .inr (2, [.int (nI wb), .int (nI (2 ^ wb)), .ref aK, .ref aL, .ref aR, .ref aX, .ref aP, .ref aQ, .int (nI n), .int (nI sc), .int (nI s1), .int (nI np), .int (nI fr)])), (aK, .inl (cI, 100, .inl (fun z9 => nI ((va_up kd n kk) z9)))), (aL, .inl (cI, 100, .inl (fun z9 => nI ((va_up lf n la) z9)))), (aR, .inl (cI, 100, .inl (fun z9 => nI (rt z9)))), (aX, .inl (cI, 14, .inl (fun z9 => nI (nx z9)))), (aP, .inl (cI, 16, .inl (fun z9 => nI (pl z9)))), (aQ, .inl (cI, 16, .inl (fun z9 => nI (pr z9))))] := hD
  refine lv_aload_n hx hb d_Net_addNode_22 rfl (lv_at hl 1 rfl) ?_
  refine va_get (D := (dC, dI)) (ci := 2) (v := .ref aR) (C := RX2) (T := TX2) (N := 13) hx hb hts in_X2 hown hK hP 0 rfl rfl 4 (by decide) (hts _ lk_Net_18) (fun _ h9 => h9) rfl d_Net_addNode_23 ?_
  refine lv_iload hx hb d_Net_addNode_26 (lv_at hl 0 rfl) ?_
  refine lv_iload_n hx hb d_Net_addNode_28 rfl (lv_at hl 4 rfl) ?_
  refine bx_iast hx hb hK hP hD hS 3 0 rfl rfl (k := n) rfl h9 (by decide) (g := fun z9 => nI ((va_up rt n ra) z9)) (bn_upN _ _ _) d_Net_addNode_29 (fun H locs hP hD hS => ?_)
  have hP : va_P (dC, dI) vwCl [(oN, .inr (2, [.int (nI wb), .int (nI (2 ^ wb)), .ref aK, .ref aL, .ref aR, .ref aX, .ref aP, .ref aQ, .int (nI n), .int (nI sc), .int (nI s1), .int (nI np), .int (nI fr)])), (aK, .inl (cI, 100, .inl (fun z9 => nI ((va_up kd n kk) z9)))), (aL, .inl (cI, 100, .inl (fun z9 => nI ((va_up lf n la) z9)))), (aR, .inl (cI, 100, .inl (fun z9 => nI ((va_up rt n ra) z9)))), (aX, .inl (cI, 14, .inl (fun z9 => nI (nx z9)))), (aP, .inl (cI, 16, .inl (fun z9 => nI (pl z9)))), (aQ, .inl (cI, 16, .inl (fun z9 => nI (pr z9))))] H := hP
  have hD : va_D A [(oN, .inr (2, [.int (nI wb), .int (nI (2 ^ wb)), .ref aK, .ref aL, .ref aR, .ref aX, .ref aP, .ref aQ, .int (nI n), .int (nI sc), .int (nI s1), .int (nI np), .int (nI fr)])), (aK, .inl (cI, 100, .inl (fun z9 => nI ((va_up kd n kk) z9)))), (aL, .inl (cI, 100, .inl (fun z9 => nI ((va_up lf n la) z9)))), (aR, .inl (cI, 100, .inl (fun z9 => nI ((va_up rt n ra) z9)))), (aX, .inl (cI, 14, .inl (fun z9 => nI (nx z9)))), (aP, .inl (cI, 16, .inl (fun z9 => nI (pl z9)))), (aQ, .inl (cI, 16, .inl (fun z9 => nI (pr z9))))] := hD
  refine lv_aload_n hx hb d_Net_addNode_30 rfl (lv_at hl 1 rfl) ?_
  refine lv_dup hx hb d_Net_addNode_31 rfl ?_
  refine va_get (D := (dC, dI)) (ci := 2) (v := .int (nI n)) (C := RX2) (T := TX2) (N := 13) hx hb hts in_X2 hown hK hP 0 rfl rfl 8 (by decide) (hts _ lk_Net_37) (fun _ h9 => h9) rfl d_Net_addNode_32 ?_
  refine lv_iconst (v := nI 1) hx hb d_Net_addNode_35 (by decide +kernel) ?_
  refine lv_iadd hx hb d_Net_addNode_36 ?_
  refine bx_top (y := nI (n + 1)) (nI_1 n) ?_
  refine va_put (D := (dC, dI)) (ci := 2) (v := .int (nI (n + 1))) (ty := .int) (C := RX2) (T := TX2) (N := 13) hx hb hts in_X2 tyX2 tyX2_ok nmX2 hown hK hP hD hS 0 rfl rfl 8 (by decide) (hts _ lk_Net_37) (fun _ h9 => h9) rfl (by decide +kernel) rfl rfl (Nat.le_of_ble_eq_true rfl) d_Net_addNode_37 (fun H locs hP hD hS => ?_)
  have hP : va_P (dC, dI) vwCl [(oN, .inr (2, [.int (nI wb), .int (nI (2 ^ wb)), .ref aK, .ref aL, .ref aR, .ref aX, .ref aP, .ref aQ, .int (nI (n + 1)), .int (nI sc), .int (nI s1), .int (nI np), .int (nI fr)])), (aK, .inl (cI, 100, .inl (fun z9 => nI ((va_up kd n kk) z9)))), (aL, .inl (cI, 100, .inl (fun z9 => nI ((va_up lf n la) z9)))), (aR, .inl (cI, 100, .inl (fun z9 => nI ((va_up rt n ra) z9)))), (aX, .inl (cI, 14, .inl (fun z9 => nI (nx z9)))), (aP, .inl (cI, 16, .inl (fun z9 => nI (pl z9)))), (aQ, .inl (cI, 16, .inl (fun z9 => nI (pr z9))))] H := hP
  have hD : va_D A [(oN, .inr (2, [.int (nI wb), .int (nI (2 ^ wb)), .ref aK, .ref aL, .ref aR, .ref aX, .ref aP, .ref aQ, .int (nI (n + 1)), .int (nI sc), .int (nI s1), .int (nI np), .int (nI fr)])), (aK, .inl (cI, 100, .inl (fun z9 => nI ((va_up kd n kk) z9)))), (aL, .inl (cI, 100, .inl (fun z9 => nI ((va_up lf n la) z9)))), (aR, .inl (cI, 100, .inl (fun z9 => nI ((va_up rt n ra) z9)))), (aX, .inl (cI, 14, .inl (fun z9 => nI (nx z9)))), (aP, .inl (cI, 16, .inl (fun z9 => nI (pl z9)))), (aQ, .inl (cI, 16, .inl (fun z9 => nI (pr z9))))] := hD
  refine lv_iload hx hb d_Net_addNode_40 (lv_at hl 0 rfl) ?_
  have hP9 := hP
  have hD9 := hD
  exact W.iret (v := nI n) hx hb hr (fun t ht hW => ⟨⟨nI n, (), rfl, rfl, by rw [ht]; exact hP9, hD9⟩, hS.F ht⟩) hS.2.2 d_Net_addNode_42

set_option maxHeartbeats 4000000 in
set_option maxRecDepth 100000 in
theorem k_Net_addPair (l : Launch) (dC : Nat → ClassId) (dI : Nat → Nat → Nat) (cI cZ cJ : ClassId) (sz : Nat) (oN aK aL aR aX aP aQ wb n sc s1 np fr : Nat) (kd lf rt nx pl pr : Nat → Nat) (a b : Nat) (h9 : np < 16) : Met l y_Net_addPair (bw y_Net_addPair b_Net_addPair 3 (none)) ({ frames := 0, cells := 0, slots := 0, locals := 0 }) (bx_pW dC dI cI cZ cJ [.ref oN, .int (nI a), .int (nI b)] [(oN, .inr (2, [.int (nI wb), .int (nI (2 ^ wb)), .ref aK, .ref aL, .ref aR, .ref aX, .ref aP, .ref aQ, .int (nI n), .int (nI sc), .int (nI s1), .int (nI np), .int (nI fr)])), (aK, .inl (cI, 100, .inl (fun z9 => nI (kd z9)))), (aL, .inl (cI, 100, .inl (fun z9 => nI (lf z9)))), (aR, .inl (cI, 100, .inl (fun z9 => nI (rt z9)))), (aX, .inl (cI, 14, .inl (fun z9 => nI (nx z9)))), (aP, .inl (cI, 16, .inl (fun z9 => nI (pl z9)))), (aQ, .inl (cI, 16, .inl (fun z9 => nI (pr z9))))] sz) (va_Qv (fun (_ : Unit) => True) (bx_B dC dI (va_A [(oN, .inr (2, [.int (nI wb), .int (nI (2 ^ wb)), .ref aK, .ref aL, .ref aR, .ref aX, .ref aP, .ref aQ, .int (nI n), .int (nI sc), .int (nI s1), .int (nI np), .int (nI fr)])), (aK, .inl (cI, 100, .inl (fun z9 => nI (kd z9)))), (aL, .inl (cI, 100, .inl (fun z9 => nI (lf z9)))), (aR, .inl (cI, 100, .inl (fun z9 => nI (rt z9)))), (aX, .inl (cI, 14, .inl (fun z9 => nI (nx z9)))), (aP, .inl (cI, 16, .inl (fun z9 => nI (pl z9)))), (aQ, .inl (cI, 16, .inl (fun z9 => nI (pr z9))))] sz) (fun (_ : Unit) => ([(oN, .inr (2, [.int (nI wb), .int (nI (2 ^ wb)), .ref aK, .ref aL, .ref aR, .ref aX, .ref aP, .ref aQ, .int (nI n), .int (nI sc), .int (nI s1), .int (nI (np + 1)), .int (nI fr)])), (aK, .inl (cI, 100, .inl (fun z9 => nI (kd z9)))), (aL, .inl (cI, 100, .inl (fun z9 => nI (lf z9)))), (aR, .inl (cI, 100, .inl (fun z9 => nI (rt z9)))), (aX, .inl (cI, 14, .inl (fun z9 => nI (nx z9)))), (aP, .inl (cI, 16, .inl (fun z9 => nI ((va_up pl np a) z9)))), (aQ, .inl (cI, 16, .inl (fun z9 => nI ((va_up pr np b) z9))))] : va_W))) (va_A [(oN, .inr (2, [.int (nI wb), .int (nI (2 ^ wb)), .ref aK, .ref aL, .ref aR, .ref aX, .ref aP, .ref aQ, .int (nI n), .int (nI sc), .int (nI s1), .int (nI np), .int (nI fr)])), (aK, .inl (cI, 100, .inl (fun z9 => nI (kd z9)))), (aL, .inl (cI, 100, .inl (fun z9 => nI (lf z9)))), (aR, .inl (cI, 100, .inl (fun z9 => nI (rt z9)))), (aX, .inl (cI, 14, .inl (fun z9 => nI (nx z9)))), (aP, .inl (cI, 16, .inl (fun z9 => nI (pl z9)))), (aQ, .inl (cI, 16, .inl (fun z9 => nI (pr z9))))] sz)) 0 0 (va_A [(oN, .inr (2, [.int (nI wb), .int (nI (2 ^ wb)), .ref aK, .ref aL, .ref aR, .ref aX, .ref aP, .ref aQ, .int (nI n), .int (nI sc), .int (nI s1), .int (nI np), .int (nI fr)])), (aK, .inl (cI, 100, .inl (fun z9 => nI (kd z9)))), (aL, .inl (cI, 100, .inl (fun z9 => nI (lf z9)))), (aR, .inl (cI, 100, .inl (fun z9 => nI (rt z9)))), (aX, .inl (cI, 14, .inl (fun z9 => nI (nx z9)))), (aP, .inl (cI, 16, .inl (fun z9 => nI (pl z9)))), (aQ, .inl (cI, 16, .inl (fun z9 => nI (pr z9))))] sz) := by
  refine Met.ofW (cc := b_Net_addPair) (maxL := 3) (ret := none) (by decide) rfl ?_
  intro p e s m args below meth c s₁ B hml hv
  obtain ⟨rfl, hsz, hE, hP, hD0⟩ := hv
  have hx := B.exec
  have hb := B.bytes
  have hr := B.returns
  have hts9 := atoms_spec (ws := (bw y_Net_addPair b_Net_addPair 3 (none))) B.pre
  have hts : ∀ w ∈ gw, w.before _ s = true := fun w h => hts9 w (List.mem_cons_of_mem _ h)
  have hown : s.vm.findClass RX2 = some m.cls := findClass_of_methodNamed B.named
  have hlocks := B.notSynchronized
  subst hsz
  have hD := hD0.self (sz := s.heap.size)
  generalize hAe : va_A [(oN, .inr (2, [.int (nI wb), .int (nI (2 ^ wb)), .ref aK, .ref aL, .ref aR, .ref aX, .ref aP, .ref aQ, .int (nI n), .int (nI sc), .int (nI s1), .int (nI np), .int (nI fr)])), (aK, .inl (cI, 100, .inl (fun z9 => nI (kd z9)))), (aL, .inl (cI, 100, .inl (fun z9 => nI (lf z9)))), (aR, .inl (cI, 100, .inl (fun z9 => nI (rt z9)))), (aX, .inl (cI, 14, .inl (fun z9 => nI (nx z9)))), (aP, .inl (cI, 16, .inl (fun z9 => nI (pl z9)))), (aQ, .inl (cI, 16, .inl (fun z9 => nI (pr z9))))] s.heap.size = A at hE hD ⊢
  have hA : ∀ q : Nat, s.heap.size ≤ q → A q := fun q h => by rw [← hAe]; exact Or.inr h
  have hS : va_S A s.heap s.heap [] := va_S.rf
  have hK := hE.1
  have hN := hE.2.1
  have hP : va_P (dC, dI) vwCl [(oN, .inr (2, [.int (nI wb), .int (nI (2 ^ wb)), .ref aK, .ref aL, .ref aR, .ref aX, .ref aP, .ref aQ, .int (nI n), .int (nI sc), .int (nI s1), .int (nI np), .int (nI fr)])), (aK, .inl (cI, 100, .inl (fun z9 => nI (kd z9)))), (aL, .inl (cI, 100, .inl (fun z9 => nI (lf z9)))), (aR, .inl (cI, 100, .inl (fun z9 => nI (rt z9)))), (aX, .inl (cI, 14, .inl (fun z9 => nI (nx z9)))), (aP, .inl (cI, 16, .inl (fun z9 => nI (pl z9)))), (aQ, .inl (cI, 16, .inl (fun z9 => nI (pr z9))))] s.heap := hP
  have hl := lv_entry ([.ref oN, .int (nI a), .int (nI b)]) (n := 3) (Nat.le_of_ble_eq_true rfl)
  rw [lg_entry_eq]
  generalize (lg_sl ([.ref oN, .int (nI a), .int (nI b)]) ++ List.replicate (3 - (lg_sl ([.ref oN, .int (nI a), .int (nI b)])).length) Slot.unset).toArray = ls at hl ⊢
  have hl : lv_has ls 3 [(0, .ref oN), (1, .int (nI a)), (2, .int (nI b))] := hl
  refine lv_aload_n hx hb d_Net_addPair_0 rfl (lv_at hl 0 rfl) ?_
  refine va_get (D := (dC, dI)) (ci := 2) (v := .ref aP) (C := RX2) (T := TX2) (N := 13) hx hb hts in_X2 hown hK hP 0 rfl rfl 6 (by decide) (hts _ lk_Net_24) (fun _ h9 => h9) rfl d_Net_addPair_1 ?_
  refine lv_aload_n hx hb d_Net_addPair_4 rfl (lv_at hl 0 rfl) ?_
  refine va_get (D := (dC, dI)) (ci := 2) (v := .int (nI np)) (C := RX2) (T := TX2) (N := 13) hx hb hts in_X2 hown hK hP 0 rfl rfl 11 (by decide) (hts _ lk_Net_43) (fun _ h9 => h9) rfl d_Net_addPair_5 ?_
  refine lv_iload_n hx hb d_Net_addPair_8 rfl (lv_at hl 1 rfl) ?_
  refine bx_iast hx hb hK hP hD hS 5 0 rfl rfl (k := np) rfl h9 (by decide) (g := fun z9 => nI ((va_up pl np a) z9)) (bn_upN _ _ _) d_Net_addPair_9 (fun H locs hP hD hS => ?_)
  have hP : va_P (dC, dI) vwCl [(oN, .inr (2, [.int (nI wb), .int (nI (2 ^ wb)), .ref aK, .ref aL, .ref aR, .ref aX, .ref aP, .ref aQ, .int (nI n), .int (nI sc), .int (nI s1), .int (nI np), .int (nI fr)])), (aK, .inl (cI, 100, .inl (fun z9 => nI (kd z9)))), (aL, .inl (cI, 100, .inl (fun z9 => nI (lf z9)))), (aR, .inl (cI, 100, .inl (fun z9 => nI (rt z9)))), (aX, .inl (cI, 14, .inl (fun z9 => nI (nx z9)))), (aP, .inl (cI, 16, .inl (fun z9 => nI ((va_up pl np a) z9)))), (aQ, .inl (cI, 16, .inl (fun z9 => nI (pr z9))))] H := hP
  have hD : va_D A [(oN, .inr (2, [.int (nI wb), .int (nI (2 ^ wb)), .ref aK, .ref aL, .ref aR, .ref aX, .ref aP, .ref aQ, .int (nI n), .int (nI sc), .int (nI s1), .int (nI np), .int (nI fr)])), (aK, .inl (cI, 100, .inl (fun z9 => nI (kd z9)))), (aL, .inl (cI, 100, .inl (fun z9 => nI (lf z9)))), (aR, .inl (cI, 100, .inl (fun z9 => nI (rt z9)))), (aX, .inl (cI, 14, .inl (fun z9 => nI (nx z9)))), (aP, .inl (cI, 16, .inl (fun z9 => nI ((va_up pl np a) z9)))), (aQ, .inl (cI, 16, .inl (fun z9 => nI (pr z9))))] := hD
  refine lv_aload_n hx hb d_Net_addPair_10 rfl (lv_at hl 0 rfl) ?_
  refine va_get (D := (dC, dI)) (ci := 2) (v := .ref aQ) (C := RX2) (T := TX2) (N := 13) hx hb hts in_X2 hown hK hP 0 rfl rfl 7 (by decide) (hts _ lk_Net_27) (fun _ h9 => h9) rfl d_Net_addPair_11 ?_
  refine lv_aload_n hx hb d_Net_addPair_14 rfl (lv_at hl 0 rfl) ?_
  refine va_get (D := (dC, dI)) (ci := 2) (v := .int (nI np)) (C := RX2) (T := TX2) (N := 13) hx hb hts in_X2 hown hK hP 0 rfl rfl 11 (by decide) (hts _ lk_Net_43) (fun _ h9 => h9) rfl d_Net_addPair_15 ?_
  refine lv_iload_n hx hb d_Net_addPair_18 rfl (lv_at hl 2 rfl) ?_
  refine bx_iast hx hb hK hP hD hS 6 0 rfl rfl (k := np) rfl h9 (by decide) (g := fun z9 => nI ((va_up pr np b) z9)) (bn_upN _ _ _) d_Net_addPair_19 (fun H locs hP hD hS => ?_)
  have hP : va_P (dC, dI) vwCl [(oN, .inr (2, [.int (nI wb), .int (nI (2 ^ wb)), .ref aK, .ref aL, .ref aR, .ref aX, .ref aP, .ref aQ, .int (nI n), .int (nI sc), .int (nI s1), .int (nI np), .int (nI fr)])), (aK, .inl (cI, 100, .inl (fun z9 => nI (kd z9)))), (aL, .inl (cI, 100, .inl (fun z9 => nI (lf z9)))), (aR, .inl (cI, 100, .inl (fun z9 => nI (rt z9)))), (aX, .inl (cI, 14, .inl (fun z9 => nI (nx z9)))), (aP, .inl (cI, 16, .inl (fun z9 => nI ((va_up pl np a) z9)))), (aQ, .inl (cI, 16, .inl (fun z9 => nI ((va_up pr np b) z9))))] H := hP
  have hD : va_D A [(oN, .inr (2, [.int (nI wb), .int (nI (2 ^ wb)), .ref aK, .ref aL, .ref aR, .ref aX, .ref aP, .ref aQ, .int (nI n), .int (nI sc), .int (nI s1), .int (nI np), .int (nI fr)])), (aK, .inl (cI, 100, .inl (fun z9 => nI (kd z9)))), (aL, .inl (cI, 100, .inl (fun z9 => nI (lf z9)))), (aR, .inl (cI, 100, .inl (fun z9 => nI (rt z9)))), (aX, .inl (cI, 14, .inl (fun z9 => nI (nx z9)))), (aP, .inl (cI, 16, .inl (fun z9 => nI ((va_up pl np a) z9)))), (aQ, .inl (cI, 16, .inl (fun z9 => nI ((va_up pr np b) z9))))] := hD
  refine lv_aload_n hx hb d_Net_addPair_20 rfl (lv_at hl 0 rfl) ?_
  refine lv_dup hx hb d_Net_addPair_21 rfl ?_
  refine va_get (D := (dC, dI)) (ci := 2) (v := .int (nI np)) (C := RX2) (T := TX2) (N := 13) hx hb hts in_X2 hown hK hP 0 rfl rfl 11 (by decide) (hts _ lk_Net_43) (fun _ h9 => h9) rfl d_Net_addPair_22 ?_
  refine lv_iconst (v := nI 1) hx hb d_Net_addPair_25 (by decide +kernel) ?_
  refine lv_iadd hx hb d_Net_addPair_26 ?_
  refine bx_top (y := nI (np + 1)) (nI_1 np) ?_
  refine va_put (D := (dC, dI)) (ci := 2) (v := .int (nI (np + 1))) (ty := .int) (C := RX2) (T := TX2) (N := 13) hx hb hts in_X2 tyX2 tyX2_ok nmX2 hown hK hP hD hS 0 rfl rfl 11 (by decide) (hts _ lk_Net_43) (fun _ h9 => h9) rfl (by decide +kernel) rfl rfl (Nat.le_of_ble_eq_true rfl) d_Net_addPair_27 (fun H locs hP hD hS => ?_)
  have hP : va_P (dC, dI) vwCl [(oN, .inr (2, [.int (nI wb), .int (nI (2 ^ wb)), .ref aK, .ref aL, .ref aR, .ref aX, .ref aP, .ref aQ, .int (nI n), .int (nI sc), .int (nI s1), .int (nI (np + 1)), .int (nI fr)])), (aK, .inl (cI, 100, .inl (fun z9 => nI (kd z9)))), (aL, .inl (cI, 100, .inl (fun z9 => nI (lf z9)))), (aR, .inl (cI, 100, .inl (fun z9 => nI (rt z9)))), (aX, .inl (cI, 14, .inl (fun z9 => nI (nx z9)))), (aP, .inl (cI, 16, .inl (fun z9 => nI ((va_up pl np a) z9)))), (aQ, .inl (cI, 16, .inl (fun z9 => nI ((va_up pr np b) z9))))] H := hP
  have hD : va_D A [(oN, .inr (2, [.int (nI wb), .int (nI (2 ^ wb)), .ref aK, .ref aL, .ref aR, .ref aX, .ref aP, .ref aQ, .int (nI n), .int (nI sc), .int (nI s1), .int (nI (np + 1)), .int (nI fr)])), (aK, .inl (cI, 100, .inl (fun z9 => nI (kd z9)))), (aL, .inl (cI, 100, .inl (fun z9 => nI (lf z9)))), (aR, .inl (cI, 100, .inl (fun z9 => nI (rt z9)))), (aX, .inl (cI, 14, .inl (fun z9 => nI (nx z9)))), (aP, .inl (cI, 16, .inl (fun z9 => nI ((va_up pl np a) z9)))), (aQ, .inl (cI, 16, .inl (fun z9 => nI ((va_up pr np b) z9))))] := hD
  have hP9 := hP
  have hD9 := hD
  exact W.vret hx hb hr (fun t ht hW => ⟨⟨(), rfl, trivial, by rw [ht]; exact hP9, hD9⟩, hS.F ht⟩) hS.2.2 d_Net_addPair_30

set_option maxHeartbeats 4000000 in
set_option maxRecDepth 100000 in
theorem k_Net_changeNext (l : Launch) (dC : Nat → ClassId) (dI : Nat → Nat → Nat) (cI cZ cJ : ClassId) (sz : Nat) (oN aK aL aR aX aP aQ wb n sc s1 np fr : Nat) (kd lf rt nx pl pr : Nat → Nat) (a b : Nat) (h9 : a < 100) (h8 : lf a < 14) : Met l y_Net_changeNext (bw y_Net_changeNext b_Net_changeNext 5 (some .int)) ({ frames := 0, cells := 0, slots := 0, locals := 0 }) (bx_pW dC dI cI cZ cJ [.ref oN, .int (nI a), .int (nI b)] [(oN, .inr (2, [.int (nI wb), .int (nI (2 ^ wb)), .ref aK, .ref aL, .ref aR, .ref aX, .ref aP, .ref aQ, .int (nI n), .int (nI sc), .int (nI s1), .int (nI np), .int (nI fr)])), (aK, .inl (cI, 100, .inl (fun z9 => nI (kd z9)))), (aL, .inl (cI, 100, .inl (fun z9 => nI (lf z9)))), (aR, .inl (cI, 100, .inl (fun z9 => nI (rt z9)))), (aX, .inl (cI, 14, .inl (fun z9 => nI (nx z9)))), (aP, .inl (cI, 16, .inl (fun z9 => nI (pl z9)))), (aQ, .inl (cI, 16, .inl (fun z9 => nI (pr z9))))] sz) (va_Qi (fun (r : Int32) (_ : Unit) => r = nI (nx (lf a))) (bx_B dC dI (va_A [(oN, .inr (2, [.int (nI wb), .int (nI (2 ^ wb)), .ref aK, .ref aL, .ref aR, .ref aX, .ref aP, .ref aQ, .int (nI n), .int (nI sc), .int (nI s1), .int (nI np), .int (nI fr)])), (aK, .inl (cI, 100, .inl (fun z9 => nI (kd z9)))), (aL, .inl (cI, 100, .inl (fun z9 => nI (lf z9)))), (aR, .inl (cI, 100, .inl (fun z9 => nI (rt z9)))), (aX, .inl (cI, 14, .inl (fun z9 => nI (nx z9)))), (aP, .inl (cI, 16, .inl (fun z9 => nI (pl z9)))), (aQ, .inl (cI, 16, .inl (fun z9 => nI (pr z9))))] sz) (fun (_ : Unit) => ([(oN, .inr (2, [.int (nI wb), .int (nI (2 ^ wb)), .ref aK, .ref aL, .ref aR, .ref aX, .ref aP, .ref aQ, .int (nI n), .int (nI sc), .int (nI s1), .int (nI np), .int (nI fr)])), (aK, .inl (cI, 100, .inl (fun z9 => nI (kd z9)))), (aL, .inl (cI, 100, .inl (fun z9 => nI (lf z9)))), (aR, .inl (cI, 100, .inl (fun z9 => nI (rt z9)))), (aX, .inl (cI, 14, .inl (fun z9 => nI ((va_up nx (lf a) b) z9)))), (aP, .inl (cI, 16, .inl (fun z9 => nI (pl z9)))), (aQ, .inl (cI, 16, .inl (fun z9 => nI (pr z9))))] : va_W))) (va_A [(oN, .inr (2, [.int (nI wb), .int (nI (2 ^ wb)), .ref aK, .ref aL, .ref aR, .ref aX, .ref aP, .ref aQ, .int (nI n), .int (nI sc), .int (nI s1), .int (nI np), .int (nI fr)])), (aK, .inl (cI, 100, .inl (fun z9 => nI (kd z9)))), (aL, .inl (cI, 100, .inl (fun z9 => nI (lf z9)))), (aR, .inl (cI, 100, .inl (fun z9 => nI (rt z9)))), (aX, .inl (cI, 14, .inl (fun z9 => nI (nx z9)))), (aP, .inl (cI, 16, .inl (fun z9 => nI (pl z9)))), (aQ, .inl (cI, 16, .inl (fun z9 => nI (pr z9))))] sz)) 0 0 (va_A [(oN, .inr (2, [.int (nI wb), .int (nI (2 ^ wb)), .ref aK, .ref aL, .ref aR, .ref aX, .ref aP, .ref aQ, .int (nI n), .int (nI sc), .int (nI s1), .int (nI np), .int (nI fr)])), (aK, .inl (cI, 100, .inl (fun z9 => nI (kd z9)))), (aL, .inl (cI, 100, .inl (fun z9 => nI (lf z9)))), (aR, .inl (cI, 100, .inl (fun z9 => nI (rt z9)))), (aX, .inl (cI, 14, .inl (fun z9 => nI (nx z9)))), (aP, .inl (cI, 16, .inl (fun z9 => nI (pl z9)))), (aQ, .inl (cI, 16, .inl (fun z9 => nI (pr z9))))] sz) := by
  refine Met.ofW (cc := b_Net_changeNext) (maxL := 5) (ret := some .int) (by decide) rfl ?_
  intro p e s m args below meth c s₁ B hml hv
  obtain ⟨rfl, hsz, hE, hP, hD0⟩ := hv
  have hx := B.exec
  have hb := B.bytes
  have hr := B.returns
  have hts9 := atoms_spec (ws := (bw y_Net_changeNext b_Net_changeNext 5 (some .int))) B.pre
  have hts : ∀ w ∈ gw, w.before _ s = true := fun w h => hts9 w (List.mem_cons_of_mem _ h)
  have hown : s.vm.findClass RX2 = some m.cls := findClass_of_methodNamed B.named
  have hlocks := B.notSynchronized
  subst hsz
  have hD := hD0.self (sz := s.heap.size)
  generalize hAe : va_A [(oN, .inr (2, [.int (nI wb), .int (nI (2 ^ wb)), .ref aK, .ref aL, .ref aR, .ref aX, .ref aP, .ref aQ, .int (nI n), .int (nI sc), .int (nI s1), .int (nI np), .int (nI fr)])), (aK, .inl (cI, 100, .inl (fun z9 => nI (kd z9)))), (aL, .inl (cI, 100, .inl (fun z9 => nI (lf z9)))), (aR, .inl (cI, 100, .inl (fun z9 => nI (rt z9)))), (aX, .inl (cI, 14, .inl (fun z9 => nI (nx z9)))), (aP, .inl (cI, 16, .inl (fun z9 => nI (pl z9)))), (aQ, .inl (cI, 16, .inl (fun z9 => nI (pr z9))))] s.heap.size = A at hE hD ⊢
  have hA : ∀ q : Nat, s.heap.size ≤ q → A q := fun q h => by rw [← hAe]; exact Or.inr h
  have hS : va_S A s.heap s.heap [] := va_S.rf
  have hK := hE.1
  have hN := hE.2.1
  have hP : va_P (dC, dI) vwCl [(oN, .inr (2, [.int (nI wb), .int (nI (2 ^ wb)), .ref aK, .ref aL, .ref aR, .ref aX, .ref aP, .ref aQ, .int (nI n), .int (nI sc), .int (nI s1), .int (nI np), .int (nI fr)])), (aK, .inl (cI, 100, .inl (fun z9 => nI (kd z9)))), (aL, .inl (cI, 100, .inl (fun z9 => nI (lf z9)))), (aR, .inl (cI, 100, .inl (fun z9 => nI (rt z9)))), (aX, .inl (cI, 14, .inl (fun z9 => nI (nx z9)))), (aP, .inl (cI, 16, .inl (fun z9 => nI (pl z9)))), (aQ, .inl (cI, 16, .inl (fun z9 => nI (pr z9))))] s.heap := hP
  have hl := lv_entry ([.ref oN, .int (nI a), .int (nI b)]) (n := 5) (Nat.le_of_ble_eq_true rfl)
  rw [lg_entry_eq]
  generalize (lg_sl ([.ref oN, .int (nI a), .int (nI b)]) ++ List.replicate (5 - (lg_sl ([.ref oN, .int (nI a), .int (nI b)])).length) Slot.unset).toArray = ls at hl ⊢
  have hl : lv_has ls 5 [(0, .ref oN), (1, .int (nI a)), (2, .int (nI b))] := hl
  refine lv_aload_n hx hb d_Net_changeNext_0 rfl (lv_at hl 0 rfl) ?_
  refine va_get (D := (dC, dI)) (ci := 2) (v := .ref aL) (C := RX2) (T := TX2) (N := 13) hx hb hts in_X2 hown hK hP 0 rfl rfl 3 (by decide) (hts _ lk_Net_15) (fun _ h9 => h9) rfl d_Net_changeNext_1 ?_
  refine lv_iload_n hx hb d_Net_changeNext_4 rfl (lv_at hl 1 rfl) ?_
  refine bx_iald hx hb hK hP 2 0 rfl rfl (k := a) rfl h9 (by decide) d_Net_changeNext_5 ?_
  refine lv_istore_n (lv' := [(3, .int (nI (lf a))), (0, .ref oN), (1, .int (nI a)), (2, .int (nI b))]) hx hb d_Net_changeNext_6 rfl hl (by decide) rfl (fun ls hl => ?_)
  refine lv_aload_n hx hb d_Net_changeNext_7 rfl (lv_at hl 1 rfl) ?_
  refine va_get (D := (dC, dI)) (ci := 2) (v := .ref aX) (C := RX2) (T := TX2) (N := 13) hx hb hts in_X2 hown hK hP 0 rfl rfl 5 (by decide) (hts _ lk_Net_21) (fun _ h9 => h9) rfl d_Net_changeNext_8 ?_
  refine lv_iload_n hx hb d_Net_changeNext_11 rfl (lv_at hl 0 rfl) ?_
  refine bx_iald hx hb hK hP 4 0 rfl rfl (k := (lf a)) rfl h8 (by decide) d_Net_changeNext_12 ?_
  refine lv_istore (lv' := [(4, .int (nI (nx (lf a)))), (3, .int (nI (lf a))), (0, .ref oN), (1, .int (nI a)), (2, .int (nI b))]) hx hb d_Net_changeNext_13 hl (by decide) rfl (fun ls hl => ?_)
  refine lv_aload_n hx hb d_Net_changeNext_15 rfl (lv_at hl 2 rfl) ?_
  refine va_get (D := (dC, dI)) (ci := 2) (v := .ref aX) (C := RX2) (T := TX2) (N := 13) hx hb hts in_X2 hown hK hP 0 rfl rfl 5 (by decide) (hts _ lk_Net_21) (fun _ h9 => h9) rfl d_Net_changeNext_16 ?_
  refine lv_iload_n hx hb d_Net_changeNext_19 rfl (lv_at hl 1 rfl) ?_
  refine lv_iload_n hx hb d_Net_changeNext_20 rfl (lv_at hl 4 rfl) ?_
  refine bx_iast hx hb hK hP hD hS 4 0 rfl rfl (k := (lf a)) rfl h8 (by decide) (g := fun z9 => nI ((va_up nx (lf a) b) z9)) (bn_upN _ _ _) d_Net_changeNext_21 (fun H locs hP hD hS => ?_)
  have hP : va_P (dC, dI) vwCl [(oN, .inr (2, [.int (nI wb), .int (nI (2 ^ wb)), .ref aK, .ref aL, .ref aR, .ref aX, .ref aP, .ref aQ, .int (nI n), .int (nI sc), .int (nI s1), .int (nI np), .int (nI fr)])), (aK, .inl (cI, 100, .inl (fun z9 => nI (kd z9)))), (aL, .inl (cI, 100, .inl (fun z9 => nI (lf z9)))), (aR, .inl (cI, 100, .inl (fun z9 => nI (rt z9)))), (aX, .inl (cI, 14, .inl (fun z9 => nI ((va_up nx (lf a) b) z9)))), (aP, .inl (cI, 16, .inl (fun z9 => nI (pl z9)))), (aQ, .inl (cI, 16, .inl (fun z9 => nI (pr z9))))] H := hP
  have hD : va_D A [(oN, .inr (2, [.int (nI wb), .int (nI (2 ^ wb)), .ref aK, .ref aL, .ref aR, .ref aX, .ref aP, .ref aQ, .int (nI n), .int (nI sc), .int (nI s1), .int (nI np), .int (nI fr)])), (aK, .inl (cI, 100, .inl (fun z9 => nI (kd z9)))), (aL, .inl (cI, 100, .inl (fun z9 => nI (lf z9)))), (aR, .inl (cI, 100, .inl (fun z9 => nI (rt z9)))), (aX, .inl (cI, 14, .inl (fun z9 => nI ((va_up nx (lf a) b) z9)))), (aP, .inl (cI, 16, .inl (fun z9 => nI (pl z9)))), (aQ, .inl (cI, 16, .inl (fun z9 => nI (pr z9))))] := hD
  refine lv_iload hx hb d_Net_changeNext_22 (lv_at hl 0 rfl) ?_
  have hP9 := hP
  have hD9 := hD
  exact W.iret (v := nI (nx (lf a))) hx hb hr (fun t ht hW => ⟨⟨nI (nx (lf a)), (), rfl, rfl, by rw [ht]; exact hP9, hD9⟩, hS.F ht⟩) hS.2.2 d_Net_changeNext_24
