set_option maxHeartbeats 4000000 in
set_option maxRecDepth 100000 in
theorem k_Math_floorMod (l : Launch) (dC : Nat → ClassId) (dI : Nat → Nat → Nat) (cI cZ cJ : ClassId) (x : Int32) : Met l y_Math_floorMod (bw y_Math_floorMod b_Math_floorMod 3 (some .int)) ({ frames := 0, cells := 0, slots := 0, locals := 0 }) (bx_pR dC dI cI cZ cJ [.int x, .int (nI 4)] []) (bx_qR (fun r => r = nI (x.toBitVec.toNat % 4))) 0 0 (fun _ => False) := by
  refine bx_ofWF (cc := b_Math_floorMod) (maxL := 3) (ret := some .int) (by decide +kernel) rfl ?_
  intro p e s m args below meth c s₁ B hml hv
  obtain ⟨rfl, hE, hP⟩ := hv
  have hx := B.exec
  have hb := B.bytes
  have hr := B.returns
  have hts9 := atoms_spec (ws := (bw y_Math_floorMod b_Math_floorMod 3 (some .int))) B.pre
  have hts : ∀ w ∈ gw, w.before _ s = true := fun w h => hts9 w (List.mem_cons_of_mem _ h)
  have hown : s.vm.findClass RJm = some m.cls := findClass_of_methodNamed B.named
  have hlocks := B.notSynchronized
  have hK := hE.1
  have hN := hE.2.1
  have hS : va_S (fun _ => False) s.heap s.heap [] := va_S.rf
  have hP : va_P (dC, dI) vwCl [] s.heap := hP
  have hl := lv_entry ([.int x, .int (nI 4)]) (n := 3) (Nat.le_of_ble_eq_true rfl)
  rw [lg_entry_eq]
  generalize (lg_sl ([.int x, .int (nI 4)]) ++ List.replicate (3 - (lg_sl ([.int x, .int (nI 4)])).length) Slot.unset).toArray = ls at hl ⊢
  have hl : lv_has ls 3 [(0, .int x), (1, .int (nI 4))] := hl
  refine lv_iload_n hx hb d_Math_floorMod_0 rfl (lv_at hl 0 rfl) ?_
  refine lv_iload_n hx hb d_Math_floorMod_1 rfl (lv_at hl 1 rfl) ?_
  refine lv_irem hx hb d_Math_floorMod_2 (by decide +kernel) ?_
  rcases bm_rem x with ⟨e, h4⟩ | ⟨e, h4, hs⟩ | ⟨e, h4, hs⟩ | ⟨e, h4, hs⟩ | ⟨e, h4, hs⟩ | ⟨e, h4, hs⟩ | ⟨e, h4, hs⟩
  · refine bx_top (y := nI 0) e ?_
    refine lv_istore_n (lv' := [(2, .int (nI 0)), (0, .int x), (1, .int (nI 4))]) hx hb d_Math_floorMod_3 rfl hl (by decide) rfl (fun ls hl => ?_)
    refine lv_iload_n hx hb d_Math_floorMod_4 rfl (lv_at hl 1 rfl) ?_
    refine lv_iload_n hx hb d_Math_floorMod_5 rfl (lv_at hl 2 rfl) ?_
    refine lv_ixor hx hb d_Math_floorMod_6 ?_
    refine lv_if_ge (tgt := 18) hx hb d_Math_floorMod_7 (by decide) (fun c_1 => ?_) (fun c_1 => ?_)
    · refine lv_iload_n hx hb d_Math_floorMod_18 rfl (lv_at hl 0 rfl) ?_
      exact W.iret (v := nI 0) hx hb hr (fun t ht hW => ⟨nI 0, rfl, by rw [h4], ht⟩) (fun q h => by cases h) d_Math_floorMod_19
    · refine lv_iload_n hx hb d_Math_floorMod_10 rfl (lv_at hl 0 rfl) ?_
      refine lv_if_eq (tgt := 18) hx hb d_Math_floorMod_11 (by decide) (fun _ => ?_) (fun c9 => absurd rfl c9)
      refine lv_iload_n hx hb d_Math_floorMod_18 rfl (lv_at hl 0 rfl) ?_
      exact W.iret (v := nI 0) hx hb hr (fun t ht hW => ⟨nI 0, rfl, by rw [h4], ht⟩) (fun q h => by cases h) d_Math_floorMod_19
  · refine bx_top (y := nI 1) e ?_
    refine lv_istore_n (lv' := [(2, .int (nI 1)), (0, .int x), (1, .int (nI 4))]) hx hb d_Math_floorMod_3 rfl hl (by decide) rfl (fun ls hl => ?_)
    refine lv_iload_n hx hb d_Math_floorMod_4 rfl (lv_at hl 1 rfl) ?_
    refine lv_iload_n hx hb d_Math_floorMod_5 rfl (lv_at hl 2 rfl) ?_
    refine lv_ixor hx hb d_Math_floorMod_6 ?_
    refine lv_if_ge (tgt := 18) hx hb d_Math_floorMod_7 (by decide) (fun _ => ?_) (fun c9 => absurd ((bm_x4 x).mpr hs) c9)
    refine lv_iload_n hx hb d_Math_floorMod_18 rfl (lv_at hl 0 rfl) ?_
    exact W.iret (v := nI 1) hx hb hr (fun t ht hW => ⟨nI 1, rfl, by rw [h4], ht⟩) (fun q h => by cases h) d_Math_floorMod_19
  · refine bx_top (y := nI 2) e ?_
    refine lv_istore_n (lv' := [(2, .int (nI 2)), (0, .int x), (1, .int (nI 4))]) hx hb d_Math_floorMod_3 rfl hl (by decide) rfl (fun ls hl => ?_)
    refine lv_iload_n hx hb d_Math_floorMod_4 rfl (lv_at hl 1 rfl) ?_
    refine lv_iload_n hx hb d_Math_floorMod_5 rfl (lv_at hl 2 rfl) ?_
    refine lv_ixor hx hb d_Math_floorMod_6 ?_
    refine lv_if_ge (tgt := 18) hx hb d_Math_floorMod_7 (by decide) (fun _ => ?_) (fun c9 => absurd ((bm_x4 x).mpr hs) c9)
    refine lv_iload_n hx hb d_Math_floorMod_18 rfl (lv_at hl 0 rfl) ?_
    exact W.iret (v := nI 2) hx hb hr (fun t ht hW => ⟨nI 2, rfl, by rw [h4], ht⟩) (fun q h => by cases h) d_Math_floorMod_19
  · refine bx_top (y := nI 3) e ?_
    refine lv_istore_n (lv' := [(2, .int (nI 3)), (0, .int x), (1, .int (nI 4))]) hx hb d_Math_floorMod_3 rfl hl (by decide) rfl (fun ls hl => ?_)
    refine lv_iload_n hx hb d_Math_floorMod_4 rfl (lv_at hl 1 rfl) ?_
    refine lv_iload_n hx hb d_Math_floorMod_5 rfl (lv_at hl 2 rfl) ?_
    refine lv_ixor hx hb d_Math_floorMod_6 ?_
    refine lv_if_ge (tgt := 18) hx hb d_Math_floorMod_7 (by decide) (fun _ => ?_) (fun c9 => absurd ((bm_x4 x).mpr hs) c9)
    refine lv_iload_n hx hb d_Math_floorMod_18 rfl (lv_at hl 0 rfl) ?_
    exact W.iret (v := nI 3) hx hb hr (fun t ht hW => ⟨nI 3, rfl, by rw [h4], ht⟩) (fun q h => by cases h) d_Math_floorMod_19
  · refine bx_top (y := (-1)) e ?_
    refine lv_istore_n (lv' := [(2, .int (-1)), (0, .int x), (1, .int (nI 4))]) hx hb d_Math_floorMod_3 rfl hl (by decide) rfl (fun ls hl => ?_)
    refine lv_iload_n hx hb d_Math_floorMod_4 rfl (lv_at hl 1 rfl) ?_
    refine lv_iload_n hx hb d_Math_floorMod_5 rfl (lv_at hl 2 rfl) ?_
    refine lv_ixor hx hb d_Math_floorMod_6 ?_
    refine lv_if_ge (tgt := 18) hx hb d_Math_floorMod_7 (by decide) (fun c9 => absurd c9 (fun h => hs ((bm_x4 x).mp h))) (fun _ => ?_)
    refine lv_iload_n hx hb d_Math_floorMod_10 rfl (lv_at hl 0 rfl) ?_
    refine lv_if_eq (tgt := 18) hx hb d_Math_floorMod_11 (by decide) (fun c9 => absurd c9 (by decide +kernel)) (fun _ => ?_)
    refine lv_iload_n hx hb d_Math_floorMod_14 rfl (lv_at hl 0 rfl) ?_
    refine lv_iload_n hx hb d_Math_floorMod_15 rfl (lv_at hl 2 rfl) ?_
    refine lv_iadd hx hb d_Math_floorMod_16 ?_
    exact W.iret (v := (-1) + (nI 4)) hx hb hr (fun t ht hW => ⟨(-1) + (nI 4), rfl, by rw [h4]; decide +kernel, ht⟩) (fun q h => by cases h) d_Math_floorMod_17
  · refine bx_top (y := (-2)) e ?_
    refine lv_istore_n (lv' := [(2, .int (-2)), (0, .int x), (1, .int (nI 4))]) hx hb d_Math_floorMod_3 rfl hl (by decide) rfl (fun ls hl => ?_)
    refine lv_iload_n hx hb d_Math_floorMod_4 rfl (lv_at hl 1 rfl) ?_
    refine lv_iload_n hx hb d_Math_floorMod_5 rfl (lv_at hl 2 rfl) ?_
    refine lv_ixor hx hb d_Math_floorMod_6 ?_
    refine lv_if_ge (tgt := 18) hx hb d_Math_floorMod_7 (by decide) (fun c9 => absurd c9 (fun h => hs ((bm_x4 x).mp h))) (fun _ => ?_)
    refine lv_iload_n hx hb d_Math_floorMod_10 rfl (lv_at hl 0 rfl) ?_
    refine lv_if_eq (tgt := 18) hx hb d_Math_floorMod_11 (by decide) (fun c9 => absurd c9 (by decide +kernel)) (fun _ => ?_)
    refine lv_iload_n hx hb d_Math_floorMod_14 rfl (lv_at hl 0 rfl) ?_
    refine lv_iload_n hx hb d_Math_floorMod_15 rfl (lv_at hl 2 rfl) ?_
    refine lv_iadd hx hb d_Math_floorMod_16 ?_
    exact W.iret (v := (-2) + (nI 4)) hx hb hr (fun t ht hW => ⟨(-2) + (nI 4), rfl, by rw [h4]; decide +kernel, ht⟩) (fun q h => by cases h) d_Math_floorMod_17
  · refine bx_top (y := (-3)) e ?_
    refine lv_istore_n (lv' := [(2, .int (-3)), (0, .int x), (1, .int (nI 4))]) hx hb d_Math_floorMod_3 rfl hl (by decide) rfl (fun ls hl => ?_)
    refine lv_iload_n hx hb d_Math_floorMod_4 rfl (lv_at hl 1 rfl) ?_
    refine lv_iload_n hx hb d_Math_floorMod_5 rfl (lv_at hl 2 rfl) ?_
    refine lv_ixor hx hb d_Math_floorMod_6 ?_
    refine lv_if_ge (tgt := 18) hx hb d_Math_floorMod_7 (by decide) (fun c9 => absurd c9 (fun h => hs ((bm_x4 x).mp h))) (fun _ => ?_)
    refine lv_iload_n hx hb d_Math_floorMod_10 rfl (lv_at hl 0 rfl) ?_
    refine lv_if_eq (tgt := 18) hx hb d_Math_floorMod_11 (by decide) (fun c9 => absurd c9 (by decide +kernel)) (fun _ => ?_)
    refine lv_iload_n hx hb d_Math_floorMod_14 rfl (lv_at hl 0 rfl) ?_
    refine lv_iload_n hx hb d_Math_floorMod_15 rfl (lv_at hl 2 rfl) ?_
    refine lv_iadd hx hb d_Math_floorMod_16 ?_
    exact W.iret (v := (-3) + (nI 4)) hx hb hr (fun t ht hW => ⟨(-3) + (nI 4), rfl, by rw [h4]; decide +kernel, ht⟩) (fun q h => by cases h) d_Math_floorMod_17

set_option maxHeartbeats 4000000 in
set_option maxRecDepth 100000 in
theorem k_Arrs_fill (l : Launch) (dC : Nat → ClassId) (dI : Nat → Nat → Nat) (cI cZ cJ : ClassId) (sz : Nat) (aB N9 : Nat) (kn : Nat → Int32) (x : Int32) (h9 : N9 < 2147483648) : Met l y_Arrs_fill (bw y_Arrs_fill b_Arrs_fill 4 (none)) ({ frames := 0, cells := 0, slots := 0, locals := 0 }) (bx_pW dC dI cI cZ cJ [.ref aB, .int x] [(aB, .inl (cI, N9, .inl kn))] sz) (va_Qv (fun (kn2 : Nat → Int32) => ∀ k, k < N9 → kn2 k = x) (bx_B dC dI (va_A [(aB, .inl (cI, N9, .inl kn))] sz) (fun (kn2 : Nat → Int32) => ([(aB, .inl (cI, N9, .inl kn2))] : va_W))) (va_A [(aB, .inl (cI, N9, .inl kn))] sz)) 0 0 (va_A [(aB, .inl (cI, N9, .inl kn))] sz) := by
  refine Met.ofW (cc := b_Arrs_fill) (maxL := 4) (ret := none) (by decide) rfl ?_
  intro p e s m args below meth c s₁ B hml hv
  obtain ⟨rfl, hsz, hE, hP, hD0⟩ := hv
  have hx := B.exec
  have hb := B.bytes
  have hr := B.returns
  have hts9 := atoms_spec (ws := (bw y_Arrs_fill b_Arrs_fill 4 (none))) B.pre
  have hts : ∀ w ∈ gw, w.before _ s = true := fun w h => hts9 w (List.mem_cons_of_mem _ h)
  have hown : s.vm.findClass RJa = some m.cls := findClass_of_methodNamed B.named
  have hlocks := B.notSynchronized
  subst hsz
  have hD := hD0.self (sz := s.heap.size)
  generalize hAe : va_A [(aB, .inl (cI, N9, .inl kn))] s.heap.size = A at hE hD ⊢
  have hA : ∀ q : Nat, s.heap.size ≤ q → A q := fun q h => by rw [← hAe]; exact Or.inr h
  have hS : va_S A s.heap s.heap [] := va_S.rf
  have hK := hE.1
  have hN := hE.2.1
  have hP : va_P (dC, dI) vwCl [(aB, .inl (cI, N9, .inl kn))] s.heap := hP
  have hl := lv_entry ([.ref aB, .int x]) (n := 4) (Nat.le_of_ble_eq_true rfl)
  rw [lg_entry_eq]
  generalize (lg_sl ([.ref aB, .int x]) ++ List.replicate (4 - (lg_sl ([.ref aB, .int x])).length) Slot.unset).toArray = ls at hl ⊢
  have hl : lv_has ls 4 [(0, .ref aB), (1, .int x)] := hl
  refine lv_iconst (v := nI 0) hx hb d_Arrs_fill_0 (by decide +kernel) ?_
  refine lv_istore_n (lv' := [(2, .int (nI 0)), (0, .ref aB), (1, .int x)]) hx hb d_Arrs_fill_1 rfl hl (by decide) rfl (fun ls hl => ?_)
  refine lv_aload_n hx hb d_Arrs_fill_2 rfl (lv_at hl 1 rfl) ?_
  refine va_alen (v := nI N9) hx hb hK hP 0 0 rfl rfl rfl d_Arrs_fill_3 ?_
  refine lv_istore_n (lv' := [(3, .int (nI N9)), (2, .int (nI 0)), (0, .ref aB), (1, .int x)]) hx hb d_Arrs_fill_4 rfl hl (by decide) rfl (fun ls hl => ?_)
  refine bx_gen (fun V hV => ?_)
  have loop : ∀ (k9 i9 : Nat) (kn : Nat → Int32) (H : Heap) (locs : List Loc) (ls : Array Slot), i9 + k9 = N9 → (∀ k, k < i9 → kn k = x) → va_P (dC, dI) vwCl [(aB, .inl (cI, N9, .inl kn))] H → va_D A [(aB, .inl (cI, N9, .inl kn))] → va_S A s.heap H locs → lv_has ls 4 [(0, .ref aB), (1, .int x), (2, .int (nI i9)), (3, .int (nI N9))] → V H locs 0 0 (F0 m 5 ls []) := by
    intro k9
    induction k9 with
    | zero =>
      intro i9 kn H locs ls hik hk9 hP hD hS hl
      refine (hV _ _ _ _ _).mpr ?_
      refine lv_iload_n hx hb d_Arrs_fill_5 rfl (lv_at hl 2 rfl) ?_
      refine lv_iload_n hx hb d_Arrs_fill_6 rfl (lv_at hl 3 rfl) ?_
      refine lv_icmp_ge (tgt := 20) hx hb d_Arrs_fill_7 (by decide) (fun _ => ?_) (fun c9 => absurd (by rw [show i9 = N9 by omega]; exact nI_le (Nat.le_refl N9) (by omega)) c9)
      have hP9 := hP
      have hD9 := hD
      exact W.vret hx hb hr (fun t ht hW => ⟨⟨kn, rfl, fun k hk => hk9 k (by omega), by rw [ht]; exact hP9, hD9⟩, hS.F ht⟩) hS.2.2 d_Arrs_fill_20
    | succ k9 ih =>
      intro i9 kn H locs ls hik hk9 hP hD hS hl
      refine (hV _ _ _ _ _).mpr ?_
      refine lv_iload_n hx hb d_Arrs_fill_5 rfl (lv_at hl 2 rfl) ?_
      refine lv_iload_n hx hb d_Arrs_fill_6 rfl (lv_at hl 3 rfl) ?_
      refine lv_icmp_ge (tgt := 20) hx hb d_Arrs_fill_7 (by decide) (fun c9 => absurd c9 (nI_ge (by omega) (by omega))) (fun _ => ?_)
      refine lv_aload_n hx hb d_Arrs_fill_10 rfl (lv_at hl 0 rfl) ?_
      refine lv_iload_n hx hb d_Arrs_fill_11 rfl (lv_at hl 2 rfl) ?_
      refine lv_iload_n hx hb d_Arrs_fill_12 rfl (lv_at hl 1 rfl) ?_
      refine bx_iast hx hb hK hP hD hS 0 0 rfl rfl (k := i9) rfl (by omega) h9 (g := upd kn i9 x) rfl d_Arrs_fill_13 (fun H locs hP hD hS => ?_)
      have hP : va_P (dC, dI) vwCl [(aB, .inl (cI, N9, .inl (upd kn i9 x)))] H := hP
      have hD : va_D A [(aB, .inl (cI, N9, .inl (upd kn i9 x)))] := hD
      refine lv_iinc (v := nI (i9 + 1)) (lv' := [(2, .int (nI (i9 + 1))), (0, .ref aB), (1, .int x), (3, .int (nI N9))]) hx hb d_Arrs_fill_14 hl (k := 2) rfl (bx_inc _) (by decide) rfl (fun ls hl => ?_)
      refine lv_goto (tgt := 5) hx hb d_Arrs_fill_17 (by decide) ?_
      exact (hV _ _ _ _ _).mp (ih (i9 + 1) (upd kn i9 x) _ _ ls (by omega) (fun k hk => by
        by_cases q : k = i9
        · rw [q, pk_us]
        · rw [pk_un q]
          exact hk9 k (by omega)) hP hD hS (lv_sub hl [1, 2, 0, 3] rfl))
  exact loop N9 0 kn _ _ ls (Nat.zero_add _) (fun k hk => absurd hk (Nat.not_lt_zero k)) hP hD hS (lv_sub hl [2, 3, 1, 0] rfl)

set_option maxHeartbeats 4000000 in
set_option maxRecDepth 100000 in
theorem k_Hunt_start (l : Launch) (dC : Nat → ClassId) (dI : Nat → Nat → Nat) (cI cZ cJ : ClassId) (sz : Nat) (oN aK aL aR aX aP aQ wb n sc s1 np fr : Nat) (kd lf rt nx pl pr : Nat → Nat) (oU aU aW aO aS aG aB : Nat) (lu : Nat → Int32) (rw og st pg : Nat → Nat) (kn : Nat → Int32) (rc cl : Nat) (pL : Int32) (hwf : bm_wf wb n sc kd lf rt) (hM2 : 2 ^ sc ≤ 16384) (hfr : fr < 2 ^ sc) : Met l y_Hunt_start (bw y_Hunt_start b_Hunt_start 1 (none)) ({ frames := 1, cells := 0, slots := 0, locals := 26 }) (bx_pW dC dI cI cZ cJ [.ref oU] [(oN, .inr (2, [.int (nI wb), .int (nI (2 ^ wb)), .ref aK, .ref aL, .ref aR, .ref aX, .ref aP, .ref aQ, .int (nI n), .int (nI sc), .int (nI s1), .int (nI np), .int (nI fr)])), (aK, .inl (cI, 100, .inl (fun z9 => nI (kd z9)))), (aL, .inl (cI, 100, .inl (fun z9 => nI (lf z9)))), (aR, .inl (cI, 100, .inl (fun z9 => nI (rt z9)))), (aX, .inl (cI, 14, .inl (fun z9 => nI (nx z9)))), (aP, .inl (cI, 16, .inl (fun z9 => nI (pl z9)))), (aQ, .inl (cI, 16, .inl (fun z9 => nI (pr z9)))), (oU, .inr (1, [.ref oN, .ref aU, .ref aW, .ref aO, .ref aS, .ref aG, .ref aB, .int (nI rc), .int (nI cl), .int pL])), (aU, .inl (cI, 100, .inl lu)), (aW, .inl (cI, 16384, .inl (fun z9 => nI (rw z9)))), (aO, .inl (cI, 16384, .inl (fun z9 => nI (og z9)))), (aS, .inl (cI, 16386, .inl (fun z9 => nI (st z9)))), (aG, .inl (cI, 16384, .inl (fun z9 => nI (pg z9)))), (aB, .inl (cI, 512, .inl kn))] sz) (va_Qv (fun (u9 : (Nat → Nat) × (Nat → Nat) × (Nat → Nat) × (Nat → Int32)) => match u9 with | (rw2, og2, st2, kn2) => hu_N (bm_dif n np kd lf rt pl pr) (bm_stp n sc kd lf rt nx) (2 ^ wb) fr (2 ^ sc) 1 0 rw2 og2 st2 kn2) (bx_B dC dI (va_A [(oN, .inr (2, [.int (nI wb), .int (nI (2 ^ wb)), .ref aK, .ref aL, .ref aR, .ref aX, .ref aP, .ref aQ, .int (nI n), .int (nI sc), .int (nI s1), .int (nI np), .int (nI fr)])), (aK, .inl (cI, 100, .inl (fun z9 => nI (kd z9)))), (aL, .inl (cI, 100, .inl (fun z9 => nI (lf z9)))), (aR, .inl (cI, 100, .inl (fun z9 => nI (rt z9)))), (aX, .inl (cI, 14, .inl (fun z9 => nI (nx z9)))), (aP, .inl (cI, 16, .inl (fun z9 => nI (pl z9)))), (aQ, .inl (cI, 16, .inl (fun z9 => nI (pr z9)))), (oU, .inr (1, [.ref oN, .ref aU, .ref aW, .ref aO, .ref aS, .ref aG, .ref aB, .int (nI rc), .int (nI cl), .int pL])), (aU, .inl (cI, 100, .inl lu)), (aW, .inl (cI, 16384, .inl (fun z9 => nI (rw z9)))), (aO, .inl (cI, 16384, .inl (fun z9 => nI (og z9)))), (aS, .inl (cI, 16386, .inl (fun z9 => nI (st z9)))), (aG, .inl (cI, 16384, .inl (fun z9 => nI (pg z9)))), (aB, .inl (cI, 512, .inl kn))] sz) (fun (u9 : (Nat → Nat) × (Nat → Nat) × (Nat → Nat) × (Nat → Int32)) => match u9 with | (rw2, og2, st2, kn2) => ([(oN, .inr (2, [.int (nI wb), .int (nI (2 ^ wb)), .ref aK, .ref aL, .ref aR, .ref aX, .ref aP, .ref aQ, .int (nI n), .int (nI sc), .int (nI s1), .int (nI np), .int (nI fr)])), (aK, .inl (cI, 100, .inl (fun z9 => nI (kd z9)))), (aL, .inl (cI, 100, .inl (fun z9 => nI (lf z9)))), (aR, .inl (cI, 100, .inl (fun z9 => nI (rt z9)))), (aX, .inl (cI, 14, .inl (fun z9 => nI (nx z9)))), (aP, .inl (cI, 16, .inl (fun z9 => nI (pl z9)))), (aQ, .inl (cI, 16, .inl (fun z9 => nI (pr z9)))), (oU, .inr (1, [.ref oN, .ref aU, .ref aW, .ref aO, .ref aS, .ref aG, .ref aB, .int (nI 1), .int (nI cl), .int pL])), (aU, .inl (cI, 100, .inl lu)), (aW, .inl (cI, 16384, .inl (fun z9 => nI (rw2 z9)))), (aO, .inl (cI, 16384, .inl (fun z9 => nI (og2 z9)))), (aS, .inl (cI, 16386, .inl (fun z9 => nI (st2 z9)))), (aG, .inl (cI, 16384, .inl (fun z9 => nI (pg z9)))), (aB, .inl (cI, 512, .inl kn2))] : va_W))) (va_A [(oN, .inr (2, [.int (nI wb), .int (nI (2 ^ wb)), .ref aK, .ref aL, .ref aR, .ref aX, .ref aP, .ref aQ, .int (nI n), .int (nI sc), .int (nI s1), .int (nI np), .int (nI fr)])), (aK, .inl (cI, 100, .inl (fun z9 => nI (kd z9)))), (aL, .inl (cI, 100, .inl (fun z9 => nI (lf z9)))), (aR, .inl (cI, 100, .inl (fun z9 => nI (rt z9)))), (aX, .inl (cI, 14, .inl (fun z9 => nI (nx z9)))), (aP, .inl (cI, 16, .inl (fun z9 => nI (pl z9)))), (aQ, .inl (cI, 16, .inl (fun z9 => nI (pr z9)))), (oU, .inr (1, [.ref oN, .ref aU, .ref aW, .ref aO, .ref aS, .ref aG, .ref aB, .int (nI rc), .int (nI cl), .int pL])), (aU, .inl (cI, 100, .inl lu)), (aW, .inl (cI, 16384, .inl (fun z9 => nI (rw z9)))), (aO, .inl (cI, 16384, .inl (fun z9 => nI (og z9)))), (aS, .inl (cI, 16386, .inl (fun z9 => nI (st z9)))), (aG, .inl (cI, 16384, .inl (fun z9 => nI (pg z9)))), (aB, .inl (cI, 512, .inl kn))] sz)) 0 0 (va_A [(oN, .inr (2, [.int (nI wb), .int (nI (2 ^ wb)), .ref aK, .ref aL, .ref aR, .ref aX, .ref aP, .ref aQ, .int (nI n), .int (nI sc), .int (nI s1), .int (nI np), .int (nI fr)])), (aK, .inl (cI, 100, .inl (fun z9 => nI (kd z9)))), (aL, .inl (cI, 100, .inl (fun z9 => nI (lf z9)))), (aR, .inl (cI, 100, .inl (fun z9 => nI (rt z9)))), (aX, .inl (cI, 14, .inl (fun z9 => nI (nx z9)))), (aP, .inl (cI, 16, .inl (fun z9 => nI (pl z9)))), (aQ, .inl (cI, 16, .inl (fun z9 => nI (pr z9)))), (oU, .inr (1, [.ref oN, .ref aU, .ref aW, .ref aO, .ref aS, .ref aG, .ref aB, .int (nI rc), .int (nI cl), .int pL])), (aU, .inl (cI, 100, .inl lu)), (aW, .inl (cI, 16384, .inl (fun z9 => nI (rw z9)))), (aO, .inl (cI, 16384, .inl (fun z9 => nI (og z9)))), (aS, .inl (cI, 16386, .inl (fun z9 => nI (st z9)))), (aG, .inl (cI, 16384, .inl (fun z9 => nI (pg z9)))), (aB, .inl (cI, 512, .inl kn))] sz) := by
  refine Met.ofW (cc := b_Hunt_start) (maxL := 1) (ret := none) (by decide) rfl ?_
  intro p e s m args below meth c s₁ B hml hv
  obtain ⟨rfl, hsz, hE, hP, hD0⟩ := hv
  have hx := B.exec
  have hb := B.bytes
  have hr := B.returns
  have hts9 := atoms_spec (ws := (bw y_Hunt_start b_Hunt_start 1 (none))) B.pre
  have hts : ∀ w ∈ gw, w.before _ s = true := fun w h => hts9 w (List.mem_cons_of_mem _ h)
  have hown : s.vm.findClass RX1 = some m.cls := findClass_of_methodNamed B.named
  have hlocks := B.notSynchronized
  subst hsz
  have hD := hD0.self (sz := s.heap.size)
  generalize hAe : va_A [(oN, .inr (2, [.int (nI wb), .int (nI (2 ^ wb)), .ref aK, .ref aL, .ref aR, .ref aX, .ref aP, .ref aQ, .int (nI n), .int (nI sc), .int (nI s1), .int (nI np), .int (nI fr)])), (aK, .inl (cI, 100, .inl (fun z9 => nI (kd z9)))), (aL, .inl (cI, 100, .inl (fun z9 => nI (lf z9)))), (aR, .inl (cI, 100, .inl (fun z9 => nI (rt z9)))), (aX, .inl (cI, 14, .inl (fun z9 => nI (nx z9)))), (aP, .inl (cI, 16, .inl (fun z9 => nI (pl z9)))), (aQ, .inl (cI, 16, .inl (fun z9 => nI (pr z9)))), (oU, .inr (1, [.ref oN, .ref aU, .ref aW, .ref aO, .ref aS, .ref aG, .ref aB, .int (nI rc), .int (nI cl), .int pL])), (aU, .inl (cI, 100, .inl lu)), (aW, .inl (cI, 16384, .inl (fun z9 => nI (rw z9)))), (aO, .inl (cI, 16384, .inl (fun z9 => nI (og z9)))), (aS, .inl (cI, 16386, .inl (fun z9 => nI (st z9)))), (aG, .inl (cI, 16384, .inl (fun z9 => nI (pg z9)))), (aB, .inl (cI, 512, .inl kn))] s.heap.size = A at hE hD ⊢
  have hA : ∀ q : Nat, s.heap.size ≤ q → A q := fun q h => by rw [← hAe]; exact Or.inr h
  have hS : va_S A s.heap s.heap [] := va_S.rf
  have hK := hE.1
  have hN := hE.2.1
  have hP : va_P (dC, dI) vwCl [(oN, .inr (2, [.int (nI wb), .int (nI (2 ^ wb)), .ref aK, .ref aL, .ref aR, .ref aX, .ref aP, .ref aQ, .int (nI n), .int (nI sc), .int (nI s1), .int (nI np), .int (nI fr)])), (aK, .inl (cI, 100, .inl (fun z9 => nI (kd z9)))), (aL, .inl (cI, 100, .inl (fun z9 => nI (lf z9)))), (aR, .inl (cI, 100, .inl (fun z9 => nI (rt z9)))), (aX, .inl (cI, 14, .inl (fun z9 => nI (nx z9)))), (aP, .inl (cI, 16, .inl (fun z9 => nI (pl z9)))), (aQ, .inl (cI, 16, .inl (fun z9 => nI (pr z9)))), (oU, .inr (1, [.ref oN, .ref aU, .ref aW, .ref aO, .ref aS, .ref aG, .ref aB, .int (nI rc), .int (nI cl), .int pL])), (aU, .inl (cI, 100, .inl lu)), (aW, .inl (cI, 16384, .inl (fun z9 => nI (rw z9)))), (aO, .inl (cI, 16384, .inl (fun z9 => nI (og z9)))), (aS, .inl (cI, 16386, .inl (fun z9 => nI (st z9)))), (aG, .inl (cI, 16384, .inl (fun z9 => nI (pg z9)))), (aB, .inl (cI, 512, .inl kn))] s.heap := hP
  have hl := lv_entry ([.ref oU]) (n := 1) (Nat.le_of_ble_eq_true rfl)
  rw [lg_entry_eq]
  generalize (lg_sl ([.ref oU]) ++ List.replicate (1 - (lg_sl ([.ref oU])).length) Slot.unset).toArray = ls at hl ⊢
  have hl : lv_has ls 1 [(0, .ref oU)] := hl
  refine lv_aload_n hx hb d_Hunt_start_0 rfl (lv_at hl 0 rfl) ?_
  refine va_get (D := (dC, dI)) (ci := 1) (v := .ref aB) (C := RX1) (T := TX1) (N := 10) hx hb hts in_X1 hown hK hP 7 rfl rfl 6 (by decide) (hts _ lk_Hunt_29) (fun _ h9 => h9) rfl d_Hunt_start_1 ?_
  refine lv_iconst (v := nI 0) hx hb d_Hunt_start_4 (by decide +kernel) ?_
  have hPc := hP.sub (ws' := [(aB, .inl (cI, 512, .inl kn))]) [13] rfl
  have hDc := hD.sub (ws' := [(aB, .inl (cI, 512, .inl kn))]) [13] (by decide) rfl
  have hFc := va_free (wc := [(aB, .inl (cI, 512, .inl kn))]) hD hS hA [13] rfl
  refine va_callv (va_runS (As := [.ref aB, .int (nI 0)]) (rest := []) ⟨hx, hb, hml, hown, hts⟩ (k_Arrs_fill l dC dI cI cZ cJ s.heap.size aB 512 kn (nI 0) (by decide)) (bx_cS (n := 2) hts mc_Arrs_fill lk_Hunt_56 mi_Arrs_fill ini_Arrs (by decide +kernel) ⟨Nat.le_of_ble_eq_true rfl, Nat.le_of_ble_eq_true rfl⟩) (bx_pwS hE hS hPc hDc hFc) rfl rfl hl.1 rfl (lv_room (Nat.le_of_ble_eq_true rfl)) d_Hunt_start_5 ⟨Nat.le_of_ble_eq_true rfl, Nat.le_of_ble_eq_true rfl⟩) hS (fun q _ h => hFc q h) hFc (fun kn2 t H1 locs ht hvm hw hB hz1 hk1 hS => ?_)
  obtain ⟨hP1, hD1⟩ := hB
  rw [ht] at hP1
  obtain ⟨hP, hD⟩ := va_join (wr := [(oN, .inr (2, [.int (nI wb), .int (nI (2 ^ wb)), .ref aK, .ref aL, .ref aR, .ref aX, .ref aP, .ref aQ, .int (nI n), .int (nI sc), .int (nI s1), .int (nI np), .int (nI fr)])), (aK, .inl (cI, 100, .inl (fun z9 => nI (kd z9)))), (aL, .inl (cI, 100, .inl (fun z9 => nI (lf z9)))), (aR, .inl (cI, 100, .inl (fun z9 => nI (rt z9)))), (aX, .inl (cI, 14, .inl (fun z9 => nI (nx z9)))), (aP, .inl (cI, 16, .inl (fun z9 => nI (pl z9)))), (aQ, .inl (cI, 16, .inl (fun z9 => nI (pr z9)))), (oU, .inr (1, [.ref oN, .ref aU, .ref aW, .ref aO, .ref aS, .ref aG, .ref aB, .int (nI rc), .int (nI cl), .int pL])), (aU, .inl (cI, 100, .inl lu)), (aW, .inl (cI, 16384, .inl (fun z9 => nI (rw z9)))), (aO, .inl (cI, 16384, .inl (fun z9 => nI (og z9)))), (aS, .inl (cI, 16386, .inl (fun z9 => nI (st z9)))), (aG, .inl (cI, 16384, .inl (fun z9 => nI (pg z9))))]) (w1 := [(aB, .inl (cI, 512, .inl kn2))]) hP hD [13] [0, 1, 2, 3, 4, 5, 6, 7, 8, 9, 10, 11, 12] rfl rfl (by decide) (by decide) hk1 hFc hP1 hD1
  generalize H1 = H at hP hS ⊢
  have hP : va_P (dC, dI) vwCl [(oN, .inr (2, [.int (nI wb), .int (nI (2 ^ wb)), .ref aK, .ref aL, .ref aR, .ref aX, .ref aP, .ref aQ, .int (nI n), .int (nI sc), .int (nI s1), .int (nI np), .int (nI fr)])), (aK, .inl (cI, 100, .inl (fun z9 => nI (kd z9)))), (aL, .inl (cI, 100, .inl (fun z9 => nI (lf z9)))), (aR, .inl (cI, 100, .inl (fun z9 => nI (rt z9)))), (aX, .inl (cI, 14, .inl (fun z9 => nI (nx z9)))), (aP, .inl (cI, 16, .inl (fun z9 => nI (pl z9)))), (aQ, .inl (cI, 16, .inl (fun z9 => nI (pr z9)))), (oU, .inr (1, [.ref oN, .ref aU, .ref aW, .ref aO, .ref aS, .ref aG, .ref aB, .int (nI rc), .int (nI cl), .int pL])), (aU, .inl (cI, 100, .inl lu)), (aW, .inl (cI, 16384, .inl (fun z9 => nI (rw z9)))), (aO, .inl (cI, 16384, .inl (fun z9 => nI (og z9)))), (aS, .inl (cI, 16386, .inl (fun z9 => nI (st z9)))), (aG, .inl (cI, 16384, .inl (fun z9 => nI (pg z9)))), (aB, .inl (cI, 512, .inl kn2))] H := hP
  have hD : va_D A [(oN, .inr (2, [.int (nI wb), .int (nI (2 ^ wb)), .ref aK, .ref aL, .ref aR, .ref aX, .ref aP, .ref aQ, .int (nI n), .int (nI sc), .int (nI s1), .int (nI np), .int (nI fr)])), (aK, .inl (cI, 100, .inl (fun z9 => nI (kd z9)))), (aL, .inl (cI, 100, .inl (fun z9 => nI (lf z9)))), (aR, .inl (cI, 100, .inl (fun z9 => nI (rt z9)))), (aX, .inl (cI, 14, .inl (fun z9 => nI (nx z9)))), (aP, .inl (cI, 16, .inl (fun z9 => nI (pl z9)))), (aQ, .inl (cI, 16, .inl (fun z9 => nI (pr z9)))), (oU, .inr (1, [.ref oN, .ref aU, .ref aW, .ref aO, .ref aS, .ref aG, .ref aB, .int (nI rc), .int (nI cl), .int pL])), (aU, .inl (cI, 100, .inl lu)), (aW, .inl (cI, 16384, .inl (fun z9 => nI (rw z9)))), (aO, .inl (cI, 16384, .inl (fun z9 => nI (og z9)))), (aS, .inl (cI, 16386, .inl (fun z9 => nI (st z9)))), (aG, .inl (cI, 16384, .inl (fun z9 => nI (pg z9)))), (aB, .inl (cI, 512, .inl kn2))] := hD
  have hk0 := hw
  have hin : ∀ q, q < 16384 → bn_in kn2 q = false := fun q hq => bn_in_z (hk0 (q / 32) (by omega))
  refine lv_aload_n hx hb d_Hunt_start_8 rfl (lv_at hl 0 rfl) ?_
  refine lv_aload_n hx hb d_Hunt_start_9 rfl (lv_at hl 0 rfl) ?_
  refine va_get (D := (dC, dI)) (ci := 1) (v := .ref oN) (C := RX1) (T := TX1) (N := 10) hx hb hts in_X1 hown hK hP 7 rfl rfl 0 (by decide) (hts _ lk_Hunt_36) (fun _ h9 => h9) rfl d_Hunt_start_10 ?_
  refine va_getN (D := (dC, dI)) (ci := 2) (v := .int (nI fr)) (C := RX2) (T := TX2) (N := 13) hx hb hts in_X2 hown hK hP 0 rfl rfl 12 (by decide) (va_Nw.use rfl (hN _ nl_Hunt_62)) (fun _ h9 => h9) rfl d_Hunt_start_13 ?_
  refine lv_iconst (v := nI 0) hx hb d_Hunt_start_16 (by decide +kernel) ?_
  refine lv_iconst (v := nI 0) hx hb d_Hunt_start_17 (by decide +kernel) ?_
  have hPc := hP.sub (ws' := [(oU, .inr (1, [.ref oN, .ref aU, .ref aW, .ref aO, .ref aS, .ref aG, .ref aB, .int (nI rc), .int (nI cl), .int pL])), (aU, .inl (cI, 100, .inl lu)), (aW, .inl (cI, 16384, .inl (fun z9 => nI (rw z9)))), (aO, .inl (cI, 16384, .inl (fun z9 => nI (og z9)))), (aS, .inl (cI, 16386, .inl (fun z9 => nI (st z9)))), (aG, .inl (cI, 16384, .inl (fun z9 => nI (pg z9)))), (aB, .inl (cI, 512, .inl kn2))]) [7, 8, 9, 10, 11, 12, 13] rfl
  have hDc := hD.sub (ws' := [(oU, .inr (1, [.ref oN, .ref aU, .ref aW, .ref aO, .ref aS, .ref aG, .ref aB, .int (nI rc), .int (nI cl), .int pL])), (aU, .inl (cI, 100, .inl lu)), (aW, .inl (cI, 16384, .inl (fun z9 => nI (rw z9)))), (aO, .inl (cI, 16384, .inl (fun z9 => nI (og z9)))), (aS, .inl (cI, 16386, .inl (fun z9 => nI (st z9)))), (aG, .inl (cI, 16384, .inl (fun z9 => nI (pg z9)))), (aB, .inl (cI, 512, .inl kn2))]) [7, 8, 9, 10, 11, 12, 13] (by decide) rfl
  have hFc := va_free (wc := [(oU, .inr (1, [.ref oN, .ref aU, .ref aW, .ref aO, .ref aS, .ref aG, .ref aB, .int (nI rc), .int (nI cl), .int pL])), (aU, .inl (cI, 100, .inl lu)), (aW, .inl (cI, 16384, .inl (fun z9 => nI (rw z9)))), (aO, .inl (cI, 16384, .inl (fun z9 => nI (og z9)))), (aS, .inl (cI, 16386, .inl (fun z9 => nI (st z9)))), (aG, .inl (cI, 16384, .inl (fun z9 => nI (pg z9)))), (aB, .inl (cI, 512, .inl kn2))]) hD hS hA [7, 8, 9, 10, 11, 12, 13] rfl
  refine va_calli (va_runV (As := [.int (nI fr), .int (nI 0), .int (nI 0)]) (rest := []) ⟨hx, hb, hml, hown, hts⟩ (k_Hunt_keepIfNew l dC dI cI cZ cJ H.size oN oU aU aW aO aS aG aB 16384 16386 512 lu rw og st pg kn2 rc cl pL fr 0 0 (by omega) (by omega) (by decide) (by decide) (fun _ => by decide)) (bx_cV (n := 3) hts mc_Hunt_keepIfNew lk_Hunt_65 mi_Hunt_keepIfNew ms_Hunt_keepIfNew ini_Hunt (by decide +kernel) ⟨Nat.le_of_ble_eq_true rfl, Nat.le_of_ble_eq_true rfl⟩) (bx_pwV hE hS hPc hDc hFc (ci := 1) (q0 := 0) rfl rfl) rfl rfl hl.1 rfl (lv_room (Nat.le_of_ble_eq_true rfl)) d_Hunt_start_18 ⟨Nat.le_of_ble_eq_true rfl, Nat.le_of_ble_eq_true rfl⟩) hS (fun q _ h => hFc q h) hFc (fun r_1 u t H1 locs ht hvm hw hB hz1 hk1 hS => ?_)
  obtain ⟨kn3, rw3, og3⟩ := u
  dsimp only at hw
  obtain ⟨hP1, hD1⟩ := hB
  rw [ht] at hP1
  obtain ⟨hP, hD⟩ := va_join (wr := [(oN, .inr (2, [.int (nI wb), .int (nI (2 ^ wb)), .ref aK, .ref aL, .ref aR, .ref aX, .ref aP, .ref aQ, .int (nI n), .int (nI sc), .int (nI s1), .int (nI np), .int (nI fr)])), (aK, .inl (cI, 100, .inl (fun z9 => nI (kd z9)))), (aL, .inl (cI, 100, .inl (fun z9 => nI (lf z9)))), (aR, .inl (cI, 100, .inl (fun z9 => nI (rt z9)))), (aX, .inl (cI, 14, .inl (fun z9 => nI (nx z9)))), (aP, .inl (cI, 16, .inl (fun z9 => nI (pl z9)))), (aQ, .inl (cI, 16, .inl (fun z9 => nI (pr z9))))]) (w1 := [(oU, .inr (1, [.ref oN, .ref aU, .ref aW, .ref aO, .ref aS, .ref aG, .ref aB, .int (nI rc), .int (nI cl), .int pL])), (aU, .inl (cI, 100, .inl lu)), (aW, .inl (cI, 16384, .inl (fun z9 => nI (rw3 z9)))), (aO, .inl (cI, 16384, .inl (fun z9 => nI (og3 z9)))), (aS, .inl (cI, 16386, .inl (fun z9 => nI (st z9)))), (aG, .inl (cI, 16384, .inl (fun z9 => nI (pg z9)))), (aB, .inl (cI, 512, .inl kn3))]) hP hD [7, 8, 9, 10, 11, 12, 13] [0, 1, 2, 3, 4, 5, 6] rfl rfl (by decide) (by decide) hk1 hFc hP1 hD1
  generalize H1 = H at hP hS ⊢
  have hP : va_P (dC, dI) vwCl [(oN, .inr (2, [.int (nI wb), .int (nI (2 ^ wb)), .ref aK, .ref aL, .ref aR, .ref aX, .ref aP, .ref aQ, .int (nI n), .int (nI sc), .int (nI s1), .int (nI np), .int (nI fr)])), (aK, .inl (cI, 100, .inl (fun z9 => nI (kd z9)))), (aL, .inl (cI, 100, .inl (fun z9 => nI (lf z9)))), (aR, .inl (cI, 100, .inl (fun z9 => nI (rt z9)))), (aX, .inl (cI, 14, .inl (fun z9 => nI (nx z9)))), (aP, .inl (cI, 16, .inl (fun z9 => nI (pl z9)))), (aQ, .inl (cI, 16, .inl (fun z9 => nI (pr z9)))), (oU, .inr (1, [.ref oN, .ref aU, .ref aW, .ref aO, .ref aS, .ref aG, .ref aB, .int (nI rc), .int (nI cl), .int pL])), (aU, .inl (cI, 100, .inl lu)), (aW, .inl (cI, 16384, .inl (fun z9 => nI (rw3 z9)))), (aO, .inl (cI, 16384, .inl (fun z9 => nI (og3 z9)))), (aS, .inl (cI, 16386, .inl (fun z9 => nI (st z9)))), (aG, .inl (cI, 16384, .inl (fun z9 => nI (pg z9)))), (aB, .inl (cI, 512, .inl kn3))] H := hP
  have hD : va_D A [(oN, .inr (2, [.int (nI wb), .int (nI (2 ^ wb)), .ref aK, .ref aL, .ref aR, .ref aX, .ref aP, .ref aQ, .int (nI n), .int (nI sc), .int (nI s1), .int (nI np), .int (nI fr)])), (aK, .inl (cI, 100, .inl (fun z9 => nI (kd z9)))), (aL, .inl (cI, 100, .inl (fun z9 => nI (lf z9)))), (aR, .inl (cI, 100, .inl (fun z9 => nI (rt z9)))), (aX, .inl (cI, 14, .inl (fun z9 => nI (nx z9)))), (aP, .inl (cI, 16, .inl (fun z9 => nI (pl z9)))), (aQ, .inl (cI, 16, .inl (fun z9 => nI (pr z9)))), (oU, .inr (1, [.ref oN, .ref aU, .ref aW, .ref aO, .ref aS, .ref aG, .ref aB, .int (nI rc), .int (nI cl), .int pL])), (aU, .inl (cI, 100, .inl lu)), (aW, .inl (cI, 16384, .inl (fun z9 => nI (rw3 z9)))), (aO, .inl (cI, 16384, .inl (fun z9 => nI (og3 z9)))), (aS, .inl (cI, 16386, .inl (fun z9 => nI (st z9)))), (aG, .inl (cI, 16384, .inl (fun z9 => nI (pg z9)))), (aB, .inl (cI, 512, .inl kn3))] := hD
  have hf0 := hin fr (by omega)
  have hw2 := hw.2
  rw [if_neg (by rw [hf0]; decide)] at hw2
  obtain ⟨rfl, rfl, rfl⟩ : kn3 = upd kn2 (fr / 32) (kn2 (fr / 32) ||| nI 1 <<< (nI (fr % 32) &&& 31)) ∧ rw3 = va_up rw 0 fr ∧ og3 = va_up og 0 0 := by simpa using hw2
  refine lv_pop hx hb d_Hunt_start_21 rfl ?_
  refine lv_aload_n hx hb d_Hunt_start_22 rfl (lv_at hl 0 rfl) ?_
  refine lv_iconst (v := nI 1) hx hb d_Hunt_start_23 (by decide +kernel) ?_
  refine va_put (D := (dC, dI)) (ci := 1) (v := .int (nI 1)) (ty := .int) (C := RX1) (T := TX1) (N := 10) hx hb hts in_X1 tyX1 tyX1_ok nmX1 hown hK hP hD hS 7 rfl rfl 7 (by decide) (hts _ lk_Hunt_40) (fun _ h9 => h9) rfl (by decide +kernel) rfl rfl (Nat.le_of_ble_eq_true rfl) d_Hunt_start_24 (fun H locs hP hD hS => ?_)
  have hP : va_P (dC, dI) vwCl [(oN, .inr (2, [.int (nI wb), .int (nI (2 ^ wb)), .ref aK, .ref aL, .ref aR, .ref aX, .ref aP, .ref aQ, .int (nI n), .int (nI sc), .int (nI s1), .int (nI np), .int (nI fr)])), (aK, .inl (cI, 100, .inl (fun z9 => nI (kd z9)))), (aL, .inl (cI, 100, .inl (fun z9 => nI (lf z9)))), (aR, .inl (cI, 100, .inl (fun z9 => nI (rt z9)))), (aX, .inl (cI, 14, .inl (fun z9 => nI (nx z9)))), (aP, .inl (cI, 16, .inl (fun z9 => nI (pl z9)))), (aQ, .inl (cI, 16, .inl (fun z9 => nI (pr z9)))), (oU, .inr (1, [.ref oN, .ref aU, .ref aW, .ref aO, .ref aS, .ref aG, .ref aB, .int (nI 1), .int (nI cl), .int pL])), (aU, .inl (cI, 100, .inl lu)), (aW, .inl (cI, 16384, .inl (fun z9 => nI ((va_up rw 0 fr) z9)))), (aO, .inl (cI, 16384, .inl (fun z9 => nI ((va_up og 0 0) z9)))), (aS, .inl (cI, 16386, .inl (fun z9 => nI (st z9)))), (aG, .inl (cI, 16384, .inl (fun z9 => nI (pg z9)))), (aB, .inl (cI, 512, .inl (upd kn2 (fr / 32) (kn2 (fr / 32) ||| nI 1 <<< (nI (fr % 32) &&& 31)))))] H := hP
  have hD : va_D A [(oN, .inr (2, [.int (nI wb), .int (nI (2 ^ wb)), .ref aK, .ref aL, .ref aR, .ref aX, .ref aP, .ref aQ, .int (nI n), .int (nI sc), .int (nI s1), .int (nI np), .int (nI fr)])), (aK, .inl (cI, 100, .inl (fun z9 => nI (kd z9)))), (aL, .inl (cI, 100, .inl (fun z9 => nI (lf z9)))), (aR, .inl (cI, 100, .inl (fun z9 => nI (rt z9)))), (aX, .inl (cI, 14, .inl (fun z9 => nI (nx z9)))), (aP, .inl (cI, 16, .inl (fun z9 => nI (pl z9)))), (aQ, .inl (cI, 16, .inl (fun z9 => nI (pr z9)))), (oU, .inr (1, [.ref oN, .ref aU, .ref aW, .ref aO, .ref aS, .ref aG, .ref aB, .int (nI 1), .int (nI cl), .int pL])), (aU, .inl (cI, 100, .inl lu)), (aW, .inl (cI, 16384, .inl (fun z9 => nI ((va_up rw 0 fr) z9)))), (aO, .inl (cI, 16384, .inl (fun z9 => nI ((va_up og 0 0) z9)))), (aS, .inl (cI, 16386, .inl (fun z9 => nI (st z9)))), (aG, .inl (cI, 16384, .inl (fun z9 => nI (pg z9)))), (aB, .inl (cI, 512, .inl (upd kn2 (fr / 32) (kn2 (fr / 32) ||| nI 1 <<< (nI (fr % 32) &&& 31)))))] := hD
  refine lv_aload_n hx hb d_Hunt_start_27 rfl (lv_at hl 0 rfl) ?_
  refine va_get (D := (dC, dI)) (ci := 1) (v := .ref aS) (C := RX1) (T := TX1) (N := 10) hx hb hts in_X1 hown hK hP 7 rfl rfl 4 (by decide) (hts _ lk_Hunt_23) (fun _ h9 => h9) rfl d_Hunt_start_28 ?_
  refine lv_iconst (v := nI 0) hx hb d_Hunt_start_31 (by decide +kernel) ?_
  refine lv_iconst (v := nI 0) hx hb d_Hunt_start_32 (by decide +kernel) ?_
  refine bx_iast hx hb hK hP hD hS 11 0 rfl rfl (k := 0) rfl (by decide) (by decide) (g := fun z9 => nI ((va_up st 0 0) z9)) (bn_upN _ _ _) d_Hunt_start_33 (fun H locs hP hD hS => ?_)
  have hP : va_P (dC, dI) vwCl [(oN, .inr (2, [.int (nI wb), .int (nI (2 ^ wb)), .ref aK, .ref aL, .ref aR, .ref aX, .ref aP, .ref aQ, .int (nI n), .int (nI sc), .int (nI s1), .int (nI np), .int (nI fr)])), (aK, .inl (cI, 100, .inl (fun z9 => nI (kd z9)))), (aL, .inl (cI, 100, .inl (fun z9 => nI (lf z9)))), (aR, .inl (cI, 100, .inl (fun z9 => nI (rt z9)))), (aX, .inl (cI, 14, .inl (fun z9 => nI (nx z9)))), (aP, .inl (cI, 16, .inl (fun z9 => nI (pl z9)))), (aQ, .inl (cI, 16, .inl (fun z9 => nI (pr z9)))), (oU, .inr (1, [.ref oN, .ref aU, .ref aW, .ref aO, .ref aS, .ref aG, .ref aB, .int (nI 1), .int (nI cl), .int pL])), (aU, .inl (cI, 100, .inl lu)), (aW, .inl (cI, 16384, .inl (fun z9 => nI ((va_up rw 0 fr) z9)))), (aO, .inl (cI, 16384, .inl (fun z9 => nI ((va_up og 0 0) z9)))), (aS, .inl (cI, 16386, .inl (fun z9 => nI ((va_up st 0 0) z9)))), (aG, .inl (cI, 16384, .inl (fun z9 => nI (pg z9)))), (aB, .inl (cI, 512, .inl (upd kn2 (fr / 32) (kn2 (fr / 32) ||| nI 1 <<< (nI (fr % 32) &&& 31)))))] H := hP
  have hD : va_D A [(oN, .inr (2, [.int (nI wb), .int (nI (2 ^ wb)), .ref aK, .ref aL, .ref aR, .ref aX, .ref aP, .ref aQ, .int (nI n), .int (nI sc), .int (nI s1), .int (nI np), .int (nI fr)])), (aK, .inl (cI, 100, .inl (fun z9 => nI (kd z9)))), (aL, .inl (cI, 100, .inl (fun z9 => nI (lf z9)))), (aR, .inl (cI, 100, .inl (fun z9 => nI (rt z9)))), (aX, .inl (cI, 14, .inl (fun z9 => nI (nx z9)))), (aP, .inl (cI, 16, .inl (fun z9 => nI (pl z9)))), (aQ, .inl (cI, 16, .inl (fun z9 => nI (pr z9)))), (oU, .inr (1, [.ref oN, .ref aU, .ref aW, .ref aO, .ref aS, .ref aG, .ref aB, .int (nI 1), .int (nI cl), .int pL])), (aU, .inl (cI, 100, .inl lu)), (aW, .inl (cI, 16384, .inl (fun z9 => nI ((va_up rw 0 fr) z9)))), (aO, .inl (cI, 16384, .inl (fun z9 => nI ((va_up og 0 0) z9)))), (aS, .inl (cI, 16386, .inl (fun z9 => nI ((va_up st 0 0) z9)))), (aG, .inl (cI, 16384, .inl (fun z9 => nI (pg z9)))), (aB, .inl (cI, 512, .inl (upd kn2 (fr / 32) (kn2 (fr / 32) ||| nI 1 <<< (nI (fr % 32) &&& 31)))))] := hD
  refine lv_aload_n hx hb d_Hunt_start_34 rfl (lv_at hl 0 rfl) ?_
  refine va_get (D := (dC, dI)) (ci := 1) (v := .ref aS) (C := RX1) (T := TX1) (N := 10) hx hb hts in_X1 hown hK hP 7 rfl rfl 4 (by decide) (hts _ lk_Hunt_23) (fun _ h9 => h9) rfl d_Hunt_start_35 ?_
  refine lv_iconst (v := nI 1) hx hb d_Hunt_start_38 (by decide +kernel) ?_
  refine lv_iconst (v := nI 1) hx hb d_Hunt_start_39 (by decide +kernel) ?_
  refine bx_iast hx hb hK hP hD hS 11 0 rfl rfl (k := 1) rfl (by decide) (by decide) (g := fun z9 => nI ((va_up (va_up st 0 0) 1 1) z9)) (bn_upN _ _ _) d_Hunt_start_40 (fun H locs hP hD hS => ?_)
  have hP : va_P (dC, dI) vwCl [(oN, .inr (2, [.int (nI wb), .int (nI (2 ^ wb)), .ref aK, .ref aL, .ref aR, .ref aX, .ref aP, .ref aQ, .int (nI n), .int (nI sc), .int (nI s1), .int (nI np), .int (nI fr)])), (aK, .inl (cI, 100, .inl (fun z9 => nI (kd z9)))), (aL, .inl (cI, 100, .inl (fun z9 => nI (lf z9)))), (aR, .inl (cI, 100, .inl (fun z9 => nI (rt z9)))), (aX, .inl (cI, 14, .inl (fun z9 => nI (nx z9)))), (aP, .inl (cI, 16, .inl (fun z9 => nI (pl z9)))), (aQ, .inl (cI, 16, .inl (fun z9 => nI (pr z9)))), (oU, .inr (1, [.ref oN, .ref aU, .ref aW, .ref aO, .ref aS, .ref aG, .ref aB, .int (nI 1), .int (nI cl), .int pL])), (aU, .inl (cI, 100, .inl lu)), (aW, .inl (cI, 16384, .inl (fun z9 => nI ((va_up rw 0 fr) z9)))), (aO, .inl (cI, 16384, .inl (fun z9 => nI ((va_up og 0 0) z9)))), (aS, .inl (cI, 16386, .inl (fun z9 => nI ((va_up (va_up st 0 0) 1 1) z9)))), (aG, .inl (cI, 16384, .inl (fun z9 => nI (pg z9)))), (aB, .inl (cI, 512, .inl (upd kn2 (fr / 32) (kn2 (fr / 32) ||| nI 1 <<< (nI (fr % 32) &&& 31)))))] H := hP
  have hD : va_D A [(oN, .inr (2, [.int (nI wb), .int (nI (2 ^ wb)), .ref aK, .ref aL, .ref aR, .ref aX, .ref aP, .ref aQ, .int (nI n), .int (nI sc), .int (nI s1), .int (nI np), .int (nI fr)])), (aK, .inl (cI, 100, .inl (fun z9 => nI (kd z9)))), (aL, .inl (cI, 100, .inl (fun z9 => nI (lf z9)))), (aR, .inl (cI, 100, .inl (fun z9 => nI (rt z9)))), (aX, .inl (cI, 14, .inl (fun z9 => nI (nx z9)))), (aP, .inl (cI, 16, .inl (fun z9 => nI (pl z9)))), (aQ, .inl (cI, 16, .inl (fun z9 => nI (pr z9)))), (oU, .inr (1, [.ref oN, .ref aU, .ref aW, .ref aO, .ref aS, .ref aG, .ref aB, .int (nI 1), .int (nI cl), .int pL])), (aU, .inl (cI, 100, .inl lu)), (aW, .inl (cI, 16384, .inl (fun z9 => nI ((va_up rw 0 fr) z9)))), (aO, .inl (cI, 16384, .inl (fun z9 => nI ((va_up og 0 0) z9)))), (aS, .inl (cI, 16386, .inl (fun z9 => nI ((va_up (va_up st 0 0) 1 1) z9)))), (aG, .inl (cI, 16384, .inl (fun z9 => nI (pg z9)))), (aB, .inl (cI, 512, .inl (upd kn2 (fr / 32) (kn2 (fr / 32) ||| nI 1 <<< (nI (fr % 32) &&& 31)))))] := hD
  have hP9 := hP.sub (ws' := [(oN, .inr (2, [.int (nI wb), .int (nI (2 ^ wb)), .ref aK, .ref aL, .ref aR, .ref aX, .ref aP, .ref aQ, .int (nI n), .int (nI sc), .int (nI s1), .int (nI np), .int (nI fr)])), (aK, .inl (cI, 100, .inl (fun z9 => nI (kd z9)))), (aL, .inl (cI, 100, .inl (fun z9 => nI (lf z9)))), (aR, .inl (cI, 100, .inl (fun z9 => nI (rt z9)))), (aX, .inl (cI, 14, .inl (fun z9 => nI (nx z9)))), (aP, .inl (cI, 16, .inl (fun z9 => nI (pl z9)))), (aQ, .inl (cI, 16, .inl (fun z9 => nI (pr z9)))), (oU, .inr (1, [.ref oN, .ref aU, .ref aW, .ref aO, .ref aS, .ref aG, .ref aB, .int (nI 1), .int (nI cl), .int pL])), (aU, .inl (cI, 100, .inl lu)), (aW, .inl (cI, 16384, .inl (fun z9 => nI ((va_up rw 0 fr) z9)))), (aO, .inl (cI, 16384, .inl (fun z9 => nI ((va_up og 0 0) z9)))), (aS, .inl (cI, 16386, .inl (fun z9 => nI ((va_up (va_up st 0 0) 1 1) z9)))), (aG, .inl (cI, 16384, .inl (fun z9 => nI (pg z9)))), (aB, .inl (cI, 512, .inl (upd kn2 (fr / 32) (kn2 (fr / 32) ||| nI 1 <<< (nI (fr % 32) &&& 31)))))]) [0, 1, 2, 3, 4, 5, 6, 7, 8, 9, 10, 11, 12, 13] rfl
  have hD9 := hD.sub (ws' := [(oN, .inr (2, [.int (nI wb), .int (nI (2 ^ wb)), .ref aK, .ref aL, .ref aR, .ref aX, .ref aP, .ref aQ, .int (nI n), .int (nI sc), .int (nI s1), .int (nI np), .int (nI fr)])), (aK, .inl (cI, 100, .inl (fun z9 => nI (kd z9)))), (aL, .inl (cI, 100, .inl (fun z9 => nI (lf z9)))), (aR, .inl (cI, 100, .inl (fun z9 => nI (rt z9)))), (aX, .inl (cI, 14, .inl (fun z9 => nI (nx z9)))), (aP, .inl (cI, 16, .inl (fun z9 => nI (pl z9)))), (aQ, .inl (cI, 16, .inl (fun z9 => nI (pr z9)))), (oU, .inr (1, [.ref oN, .ref aU, .ref aW, .ref aO, .ref aS, .ref aG, .ref aB, .int (nI 1), .int (nI cl), .int pL])), (aU, .inl (cI, 100, .inl lu)), (aW, .inl (cI, 16384, .inl (fun z9 => nI ((va_up rw 0 fr) z9)))), (aO, .inl (cI, 16384, .inl (fun z9 => nI ((va_up og 0 0) z9)))), (aS, .inl (cI, 16386, .inl (fun z9 => nI ((va_up (va_up st 0 0) 1 1) z9)))), (aG, .inl (cI, 16384, .inl (fun z9 => nI (pg z9)))), (aB, .inl (cI, 512, .inl (upd kn2 (fr / 32) (kn2 (fr / 32) ||| nI 1 <<< (nI (fr % 32) &&& 31)))))]) [0, 1, 2, 3, 4, 5, 6, 7, 8, 9, 10, 11, 12, 13] (by decide) rfl
  exact W.vret hx hb hr (fun t ht hW => ⟨⟨(va_up rw 0 fr, va_up og 0 0, va_up (va_up st 0 0) 1 1, upd kn2 (fr / 32) (kn2 (fr / 32) ||| nI 1 <<< (nI (fr % 32) &&& 31))), rfl, hu_N_0 (va_up_self _ _ _) (va_up_self _ _ _) (by rw [va_up_ne _ _ (by decide), va_up_self]) (va_up_self _ _ _) (fun q hq => by rw [bn_in_put, hin q (by omega), Bool.false_or]), by rw [ht]; exact hP9, hD9⟩, hS.F ht⟩) hS.2.2 d_Hunt_start_41
