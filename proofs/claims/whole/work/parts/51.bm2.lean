set_option maxHeartbeats 4000000 in
set_option maxRecDepth 100000 in
theorem k_BM_search_ok (l : Launch) (dC : Nat → ClassId) (dI : Nat → Nat → Nat) (cI cZ cJ : ClassId) (sz : Nat) (oB : Nat) (oN aK aL aR aX aP aQ wb n sc s1 np fr : Nat) (kd lf rt nx pl pr : Nat → Nat) (oU aU aW aO aS aG aB : Nat) (lu : Nat → Int32) (rw og st pg : Nat → Nat) (kn : Nat → Int32) (rc cl : Nat) (pL : Int32) (oH : Nat) (hwf : bm_wf wb n sc kd lf rt) (hnp : np ≤ 16) (hpl : ∀ p, p < np → pl p < n ∧ pr p < n) (hnx : ∀ s, s < sc → nx s < n) (hfr : fr < 2 ^ sc) (d : Nat) (hd1 : 1 ≤ d) (hd2 : d ≤ 20000) (hS0 : (rc = 0 ∧ cl = 0 ∧ pL = (-1)) ∨ (pL = (-1) ∧ hu_N (bm_dif n np kd lf rt pl pr) (bm_stp n sc kd lf rt nx) (2 ^ wb) fr (2 ^ sc) rc cl rw og st kn) ∨ ∃ a w, pL = nI (cl + 1) ∧ hu_F (bm_dif n np kd lf rt pl pr) (bm_stp n sc kd lf rt nx) (2 ^ wb) fr rc cl st pg a w) : Met l y_BM_search (bw y_BM_search b_BM_search 2 (some .int)) ({ frames := 6, cells := 0, slots := 0, locals := 172 }) (bx_pW dC dI cI cZ cJ [.ref oB, .int (nI d)] [(oB, .inr (3, [.ref oN, .ref oU, .ref oH])), (oN, .inr (2, [.int (nI wb), .int (nI (2 ^ wb)), .ref aK, .ref aL, .ref aR, .ref aX, .ref aP, .ref aQ, .int (nI n), .int (nI sc), .int (nI s1), .int (nI np), .int (nI fr)])), (aK, .inl (cI, 100, .inl (fun z9 => nI (kd z9)))), (aL, .inl (cI, 100, .inl (fun z9 => nI (lf z9)))), (aR, .inl (cI, 100, .inl (fun z9 => nI (rt z9)))), (aX, .inl (cI, 14, .inl (fun z9 => nI (nx z9)))), (aP, .inl (cI, 16, .inl (fun z9 => nI (pl z9)))), (aQ, .inl (cI, 16, .inl (fun z9 => nI (pr z9)))), (oU, .inr (1, [.ref oN, .ref aU, .ref aW, .ref aO, .ref aS, .ref aG, .ref aB, .int (nI rc), .int (nI cl), .int pL])), (aU, .inl (cI, 100, .inl lu)), (aW, .inl (cI, 16384, .inl (fun z9 => nI (rw z9)))), (aO, .inl (cI, 16384, .inl (fun z9 => nI (og z9)))), (aS, .inl (cI, 16386, .inl (fun z9 => nI (st z9)))), (aG, .inl (cI, 16384, .inl (fun z9 => nI (pg z9)))), (aB, .inl (cI, 512, .inl kn))] sz) (va_Qi (fun (r : Int32) (u9 : (Nat → Int32) × (Nat → Nat) × (Nat → Nat) × (Nat → Nat) × (Nat → Nat) × (Nat → Int32) × Nat × Nat × Int32) => match u9 with | (lu2, rw2, og2, st2, pg2, kn2, rc2, cl2, pL2) => ((¬ pL = (-1) ∧ lu2 = lu ∧ rw2 = rw ∧ og2 = og ∧ st2 = st ∧ pg2 = pg ∧ kn2 = kn ∧ rc2 = rc ∧ cl2 = cl ∧ pL2 = pL) ∨ (pL = (-1) ∧ cl2 < 16384 + 1 ∧ ((pL2 = (-1) ∧ hu_N (bm_dif n np kd lf rt pl pr) (bm_stp n sc kd lf rt nx) (2 ^ wb) fr (2 ^ sc) rc2 cl2 rw2 og2 st2 kn2 ∧ bs_en (bm_dif n np kd lf rt pl pr) (bm_stp n sc kd lf rt nx) (2 ^ wb) fr d cl cl2) ∨ (pL2 = nI (cl2 + 1) ∧ ∃ a w, hu_F (bm_dif n np kd lf rt pl pr) (bm_stp n sc kd lf rt nx) (2 ^ wb) fr rc2 cl2 st2 pg2 a w ∧ bs_ef (bm_dif n np kd lf rt pl pr) (bm_stp n sc kd lf rt nx) (2 ^ wb) fr d cl cl2 a w)))) ∧ r = (if pL2 = (-1) then (if (bs_L (bm_stp n sc kd lf rt nx) (2 ^ wb) fr cl2).2 (cl2 + 1) = (bs_L (bm_stp n sc kd lf rt nx) (2 ^ wb) fr cl2).2 cl2 then nI 2 else nI 1) else nI 0)) (bx_B dC dI (va_A [(oB, .inr (3, [.ref oN, .ref oU, .ref oH])), (oN, .inr (2, [.int (nI wb), .int (nI (2 ^ wb)), .ref aK, .ref aL, .ref aR, .ref aX, .ref aP, .ref aQ, .int (nI n), .int (nI sc), .int (nI s1), .int (nI np), .int (nI fr)])), (aK, .inl (cI, 100, .inl (fun z9 => nI (kd z9)))), (aL, .inl (cI, 100, .inl (fun z9 => nI (lf z9)))), (aR, .inl (cI, 100, .inl (fun z9 => nI (rt z9)))), (aX, .inl (cI, 14, .inl (fun z9 => nI (nx z9)))), (aP, .inl (cI, 16, .inl (fun z9 => nI (pl z9)))), (aQ, .inl (cI, 16, .inl (fun z9 => nI (pr z9)))), (oU, .inr (1, [.ref oN, .ref aU, .ref aW, .ref aO, .ref aS, .ref aG, .ref aB, .int (nI rc), .int (nI cl), .int pL])), (aU, .inl (cI, 100, .inl lu)), (aW, .inl (cI, 16384, .inl (fun z9 => nI (rw z9)))), (aO, .inl (cI, 16384, .inl (fun z9 => nI (og z9)))), (aS, .inl (cI, 16386, .inl (fun z9 => nI (st z9)))), (aG, .inl (cI, 16384, .inl (fun z9 => nI (pg z9)))), (aB, .inl (cI, 512, .inl kn))] sz) (fun (u9 : (Nat → Int32) × (Nat → Nat) × (Nat → Nat) × (Nat → Nat) × (Nat → Nat) × (Nat → Int32) × Nat × Nat × Int32) => match u9 with | (lu2, rw2, og2, st2, pg2, kn2, rc2, cl2, pL2) => ([(oB, .inr (3, [.ref oN, .ref oU, .ref oH])), (oN, .inr (2, [.int (nI wb), .int (nI (2 ^ wb)), .ref aK, .ref aL, .ref aR, .ref aX, .ref aP, .ref aQ, .int (nI n), .int (nI sc), .int (nI s1), .int (nI np), .int (nI fr)])), (aK, .inl (cI, 100, .inl (fun z9 => nI (kd z9)))), (aL, .inl (cI, 100, .inl (fun z9 => nI (lf z9)))), (aR, .inl (cI, 100, .inl (fun z9 => nI (rt z9)))), (aX, .inl (cI, 14, .inl (fun z9 => nI (nx z9)))), (aP, .inl (cI, 16, .inl (fun z9 => nI (pl z9)))), (aQ, .inl (cI, 16, .inl (fun z9 => nI (pr z9)))), (oU, .inr (1, [.ref oN, .ref aU, .ref aW, .ref aO, .ref aS, .ref aG, .ref aB, .int (nI rc2), .int (nI cl2), .int pL2])), (aU, .inl (cI, 100, .inl lu2)), (aW, .inl (cI, 16384, .inl (fun z9 => nI (rw2 z9)))), (aO, .inl (cI, 16384, .inl (fun z9 => nI (og2 z9)))), (aS, .inl (cI, 16386, .inl (fun z9 => nI (st2 z9)))), (aG, .inl (cI, 16384, .inl (fun z9 => nI (pg2 z9)))), (aB, .inl (cI, 512, .inl kn2))] : va_W))) (va_A [(oB, .inr (3, [.ref oN, .ref oU, .ref oH])), (oN, .inr (2, [.int (nI wb), .int (nI (2 ^ wb)), .ref aK, .ref aL, .ref aR, .ref aX, .ref aP, .ref aQ, .int (nI n), .int (nI sc), .int (nI s1), .int (nI np), .int (nI fr)])), (aK, .inl (cI, 100, .inl (fun z9 => nI (kd z9)))), (aL, .inl (cI, 100, .inl (fun z9 => nI (lf z9)))), (aR, .inl (cI, 100, .inl (fun z9 => nI (rt z9)))), (aX, .inl (cI, 14, .inl (fun z9 => nI (nx z9)))), (aP, .inl (cI, 16, .inl (fun z9 => nI (pl z9)))), (aQ, .inl (cI, 16, .inl (fun z9 => nI (pr z9)))), (oU, .inr (1, [.ref oN, .ref aU, .ref aW, .ref aO, .ref aS, .ref aG, .ref aB, .int (nI rc), .int (nI cl), .int pL])), (aU, .inl (cI, 100, .inl lu)), (aW, .inl (cI, 16384, .inl (fun z9 => nI (rw z9)))), (aO, .inl (cI, 16384, .inl (fun z9 => nI (og z9)))), (aS, .inl (cI, 16386, .inl (fun z9 => nI (st z9)))), (aG, .inl (cI, 16384, .inl (fun z9 => nI (pg z9)))), (aB, .inl (cI, 512, .inl kn))] sz)) 0 0 (va_A [(oB, .inr (3, [.ref oN, .ref oU, .ref oH])), (oN, .inr (2, [.int (nI wb), .int (nI (2 ^ wb)), .ref aK, .ref aL, .ref aR, .ref aX, .ref aP, .ref aQ, .int (nI n), .int (nI sc), .int (nI s1), .int (nI np), .int (nI fr)])), (aK, .inl (cI, 100, .inl (fun z9 => nI (kd z9)))), (aL, .inl (cI, 100, .inl (fun z9 => nI (lf z9)))), (aR, .inl (cI, 100, .inl (fun z9 => nI (rt z9)))), (aX, .inl (cI, 14, .inl (fun z9 => nI (nx z9)))), (aP, .inl (cI, 16, .inl (fun z9 => nI (pl z9)))), (aQ, .inl (cI, 16, .inl (fun z9 => nI (pr z9)))), (oU, .inr (1, [.ref oN, .ref aU, .ref aW, .ref aO, .ref aS, .ref aG, .ref aB, .int (nI rc), .int (nI cl), .int pL])), (aU, .inl (cI, 100, .inl lu)), (aW, .inl (cI, 16384, .inl (fun z9 => nI (rw z9)))), (aO, .inl (cI, 16384, .inl (fun z9 => nI (og z9)))), (aS, .inl (cI, 16386, .inl (fun z9 => nI (st z9)))), (aG, .inl (cI, 16384, .inl (fun z9 => nI (pg z9)))), (aB, .inl (cI, 512, .inl kn))] sz) := by
  refine Met.ofW (cc := b_BM_search) (maxL := 2) (ret := some .int) (by decide) rfl ?_
  intro p e s m args below meth c s₁ B hml hv
  obtain ⟨rfl, hsz, hE, hP, hD0⟩ := hv
  have hx := B.exec
  have hb := B.bytes
  have hr := B.returns
  have hts9 := atoms_spec (ws := (bw y_BM_search b_BM_search 2 (some .int))) B.pre
  have hts : ∀ w ∈ gw, w.before _ s = true := fun w h => hts9 w (List.mem_cons_of_mem _ h)
  have hown : s.vm.findClass RX3 = some m.cls := findClass_of_methodNamed B.named
  have hlocks := B.notSynchronized
  subst hsz
  have hD := hD0.self (sz := s.heap.size)
  generalize hAe : va_A [(oB, .inr (3, [.ref oN, .ref oU, .ref oH])), (oN, .inr (2, [.int (nI wb), .int (nI (2 ^ wb)), .ref aK, .ref aL, .ref aR, .ref aX, .ref aP, .ref aQ, .int (nI n), .int (nI sc), .int (nI s1), .int (nI np), .int (nI fr)])), (aK, .inl (cI, 100, .inl (fun z9 => nI (kd z9)))), (aL, .inl (cI, 100, .inl (fun z9 => nI (lf z9)))), (aR, .inl (cI, 100, .inl (fun z9 => nI (rt z9)))), (aX, .inl (cI, 14, .inl (fun z9 => nI (nx z9)))), (aP, .inl (cI, 16, .inl (fun z9 => nI (pl z9)))), (aQ, .inl (cI, 16, .inl (fun z9 => nI (pr z9)))), (oU, .inr (1, [.ref oN, .ref aU, .ref aW, .ref aO, .ref aS, .ref aG, .ref aB, .int (nI rc), .int (nI cl), .int pL])), (aU, .inl (cI, 100, .inl lu)), (aW, .inl (cI, 16384, .inl (fun z9 => nI (rw z9)))), (aO, .inl (cI, 16384, .inl (fun z9 => nI (og z9)))), (aS, .inl (cI, 16386, .inl (fun z9 => nI (st z9)))), (aG, .inl (cI, 16384, .inl (fun z9 => nI (pg z9)))), (aB, .inl (cI, 512, .inl kn))] s.heap.size = A at hE hD ⊢
  have hA : ∀ q : Nat, s.heap.size ≤ q → A q := fun q h => by rw [← hAe]; exact Or.inr h
  have hS : va_S A s.heap s.heap [] := va_S.rf
  have hK := hE.1
  have hN := hE.2.1
  have hP : va_P (dC, dI) vwCl [(oB, .inr (3, [.ref oN, .ref oU, .ref oH])), (oN, .inr (2, [.int (nI wb), .int (nI (2 ^ wb)), .ref aK, .ref aL, .ref aR, .ref aX, .ref aP, .ref aQ, .int (nI n), .int (nI sc), .int (nI s1), .int (nI np), .int (nI fr)])), (aK, .inl (cI, 100, .inl (fun z9 => nI (kd z9)))), (aL, .inl (cI, 100, .inl (fun z9 => nI (lf z9)))), (aR, .inl (cI, 100, .inl (fun z9 => nI (rt z9)))), (aX, .inl (cI, 14, .inl (fun z9 => nI (nx z9)))), (aP, .inl (cI, 16, .inl (fun z9 => nI (pl z9)))), (aQ, .inl (cI, 16, .inl (fun z9 => nI (pr z9)))), (oU, .inr (1, [.ref oN, .ref aU, .ref aW, .ref aO, .ref aS, .ref aG, .ref aB, .int (nI rc), .int (nI cl), .int pL])), (aU, .inl (cI, 100, .inl lu)), (aW, .inl (cI, 16384, .inl (fun z9 => nI (rw z9)))), (aO, .inl (cI, 16384, .inl (fun z9 => nI (og z9)))), (aS, .inl (cI, 16386, .inl (fun z9 => nI (st z9)))), (aG, .inl (cI, 16384, .inl (fun z9 => nI (pg z9)))), (aB, .inl (cI, 512, .inl kn))] s.heap := hP
  have hl := lv_entry ([.ref oB, .int (nI d)]) (n := 2) (Nat.le_of_ble_eq_true rfl)
  rw [lg_entry_eq]
  generalize (lg_sl ([.ref oB, .int (nI d)]) ++ List.replicate (2 - (lg_sl ([.ref oB, .int (nI d)])).length) Slot.unset).toArray = ls at hl ⊢
  have hl : lv_has ls 2 [(0, .ref oB), (1, .int (nI d))] := hl
  have hwb := hwf.1
  have hpw : 2 ^ wb ≤ 16 := by
    have h3 : wb = 1 ∨ wb = 2 ∨ wb = 3 ∨ wb = 4 := by omega
    rcases h3 with h3 | h3 | h3 | h3 <;> rw [h3] <;> decide
  have hM2 : 2 ^ sc ≤ 16384 := Nat.le_trans (Nat.pow_le_pow_right (by decide) hwb.2.2.2.2) (by decide)
  have hsl := bm_stp_lt n sc kd lf rt nx
  refine lv_iload_n hx hb d_BM_search_0 rfl (lv_at hl 1 rfl) ?_
  refine lv_iconst (v := nI 1) hx hb d_BM_search_1 (by decide +kernel) ?_
  refine lv_icmp_lt (tgt := 12) hx hb d_BM_search_2 (by decide) (fun c9 => absurd c9 (nI_nlt (by omega) (by omega))) (fun _ => ?_)
  refine lv_iload_n hx hb d_BM_search_5 rfl (lv_at hl 1 rfl) ?_
  refine lv_sipush (v := nI 20000) hx hb d_BM_search_6 (by decide +kernel) ?_
  refine lv_icmp_le (tgt := 22) hx hb d_BM_search_9 (by decide) (fun _ => ?_) (fun c9 => absurd (nI_le (by omega) (by decide)) c9)
  refine lv_aload_n hx hb d_BM_search_22 rfl (lv_at hl 0 rfl) ?_
  refine va_get (D := (dC, dI)) (ci := 3) (v := .ref oU) (C := RX3) (T := TX3) (N := 3) hx hb hts in_X3 hown hK hP 0 rfl rfl 1 (by decide) (hts _ lk_BM_29) (fun _ h9 => h9) rfl d_BM_search_23 ?_
  refine lv_iload_n hx hb d_BM_search_26 rfl (lv_at hl 1 rfl) ?_
  have hPc := hP.sub (ws' := [(oN, .inr (2, [.int (nI wb), .int (nI (2 ^ wb)), .ref aK, .ref aL, .ref aR, .ref aX, .ref aP, .ref aQ, .int (nI n), .int (nI sc), .int (nI s1), .int (nI np), .int (nI fr)])), (aK, .inl (cI, 100, .inl (fun z9 => nI (kd z9)))), (aL, .inl (cI, 100, .inl (fun z9 => nI (lf z9)))), (aR, .inl (cI, 100, .inl (fun z9 => nI (rt z9)))), (aX, .inl (cI, 14, .inl (fun z9 => nI (nx z9)))), (aP, .inl (cI, 16, .inl (fun z9 => nI (pl z9)))), (aQ, .inl (cI, 16, .inl (fun z9 => nI (pr z9)))), (oU, .inr (1, [.ref oN, .ref aU, .ref aW, .ref aO, .ref aS, .ref aG, .ref aB, .int (nI rc), .int (nI cl), .int pL])), (aU, .inl (cI, 100, .inl lu)), (aW, .inl (cI, 16384, .inl (fun z9 => nI (rw z9)))), (aO, .inl (cI, 16384, .inl (fun z9 => nI (og z9)))), (aS, .inl (cI, 16386, .inl (fun z9 => nI (st z9)))), (aG, .inl (cI, 16384, .inl (fun z9 => nI (pg z9)))), (aB, .inl (cI, 512, .inl kn))]) [1, 2, 3, 4, 5, 6, 7, 8, 9, 10, 11, 12, 13, 14] rfl
  have hDc := hD.sub (ws' := [(oN, .inr (2, [.int (nI wb), .int (nI (2 ^ wb)), .ref aK, .ref aL, .ref aR, .ref aX, .ref aP, .ref aQ, .int (nI n), .int (nI sc), .int (nI s1), .int (nI np), .int (nI fr)])), (aK, .inl (cI, 100, .inl (fun z9 => nI (kd z9)))), (aL, .inl (cI, 100, .inl (fun z9 => nI (lf z9)))), (aR, .inl (cI, 100, .inl (fun z9 => nI (rt z9)))), (aX, .inl (cI, 14, .inl (fun z9 => nI (nx z9)))), (aP, .inl (cI, 16, .inl (fun z9 => nI (pl z9)))), (aQ, .inl (cI, 16, .inl (fun z9 => nI (pr z9)))), (oU, .inr (1, [.ref oN, .ref aU, .ref aW, .ref aO, .ref aS, .ref aG, .ref aB, .int (nI rc), .int (nI cl), .int pL])), (aU, .inl (cI, 100, .inl lu)), (aW, .inl (cI, 16384, .inl (fun z9 => nI (rw z9)))), (aO, .inl (cI, 16384, .inl (fun z9 => nI (og z9)))), (aS, .inl (cI, 16386, .inl (fun z9 => nI (st z9)))), (aG, .inl (cI, 16384, .inl (fun z9 => nI (pg z9)))), (aB, .inl (cI, 512, .inl kn))]) [1, 2, 3, 4, 5, 6, 7, 8, 9, 10, 11, 12, 13, 14] (by decide) rfl
  have hFc := va_free (wc := [(oN, .inr (2, [.int (nI wb), .int (nI (2 ^ wb)), .ref aK, .ref aL, .ref aR, .ref aX, .ref aP, .ref aQ, .int (nI n), .int (nI sc), .int (nI s1), .int (nI np), .int (nI fr)])), (aK, .inl (cI, 100, .inl (fun z9 => nI (kd z9)))), (aL, .inl (cI, 100, .inl (fun z9 => nI (lf z9)))), (aR, .inl (cI, 100, .inl (fun z9 => nI (rt z9)))), (aX, .inl (cI, 14, .inl (fun z9 => nI (nx z9)))), (aP, .inl (cI, 16, .inl (fun z9 => nI (pl z9)))), (aQ, .inl (cI, 16, .inl (fun z9 => nI (pr z9)))), (oU, .inr (1, [.ref oN, .ref aU, .ref aW, .ref aO, .ref aS, .ref aG, .ref aB, .int (nI rc), .int (nI cl), .int pL])), (aU, .inl (cI, 100, .inl lu)), (aW, .inl (cI, 16384, .inl (fun z9 => nI (rw z9)))), (aO, .inl (cI, 16384, .inl (fun z9 => nI (og z9)))), (aS, .inl (cI, 16386, .inl (fun z9 => nI (st z9)))), (aG, .inl (cI, 16384, .inl (fun z9 => nI (pg z9)))), (aB, .inl (cI, 512, .inl kn))]) hD hS hA [1, 2, 3, 4, 5, 6, 7, 8, 9, 10, 11, 12, 13, 14] rfl
  refine va_callv (va_runVN (As := [.int (nI d)]) (rest := []) ⟨hx, hb, hml, hown, hts⟩ (k_Hunt_goOn l dC dI cI cZ cJ s.heap.size oN aK aL aR aX aP aQ wb n sc s1 np fr kd lf rt nx pl pr oU aU aW aO aS aG aB lu rw og st pg kn rc cl pL hwf hnp hpl hnx hfr d hd2 hS0) (bx_nV (n := 1) hts hN mc_Hunt_goOn nl_BM_107 mi_Hunt_goOn ms_Hunt_goOn ini_Hunt (by decide +kernel) ⟨Nat.le_of_ble_eq_true rfl, Nat.le_of_ble_eq_true rfl⟩) (bx_pwV hE hS hPc hDc hFc (ci := 1) (q0 := 7) rfl rfl) rfl rfl hl.1 rfl (lv_room (Nat.le_of_ble_eq_true rfl)) d_BM_search_27 ⟨Nat.le_of_ble_eq_true rfl, Nat.le_of_ble_eq_true rfl⟩) hS (fun q _ h => hFc q h) hFc (fun u t H1 locs ht hvm hw hB hz1 hk1 hS => ?_)
  obtain ⟨lu2, rw2, og2, st2, pg2, kn2, rc2, cl2, pL2⟩ := u
  dsimp only at hw
  obtain ⟨hP1, hD1⟩ := hB
  rw [ht] at hP1
  obtain ⟨hP, hD⟩ := va_join (wr := [(oB, .inr (3, [.ref oN, .ref oU, .ref oH]))]) (w1 := [(oN, .inr (2, [.int (nI wb), .int (nI (2 ^ wb)), .ref aK, .ref aL, .ref aR, .ref aX, .ref aP, .ref aQ, .int (nI n), .int (nI sc), .int (nI s1), .int (nI np), .int (nI fr)])), (aK, .inl (cI, 100, .inl (fun z9 => nI (kd z9)))), (aL, .inl (cI, 100, .inl (fun z9 => nI (lf z9)))), (aR, .inl (cI, 100, .inl (fun z9 => nI (rt z9)))), (aX, .inl (cI, 14, .inl (fun z9 => nI (nx z9)))), (aP, .inl (cI, 16, .inl (fun z9 => nI (pl z9)))), (aQ, .inl (cI, 16, .inl (fun z9 => nI (pr z9)))), (oU, .inr (1, [.ref oN, .ref aU, .ref aW, .ref aO, .ref aS, .ref aG, .ref aB, .int (nI rc2), .int (nI cl2), .int pL2])), (aU, .inl (cI, 100, .inl lu2)), (aW, .inl (cI, 16384, .inl (fun z9 => nI (rw2 z9)))), (aO, .inl (cI, 16384, .inl (fun z9 => nI (og2 z9)))), (aS, .inl (cI, 16386, .inl (fun z9 => nI (st2 z9)))), (aG, .inl (cI, 16384, .inl (fun z9 => nI (pg2 z9)))), (aB, .inl (cI, 512, .inl kn2))]) hP hD [1, 2, 3, 4, 5, 6, 7, 8, 9, 10, 11, 12, 13, 14] [0] rfl rfl (by decide) (by decide) hk1 hFc hP1 hD1
  generalize H1 = H at hP hS ⊢
  have hP : va_P (dC, dI) vwCl [(oB, .inr (3, [.ref oN, .ref oU, .ref oH])), (oN, .inr (2, [.int (nI wb), .int (nI (2 ^ wb)), .ref aK, .ref aL, .ref aR, .ref aX, .ref aP, .ref aQ, .int (nI n), .int (nI sc), .int (nI s1), .int (nI np), .int (nI fr)])), (aK, .inl (cI, 100, .inl (fun z9 => nI (kd z9)))), (aL, .inl (cI, 100, .inl (fun z9 => nI (lf z9)))), (aR, .inl (cI, 100, .inl (fun z9 => nI (rt z9)))), (aX, .inl (cI, 14, .inl (fun z9 => nI (nx z9)))), (aP, .inl (cI, 16, .inl (fun z9 => nI (pl z9)))), (aQ, .inl (cI, 16, .inl (fun z9 => nI (pr z9)))), (oU, .inr (1, [.ref oN, .ref aU, .ref aW, .ref aO, .ref aS, .ref aG, .ref aB, .int (nI rc2), .int (nI cl2), .int pL2])), (aU, .inl (cI, 100, .inl lu2)), (aW, .inl (cI, 16384, .inl (fun z9 => nI (rw2 z9)))), (aO, .inl (cI, 16384, .inl (fun z9 => nI (og2 z9)))), (aS, .inl (cI, 16386, .inl (fun z9 => nI (st2 z9)))), (aG, .inl (cI, 16384, .inl (fun z9 => nI (pg2 z9)))), (aB, .inl (cI, 512, .inl kn2))] H := hP
  have hD : va_D A [(oB, .inr (3, [.ref oN, .ref oU, .ref oH])), (oN, .inr (2, [.int (nI wb), .int (nI (2 ^ wb)), .ref aK, .ref aL, .ref aR, .ref aX, .ref aP, .ref aQ, .int (nI n), .int (nI sc), .int (nI s1), .int (nI np), .int (nI fr)])), (aK, .inl (cI, 100, .inl (fun z9 => nI (kd z9)))), (aL, .inl (cI, 100, .inl (fun z9 => nI (lf z9)))), (aR, .inl (cI, 100, .inl (fun z9 => nI (rt z9)))), (aX, .inl (cI, 14, .inl (fun z9 => nI (nx z9)))), (aP, .inl (cI, 16, .inl (fun z9 => nI (pl z9)))), (aQ, .inl (cI, 16, .inl (fun z9 => nI (pr z9)))), (oU, .inr (1, [.ref oN, .ref aU, .ref aW, .ref aO, .ref aS, .ref aG, .ref aB, .int (nI rc2), .int (nI cl2), .int pL2])), (aU, .inl (cI, 100, .inl lu2)), (aW, .inl (cI, 16384, .inl (fun z9 => nI (rw2 z9)))), (aO, .inl (cI, 16384, .inl (fun z9 => nI (og2 z9)))), (aS, .inl (cI, 16386, .inl (fun z9 => nI (st2 z9)))), (aG, .inl (cI, 16384, .inl (fun z9 => nI (pg2 z9)))), (aB, .inl (cI, 512, .inl kn2))] := hD
  refine lv_aload_n hx hb d_BM_search_30 rfl (lv_at hl 0 rfl) ?_
  refine va_get (D := (dC, dI)) (ci := 3) (v := .ref oU) (C := RX3) (T := TX3) (N := 3) hx hb hts in_X3 hown hK hP 0 rfl rfl 1 (by decide) (hts _ lk_BM_29) (fun _ h9 => h9) rfl d_BM_search_31 ?_
  refine va_getN (D := (dC, dI)) (ci := 1) (v := .int pL2) (C := RX1) (T := TX1) (N := 10) hx hb hts in_X1 hown hK hP 8 rfl rfl 9 (by decide) (va_Nw.use rfl (hN _ nl_BM_110)) (fun _ h9 => h9) rfl d_BM_search_34 ?_
  refine lv_iconst (v := (-1)) hx hb d_BM_search_37 (by decide +kernel) ?_
  refine lv_icmp_eq (tgt := 43) hx hb d_BM_search_38 (by decide) (fun c_1 => ?_) (fun c_1 => ?_)
  · obtain ⟨hcl, hI, hend⟩ : cl2 < 16384 + 1 ∧ hu_N (bm_dif n np kd lf rt pl pr) (bm_stp n sc kd lf rt nx) (2 ^ wb) fr (2 ^ sc) rc2 cl2 rw2 og2 st2 kn2 ∧ bs_en (bm_dif n np kd lf rt pl pr) (bm_stp n sc kd lf rt nx) (2 ^ wb) fr d cl cl2 := by
      rcases hw with ⟨h1, -, -, -, -, -, -, -, -, h2⟩ | ⟨-, h1, ⟨-, h2, h3⟩ | ⟨h2, -⟩⟩
      · exact absurd (h2.symm.trans c_1) h1
      · exact ⟨h1, h2, h3⟩
      · exact absurd (h2.symm.trans c_1) (bn_ne1 (by omega))
    obtain ⟨hs1, hs2, hs3⟩ := hu_N_st hI
    have hok9 := hu_N_ok hI hfr hsl
    have hrc9 : rc2 ≤ 2 ^ sc := bs_ok_le hok9
    have hrp := bs_L_pos (bm_stp n sc kd lf rt nx) (2 ^ wb) fr cl2
    have hrc0 := hI.1
    have hst9 := hI.2.1 cl2 (Nat.le_succ _)
    have hst8 := hI.2.1 (cl2 + 1) (Nat.le_refl _)
    refine lv_aload_n hx hb d_BM_search_43 rfl (lv_at hl 0 rfl) ?_
    refine va_get (D := (dC, dI)) (ci := 3) (v := .ref oU) (C := RX3) (T := TX3) (N := 3) hx hb hts in_X3 hown hK hP 0 rfl rfl 1 (by decide) (hts _ lk_BM_29) (fun _ h9 => h9) rfl d_BM_search_44 ?_
    have hPc := hP.sub (ws' := [(oU, .inr (1, [.ref oN, .ref aU, .ref aW, .ref aO, .ref aS, .ref aG, .ref aB, .int (nI rc2), .int (nI cl2), .int pL2])), (aU, .inl (cI, 100, .inl lu2)), (aW, .inl (cI, 16384, .inl (fun z9 => nI (rw2 z9)))), (aO, .inl (cI, 16384, .inl (fun z9 => nI (og2 z9)))), (aS, .inl (cI, 16386, .inl (fun z9 => nI (st2 z9)))), (aG, .inl (cI, 16384, .inl (fun z9 => nI (pg2 z9)))), (aB, .inl (cI, 512, .inl kn2))]) [8, 9, 10, 11, 12, 13, 14] rfl
    refine bx_callR (va_runVN (As := []) (rest := []) ⟨hx, hb, hml, hown, hts⟩ (k_Hunt_hasOpenLevel l dC dI cI cZ cJ oN oU aU aW aO aS aG aB 16384 16386 512 lu2 rw2 og2 st2 pg2 kn2 rc2 cl2 pL2 (by omega) (fun _ => ⟨by omega, by omega⟩) (by decide) (by rw [if_neg (by omega)]; omega)) (bx_nV (n := 0) hts hN mc_Hunt_hasOpenLevel nl_BM_113 mi_Hunt_hasOpenLevel ms_Hunt_hasOpenLevel ini_Hunt (by decide +kernel) ⟨Nat.le_of_ble_eq_true rfl, Nat.le_of_ble_eq_true rfl⟩) (bx_prV hE hS hPc (ci := 1) (q0 := 0) rfl rfl) rfl rfl hl.1 rfl (lv_room (Nat.le_of_ble_eq_true rfl)) d_BM_search_47 ⟨Nat.le_of_ble_eq_true rfl, Nat.le_of_ble_eq_true rfl⟩) (fun r_1 hw_r_1 => ?_)
    refine lv_if_eq (tgt := 57) hx hb d_BM_search_50 (by decide) (fun c_2 => ?_) (fun c_2 => ?_)
    · have h7 := of_decide_eq_false ((bz_0 _).mp (hw_r_1.symm.trans c_2))
      rw [if_neg (show ¬ rc2 = 0 by omega)] at h7
      refine lv_iconst (v := nI 2) hx hb d_BM_search_57 (by decide +kernel) ?_
      have hP9 := hP.sub (ws' := [(oB, .inr (3, [.ref oN, .ref oU, .ref oH])), (oN, .inr (2, [.int (nI wb), .int (nI (2 ^ wb)), .ref aK, .ref aL, .ref aR, .ref aX, .ref aP, .ref aQ, .int (nI n), .int (nI sc), .int (nI s1), .int (nI np), .int (nI fr)])), (aK, .inl (cI, 100, .inl (fun z9 => nI (kd z9)))), (aL, .inl (cI, 100, .inl (fun z9 => nI (lf z9)))), (aR, .inl (cI, 100, .inl (fun z9 => nI (rt z9)))), (aX, .inl (cI, 14, .inl (fun z9 => nI (nx z9)))), (aP, .inl (cI, 16, .inl (fun z9 => nI (pl z9)))), (aQ, .inl (cI, 16, .inl (fun z9 => nI (pr z9)))), (oU, .inr (1, [.ref oN, .ref aU, .ref aW, .ref aO, .ref aS, .ref aG, .ref aB, .int (nI rc2), .int (nI cl2), .int pL2])), (aU, .inl (cI, 100, .inl lu2)), (aW, .inl (cI, 16384, .inl (fun z9 => nI (rw2 z9)))), (aO, .inl (cI, 16384, .inl (fun z9 => nI (og2 z9)))), (aS, .inl (cI, 16386, .inl (fun z9 => nI (st2 z9)))), (aG, .inl (cI, 16384, .inl (fun z9 => nI (pg2 z9)))), (aB, .inl (cI, 512, .inl kn2))]) [0, 1, 2, 3, 4, 5, 6, 7, 8, 9, 10, 11, 12, 13, 14] rfl
      have hD9 := hD.sub (ws' := [(oB, .inr (3, [.ref oN, .ref oU, .ref oH])), (oN, .inr (2, [.int (nI wb), .int (nI (2 ^ wb)), .ref aK, .ref aL, .ref aR, .ref aX, .ref aP, .ref aQ, .int (nI n), .int (nI sc), .int (nI s1), .int (nI np), .int (nI fr)])), (aK, .inl (cI, 100, .inl (fun z9 => nI (kd z9)))), (aL, .inl (cI, 100, .inl (fun z9 => nI (lf z9)))), (aR, .inl (cI, 100, .inl (fun z9 => nI (rt z9)))), (aX, .inl (cI, 14, .inl (fun z9 => nI (nx z9)))), (aP, .inl (cI, 16, .inl (fun z9 => nI (pl z9)))), (aQ, .inl (cI, 16, .inl (fun z9 => nI (pr z9)))), (oU, .inr (1, [.ref oN, .ref aU, .ref aW, .ref aO, .ref aS, .ref aG, .ref aB, .int (nI rc2), .int (nI cl2), .int pL2])), (aU, .inl (cI, 100, .inl lu2)), (aW, .inl (cI, 16384, .inl (fun z9 => nI (rw2 z9)))), (aO, .inl (cI, 16384, .inl (fun z9 => nI (og2 z9)))), (aS, .inl (cI, 16386, .inl (fun z9 => nI (st2 z9)))), (aG, .inl (cI, 16384, .inl (fun z9 => nI (pg2 z9)))), (aB, .inl (cI, 512, .inl kn2))]) [0, 1, 2, 3, 4, 5, 6, 7, 8, 9, 10, 11, 12, 13, 14] (by decide) rfl
      exact W.iret (v := nI 2) hx hb hr (fun t ht hW => ⟨⟨nI 2, (lu2, rw2, og2, st2, pg2, kn2, rc2, cl2, pL2), rfl, ⟨hw, by rw [if_pos c_1, if_pos (by omega)]⟩, by rw [ht]; exact hP9, hD9⟩, hS.F ht⟩) hS.2.2 d_BM_search_58
    · have h7 := of_decide_eq_true ((bz_n0 _).mp (fun h => c_2 (hw_r_1.trans h)))
      rw [if_neg (show ¬ rc2 = 0 by omega)] at h7
      refine lv_iconst (v := nI 1) hx hb d_BM_search_53 (by decide +kernel) ?_
      refine lv_goto (tgt := 58) hx hb d_BM_search_54 (by decide) ?_
      have hP9 := hP.sub (ws' := [(oB, .inr (3, [.ref oN, .ref oU, .ref oH])), (oN, .inr (2, [.int (nI wb), .int (nI (2 ^ wb)), .ref aK, .ref aL, .ref aR, .ref aX, .ref aP, .ref aQ, .int (nI n), .int (nI sc), .int (nI s1), .int (nI np), .int (nI fr)])), (aK, .inl (cI, 100, .inl (fun z9 => nI (kd z9)))), (aL, .inl (cI, 100, .inl (fun z9 => nI (lf z9)))), (aR, .inl (cI, 100, .inl (fun z9 => nI (rt z9)))), (aX, .inl (cI, 14, .inl (fun z9 => nI (nx z9)))), (aP, .inl (cI, 16, .inl (fun z9 => nI (pl z9)))), (aQ, .inl (cI, 16, .inl (fun z9 => nI (pr z9)))), (oU, .inr (1, [.ref oN, .ref aU, .ref aW, .ref aO, .ref aS, .ref aG, .ref aB, .int (nI rc2), .int (nI cl2), .int pL2])), (aU, .inl (cI, 100, .inl lu2)), (aW, .inl (cI, 16384, .inl (fun z9 => nI (rw2 z9)))), (aO, .inl (cI, 16384, .inl (fun z9 => nI (og2 z9)))), (aS, .inl (cI, 16386, .inl (fun z9 => nI (st2 z9)))), (aG, .inl (cI, 16384, .inl (fun z9 => nI (pg2 z9)))), (aB, .inl (cI, 512, .inl kn2))]) [0, 1, 2, 3, 4, 5, 6, 7, 8, 9, 10, 11, 12, 13, 14] rfl
      have hD9 := hD.sub (ws' := [(oB, .inr (3, [.ref oN, .ref oU, .ref oH])), (oN, .inr (2, [.int (nI wb), .int (nI (2 ^ wb)), .ref aK, .ref aL, .ref aR, .ref aX, .ref aP, .ref aQ, .int (nI n), .int (nI sc), .int (nI s1), .int (nI np), .int (nI fr)])), (aK, .inl (cI, 100, .inl (fun z9 => nI (kd z9)))), (aL, .inl (cI, 100, .inl (fun z9 => nI (lf z9)))), (aR, .inl (cI, 100, .inl (fun z9 => nI (rt z9)))), (aX, .inl (cI, 14, .inl (fun z9 => nI (nx z9)))), (aP, .inl (cI, 16, .inl (fun z9 => nI (pl z9)))), (aQ, .inl (cI, 16, .inl (fun z9 => nI (pr z9)))), (oU, .inr (1, [.ref oN, .ref aU, .ref aW, .ref aO, .ref aS, .ref aG, .ref aB, .int (nI rc2), .int (nI cl2), .int pL2])), (aU, .inl (cI, 100, .inl lu2)), (aW, .inl (cI, 16384, .inl (fun z9 => nI (rw2 z9)))), (aO, .inl (cI, 16384, .inl (fun z9 => nI (og2 z9)))), (aS, .inl (cI, 16386, .inl (fun z9 => nI (st2 z9)))), (aG, .inl (cI, 16384, .inl (fun z9 => nI (pg2 z9)))), (aB, .inl (cI, 512, .inl kn2))]) [0, 1, 2, 3, 4, 5, 6, 7, 8, 9, 10, 11, 12, 13, 14] (by decide) rfl
      exact W.iret (v := nI 1) hx hb hr (fun t ht hW => ⟨⟨nI 1, (lu2, rw2, og2, st2, pg2, kn2, rc2, cl2, pL2), rfl, ⟨hw, by rw [if_pos c_1, if_neg (by omega)]⟩, by rw [ht]; exact hP9, hD9⟩, hS.F ht⟩) hS.2.2 d_BM_search_58
  · refine lv_iconst (v := nI 0) hx hb d_BM_search_41 (by decide +kernel) ?_
    have hP9 := hP.sub (ws' := [(oB, .inr (3, [.ref oN, .ref oU, .ref oH])), (oN, .inr (2, [.int (nI wb), .int (nI (2 ^ wb)), .ref aK, .ref aL, .ref aR, .ref aX, .ref aP, .ref aQ, .int (nI n), .int (nI sc), .int (nI s1), .int (nI np), .int (nI fr)])), (aK, .inl (cI, 100, .inl (fun z9 => nI (kd z9)))), (aL, .inl (cI, 100, .inl (fun z9 => nI (lf z9)))), (aR, .inl (cI, 100, .inl (fun z9 => nI (rt z9)))), (aX, .inl (cI, 14, .inl (fun z9 => nI (nx z9)))), (aP, .inl (cI, 16, .inl (fun z9 => nI (pl z9)))), (aQ, .inl (cI, 16, .inl (fun z9 => nI (pr z9)))), (oU, .inr (1, [.ref oN, .ref aU, .ref aW, .ref aO, .ref aS, .ref aG, .ref aB, .int (nI rc2), .int (nI cl2), .int pL2])), (aU, .inl (cI, 100, .inl lu2)), (aW, .inl (cI, 16384, .inl (fun z9 => nI (rw2 z9)))), (aO, .inl (cI, 16384, .inl (fun z9 => nI (og2 z9)))), (aS, .inl (cI, 16386, .inl (fun z9 => nI (st2 z9)))), (aG, .inl (cI, 16384, .inl (fun z9 => nI (pg2 z9)))), (aB, .inl (cI, 512, .inl kn2))]) [0, 1, 2, 3, 4, 5, 6, 7, 8, 9, 10, 11, 12, 13, 14] rfl
    have hD9 := hD.sub (ws' := [(oB, .inr (3, [.ref oN, .ref oU, .ref oH])), (oN, .inr (2, [.int (nI wb), .int (nI (2 ^ wb)), .ref aK, .ref aL, .ref aR, .ref aX, .ref aP, .ref aQ, .int (nI n), .int (nI sc), .int (nI s1), .int (nI np), .int (nI fr)])), (aK, .inl (cI, 100, .inl (fun z9 => nI (kd z9)))), (aL, .inl (cI, 100, .inl (fun z9 => nI (lf z9)))), (aR, .inl (cI, 100, .inl (fun z9 => nI (rt z9)))), (aX, .inl (cI, 14, .inl (fun z9 => nI (nx z9)))), (aP, .inl (cI, 16, .inl (fun z9 => nI (pl z9)))), (aQ, .inl (cI, 16, .inl (fun z9 => nI (pr z9)))), (oU, .inr (1, [.ref oN, .ref aU, .ref aW, .ref aO, .ref aS, .ref aG, .ref aB, .int (nI rc2), .int (nI cl2), .int pL2])), (aU, .inl (cI, 100, .inl lu2)), (aW, .inl (cI, 16384, .inl (fun z9 => nI (rw2 z9)))), (aO, .inl (cI, 16384, .inl (fun z9 => nI (og2 z9)))), (aS, .inl (cI, 16386, .inl (fun z9 => nI (st2 z9)))), (aG, .inl (cI, 16384, .inl (fun z9 => nI (pg2 z9)))), (aB, .inl (cI, 512, .inl kn2))]) [0, 1, 2, 3, 4, 5, 6, 7, 8, 9, 10, 11, 12, 13, 14] (by decide) rfl
    exact W.iret (v := nI 0) hx hb hr (fun t ht hW => ⟨⟨nI 0, (lu2, rw2, og2, st2, pg2, kn2, rc2, cl2, pL2), rfl, ⟨hw, by rw [if_neg c_1]⟩, by rw [ht]; exact hP9, hD9⟩, hS.F ht⟩) hS.2.2 d_BM_search_42

set_option maxHeartbeats 4000000 in
set_option maxRecDepth 100000 in
theorem k_BM_search_bad (l : Launch) (dC : Nat → ClassId) (dI : Nat → Nat → Nat) (cI cZ cJ : ClassId) (oB oN oU oH : Nat) (x : Int32) (hbad : ¬ (¬ x < nI 1 ∧ x ≤ nI 20000)) (hst : l.stackTraces = false) : vx_Met l y_BM_search (bw y_BM_search b_BM_search 2 (some .int)) ({ frames := 6, cells := 1, slots := 6, locals := 82 }) (bx_pX dC dI cI cZ cJ [.ref oB, .int x] [(oB, .inr (3, [.ref oN, .ref oU, .ref oH]))]) bx_qX (bx_tX "java/lang/IllegalArgumentException") 1 6 (fun _ => False) := by
  refine vx_ofW (cc := b_BM_search) (maxL := 2) (ret := some .int) (by decide) rfl ?_
  intro p e s m args below meth c s₁ B hml hno hv
  obtain ⟨rfl, hE, hX, hP⟩ := hv
  have hx := B.exec
  have hb := B.bytes
  have hr := B.returns
  have hts9 := atoms_spec (ws := (bw y_BM_search b_BM_search 2 (some .int))) B.pre
  have hts : ∀ w ∈ gw, w.before _ s = true := fun w h => hts9 w (List.mem_cons_of_mem _ h)
  have hown : s.vm.findClass RX3 = some m.cls := findClass_of_methodNamed B.named
  have hlocks := B.notSynchronized
  have hK := hE.1
  have hN := hE.2.1
  have hS : va_S (fun _ => False) s.heap s.heap [] := va_S.rf
  have hP : va_P (dC, dI) vwCl [(oB, .inr (3, [.ref oN, .ref oU, .ref oH]))] s.heap := hP
  have hl := lv_entry ([.ref oB, .int x]) (n := 2) (Nat.le_of_ble_eq_true rfl)
  rw [lg_entry_eq]
  generalize (lg_sl ([.ref oB, .int x]) ++ List.replicate (2 - (lg_sl ([.ref oB, .int x])).length) Slot.unset).toArray = ls at hl ⊢
  have hl : lv_has ls 2 [(0, .ref oB), (1, .int x)] := hl
  refine lv_iload_n hx hb d_BM_search_0 rfl (lv_at hl 1 rfl) ?_
  refine lv_iconst (v := nI 1) hx hb d_BM_search_1 (by decide +kernel) ?_
  refine lv_icmp_lt (tgt := 12) hx hb d_BM_search_2 (by decide) (fun c_1 => ?_) (fun c_1 => ?_)
  · exact bx_thr hx hb hst (cls := "java/lang/IllegalArgumentException") (text := "a depth is 1 to 20000") hown hts hX (by decide +kernel) lk_BM_40 ini_IllegalArgumentException xg_44 xb_44 (by decide +kernel) (by rw [hml]; exact hl.1) d_BM_search_12 d_BM_search_15 d_BM_search_16 d_BM_search_18 d_BM_search_21 hno ⟨Nat.le_of_ble_eq_true rfl, Nat.le_of_ble_eq_true rfl, Nat.le_of_ble_eq_true rfl, Nat.le_of_ble_eq_true rfl⟩ hlocks
  · refine lv_iload_n hx hb d_BM_search_5 rfl (lv_at hl 1 rfl) ?_
    refine lv_sipush (v := nI 20000) hx hb d_BM_search_6 (by decide +kernel) ?_
    refine lv_icmp_le (tgt := 22) hx hb d_BM_search_9 (by decide) (fun c9 => absurd c9 (fun h => hbad ⟨c_1, h⟩)) (fun _ => ?_)
    exact bx_thr hx hb hst (cls := "java/lang/IllegalArgumentException") (text := "a depth is 1 to 20000") hown hts hX (by decide +kernel) lk_BM_40 ini_IllegalArgumentException xg_44 xb_44 (by decide +kernel) (by rw [hml]; exact hl.1) d_BM_search_12 d_BM_search_15 d_BM_search_16 d_BM_search_18 d_BM_search_21 hno ⟨Nat.le_of_ble_eq_true rfl, Nat.le_of_ble_eq_true rfl, Nat.le_of_ble_eq_true rfl, Nat.le_of_ble_eq_true rfl⟩ hlocks

set_option maxHeartbeats 4000000 in
set_option maxRecDepth 100000 in
theorem k_BM_length (l : Launch) (dC : Nat → ClassId) (dI : Nat → Nat → Nat) (cI cZ cJ : ClassId) (oB oN oH : Nat) (oU aU aW aO aS aG aB : Nat) (lu : Nat → Int32) (rw og st pg : Nat → Nat) (kn : Nat → Int32) (rc cl : Nat) (pL : Int32) : Met l y_BM_length (bw y_BM_length b_BM_length 1 (some .int)) ({ frames := 0, cells := 0, slots := 0, locals := 0 }) (bx_pR dC dI cI cZ cJ [.ref oB] [(oB, .inr (3, [.ref oN, .ref oU, .ref oH])), (oU, .inr (1, [.ref oN, .ref aU, .ref aW, .ref aO, .ref aS, .ref aG, .ref aB, .int (nI rc), .int (nI cl), .int pL]))]) (bx_qR (fun r => r = pL)) 0 0 (fun _ => False) := by
  refine Met.ofW (cc := b_BM_length) (maxL := 1) (ret := some .int) (by decide) rfl ?_
  intro p e s m args below meth c s₁ B hml hv
  obtain ⟨rfl, hE, hP⟩ := hv
  have hx := B.exec
  have hb := B.bytes
  have hr := B.returns
  have hts9 := atoms_spec (ws := (bw y_BM_length b_BM_length 1 (some .int))) B.pre
  have hts : ∀ w ∈ gw, w.before _ s = true := fun w h => hts9 w (List.mem_cons_of_mem _ h)
  have hown : s.vm.findClass RX3 = some m.cls := findClass_of_methodNamed B.named
  have hlocks := B.notSynchronized
  have hK := hE.1
  have hN := hE.2.1
  have hS : va_S (fun _ => False) s.heap s.heap [] := va_S.rf
  have hP : va_P (dC, dI) vwCl [(oB, .inr (3, [.ref oN, .ref oU, .ref oH])), (oU, .inr (1, [.ref oN, .ref aU, .ref aW, .ref aO, .ref aS, .ref aG, .ref aB, .int (nI rc), .int (nI cl), .int pL]))] s.heap := hP
  have hl := lv_entry ([.ref oB]) (n := 1) (Nat.le_of_ble_eq_true rfl)
  rw [lg_entry_eq]
  generalize (lg_sl ([.ref oB]) ++ List.replicate (1 - (lg_sl ([.ref oB])).length) Slot.unset).toArray = ls at hl ⊢
  have hl : lv_has ls 1 [(0, .ref oB)] := hl
  refine lv_aload_n hx hb d_BM_length_0 rfl (lv_at hl 0 rfl) ?_
  refine va_get (D := (dC, dI)) (ci := 3) (v := .ref oU) (C := RX3) (T := TX3) (N := 3) hx hb hts in_X3 hown hK hP 0 rfl rfl 1 (by decide) (hts _ lk_BM_29) (fun _ h9 => h9) rfl d_BM_length_1 ?_
  refine va_getN (D := (dC, dI)) (ci := 1) (v := .int pL) (C := RX1) (T := TX1) (N := 10) hx hb hts in_X1 hown hK hP 1 rfl rfl 9 (by decide) (va_Nw.use rfl (hN _ nl_BM_110)) (fun _ h9 => h9) rfl d_BM_length_4 ?_
  exact W.iret (v := pL) hx hb hr (fun t ht hW => ⟨pL, rfl, rfl, ht⟩) (fun q h => by cases h) d_BM_length_7

set_option maxHeartbeats 4000000 in
set_option maxRecDepth 100000 in
theorem k_BM_clear (l : Launch) (dC : Nat → ClassId) (dI : Nat → Nat → Nat) (cI cZ cJ : ClassId) (oB oN oH : Nat) (oU aU aW aO aS aG aB : Nat) (lu : Nat → Int32) (rw og st pg : Nat → Nat) (kn : Nat → Int32) (rc cl : Nat) (pL : Int32) : Met l y_BM_clear (bw y_BM_clear b_BM_clear 1 (some .int)) ({ frames := 0, cells := 0, slots := 0, locals := 0 }) (bx_pR dC dI cI cZ cJ [.ref oB] [(oB, .inr (3, [.ref oN, .ref oU, .ref oH])), (oU, .inr (1, [.ref oN, .ref aU, .ref aW, .ref aO, .ref aS, .ref aG, .ref aB, .int (nI rc), .int (nI cl), .int pL]))]) (bx_qR (fun r => r = nI cl)) 0 0 (fun _ => False) := by
  refine Met.ofW (cc := b_BM_clear) (maxL := 1) (ret := some .int) (by decide) rfl ?_
  intro p e s m args below meth c s₁ B hml hv
  obtain ⟨rfl, hE, hP⟩ := hv
  have hx := B.exec
  have hb := B.bytes
  have hr := B.returns
  have hts9 := atoms_spec (ws := (bw y_BM_clear b_BM_clear 1 (some .int))) B.pre
  have hts : ∀ w ∈ gw, w.before _ s = true := fun w h => hts9 w (List.mem_cons_of_mem _ h)
  have hown : s.vm.findClass RX3 = some m.cls := findClass_of_methodNamed B.named
  have hlocks := B.notSynchronized
  have hK := hE.1
  have hN := hE.2.1
  have hS : va_S (fun _ => False) s.heap s.heap [] := va_S.rf
  have hP : va_P (dC, dI) vwCl [(oB, .inr (3, [.ref oN, .ref oU, .ref oH])), (oU, .inr (1, [.ref oN, .ref aU, .ref aW, .ref aO, .ref aS, .ref aG, .ref aB, .int (nI rc), .int (nI cl), .int pL]))] s.heap := hP
  have hl := lv_entry ([.ref oB]) (n := 1) (Nat.le_of_ble_eq_true rfl)
  rw [lg_entry_eq]
  generalize (lg_sl ([.ref oB]) ++ List.replicate (1 - (lg_sl ([.ref oB])).length) Slot.unset).toArray = ls at hl ⊢
  have hl : lv_has ls 1 [(0, .ref oB)] := hl
  refine lv_aload_n hx hb d_BM_clear_0 rfl (lv_at hl 0 rfl) ?_
  refine va_get (D := (dC, dI)) (ci := 3) (v := .ref oU) (C := RX3) (T := TX3) (N := 3) hx hb hts in_X3 hown hK hP 0 rfl rfl 1 (by decide) (hts _ lk_BM_29) (fun _ h9 => h9) rfl d_BM_clear_1 ?_
  refine va_getN (D := (dC, dI)) (ci := 1) (v := .int (nI cl)) (C := RX1) (T := TX1) (N := 10) hx hb hts in_X1 hown hK hP 1 rfl rfl 8 (by decide) (va_Nw.use rfl (hN _ nl_BM_125)) (fun _ h9 => h9) rfl d_BM_clear_4 ?_
  exact W.iret (v := nI cl) hx hb hr (fun t ht hW => ⟨nI cl, rfl, rfl, ht⟩) (fun q h => by cases h) d_BM_clear_7

set_option maxHeartbeats 4000000 in
set_option maxRecDepth 100000 in
theorem k_BM_seen (l : Launch) (dC : Nat → ClassId) (dI : Nat → Nat → Nat) (cI cZ cJ : ClassId) (oB oN oH : Nat) (oU aU aW aO aS aG aB : Nat) (lu : Nat → Int32) (rw og st pg : Nat → Nat) (kn : Nat → Int32) (rc cl : Nat) (pL : Int32) : Met l y_BM_seen (bw y_BM_seen b_BM_seen 1 (some .int)) ({ frames := 0, cells := 0, slots := 0, locals := 0 }) (bx_pR dC dI cI cZ cJ [.ref oB] [(oB, .inr (3, [.ref oN, .ref oU, .ref oH])), (oU, .inr (1, [.ref oN, .ref aU, .ref aW, .ref aO, .ref aS, .ref aG, .ref aB, .int (nI rc), .int (nI cl), .int pL]))]) (bx_qR (fun r => r = nI rc)) 0 0 (fun _ => False) := by
  refine Met.ofW (cc := b_BM_seen) (maxL := 1) (ret := some .int) (by decide) rfl ?_
  intro p e s m args below meth c s₁ B hml hv
  obtain ⟨rfl, hE, hP⟩ := hv
  have hx := B.exec
  have hb := B.bytes
  have hr := B.returns
  have hts9 := atoms_spec (ws := (bw y_BM_seen b_BM_seen 1 (some .int))) B.pre
  have hts : ∀ w ∈ gw, w.before _ s = true := fun w h => hts9 w (List.mem_cons_of_mem _ h)
  have hown : s.vm.findClass RX3 = some m.cls := findClass_of_methodNamed B.named
  have hlocks := B.notSynchronized
  have hK := hE.1
  have hN := hE.2.1
  have hS : va_S (fun _ => False) s.heap s.heap [] := va_S.rf
  have hP : va_P (dC, dI) vwCl [(oB, .inr (3, [.ref oN, .ref oU, .ref oH])), (oU, .inr (1, [.ref oN, .ref aU, .ref aW, .ref aO, .ref aS, .ref aG, .ref aB, .int (nI rc), .int (nI cl), .int pL]))] s.heap := hP
  have hl := lv_entry ([.ref oB]) (n := 1) (Nat.le_of_ble_eq_true rfl)
  rw [lg_entry_eq]
  generalize (lg_sl ([.ref oB]) ++ List.replicate (1 - (lg_sl ([.ref oB])).length) Slot.unset).toArray = ls at hl ⊢
  have hl : lv_has ls 1 [(0, .ref oB)] := hl
  refine lv_aload_n hx hb d_BM_seen_0 rfl (lv_at hl 0 rfl) ?_
  refine va_get (D := (dC, dI)) (ci := 3) (v := .ref oU) (C := RX3) (T := TX3) (N := 3) hx hb hts in_X3 hown hK hP 0 rfl rfl 1 (by decide) (hts _ lk_BM_29) (fun _ h9 => h9) rfl d_BM_seen_1 ?_
  refine va_getN (D := (dC, dI)) (ci := 1) (v := .int (nI rc)) (C := RX1) (T := TX1) (N := 10) hx hb hts in_X1 hown hK hP 1 rfl rfl 7 (by decide) (va_Nw.use rfl (hN _ nl_BM_128)) (fun _ h9 => h9) rfl d_BM_seen_4 ?_
  exact W.iret (v := nI rc) hx hb hr (fun t ht hW => ⟨nI rc, rfl, rfl, ht⟩) (fun q h => by cases h) d_BM_seen_7

set_option maxHeartbeats 4000000 in
set_option maxRecDepth 100000 in
theorem k_BM_word_ok (l : Launch) (dC : Nat → ClassId) (dI : Nat → Nat → Nat) (cI cZ cJ : ClassId) (oB oN oH : Nat) (oU aU aW aO aS aG aB : Nat) (lu : Nat → Int32) (rw og st pg : Nat → Nat) (kn : Nat → Int32) (rc cl : Nat) (pL : Int32) (k ps : Nat) (hpL : pL = nI ps) (hk : k < ps) (hps : ps ≤ 16384) : Met l y_BM_word (bw y_BM_word b_BM_word 2 (some .int)) ({ frames := 1, cells := 0, slots := 0, locals := 21 }) (bx_pR dC dI cI cZ cJ [.ref oB, .int (nI k)] [(oB, .inr (3, [.ref oN, .ref oU, .ref oH])), (oU, .inr (1, [.ref oN, .ref aU, .ref aW, .ref aO, .ref aS, .ref aG, .ref aB, .int (nI rc), .int (nI cl), .int pL])), (aU, .inl (cI, 100, .inl lu)), (aW, .inl (cI, 16384, .inl (fun z9 => nI (rw z9)))), (aO, .inl (cI, 16384, .inl (fun z9 => nI (og z9)))), (aS, .inl (cI, 16386, .inl (fun z9 => nI (st z9)))), (aG, .inl (cI, 16384, .inl (fun z9 => nI (pg z9)))), (aB, .inl (cI, 512, .inl kn))]) (bx_qR (fun r => r = nI (pg k))) 0 0 (fun _ => False) := by
  refine Met.ofW (cc := b_BM_word) (maxL := 2) (ret := some .int) (by decide) rfl ?_
  intro p e s m args below meth c s₁ B hml hv
  obtain ⟨rfl, hE, hP⟩ := hv
  have hx := B.exec
  have hb := B.bytes
  have hr := B.returns
  have hts9 := atoms_spec (ws := (bw y_BM_word b_BM_word 2 (some .int))) B.pre
  have hts : ∀ w ∈ gw, w.before _ s = true := fun w h => hts9 w (List.mem_cons_of_mem _ h)
  have hown : s.vm.findClass RX3 = some m.cls := findClass_of_methodNamed B.named
  have hlocks := B.notSynchronized
  have hK := hE.1
  have hN := hE.2.1
  have hS : va_S (fun _ => False) s.heap s.heap [] := va_S.rf
  have hP : va_P (dC, dI) vwCl [(oB, .inr (3, [.ref oN, .ref oU, .ref oH])), (oU, .inr (1, [.ref oN, .ref aU, .ref aW, .ref aO, .ref aS, .ref aG, .ref aB, .int (nI rc), .int (nI cl), .int pL])), (aU, .inl (cI, 100, .inl lu)), (aW, .inl (cI, 16384, .inl (fun z9 => nI (rw z9)))), (aO, .inl (cI, 16384, .inl (fun z9 => nI (og z9)))), (aS, .inl (cI, 16386, .inl (fun z9 => nI (st z9)))), (aG, .inl (cI, 16384, .inl (fun z9 => nI (pg z9)))), (aB, .inl (cI, 512, .inl kn))] s.heap := hP
  have hl := lv_entry ([.ref oB, .int (nI k)]) (n := 2) (Nat.le_of_ble_eq_true rfl)
  rw [lg_entry_eq]
  generalize (lg_sl ([.ref oB, .int (nI k)]) ++ List.replicate (2 - (lg_sl ([.ref oB, .int (nI k)])).length) Slot.unset).toArray = ls at hl ⊢
  have hl : lv_has ls 2 [(0, .ref oB), (1, .int (nI k))] := hl
  refine lv_iload_n hx hb d_BM_word_0 rfl (lv_at hl 1 rfl) ?_
  refine lv_if_lt (tgt := 15) hx hb d_BM_word_1 (by decide) (fun c9 => absurd c9 (nI_pos (by omega))) (fun _ => ?_)
  refine lv_iload_n hx hb d_BM_word_4 rfl (lv_at hl 1 rfl) ?_
  refine lv_aload_n hx hb d_BM_word_5 rfl (lv_at hl 0 rfl) ?_
  refine va_get (D := (dC, dI)) (ci := 3) (v := .ref oU) (C := RX3) (T := TX3) (N := 3) hx hb hts in_X3 hown hK hP 0 rfl rfl 1 (by decide) (hts _ lk_BM_29) (fun _ h9 => h9) rfl d_BM_word_6 ?_
  refine va_getN (D := (dC, dI)) (ci := 1) (v := .int pL) (C := RX1) (T := TX1) (N := 10) hx hb hts in_X1 hown hK hP 1 rfl rfl 9 (by decide) (va_Nw.use rfl (hN _ nl_BM_110)) (fun _ h9 => h9) rfl d_BM_word_9 ?_
  refine lv_icmp_lt (tgt := 25) hx hb d_BM_word_12 (by decide) (fun _ => ?_) (fun c9 => absurd (by rw [hpL]; exact nI_lt hk (by omega)) c9)
  refine lv_aload_n hx hb d_BM_word_25 rfl (lv_at hl 0 rfl) ?_
  refine va_get (D := (dC, dI)) (ci := 3) (v := .ref oU) (C := RX3) (T := TX3) (N := 3) hx hb hts in_X3 hown hK hP 0 rfl rfl 1 (by decide) (hts _ lk_BM_29) (fun _ h9 => h9) rfl d_BM_word_26 ?_
  refine lv_iload_n hx hb d_BM_word_29 rfl (lv_at hl 1 rfl) ?_
  have hPc := hP.sub (ws' := [(oU, .inr (1, [.ref oN, .ref aU, .ref aW, .ref aO, .ref aS, .ref aG, .ref aB, .int (nI rc), .int (nI cl), .int pL])), (aU, .inl (cI, 100, .inl lu)), (aW, .inl (cI, 16384, .inl (fun z9 => nI (rw z9)))), (aO, .inl (cI, 16384, .inl (fun z9 => nI (og z9)))), (aS, .inl (cI, 16386, .inl (fun z9 => nI (st z9)))), (aG, .inl (cI, 16384, .inl (fun z9 => nI (pg z9)))), (aB, .inl (cI, 512, .inl kn))]) [1, 2, 3, 4, 5, 6, 7] rfl
  refine bx_callR (va_runVN (As := [.int (nI k)]) (rest := []) ⟨hx, hb, hml, hown, hts⟩ (k_Hunt_programWord l dC dI cI cZ cJ oN oU aU aW aO aS aG aB 16384 16386 512 lu rw og st pg kn rc cl pL k (by omega) (by decide)) (bx_nV (n := 1) hts hN mc_Hunt_programWord nl_BM_121 mi_Hunt_programWord ms_Hunt_programWord ini_Hunt (by decide +kernel) ⟨Nat.le_of_ble_eq_true rfl, Nat.le_of_ble_eq_true rfl⟩) (bx_prV hE hS hPc (ci := 1) (q0 := 0) rfl rfl) rfl rfl hl.1 rfl (lv_room (Nat.le_of_ble_eq_true rfl)) d_BM_word_30 ⟨Nat.zero_le _, Nat.zero_le _⟩) (fun r_1 hw_r_1 => ?_)
  refine bx_top (y := nI (pg k)) hw_r_1 ?_
  exact W.iret (v := nI (pg k)) hx hb hr (fun t ht hW => ⟨nI (pg k), rfl, rfl, ht⟩) (fun q h => by cases h) d_BM_word_33

set_option maxHeartbeats 4000000 in
set_option maxRecDepth 100000 in
theorem k_BM_word_bad (l : Launch) (dC : Nat → ClassId) (dI : Nat → Nat → Nat) (cI cZ cJ : ClassId) (oB oN oH : Nat) (oU aU aW aO aS aG aB : Nat) (lu : Nat → Int32) (rw og st pg : Nat → Nat) (kn : Nat → Int32) (rc cl : Nat) (pL : Int32) (x : Int32) (hbad : ¬ (¬ x < 0 ∧ x < pL)) (hst : l.stackTraces = false) : vx_Met l y_BM_word (bw y_BM_word b_BM_word 2 (some .int)) ({ frames := 6, cells := 1, slots := 6, locals := 82 }) (bx_pX dC dI cI cZ cJ [.ref oB, .int x] [(oB, .inr (3, [.ref oN, .ref oU, .ref oH])), (oU, .inr (1, [.ref oN, .ref aU, .ref aW, .ref aO, .ref aS, .ref aG, .ref aB, .int (nI rc), .int (nI cl), .int pL]))]) bx_qX (bx_tX "java/lang/IndexOutOfBoundsException") 1 6 (fun _ => False) := by
  refine vx_ofW (cc := b_BM_word) (maxL := 2) (ret := some .int) (by decide) rfl ?_
  intro p e s m args below meth c s₁ B hml hno hv
  obtain ⟨rfl, hE, hX, hP⟩ := hv
  have hx := B.exec
  have hb := B.bytes
  have hr := B.returns
  have hts9 := atoms_spec (ws := (bw y_BM_word b_BM_word 2 (some .int))) B.pre
  have hts : ∀ w ∈ gw, w.before _ s = true := fun w h => hts9 w (List.mem_cons_of_mem _ h)
  have hown : s.vm.findClass RX3 = some m.cls := findClass_of_methodNamed B.named
  have hlocks := B.notSynchronized
  have hK := hE.1
  have hN := hE.2.1
  have hS : va_S (fun _ => False) s.heap s.heap [] := va_S.rf
  have hP : va_P (dC, dI) vwCl [(oB, .inr (3, [.ref oN, .ref oU, .ref oH])), (oU, .inr (1, [.ref oN, .ref aU, .ref aW, .ref aO, .ref aS, .ref aG, .ref aB, .int (nI rc), .int (nI cl), .int pL]))] s.heap := hP
  have hl := lv_entry ([.ref oB, .int x]) (n := 2) (Nat.le_of_ble_eq_true rfl)
  rw [lg_entry_eq]
  generalize (lg_sl ([.ref oB, .int x]) ++ List.replicate (2 - (lg_sl ([.ref oB, .int x])).length) Slot.unset).toArray = ls at hl ⊢
  have hl : lv_has ls 2 [(0, .ref oB), (1, .int x)] := hl
  refine lv_iload_n hx hb d_BM_word_0 rfl (lv_at hl 1 rfl) ?_
  refine lv_if_lt (tgt := 15) hx hb d_BM_word_1 (by decide) (fun c_1 => ?_) (fun c_1 => ?_)
  · exact bx_thr hx hb hst (cls := "java/lang/IndexOutOfBoundsException") (text := "no such word") hown hts hX (by decide +kernel) lk_BM_116 ini_IndexOutOfBoundsException xg_120 xb_120 (by decide +kernel) (by rw [hml]; exact hl.1) d_BM_word_15 d_BM_word_18 d_BM_word_19 d_BM_word_21 d_BM_word_24 hno ⟨Nat.le_of_ble_eq_true rfl, Nat.le_of_ble_eq_true rfl, Nat.le_of_ble_eq_true rfl, Nat.le_of_ble_eq_true rfl⟩ hlocks
  · refine lv_iload_n hx hb d_BM_word_4 rfl (lv_at hl 1 rfl) ?_
    refine lv_aload_n hx hb d_BM_word_5 rfl (lv_at hl 0 rfl) ?_
    refine va_get (D := (dC, dI)) (ci := 3) (v := .ref oU) (C := RX3) (T := TX3) (N := 3) hx hb hts in_X3 hown hK hP 0 rfl rfl 1 (by decide) (hts _ lk_BM_29) (fun _ h9 => h9) rfl d_BM_word_6 ?_
    refine va_getN (D := (dC, dI)) (ci := 1) (v := .int pL) (C := RX1) (T := TX1) (N := 10) hx hb hts in_X1 hown hK hP 1 rfl rfl 9 (by decide) (va_Nw.use rfl (hN _ nl_BM_110)) (fun _ h9 => h9) rfl d_BM_word_9 ?_
    refine lv_icmp_lt (tgt := 25) hx hb d_BM_word_12 (by decide) (fun c9 => absurd c9 (fun h => hbad ⟨c_1, h⟩)) (fun _ => ?_)
    exact bx_thr hx hb hst (cls := "java/lang/IndexOutOfBoundsException") (text := "no such word") hown hts hX (by decide +kernel) lk_BM_116 ini_IndexOutOfBoundsException xg_120 xb_120 (by decide +kernel) (by rw [hml]; exact hl.1) d_BM_word_15 d_BM_word_18 d_BM_word_19 d_BM_word_21 d_BM_word_24 hno ⟨Nat.le_of_ble_eq_true rfl, Nat.le_of_ble_eq_true rfl, Nat.le_of_ble_eq_true rfl, Nat.le_of_ble_eq_true rfl⟩ hlocks

set_option maxHeartbeats 4000000 in
set_option maxRecDepth 100000 in
theorem k_BM_level_ok (l : Launch) (dC : Nat → ClassId) (dI : Nat → Nat → Nat) (cI cZ cJ : ClassId) (oB oN oH : Nat) (oU aU aW aO aS aG aB : Nat) (lu : Nat → Int32) (rw og st pg : Nat → Nat) (kn : Nat → Int32) (rc cl : Nat) (pL : Int32) (k : Nat) (hk : k ≤ cl) (hcl : cl ≤ 16384) (hrc : rc ≤ 16384) (hst : rc ≠ 0 → st k ≤ st (k + 1)) : Met l y_BM_level (bw y_BM_level b_BM_level 2 (some .int)) ({ frames := 1, cells := 0, slots := 0, locals := 21 }) (bx_pR dC dI cI cZ cJ [.ref oB, .int (nI k)] [(oB, .inr (3, [.ref oN, .ref oU, .ref oH])), (oU, .inr (1, [.ref oN, .ref aU, .ref aW, .ref aO, .ref aS, .ref aG, .ref aB, .int (nI rc), .int (nI cl), .int pL])), (aU, .inl (cI, 100, .inl lu)), (aW, .inl (cI, 16384, .inl (fun z9 => nI (rw z9)))), (aO, .inl (cI, 16384, .inl (fun z9 => nI (og z9)))), (aS, .inl (cI, 16386, .inl (fun z9 => nI (st z9)))), (aG, .inl (cI, 16384, .inl (fun z9 => nI (pg z9)))), (aB, .inl (cI, 512, .inl kn))]) (bx_qR (fun r => r = nI (if rc = 0 then 0 else st (k + 1) - st k))) 0 0 (fun _ => False) := by
  refine Met.ofW (cc := b_BM_level) (maxL := 2) (ret := some .int) (by decide) rfl ?_
  intro p e s m args below meth c s₁ B hml hv
  obtain ⟨rfl, hE, hP⟩ := hv
  have hx := B.exec
  have hb := B.bytes
  have hr := B.returns
  have hts9 := atoms_spec (ws := (bw y_BM_level b_BM_level 2 (some .int))) B.pre
  have hts : ∀ w ∈ gw, w.before _ s = true := fun w h => hts9 w (List.mem_cons_of_mem _ h)
  have hown : s.vm.findClass RX3 = some m.cls := findClass_of_methodNamed B.named
  have hlocks := B.notSynchronized
  have hK := hE.1
  have hN := hE.2.1
  have hS : va_S (fun _ => False) s.heap s.heap [] := va_S.rf
  have hP : va_P (dC, dI) vwCl [(oB, .inr (3, [.ref oN, .ref oU, .ref oH])), (oU, .inr (1, [.ref oN, .ref aU, .ref aW, .ref aO, .ref aS, .ref aG, .ref aB, .int (nI rc), .int (nI cl), .int pL])), (aU, .inl (cI, 100, .inl lu)), (aW, .inl (cI, 16384, .inl (fun z9 => nI (rw z9)))), (aO, .inl (cI, 16384, .inl (fun z9 => nI (og z9)))), (aS, .inl (cI, 16386, .inl (fun z9 => nI (st z9)))), (aG, .inl (cI, 16384, .inl (fun z9 => nI (pg z9)))), (aB, .inl (cI, 512, .inl kn))] s.heap := hP
  have hl := lv_entry ([.ref oB, .int (nI k)]) (n := 2) (Nat.le_of_ble_eq_true rfl)
  rw [lg_entry_eq]
  generalize (lg_sl ([.ref oB, .int (nI k)]) ++ List.replicate (2 - (lg_sl ([.ref oB, .int (nI k)])).length) Slot.unset).toArray = ls at hl ⊢
  have hl : lv_has ls 2 [(0, .ref oB), (1, .int (nI k))] := hl
  refine lv_iload_n hx hb d_BM_level_0 rfl (lv_at hl 1 rfl) ?_
  refine lv_if_lt (tgt := 15) hx hb d_BM_level_1 (by decide) (fun c9 => absurd c9 (nI_pos (by omega))) (fun _ => ?_)
  refine lv_iload_n hx hb d_BM_level_4 rfl (lv_at hl 1 rfl) ?_
  refine lv_aload_n hx hb d_BM_level_5 rfl (lv_at hl 0 rfl) ?_
  refine va_get (D := (dC, dI)) (ci := 3) (v := .ref oU) (C := RX3) (T := TX3) (N := 3) hx hb hts in_X3 hown hK hP 0 rfl rfl 1 (by decide) (hts _ lk_BM_29) (fun _ h9 => h9) rfl d_BM_level_6 ?_
  refine va_getN (D := (dC, dI)) (ci := 1) (v := .int (nI cl)) (C := RX1) (T := TX1) (N := 10) hx hb hts in_X1 hown hK hP 1 rfl rfl 8 (by decide) (va_Nw.use rfl (hN _ nl_BM_125)) (fun _ h9 => h9) rfl d_BM_level_9 ?_
  refine lv_icmp_le (tgt := 25) hx hb d_BM_level_12 (by decide) (fun _ => ?_) (fun c9 => absurd (nI_le hk (by omega)) c9)
  refine lv_aload_n hx hb d_BM_level_25 rfl (lv_at hl 0 rfl) ?_
  refine va_get (D := (dC, dI)) (ci := 3) (v := .ref oU) (C := RX3) (T := TX3) (N := 3) hx hb hts in_X3 hown hK hP 0 rfl rfl 1 (by decide) (hts _ lk_BM_29) (fun _ h9 => h9) rfl d_BM_level_26 ?_
  refine lv_iload_n hx hb d_BM_level_29 rfl (lv_at hl 1 rfl) ?_
  have hPc := hP.sub (ws' := [(oU, .inr (1, [.ref oN, .ref aU, .ref aW, .ref aO, .ref aS, .ref aG, .ref aB, .int (nI rc), .int (nI cl), .int pL])), (aU, .inl (cI, 100, .inl lu)), (aW, .inl (cI, 16384, .inl (fun z9 => nI (rw z9)))), (aO, .inl (cI, 16384, .inl (fun z9 => nI (og z9)))), (aS, .inl (cI, 16386, .inl (fun z9 => nI (st z9)))), (aG, .inl (cI, 16384, .inl (fun z9 => nI (pg z9)))), (aB, .inl (cI, 512, .inl kn))]) [1, 2, 3, 4, 5, 6, 7] rfl
  refine bx_callR (va_runVN (As := [.int (nI k)]) (rest := []) ⟨hx, hb, hml, hown, hts⟩ (k_Hunt_rowsOfLevel l dC dI cI cZ cJ oN oU aU aW aO aS aG aB 16384 16386 512 lu rw og st pg kn rc cl pL k (by omega) (fun h => ⟨by omega, hst h⟩) (by decide)) (bx_nV (n := 1) hts hN mc_Hunt_rowsOfLevel nl_BM_133 mi_Hunt_rowsOfLevel ms_Hunt_rowsOfLevel ini_Hunt (by decide +kernel) ⟨Nat.le_of_ble_eq_true rfl, Nat.le_of_ble_eq_true rfl⟩) (bx_prV hE hS hPc (ci := 1) (q0 := 0) rfl rfl) rfl rfl hl.1 rfl (lv_room (Nat.le_of_ble_eq_true rfl)) d_BM_level_30 ⟨Nat.zero_le _, Nat.zero_le _⟩) (fun r_1 hw_r_1 => ?_)
  refine bx_top (y := nI (if rc = 0 then 0 else st (k + 1) - st k)) hw_r_1 ?_
  exact W.iret (v := nI (if rc = 0 then 0 else st (k + 1) - st k)) hx hb hr (fun t ht hW => ⟨nI (if rc = 0 then 0 else st (k + 1) - st k), rfl, rfl, ht⟩) (fun q h => by cases h) d_BM_level_33

set_option maxHeartbeats 4000000 in
set_option maxRecDepth 100000 in
theorem k_BM_level_bad (l : Launch) (dC : Nat → ClassId) (dI : Nat → Nat → Nat) (cI cZ cJ : ClassId) (oB oN oH : Nat) (oU aU aW aO aS aG aB : Nat) (lu : Nat → Int32) (rw og st pg : Nat → Nat) (kn : Nat → Int32) (rc cl : Nat) (pL : Int32) (x : Int32) (hbad : ¬ (¬ x < 0 ∧ x ≤ nI cl)) (hst : l.stackTraces = false) : vx_Met l y_BM_level (bw y_BM_level b_BM_level 2 (some .int)) ({ frames := 6, cells := 1, slots := 6, locals := 82 }) (bx_pX dC dI cI cZ cJ [.ref oB, .int x] [(oB, .inr (3, [.ref oN, .ref oU, .ref oH])), (oU, .inr (1, [.ref oN, .ref aU, .ref aW, .ref aO, .ref aS, .ref aG, .ref aB, .int (nI rc), .int (nI cl), .int pL]))]) bx_qX (bx_tX "java/lang/IndexOutOfBoundsException") 1 6 (fun _ => False) := by
  refine vx_ofW (cc := b_BM_level) (maxL := 2) (ret := some .int) (by decide) rfl ?_
  intro p e s m args below meth c s₁ B hml hno hv
  obtain ⟨rfl, hE, hX, hP⟩ := hv
  have hx := B.exec
  have hb := B.bytes
  have hr := B.returns
  have hts9 := atoms_spec (ws := (bw y_BM_level b_BM_level 2 (some .int))) B.pre
  have hts : ∀ w ∈ gw, w.before _ s = true := fun w h => hts9 w (List.mem_cons_of_mem _ h)
  have hown : s.vm.findClass RX3 = some m.cls := findClass_of_methodNamed B.named
  have hlocks := B.notSynchronized
  have hK := hE.1
  have hN := hE.2.1
  have hS : va_S (fun _ => False) s.heap s.heap [] := va_S.rf
  have hP : va_P (dC, dI) vwCl [(oB, .inr (3, [.ref oN, .ref oU, .ref oH])), (oU, .inr (1, [.ref oN, .ref aU, .ref aW, .ref aO, .ref aS, .ref aG, .ref aB, .int (nI rc), .int (nI cl), .int pL]))] s.heap := hP
  have hl := lv_entry ([.ref oB, .int x]) (n := 2) (Nat.le_of_ble_eq_true rfl)
  rw [lg_entry_eq]
  generalize (lg_sl ([.ref oB, .int x]) ++ List.replicate (2 - (lg_sl ([.ref oB, .int x])).length) Slot.unset).toArray = ls at hl ⊢
  have hl : lv_has ls 2 [(0, .ref oB), (1, .int x)] := hl
  refine lv_iload_n hx hb d_BM_level_0 rfl (lv_at hl 1 rfl) ?_
  refine lv_if_lt (tgt := 15) hx hb d_BM_level_1 (by decide) (fun c_1 => ?_) (fun c_1 => ?_)
  · exact bx_thr hx hb hst (cls := "java/lang/IndexOutOfBoundsException") (text := "no such level") hown hts hX (by decide +kernel) lk_BM_116 ini_IndexOutOfBoundsException xg_120 xb_120 (by decide +kernel) (by rw [hml]; exact hl.1) d_BM_level_15 d_BM_level_18 d_BM_level_19 d_BM_level_21 d_BM_level_24 hno ⟨Nat.le_of_ble_eq_true rfl, Nat.le_of_ble_eq_true rfl, Nat.le_of_ble_eq_true rfl, Nat.le_of_ble_eq_true rfl⟩ hlocks
  · refine lv_iload_n hx hb d_BM_level_4 rfl (lv_at hl 1 rfl) ?_
    refine lv_aload_n hx hb d_BM_level_5 rfl (lv_at hl 0 rfl) ?_
    refine va_get (D := (dC, dI)) (ci := 3) (v := .ref oU) (C := RX3) (T := TX3) (N := 3) hx hb hts in_X3 hown hK hP 0 rfl rfl 1 (by decide) (hts _ lk_BM_29) (fun _ h9 => h9) rfl d_BM_level_6 ?_
    refine va_getN (D := (dC, dI)) (ci := 1) (v := .int (nI cl)) (C := RX1) (T := TX1) (N := 10) hx hb hts in_X1 hown hK hP 1 rfl rfl 8 (by decide) (va_Nw.use rfl (hN _ nl_BM_125)) (fun _ h9 => h9) rfl d_BM_level_9 ?_
    refine lv_icmp_le (tgt := 25) hx hb d_BM_level_12 (by decide) (fun c9 => absurd c9 (fun h => hbad ⟨c_1, h⟩)) (fun _ => ?_)
    exact bx_thr hx hb hst (cls := "java/lang/IndexOutOfBoundsException") (text := "no such level") hown hts hX (by decide +kernel) lk_BM_116 ini_IndexOutOfBoundsException xg_120 xb_120 (by decide +kernel) (by rw [hml]; exact hl.1) d_BM_level_15 d_BM_level_18 d_BM_level_19 d_BM_level_21 d_BM_level_24 hno ⟨Nat.le_of_ble_eq_true rfl, Nat.le_of_ble_eq_true rfl, Nat.le_of_ble_eq_true rfl, Nat.le_of_ble_eq_true rfl⟩ hlocks

set_option maxHeartbeats 4000000 in
set_option maxRecDepth 100000 in
theorem k_BM_begin (l : Launch) (dC : Nat → ClassId) (dI : Nat → Nat → Nat) (cI cZ cJ : ClassId) (sz : Nat) (oB : Nat) (oN aK aL aR aX aP aQ wb n sc s1 np fr : Nat) (kd lf rt nx pl pr : Nat → Nat) (oU : Nat) (oH aY rh la ch : Nat) (fp : Int32) (lh : Nat → Int32) (hwf : bm_wf wb n sc kd lf rt) : Met l y_BM_begin (bw y_BM_begin b_BM_begin 1 (none)) ({ frames := 3, cells := 0, slots := 0, locals := 63 }) (bx_pW dC dI cI cZ cJ [.ref oB] [(oB, .inr (3, [.ref oN, .ref oU, .ref oH])), (oN, .inr (2, [.int (nI wb), .int (nI (2 ^ wb)), .ref aK, .ref aL, .ref aR, .ref aX, .ref aP, .ref aQ, .int (nI n), .int (nI sc), .int (nI s1), .int (nI np), .int (nI fr)])), (aK, .inl (cI, 100, .inl (fun z9 => nI (kd z9)))), (aL, .inl (cI, 100, .inl (fun z9 => nI (lf z9)))), (aR, .inl (cI, 100, .inl (fun z9 => nI (rt z9)))), (aX, .inl (cI, 14, .inl (fun z9 => nI (nx z9)))), (aP, .inl (cI, 16, .inl (fun z9 => nI (pl z9)))), (aQ, .inl (cI, 16, .inl (fun z9 => nI (pr z9)))), (oH, .inr (0, [.ref oN, .ref aY, .int (nI rh), .int (nI la), .int (nI ch), .int fp])), (aY, .inl (cI, 100, .inl lh))] sz) (va_Qv (fun (ln : Nat → Int32) => bm_fst kd lf fr ln n) (bx_B dC dI (va_A [(oB, .inr (3, [.ref oN, .ref oU, .ref oH])), (oN, .inr (2, [.int (nI wb), .int (nI (2 ^ wb)), .ref aK, .ref aL, .ref aR, .ref aX, .ref aP, .ref aQ, .int (nI n), .int (nI sc), .int (nI s1), .int (nI np), .int (nI fr)])), (aK, .inl (cI, 100, .inl (fun z9 => nI (kd z9)))), (aL, .inl (cI, 100, .inl (fun z9 => nI (lf z9)))), (aR, .inl (cI, 100, .inl (fun z9 => nI (rt z9)))), (aX, .inl (cI, 14, .inl (fun z9 => nI (nx z9)))), (aP, .inl (cI, 16, .inl (fun z9 => nI (pl z9)))), (aQ, .inl (cI, 16, .inl (fun z9 => nI (pr z9)))), (oH, .inr (0, [.ref oN, .ref aY, .int (nI rh), .int (nI la), .int (nI ch), .int fp])), (aY, .inl (cI, 100, .inl lh))] sz) (fun (ln : Nat → Int32) => ([(oB, .inr (3, [.ref oN, .ref oU, .ref oH])), (oN, .inr (2, [.int (nI wb), .int (nI (2 ^ wb)), .ref aK, .ref aL, .ref aR, .ref aX, .ref aP, .ref aQ, .int (nI n), .int (nI sc), .int (nI s1), .int (nI np), .int (nI fr)])), (aK, .inl (cI, 100, .inl (fun z9 => nI (kd z9)))), (aL, .inl (cI, 100, .inl (fun z9 => nI (lf z9)))), (aR, .inl (cI, 100, .inl (fun z9 => nI (rt z9)))), (aX, .inl (cI, 14, .inl (fun z9 => nI (nx z9)))), (aP, .inl (cI, 16, .inl (fun z9 => nI (pl z9)))), (aQ, .inl (cI, 16, .inl (fun z9 => nI (pr z9)))), (oH, .inr (0, [.ref oN, .ref aY, .int (nI fr), .int (nI 0), .int (nI 0), .int (-1)])), (aY, .inl (cI, 100, .inl ln))] : va_W))) (va_A [(oB, .inr (3, [.ref oN, .ref oU, .ref oH])), (oN, .inr (2, [.int (nI wb), .int (nI (2 ^ wb)), .ref aK, .ref aL, .ref aR, .ref aX, .ref aP, .ref aQ, .int (nI n), .int (nI sc), .int (nI s1), .int (nI np), .int (nI fr)])), (aK, .inl (cI, 100, .inl (fun z9 => nI (kd z9)))), (aL, .inl (cI, 100, .inl (fun z9 => nI (lf z9)))), (aR, .inl (cI, 100, .inl (fun z9 => nI (rt z9)))), (aX, .inl (cI, 14, .inl (fun z9 => nI (nx z9)))), (aP, .inl (cI, 16, .inl (fun z9 => nI (pl z9)))), (aQ, .inl (cI, 16, .inl (fun z9 => nI (pr z9)))), (oH, .inr (0, [.ref oN, .ref aY, .int (nI rh), .int (nI la), .int (nI ch), .int fp])), (aY, .inl (cI, 100, .inl lh))] sz)) 0 0 (va_A [(oB, .inr (3, [.ref oN, .ref oU, .ref oH])), (oN, .inr (2, [.int (nI wb), .int (nI (2 ^ wb)), .ref aK, .ref aL, .ref aR, .ref aX, .ref aP, .ref aQ, .int (nI n), .int (nI sc), .int (nI s1), .int (nI np), .int (nI fr)])), (aK, .inl (cI, 100, .inl (fun z9 => nI (kd z9)))), (aL, .inl (cI, 100, .inl (fun z9 => nI (lf z9)))), (aR, .inl (cI, 100, .inl (fun z9 => nI (rt z9)))), (aX, .inl (cI, 14, .inl (fun z9 => nI (nx z9)))), (aP, .inl (cI, 16, .inl (fun z9 => nI (pl z9)))), (aQ, .inl (cI, 16, .inl (fun z9 => nI (pr z9)))), (oH, .inr (0, [.ref oN, .ref aY, .int (nI rh), .int (nI la), .int (nI ch), .int fp])), (aY, .inl (cI, 100, .inl lh))] sz) := by
  refine Met.ofW (cc := b_BM_begin) (maxL := 1) (ret := none) (by decide) rfl ?_
  intro p e s m args below meth c s₁ B hml hv
  obtain ⟨rfl, hsz, hE, hP, hD0⟩ := hv
  have hx := B.exec
  have hb := B.bytes
  have hr := B.returns
  have hts9 := atoms_spec (ws := (bw y_BM_begin b_BM_begin 1 (none))) B.pre
  have hts : ∀ w ∈ gw, w.before _ s = true := fun w h => hts9 w (List.mem_cons_of_mem _ h)
  have hown : s.vm.findClass RX3 = some m.cls := findClass_of_methodNamed B.named
  have hlocks := B.notSynchronized
  subst hsz
  have hD := hD0.self (sz := s.heap.size)
  generalize hAe : va_A [(oB, .inr (3, [.ref oN, .ref oU, .ref oH])), (oN, .inr (2, [.int (nI wb), .int (nI (2 ^ wb)), .ref aK, .ref aL, .ref aR, .ref aX, .ref aP, .ref aQ, .int (nI n), .int (nI sc), .int (nI s1), .int (nI np), .int (nI fr)])), (aK, .inl (cI, 100, .inl (fun z9 => nI (kd z9)))), (aL, .inl (cI, 100, .inl (fun z9 => nI (lf z9)))), (aR, .inl (cI, 100, .inl (fun z9 => nI (rt z9)))), (aX, .inl (cI, 14, .inl (fun z9 => nI (nx z9)))), (aP, .inl (cI, 16, .inl (fun z9 => nI (pl z9)))), (aQ, .inl (cI, 16, .inl (fun z9 => nI (pr z9)))), (oH, .inr (0, [.ref oN, .ref aY, .int (nI rh), .int (nI la), .int (nI ch), .int fp])), (aY, .inl (cI, 100, .inl lh))] s.heap.size = A at hE hD ⊢
  have hA : ∀ q : Nat, s.heap.size ≤ q → A q := fun q h => by rw [← hAe]; exact Or.inr h
  have hS : va_S A s.heap s.heap [] := va_S.rf
  have hK := hE.1
  have hN := hE.2.1
  have hP : va_P (dC, dI) vwCl [(oB, .inr (3, [.ref oN, .ref oU, .ref oH])), (oN, .inr (2, [.int (nI wb), .int (nI (2 ^ wb)), .ref aK, .ref aL, .ref aR, .ref aX, .ref aP, .ref aQ, .int (nI n), .int (nI sc), .int (nI s1), .int (nI np), .int (nI fr)])), (aK, .inl (cI, 100, .inl (fun z9 => nI (kd z9)))), (aL, .inl (cI, 100, .inl (fun z9 => nI (lf z9)))), (aR, .inl (cI, 100, .inl (fun z9 => nI (rt z9)))), (aX, .inl (cI, 14, .inl (fun z9 => nI (nx z9)))), (aP, .inl (cI, 16, .inl (fun z9 => nI (pl z9)))), (aQ, .inl (cI, 16, .inl (fun z9 => nI (pr z9)))), (oH, .inr (0, [.ref oN, .ref aY, .int (nI rh), .int (nI la), .int (nI ch), .int fp])), (aY, .inl (cI, 100, .inl lh))] s.heap := hP
  have hl := lv_entry ([.ref oB]) (n := 1) (Nat.le_of_ble_eq_true rfl)
  rw [lg_entry_eq]
  generalize (lg_sl ([.ref oB]) ++ List.replicate (1 - (lg_sl ([.ref oB])).length) Slot.unset).toArray = ls at hl ⊢
  have hl : lv_has ls 1 [(0, .ref oB)] := hl
  refine lv_aload_n hx hb d_BM_begin_0 rfl (lv_at hl 0 rfl) ?_
  refine va_get (D := (dC, dI)) (ci := 3) (v := .ref oH) (C := RX3) (T := TX3) (N := 3) hx hb hts in_X3 hown hK hP 0 rfl rfl 2 (by decide) (hts _ lk_BM_36) (fun _ h9 => h9) rfl d_BM_begin_1 ?_
  have hPc := hP.sub (ws' := [(oN, .inr (2, [.int (nI wb), .int (nI (2 ^ wb)), .ref aK, .ref aL, .ref aR, .ref aX, .ref aP, .ref aQ, .int (nI n), .int (nI sc), .int (nI s1), .int (nI np), .int (nI fr)])), (aK, .inl (cI, 100, .inl (fun z9 => nI (kd z9)))), (aL, .inl (cI, 100, .inl (fun z9 => nI (lf z9)))), (aR, .inl (cI, 100, .inl (fun z9 => nI (rt z9)))), (aX, .inl (cI, 14, .inl (fun z9 => nI (nx z9)))), (aP, .inl (cI, 16, .inl (fun z9 => nI (pl z9)))), (aQ, .inl (cI, 16, .inl (fun z9 => nI (pr z9)))), (oH, .inr (0, [.ref oN, .ref aY, .int (nI rh), .int (nI la), .int (nI ch), .int fp])), (aY, .inl (cI, 100, .inl lh))]) [1, 2, 3, 4, 5, 6, 7, 8, 9] rfl
  have hDc := hD.sub (ws' := [(oN, .inr (2, [.int (nI wb), .int (nI (2 ^ wb)), .ref aK, .ref aL, .ref aR, .ref aX, .ref aP, .ref aQ, .int (nI n), .int (nI sc), .int (nI s1), .int (nI np), .int (nI fr)])), (aK, .inl (cI, 100, .inl (fun z9 => nI (kd z9)))), (aL, .inl (cI, 100, .inl (fun z9 => nI (lf z9)))), (aR, .inl (cI, 100, .inl (fun z9 => nI (rt z9)))), (aX, .inl (cI, 14, .inl (fun z9 => nI (nx z9)))), (aP, .inl (cI, 16, .inl (fun z9 => nI (pl z9)))), (aQ, .inl (cI, 16, .inl (fun z9 => nI (pr z9)))), (oH, .inr (0, [.ref oN, .ref aY, .int (nI rh), .int (nI la), .int (nI ch), .int fp])), (aY, .inl (cI, 100, .inl lh))]) [1, 2, 3, 4, 5, 6, 7, 8, 9] (by decide) rfl
  have hFc := va_free (wc := [(oN, .inr (2, [.int (nI wb), .int (nI (2 ^ wb)), .ref aK, .ref aL, .ref aR, .ref aX, .ref aP, .ref aQ, .int (nI n), .int (nI sc), .int (nI s1), .int (nI np), .int (nI fr)])), (aK, .inl (cI, 100, .inl (fun z9 => nI (kd z9)))), (aL, .inl (cI, 100, .inl (fun z9 => nI (lf z9)))), (aR, .inl (cI, 100, .inl (fun z9 => nI (rt z9)))), (aX, .inl (cI, 14, .inl (fun z9 => nI (nx z9)))), (aP, .inl (cI, 16, .inl (fun z9 => nI (pl z9)))), (aQ, .inl (cI, 16, .inl (fun z9 => nI (pr z9)))), (oH, .inr (0, [.ref oN, .ref aY, .int (nI rh), .int (nI la), .int (nI ch), .int fp])), (aY, .inl (cI, 100, .inl lh))]) hD hS hA [1, 2, 3, 4, 5, 6, 7, 8, 9] rfl
  refine va_callv (va_runVN (As := []) (rest := []) ⟨hx, hb, hml, hown, hts⟩ (k_Hand_restart l dC dI cI cZ cJ s.heap.size oN aK aL aR aX aP aQ wb n sc s1 np fr kd lf rt nx pl pr oH aY rh la ch fp lh hwf) (bx_nV (n := 0) hts hN mc_Hand_restart nl_BM_136 mi_Hand_restart ms_Hand_restart ini_Hand (by decide +kernel) ⟨Nat.le_of_ble_eq_true rfl, Nat.le_of_ble_eq_true rfl⟩) (bx_pwV hE hS hPc hDc hFc (ci := 0) (q0 := 7) rfl rfl) rfl rfl hl.1 rfl (lv_room (Nat.le_of_ble_eq_true rfl)) d_BM_begin_4 ⟨Nat.le_of_ble_eq_true rfl, Nat.le_of_ble_eq_true rfl⟩) hS (fun q _ h => hFc q h) hFc (fun ln t H1 locs ht hvm hw hB hz1 hk1 hS => ?_)
  obtain ⟨hP1, hD1⟩ := hB
  rw [ht] at hP1
  obtain ⟨hP, hD⟩ := va_join (wr := [(oB, .inr (3, [.ref oN, .ref oU, .ref oH]))]) (w1 := [(oN, .inr (2, [.int (nI wb), .int (nI (2 ^ wb)), .ref aK, .ref aL, .ref aR, .ref aX, .ref aP, .ref aQ, .int (nI n), .int (nI sc), .int (nI s1), .int (nI np), .int (nI fr)])), (aK, .inl (cI, 100, .inl (fun z9 => nI (kd z9)))), (aL, .inl (cI, 100, .inl (fun z9 => nI (lf z9)))), (aR, .inl (cI, 100, .inl (fun z9 => nI (rt z9)))), (aX, .inl (cI, 14, .inl (fun z9 => nI (nx z9)))), (aP, .inl (cI, 16, .inl (fun z9 => nI (pl z9)))), (aQ, .inl (cI, 16, .inl (fun z9 => nI (pr z9)))), (oH, .inr (0, [.ref oN, .ref aY, .int (nI fr), .int (nI 0), .int (nI 0), .int (-1)])), (aY, .inl (cI, 100, .inl ln))]) hP hD [1, 2, 3, 4, 5, 6, 7, 8, 9] [0] rfl rfl (by decide) (by decide) hk1 hFc hP1 hD1
  generalize H1 = H at hP hS ⊢
  have hP : va_P (dC, dI) vwCl [(oB, .inr (3, [.ref oN, .ref oU, .ref oH])), (oN, .inr (2, [.int (nI wb), .int (nI (2 ^ wb)), .ref aK, .ref aL, .ref aR, .ref aX, .ref aP, .ref aQ, .int (nI n), .int (nI sc), .int (nI s1), .int (nI np), .int (nI fr)])), (aK, .inl (cI, 100, .inl (fun z9 => nI (kd z9)))), (aL, .inl (cI, 100, .inl (fun z9 => nI (lf z9)))), (aR, .inl (cI, 100, .inl (fun z9 => nI (rt z9)))), (aX, .inl (cI, 14, .inl (fun z9 => nI (nx z9)))), (aP, .inl (cI, 16, .inl (fun z9 => nI (pl z9)))), (aQ, .inl (cI, 16, .inl (fun z9 => nI (pr z9)))), (oH, .inr (0, [.ref oN, .ref aY, .int (nI fr), .int (nI 0), .int (nI 0), .int (-1)])), (aY, .inl (cI, 100, .inl ln))] H := hP
  have hD : va_D A [(oB, .inr (3, [.ref oN, .ref oU, .ref oH])), (oN, .inr (2, [.int (nI wb), .int (nI (2 ^ wb)), .ref aK, .ref aL, .ref aR, .ref aX, .ref aP, .ref aQ, .int (nI n), .int (nI sc), .int (nI s1), .int (nI np), .int (nI fr)])), (aK, .inl (cI, 100, .inl (fun z9 => nI (kd z9)))), (aL, .inl (cI, 100, .inl (fun z9 => nI (lf z9)))), (aR, .inl (cI, 100, .inl (fun z9 => nI (rt z9)))), (aX, .inl (cI, 14, .inl (fun z9 => nI (nx z9)))), (aP, .inl (cI, 16, .inl (fun z9 => nI (pl z9)))), (aQ, .inl (cI, 16, .inl (fun z9 => nI (pr z9)))), (oH, .inr (0, [.ref oN, .ref aY, .int (nI fr), .int (nI 0), .int (nI 0), .int (-1)])), (aY, .inl (cI, 100, .inl ln))] := hD
  have hP9 := hP.sub (ws' := [(oB, .inr (3, [.ref oN, .ref oU, .ref oH])), (oN, .inr (2, [.int (nI wb), .int (nI (2 ^ wb)), .ref aK, .ref aL, .ref aR, .ref aX, .ref aP, .ref aQ, .int (nI n), .int (nI sc), .int (nI s1), .int (nI np), .int (nI fr)])), (aK, .inl (cI, 100, .inl (fun z9 => nI (kd z9)))), (aL, .inl (cI, 100, .inl (fun z9 => nI (lf z9)))), (aR, .inl (cI, 100, .inl (fun z9 => nI (rt z9)))), (aX, .inl (cI, 14, .inl (fun z9 => nI (nx z9)))), (aP, .inl (cI, 16, .inl (fun z9 => nI (pl z9)))), (aQ, .inl (cI, 16, .inl (fun z9 => nI (pr z9)))), (oH, .inr (0, [.ref oN, .ref aY, .int (nI fr), .int (nI 0), .int (nI 0), .int (-1)])), (aY, .inl (cI, 100, .inl ln))]) [0, 1, 2, 3, 4, 5, 6, 7, 8, 9] rfl
  have hD9 := hD.sub (ws' := [(oB, .inr (3, [.ref oN, .ref oU, .ref oH])), (oN, .inr (2, [.int (nI wb), .int (nI (2 ^ wb)), .ref aK, .ref aL, .ref aR, .ref aX, .ref aP, .ref aQ, .int (nI n), .int (nI sc), .int (nI s1), .int (nI np), .int (nI fr)])), (aK, .inl (cI, 100, .inl (fun z9 => nI (kd z9)))), (aL, .inl (cI, 100, .inl (fun z9 => nI (lf z9)))), (aR, .inl (cI, 100, .inl (fun z9 => nI (rt z9)))), (aX, .inl (cI, 14, .inl (fun z9 => nI (nx z9)))), (aP, .inl (cI, 16, .inl (fun z9 => nI (pl z9)))), (aQ, .inl (cI, 16, .inl (fun z9 => nI (pr z9)))), (oH, .inr (0, [.ref oN, .ref aY, .int (nI fr), .int (nI 0), .int (nI 0), .int (-1)])), (aY, .inl (cI, 100, .inl ln))]) [0, 1, 2, 3, 4, 5, 6, 7, 8, 9] (by decide) rfl
  exact W.vret hx hb hr (fun t ht hW => ⟨⟨ln, rfl, hw, by rw [ht]; exact hP9, hD9⟩, hS.F ht⟩) hS.2.2 d_BM_begin_7

set_option maxHeartbeats 4000000 in
set_option maxRecDepth 100000 in
theorem k_BM_cycle (l : Launch) (dC : Nat → ClassId) (dI : Nat → Nat → Nat) (cI cZ cJ : ClassId) (sz : Nat) (oB : Nat) (oN aK aL aR aX aP aQ wb n sc s1 np fr : Nat) (kd lf rt nx pl pr : Nat → Nat) (oU : Nat) (oH aY rh la ch : Nat) (fp : Int32) (lh : Nat → Int32) (x : Int32) (hwf : bm_wf wb n sc kd lf rt) (hnp : np ≤ 16) (hpl : ∀ p, p < np → pl p < n ∧ pr p < n) (hnx : ∀ s, s < sc → nx s < n) : Met l y_BM_cycle (bw y_BM_cycle b_BM_cycle 2 (some .boolean)) ({ frames := 4, cells := 0, slots := 0, locals := 90 }) (bx_pW dC dI cI cZ cJ [.ref oB, .int x] [(oB, .inr (3, [.ref oN, .ref oU, .ref oH])), (oN, .inr (2, [.int (nI wb), .int (nI (2 ^ wb)), .ref aK, .ref aL, .ref aR, .ref aX, .ref aP, .ref aQ, .int (nI n), .int (nI sc), .int (nI s1), .int (nI np), .int (nI fr)])), (aK, .inl (cI, 100, .inl (fun z9 => nI (kd z9)))), (aL, .inl (cI, 100, .inl (fun z9 => nI (lf z9)))), (aR, .inl (cI, 100, .inl (fun z9 => nI (rt z9)))), (aX, .inl (cI, 14, .inl (fun z9 => nI (nx z9)))), (aP, .inl (cI, 16, .inl (fun z9 => nI (pl z9)))), (aQ, .inl (cI, 16, .inl (fun z9 => nI (pr z9)))), (oH, .inr (0, [.ref oN, .ref aY, .int (nI rh), .int (nI la), .int (nI ch), .int fp])), (aY, .inl (cI, 100, .inl lh))] sz) (va_Qi (fun (r : Int32) (u9 : (Nat → Int32) × Int32) => match u9 with | (ln, f2) => r = bz ((bm_dif n np kd lf rt pl pr) rh (bm_w wb x)) ∧ bm_ln kd lf rt rh ln n ∧ bm_fp np (fun q => (bm_vals kd lf rt (fun s => (rh).testBit s) (bm_w wb x) n (pl q) ^^ bm_vals kd lf rt (fun s => (rh).testBit s) (bm_w wb x) n (pr q))) f2) (bx_B dC dI (va_A [(oB, .inr (3, [.ref oN, .ref oU, .ref oH])), (oN, .inr (2, [.int (nI wb), .int (nI (2 ^ wb)), .ref aK, .ref aL, .ref aR, .ref aX, .ref aP, .ref aQ, .int (nI n), .int (nI sc), .int (nI s1), .int (nI np), .int (nI fr)])), (aK, .inl (cI, 100, .inl (fun z9 => nI (kd z9)))), (aL, .inl (cI, 100, .inl (fun z9 => nI (lf z9)))), (aR, .inl (cI, 100, .inl (fun z9 => nI (rt z9)))), (aX, .inl (cI, 14, .inl (fun z9 => nI (nx z9)))), (aP, .inl (cI, 16, .inl (fun z9 => nI (pl z9)))), (aQ, .inl (cI, 16, .inl (fun z9 => nI (pr z9)))), (oH, .inr (0, [.ref oN, .ref aY, .int (nI rh), .int (nI la), .int (nI ch), .int fp])), (aY, .inl (cI, 100, .inl lh))] sz) (fun (u9 : (Nat → Int32) × Int32) => match u9 with | (ln, f2) => ([(oB, .inr (3, [.ref oN, .ref oU, .ref oH])), (oN, .inr (2, [.int (nI wb), .int (nI (2 ^ wb)), .ref aK, .ref aL, .ref aR, .ref aX, .ref aP, .ref aQ, .int (nI n), .int (nI sc), .int (nI s1), .int (nI np), .int (nI fr)])), (aK, .inl (cI, 100, .inl (fun z9 => nI (kd z9)))), (aL, .inl (cI, 100, .inl (fun z9 => nI (lf z9)))), (aR, .inl (cI, 100, .inl (fun z9 => nI (rt z9)))), (aX, .inl (cI, 14, .inl (fun z9 => nI (nx z9)))), (aP, .inl (cI, 16, .inl (fun z9 => nI (pl z9)))), (aQ, .inl (cI, 16, .inl (fun z9 => nI (pr z9)))), (oH, .inr (0, [.ref oN, .ref aY, .int (nI (bm_stp n sc kd lf rt nx rh (bm_w wb x))), .int (nI (bm_w wb x)), .int (nI (ch + 1)), .int f2])), (aY, .inl (cI, 100, .inl ln))] : va_W))) (va_A [(oB, .inr (3, [.ref oN, .ref oU, .ref oH])), (oN, .inr (2, [.int (nI wb), .int (nI (2 ^ wb)), .ref aK, .ref aL, .ref aR, .ref aX, .ref aP, .ref aQ, .int (nI n), .int (nI sc), .int (nI s1), .int (nI np), .int (nI fr)])), (aK, .inl (cI, 100, .inl (fun z9 => nI (kd z9)))), (aL, .inl (cI, 100, .inl (fun z9 => nI (lf z9)))), (aR, .inl (cI, 100, .inl (fun z9 => nI (rt z9)))), (aX, .inl (cI, 14, .inl (fun z9 => nI (nx z9)))), (aP, .inl (cI, 16, .inl (fun z9 => nI (pl z9)))), (aQ, .inl (cI, 16, .inl (fun z9 => nI (pr z9)))), (oH, .inr (0, [.ref oN, .ref aY, .int (nI rh), .int (nI la), .int (nI ch), .int fp])), (aY, .inl (cI, 100, .inl lh))] sz)) 0 0 (va_A [(oB, .inr (3, [.ref oN, .ref oU, .ref oH])), (oN, .inr (2, [.int (nI wb), .int (nI (2 ^ wb)), .ref aK, .ref aL, .ref aR, .ref aX, .ref aP, .ref aQ, .int (nI n), .int (nI sc), .int (nI s1), .int (nI np), .int (nI fr)])), (aK, .inl (cI, 100, .inl (fun z9 => nI (kd z9)))), (aL, .inl (cI, 100, .inl (fun z9 => nI (lf z9)))), (aR, .inl (cI, 100, .inl (fun z9 => nI (rt z9)))), (aX, .inl (cI, 14, .inl (fun z9 => nI (nx z9)))), (aP, .inl (cI, 16, .inl (fun z9 => nI (pl z9)))), (aQ, .inl (cI, 16, .inl (fun z9 => nI (pr z9)))), (oH, .inr (0, [.ref oN, .ref aY, .int (nI rh), .int (nI la), .int (nI ch), .int fp])), (aY, .inl (cI, 100, .inl lh))] sz) := by
  refine Met.ofW (cc := b_BM_cycle) (maxL := 2) (ret := some .boolean) (by decide) rfl ?_
  intro p e s m args below meth c s₁ B hml hv
  obtain ⟨rfl, hsz, hE, hP, hD0⟩ := hv
  have hx := B.exec
  have hb := B.bytes
  have hr := B.returns
  have hts9 := atoms_spec (ws := (bw y_BM_cycle b_BM_cycle 2 (some .boolean))) B.pre
  have hts : ∀ w ∈ gw, w.before _ s = true := fun w h => hts9 w (List.mem_cons_of_mem _ h)
  have hown : s.vm.findClass RX3 = some m.cls := findClass_of_methodNamed B.named
  have hlocks := B.notSynchronized
  subst hsz
  have hD := hD0.self (sz := s.heap.size)
  generalize hAe : va_A [(oB, .inr (3, [.ref oN, .ref oU, .ref oH])), (oN, .inr (2, [.int (nI wb), .int (nI (2 ^ wb)), .ref aK, .ref aL, .ref aR, .ref aX, .ref aP, .ref aQ, .int (nI n), .int (nI sc), .int (nI s1), .int (nI np), .int (nI fr)])), (aK, .inl (cI, 100, .inl (fun z9 => nI (kd z9)))), (aL, .inl (cI, 100, .inl (fun z9 => nI (lf z9)))), (aR, .inl (cI, 100, .inl (fun z9 => nI (rt z9)))), (aX, .inl (cI, 14, .inl (fun z9 => nI (nx z9)))), (aP, .inl (cI, 16, .inl (fun z9 => nI (pl z9)))), (aQ, .inl (cI, 16, .inl (fun z9 => nI (pr z9)))), (oH, .inr (0, [.ref oN, .ref aY, .int (nI rh), .int (nI la), .int (nI ch), .int fp])), (aY, .inl (cI, 100, .inl lh))] s.heap.size = A at hE hD ⊢
  have hA : ∀ q : Nat, s.heap.size ≤ q → A q := fun q h => by rw [← hAe]; exact Or.inr h
  have hS : va_S A s.heap s.heap [] := va_S.rf
  have hK := hE.1
  have hN := hE.2.1
  have hP : va_P (dC, dI) vwCl [(oB, .inr (3, [.ref oN, .ref oU, .ref oH])), (oN, .inr (2, [.int (nI wb), .int (nI (2 ^ wb)), .ref aK, .ref aL, .ref aR, .ref aX, .ref aP, .ref aQ, .int (nI n), .int (nI sc), .int (nI s1), .int (nI np), .int (nI fr)])), (aK, .inl (cI, 100, .inl (fun z9 => nI (kd z9)))), (aL, .inl (cI, 100, .inl (fun z9 => nI (lf z9)))), (aR, .inl (cI, 100, .inl (fun z9 => nI (rt z9)))), (aX, .inl (cI, 14, .inl (fun z9 => nI (nx z9)))), (aP, .inl (cI, 16, .inl (fun z9 => nI (pl z9)))), (aQ, .inl (cI, 16, .inl (fun z9 => nI (pr z9)))), (oH, .inr (0, [.ref oN, .ref aY, .int (nI rh), .int (nI la), .int (nI ch), .int fp])), (aY, .inl (cI, 100, .inl lh))] s.heap := hP
  have hl := lv_entry ([.ref oB, .int x]) (n := 2) (Nat.le_of_ble_eq_true rfl)
  rw [lg_entry_eq]
  generalize (lg_sl ([.ref oB, .int x]) ++ List.replicate (2 - (lg_sl ([.ref oB, .int x])).length) Slot.unset).toArray = ls at hl ⊢
  have hl : lv_has ls 2 [(0, .ref oB), (1, .int x)] := hl
  have hwb := hwf.1
  have hpw : 2 ^ wb ≤ 16 := by
    have h3 : wb = 1 ∨ wb = 2 ∨ wb = 3 ∨ wb = 4 := by omega
    rcases h3 with h3 | h3 | h3 | h3 <;> rw [h3] <;> decide
  have hpl1 : ∀ p, p < np → pl p < 100 ∧ pr p < 100 := fun p hp => by have := hpl p hp; omega
  have hnx1 : ∀ s, s < sc → nx s < 100 := fun s hs => by have := hnx s hs; omega
  have hw16 : bm_w wb x < 16 := Nat.lt_of_lt_of_le (Nat.mod_lt _ (Nat.two_pow_pos wb)) hpw
  refine lv_aload_n hx hb d_BM_cycle_0 rfl (lv_at hl 0 rfl) ?_
  refine va_get (D := (dC, dI)) (ci := 3) (v := .ref oH) (C := RX3) (T := TX3) (N := 3) hx hb hts in_X3 hown hK hP 0 rfl rfl 2 (by decide) (hts _ lk_BM_36) (fun _ h9 => h9) rfl d_BM_cycle_1 ?_
  refine lv_iload_n hx hb d_BM_cycle_4 rfl (lv_at hl 1 rfl) ?_
  have hPc := hP.sub (ws' := [(oN, .inr (2, [.int (nI wb), .int (nI (2 ^ wb)), .ref aK, .ref aL, .ref aR, .ref aX, .ref aP, .ref aQ, .int (nI n), .int (nI sc), .int (nI s1), .int (nI np), .int (nI fr)])), (aK, .inl (cI, 100, .inl (fun z9 => nI (kd z9)))), (aL, .inl (cI, 100, .inl (fun z9 => nI (lf z9)))), (aR, .inl (cI, 100, .inl (fun z9 => nI (rt z9)))), (aX, .inl (cI, 14, .inl (fun z9 => nI (nx z9)))), (aP, .inl (cI, 16, .inl (fun z9 => nI (pl z9)))), (aQ, .inl (cI, 16, .inl (fun z9 => nI (pr z9)))), (oH, .inr (0, [.ref oN, .ref aY, .int (nI rh), .int (nI la), .int (nI ch), .int fp])), (aY, .inl (cI, 100, .inl lh))]) [1, 2, 3, 4, 5, 6, 7, 8, 9] rfl
  have hDc := hD.sub (ws' := [(oN, .inr (2, [.int (nI wb), .int (nI (2 ^ wb)), .ref aK, .ref aL, .ref aR, .ref aX, .ref aP, .ref aQ, .int (nI n), .int (nI sc), .int (nI s1), .int (nI np), .int (nI fr)])), (aK, .inl (cI, 100, .inl (fun z9 => nI (kd z9)))), (aL, .inl (cI, 100, .inl (fun z9 => nI (lf z9)))), (aR, .inl (cI, 100, .inl (fun z9 => nI (rt z9)))), (aX, .inl (cI, 14, .inl (fun z9 => nI (nx z9)))), (aP, .inl (cI, 16, .inl (fun z9 => nI (pl z9)))), (aQ, .inl (cI, 16, .inl (fun z9 => nI (pr z9)))), (oH, .inr (0, [.ref oN, .ref aY, .int (nI rh), .int (nI la), .int (nI ch), .int fp])), (aY, .inl (cI, 100, .inl lh))]) [1, 2, 3, 4, 5, 6, 7, 8, 9] (by decide) rfl
  have hFc := va_free (wc := [(oN, .inr (2, [.int (nI wb), .int (nI (2 ^ wb)), .ref aK, .ref aL, .ref aR, .ref aX, .ref aP, .ref aQ, .int (nI n), .int (nI sc), .int (nI s1), .int (nI np), .int (nI fr)])), (aK, .inl (cI, 100, .inl (fun z9 => nI (kd z9)))), (aL, .inl (cI, 100, .inl (fun z9 => nI (lf z9)))), (aR, .inl (cI, 100, .inl (fun z9 => nI (rt z9)))), (aX, .inl (cI, 14, .inl (fun z9 => nI (nx z9)))), (aP, .inl (cI, 16, .inl (fun z9 => nI (pl z9)))), (aQ, .inl (cI, 16, .inl (fun z9 => nI (pr z9)))), (oH, .inr (0, [.ref oN, .ref aY, .int (nI rh), .int (nI la), .int (nI ch), .int fp])), (aY, .inl (cI, 100, .inl lh))]) hD hS hA [1, 2, 3, 4, 5, 6, 7, 8, 9] rfl
  refine va_calli (va_runVN (As := [.int x]) (rest := []) ⟨hx, hb, hml, hown, hts⟩ (k_Hand_step l dC dI cI cZ cJ s.heap.size oN aK aL aR aX aP aQ wb n sc s1 np fr kd lf rt nx pl pr oH aY rh la ch fp lh x hwf hnp hpl1 hnx1) (bx_nV (n := 1) hts hN mc_Hand_step nl_BM_139 mi_Hand_step ms_Hand_step ini_Hand (by decide +kernel) ⟨Nat.le_of_ble_eq_true rfl, Nat.le_of_ble_eq_true rfl⟩) (bx_pwV hE hS hPc hDc hFc (ci := 0) (q0 := 7) rfl rfl) rfl rfl hl.1 rfl (lv_room (Nat.le_of_ble_eq_true rfl)) d_BM_cycle_5 ⟨Nat.le_of_ble_eq_true rfl, Nat.le_of_ble_eq_true rfl⟩) hS (fun q _ h => hFc q h) hFc (fun r_1 u t H1 locs ht hvm hw hB hz1 hk1 hS => ?_)
  obtain ⟨ln, f2⟩ := u
  dsimp only at hw
  obtain ⟨hP1, hD1⟩ := hB
  rw [ht] at hP1
  obtain ⟨hP, hD⟩ := va_join (wr := [(oB, .inr (3, [.ref oN, .ref oU, .ref oH]))]) (w1 := [(oN, .inr (2, [.int (nI wb), .int (nI (2 ^ wb)), .ref aK, .ref aL, .ref aR, .ref aX, .ref aP, .ref aQ, .int (nI n), .int (nI sc), .int (nI s1), .int (nI np), .int (nI fr)])), (aK, .inl (cI, 100, .inl (fun z9 => nI (kd z9)))), (aL, .inl (cI, 100, .inl (fun z9 => nI (lf z9)))), (aR, .inl (cI, 100, .inl (fun z9 => nI (rt z9)))), (aX, .inl (cI, 14, .inl (fun z9 => nI (nx z9)))), (aP, .inl (cI, 16, .inl (fun z9 => nI (pl z9)))), (aQ, .inl (cI, 16, .inl (fun z9 => nI (pr z9)))), (oH, .inr (0, [.ref oN, .ref aY, .int (nI (bn_row (fun s => bt (ln (nx s)) (bm_w wb x)) sc)), .int (nI (bm_w wb x)), .int (nI (ch + 1)), .int f2])), (aY, .inl (cI, 100, .inl ln))]) hP hD [1, 2, 3, 4, 5, 6, 7, 8, 9] [0] rfl rfl (by decide) (by decide) hk1 hFc hP1 hD1
  generalize H1 = H at hP hS ⊢
  have hP : va_P (dC, dI) vwCl [(oB, .inr (3, [.ref oN, .ref oU, .ref oH])), (oN, .inr (2, [.int (nI wb), .int (nI (2 ^ wb)), .ref aK, .ref aL, .ref aR, .ref aX, .ref aP, .ref aQ, .int (nI n), .int (nI sc), .int (nI s1), .int (nI np), .int (nI fr)])), (aK, .inl (cI, 100, .inl (fun z9 => nI (kd z9)))), (aL, .inl (cI, 100, .inl (fun z9 => nI (lf z9)))), (aR, .inl (cI, 100, .inl (fun z9 => nI (rt z9)))), (aX, .inl (cI, 14, .inl (fun z9 => nI (nx z9)))), (aP, .inl (cI, 16, .inl (fun z9 => nI (pl z9)))), (aQ, .inl (cI, 16, .inl (fun z9 => nI (pr z9)))), (oH, .inr (0, [.ref oN, .ref aY, .int (nI (bn_row (fun s => bt (ln (nx s)) (bm_w wb x)) sc)), .int (nI (bm_w wb x)), .int (nI (ch + 1)), .int f2])), (aY, .inl (cI, 100, .inl ln))] H := hP
  have hD : va_D A [(oB, .inr (3, [.ref oN, .ref oU, .ref oH])), (oN, .inr (2, [.int (nI wb), .int (nI (2 ^ wb)), .ref aK, .ref aL, .ref aR, .ref aX, .ref aP, .ref aQ, .int (nI n), .int (nI sc), .int (nI s1), .int (nI np), .int (nI fr)])), (aK, .inl (cI, 100, .inl (fun z9 => nI (kd z9)))), (aL, .inl (cI, 100, .inl (fun z9 => nI (lf z9)))), (aR, .inl (cI, 100, .inl (fun z9 => nI (rt z9)))), (aX, .inl (cI, 14, .inl (fun z9 => nI (nx z9)))), (aP, .inl (cI, 16, .inl (fun z9 => nI (pl z9)))), (aQ, .inl (cI, 16, .inl (fun z9 => nI (pr z9)))), (oH, .inr (0, [.ref oN, .ref aY, .int (nI (bn_row (fun s => bt (ln (nx s)) (bm_w wb x)) sc)), .int (nI (bm_w wb x)), .int (nI (ch + 1)), .int f2])), (aY, .inl (cI, 100, .inl ln))] := hD
  obtain ⟨hr1, hln, hfd⟩ := hw
  have hX : bm_stp n sc kd lf rt nx rh (bm_w wb x) = bn_row (fun s => bt (ln (nx s)) (bm_w wb x)) sc := (bm_stp_ln hln hnx hw16).symm
  have hfp : bm_fp np (fun q => bt (ln (pl q)) (bm_w wb x) ^^ bt (ln (pr q)) (bm_w wb x)) f2 := hfd
  have hfv : bm_fp np (fun q => (bm_vals kd lf rt (fun s => (rh).testBit s) (bm_w wb x) n (pl q) ^^ bm_vals kd lf rt (fun s => (rh).testBit s) (bm_w wb x) n (pr q))) f2 := bm_fp_cg hfp (fun q hq => by rw [hln _ (hpl q hq).1 _ hw16, hln _ (hpl q hq).2 _ hw16])
  have hdd : decide (¬ f2 = (-1)) = (bm_dif n np kd lf rt pl pr) rh (bm_w wb x) := (bm_fp_any hnp hfv).1
  rw [← hX] at hP hD
  refine bx_top (y := bz ((bm_dif n np kd lf rt pl pr) rh (bm_w wb x))) (by rw [hr1, hdd]) ?_
  have hP9 := hP.sub (ws' := [(oB, .inr (3, [.ref oN, .ref oU, .ref oH])), (oN, .inr (2, [.int (nI wb), .int (nI (2 ^ wb)), .ref aK, .ref aL, .ref aR, .ref aX, .ref aP, .ref aQ, .int (nI n), .int (nI sc), .int (nI s1), .int (nI np), .int (nI fr)])), (aK, .inl (cI, 100, .inl (fun z9 => nI (kd z9)))), (aL, .inl (cI, 100, .inl (fun z9 => nI (lf z9)))), (aR, .inl (cI, 100, .inl (fun z9 => nI (rt z9)))), (aX, .inl (cI, 14, .inl (fun z9 => nI (nx z9)))), (aP, .inl (cI, 16, .inl (fun z9 => nI (pl z9)))), (aQ, .inl (cI, 16, .inl (fun z9 => nI (pr z9)))), (oH, .inr (0, [.ref oN, .ref aY, .int (nI (bm_stp n sc kd lf rt nx rh (bm_w wb x))), .int (nI (bm_w wb x)), .int (nI (ch + 1)), .int f2])), (aY, .inl (cI, 100, .inl ln))]) [0, 1, 2, 3, 4, 5, 6, 7, 8, 9] rfl
  have hD9 := hD.sub (ws' := [(oB, .inr (3, [.ref oN, .ref oU, .ref oH])), (oN, .inr (2, [.int (nI wb), .int (nI (2 ^ wb)), .ref aK, .ref aL, .ref aR, .ref aX, .ref aP, .ref aQ, .int (nI n), .int (nI sc), .int (nI s1), .int (nI np), .int (nI fr)])), (aK, .inl (cI, 100, .inl (fun z9 => nI (kd z9)))), (aL, .inl (cI, 100, .inl (fun z9 => nI (lf z9)))), (aR, .inl (cI, 100, .inl (fun z9 => nI (rt z9)))), (aX, .inl (cI, 14, .inl (fun z9 => nI (nx z9)))), (aP, .inl (cI, 16, .inl (fun z9 => nI (pl z9)))), (aQ, .inl (cI, 16, .inl (fun z9 => nI (pr z9)))), (oH, .inr (0, [.ref oN, .ref aY, .int (nI (bm_stp n sc kd lf rt nx rh (bm_w wb x))), .int (nI (bm_w wb x)), .int (nI (ch + 1)), .int f2])), (aY, .inl (cI, 100, .inl ln))]) [0, 1, 2, 3, 4, 5, 6, 7, 8, 9] (by decide) rfl
  exact W.zret (v := bz ((bm_dif n np kd lf rt pl pr) rh (bm_w wb x))) hx hb hr (bz_nar _) (fun t ht hW => ⟨⟨bz ((bm_dif n np kd lf rt pl pr) rh (bm_w wb x)), (ln, f2), rfl, ⟨rfl, hln, hfv⟩, by rw [ht]; exact hP9, hD9⟩, hS.F ht⟩) hS.2.2 d_BM_cycle_8

set_option maxHeartbeats 4000000 in
set_option maxRecDepth 100000 in
theorem k_BM_truth_ok (l : Launch) (dC : Nat → ClassId) (dI : Nat → Nat → Nat) (cI cZ cJ : ClassId) (oB : Nat) (oN aK aL aR aX aP aQ wb n sc s1 np fr : Nat) (kd lf rt nx pl pr : Nat → Nat) (oU : Nat) (oH aY rh la ch : Nat) (fp : Int32) (lh : Nat → Int32) (j : Nat) (hj : j < n) (hn : n ≤ 100) (hla : la < 16) : Met l y_BM_truth (bw y_BM_truth b_BM_truth 2 (some .boolean)) ({ frames := 1, cells := 0, slots := 0, locals := 21 }) (bx_pR dC dI cI cZ cJ [.ref oB, .int (nI j)] [(oB, .inr (3, [.ref oN, .ref oU, .ref oH])), (oN, .inr (2, [.int (nI wb), .int (nI (2 ^ wb)), .ref aK, .ref aL, .ref aR, .ref aX, .ref aP, .ref aQ, .int (nI n), .int (nI sc), .int (nI s1), .int (nI np), .int (nI fr)])), (aK, .inl (cI, 100, .inl (fun z9 => nI (kd z9)))), (aL, .inl (cI, 100, .inl (fun z9 => nI (lf z9)))), (aR, .inl (cI, 100, .inl (fun z9 => nI (rt z9)))), (aX, .inl (cI, 14, .inl (fun z9 => nI (nx z9)))), (aP, .inl (cI, 16, .inl (fun z9 => nI (pl z9)))), (aQ, .inl (cI, 16, .inl (fun z9 => nI (pr z9)))), (oH, .inr (0, [.ref oN, .ref aY, .int (nI rh), .int (nI la), .int (nI ch), .int fp])), (aY, .inl (cI, 100, .inl lh))]) (bx_qR (fun r => r = bz (bt (lh j) la))) 0 0 (fun _ => False) := by
  refine Met.ofW (cc := b_BM_truth) (maxL := 2) (ret := some .boolean) (by decide) rfl ?_
  intro p e s m args below meth c s₁ B hml hv
  obtain ⟨rfl, hE, hP⟩ := hv
  have hx := B.exec
  have hb := B.bytes
  have hr := B.returns
  have hts9 := atoms_spec (ws := (bw y_BM_truth b_BM_truth 2 (some .boolean))) B.pre
  have hts : ∀ w ∈ gw, w.before _ s = true := fun w h => hts9 w (List.mem_cons_of_mem _ h)
  have hown : s.vm.findClass RX3 = some m.cls := findClass_of_methodNamed B.named
  have hlocks := B.notSynchronized
  have hK := hE.1
  have hN := hE.2.1
  have hS : va_S (fun _ => False) s.heap s.heap [] := va_S.rf
  have hP : va_P (dC, dI) vwCl [(oB, .inr (3, [.ref oN, .ref oU, .ref oH])), (oN, .inr (2, [.int (nI wb), .int (nI (2 ^ wb)), .ref aK, .ref aL, .ref aR, .ref aX, .ref aP, .ref aQ, .int (nI n), .int (nI sc), .int (nI s1), .int (nI np), .int (nI fr)])), (aK, .inl (cI, 100, .inl (fun z9 => nI (kd z9)))), (aL, .inl (cI, 100, .inl (fun z9 => nI (lf z9)))), (aR, .inl (cI, 100, .inl (fun z9 => nI (rt z9)))), (aX, .inl (cI, 14, .inl (fun z9 => nI (nx z9)))), (aP, .inl (cI, 16, .inl (fun z9 => nI (pl z9)))), (aQ, .inl (cI, 16, .inl (fun z9 => nI (pr z9)))), (oH, .inr (0, [.ref oN, .ref aY, .int (nI rh), .int (nI la), .int (nI ch), .int fp])), (aY, .inl (cI, 100, .inl lh))] s.heap := hP
  have hl := lv_entry ([.ref oB, .int (nI j)]) (n := 2) (Nat.le_of_ble_eq_true rfl)
  rw [lg_entry_eq]
  generalize (lg_sl ([.ref oB, .int (nI j)]) ++ List.replicate (2 - (lg_sl ([.ref oB, .int (nI j)])).length) Slot.unset).toArray = ls at hl ⊢
  have hl : lv_has ls 2 [(0, .ref oB), (1, .int (nI j))] := hl
  refine lv_aload_n hx hb d_BM_truth_0 rfl (lv_at hl 0 rfl) ?_
  refine va_get (D := (dC, dI)) (ci := 3) (v := .ref oN) (C := RX3) (T := TX3) (N := 3) hx hb hts in_X3 hown hK hP 0 rfl rfl 0 (by decide) (hts _ lk_BM_18) (fun _ h9 => h9) rfl d_BM_truth_1 ?_
  refine lv_iload_n hx hb d_BM_truth_4 rfl (lv_at hl 1 rfl) ?_
  have hPc := hP.sub (ws' := [(oN, .inr (2, [.int (nI wb), .int (nI (2 ^ wb)), .ref aK, .ref aL, .ref aR, .ref aX, .ref aP, .ref aQ, .int (nI n), .int (nI sc), .int (nI s1), .int (nI np), .int (nI fr)])), (aK, .inl (cI, 100, .inl (fun z9 => nI (kd z9)))), (aL, .inl (cI, 100, .inl (fun z9 => nI (lf z9)))), (aR, .inl (cI, 100, .inl (fun z9 => nI (rt z9)))), (aX, .inl (cI, 14, .inl (fun z9 => nI (nx z9)))), (aP, .inl (cI, 16, .inl (fun z9 => nI (pl z9)))), (aQ, .inl (cI, 16, .inl (fun z9 => nI (pr z9))))]) [1, 2, 3, 4, 5, 6, 7] rfl
  refine bx_callR (va_runVN (As := [.int (nI j)]) (rest := []) ⟨hx, hb, hml, hown, hts⟩ (k_Net_isNode l dC dI cI cZ cJ oN aK aL aR aX aP aQ wb n sc s1 np fr kd lf rt nx pl pr (nI j)) (bx_nV (n := 1) hts hN mc_Net_isNode nl_BM_82 mi_Net_isNode ms_Net_isNode ini_Net (by decide +kernel) ⟨Nat.le_of_ble_eq_true rfl, Nat.le_of_ble_eq_true rfl⟩) (bx_prV hE hS hPc (ci := 2) (q0 := 0) rfl rfl) rfl rfl hl.1 rfl (lv_room (Nat.le_of_ble_eq_true rfl)) d_BM_truth_5 ⟨Nat.zero_le _, Nat.zero_le _⟩) (fun r_1 hw_r_1 => ?_)
  refine lv_if_ne (tgt := 21) hx hb d_BM_truth_8 (by decide) (fun _ => ?_) (fun c9 => absurd c9 (by rw [hw_r_1, decide_eq_true (show ¬ nI j < 0 ∧ nI j < nI n from ⟨nI_pos (by omega), nI_lt hj (by omega)⟩)]; decide))
  refine lv_aload_n hx hb d_BM_truth_21 rfl (lv_at hl 0 rfl) ?_
  refine va_get (D := (dC, dI)) (ci := 3) (v := .ref oH) (C := RX3) (T := TX3) (N := 3) hx hb hts in_X3 hown hK hP 0 rfl rfl 2 (by decide) (hts _ lk_BM_36) (fun _ h9 => h9) rfl d_BM_truth_22 ?_
  refine lv_iload_n hx hb d_BM_truth_25 rfl (lv_at hl 1 rfl) ?_
  have hPc := hP.sub (ws' := [(oH, .inr (0, [.ref oN, .ref aY, .int (nI rh), .int (nI la), .int (nI ch), .int fp])), (aY, .inl (cI, 100, .inl lh))]) [8, 9] rfl
  refine bx_callR (va_runVN (As := [.int (nI j)]) (rest := []) ⟨hx, hb, hml, hown, hts⟩ (k_Hand_truthOf l dC dI cI cZ cJ oN oH aY rh la ch fp lh j (by omega) hla) (bx_nV (n := 1) hts hN mc_Hand_truthOf nl_BM_144 mi_Hand_truthOf ms_Hand_truthOf ini_Hand (by decide +kernel) ⟨Nat.le_of_ble_eq_true rfl, Nat.le_of_ble_eq_true rfl⟩) (bx_prV hE hS hPc (ci := 0) (q0 := 0) rfl rfl) rfl rfl hl.1 rfl (lv_room (Nat.le_of_ble_eq_true rfl)) d_BM_truth_26 ⟨Nat.zero_le _, Nat.zero_le _⟩) (fun r_2 hw_r_2 => ?_)
  refine bx_top (y := bz (bt (lh j) la)) hw_r_2 ?_
  exact W.zret (v := bz (bt (lh j) la)) hx hb hr (bz_nar _) (fun t ht hW => ⟨bz (bt (lh j) la), rfl, rfl, ht⟩) (fun q h => by cases h) d_BM_truth_29

set_option maxHeartbeats 4000000 in
set_option maxRecDepth 100000 in
theorem k_BM_truth_bad (l : Launch) (dC : Nat → ClassId) (dI : Nat → Nat → Nat) (cI cZ cJ : ClassId) (oB oU oH : Nat) (oN aK aL aR aX aP aQ wb n sc s1 np fr : Nat) (kd lf rt nx pl pr : Nat → Nat) (x : Int32) (hbad : ¬ (¬ x < 0 ∧ x < nI n)) (hst : l.stackTraces = false) : vx_Met l y_BM_truth (bw y_BM_truth b_BM_truth 2 (some .boolean)) ({ frames := 6, cells := 1, slots := 6, locals := 82 }) (bx_pX dC dI cI cZ cJ [.ref oB, .int x] [(oB, .inr (3, [.ref oN, .ref oU, .ref oH])), (oN, .inr (2, [.int (nI wb), .int (nI (2 ^ wb)), .ref aK, .ref aL, .ref aR, .ref aX, .ref aP, .ref aQ, .int (nI n), .int (nI sc), .int (nI s1), .int (nI np), .int (nI fr)])), (aK, .inl (cI, 100, .inl (fun z9 => nI (kd z9)))), (aL, .inl (cI, 100, .inl (fun z9 => nI (lf z9)))), (aR, .inl (cI, 100, .inl (fun z9 => nI (rt z9)))), (aX, .inl (cI, 14, .inl (fun z9 => nI (nx z9)))), (aP, .inl (cI, 16, .inl (fun z9 => nI (pl z9)))), (aQ, .inl (cI, 16, .inl (fun z9 => nI (pr z9))))]) bx_qX (bx_tX "java/lang/IndexOutOfBoundsException") 1 6 (fun _ => False) := by
  refine vx_ofW (cc := b_BM_truth) (maxL := 2) (ret := some .boolean) (by decide) rfl ?_
  intro p e s m args below meth c s₁ B hml hno hv
  obtain ⟨rfl, hE, hX, hP⟩ := hv
  have hx := B.exec
  have hb := B.bytes
  have hr := B.returns
  have hts9 := atoms_spec (ws := (bw y_BM_truth b_BM_truth 2 (some .boolean))) B.pre
  have hts : ∀ w ∈ gw, w.before _ s = true := fun w h => hts9 w (List.mem_cons_of_mem _ h)
  have hown : s.vm.findClass RX3 = some m.cls := findClass_of_methodNamed B.named
  have hlocks := B.notSynchronized
  have hK := hE.1
  have hN := hE.2.1
  have hS : va_S (fun _ => False) s.heap s.heap [] := va_S.rf
  have hP : va_P (dC, dI) vwCl [(oB, .inr (3, [.ref oN, .ref oU, .ref oH])), (oN, .inr (2, [.int (nI wb), .int (nI (2 ^ wb)), .ref aK, .ref aL, .ref aR, .ref aX, .ref aP, .ref aQ, .int (nI n), .int (nI sc), .int (nI s1), .int (nI np), .int (nI fr)])), (aK, .inl (cI, 100, .inl (fun z9 => nI (kd z9)))), (aL, .inl (cI, 100, .inl (fun z9 => nI (lf z9)))), (aR, .inl (cI, 100, .inl (fun z9 => nI (rt z9)))), (aX, .inl (cI, 14, .inl (fun z9 => nI (nx z9)))), (aP, .inl (cI, 16, .inl (fun z9 => nI (pl z9)))), (aQ, .inl (cI, 16, .inl (fun z9 => nI (pr z9))))] s.heap := hP
  have hl := lv_entry ([.ref oB, .int x]) (n := 2) (Nat.le_of_ble_eq_true rfl)
  rw [lg_entry_eq]
  generalize (lg_sl ([.ref oB, .int x]) ++ List.replicate (2 - (lg_sl ([.ref oB, .int x])).length) Slot.unset).toArray = ls at hl ⊢
  have hl : lv_has ls 2 [(0, .ref oB), (1, .int x)] := hl
  refine lv_aload_n hx hb d_BM_truth_0 rfl (lv_at hl 0 rfl) ?_
  refine va_get (D := (dC, dI)) (ci := 3) (v := .ref oN) (C := RX3) (T := TX3) (N := 3) hx hb hts in_X3 hown hK hP 0 rfl rfl 0 (by decide) (hts _ lk_BM_18) (fun _ h9 => h9) rfl d_BM_truth_1 ?_
  refine lv_iload_n hx hb d_BM_truth_4 rfl (lv_at hl 1 rfl) ?_
  have hPc := hP.sub (ws' := [(oN, .inr (2, [.int (nI wb), .int (nI (2 ^ wb)), .ref aK, .ref aL, .ref aR, .ref aX, .ref aP, .ref aQ, .int (nI n), .int (nI sc), .int (nI s1), .int (nI np), .int (nI fr)])), (aK, .inl (cI, 100, .inl (fun z9 => nI (kd z9)))), (aL, .inl (cI, 100, .inl (fun z9 => nI (lf z9)))), (aR, .inl (cI, 100, .inl (fun z9 => nI (rt z9)))), (aX, .inl (cI, 14, .inl (fun z9 => nI (nx z9)))), (aP, .inl (cI, 16, .inl (fun z9 => nI (pl z9)))), (aQ, .inl (cI, 16, .inl (fun z9 => nI (pr z9))))]) [1, 2, 3, 4, 5, 6, 7] rfl
  refine bx_callR (va_runVN (As := [.int x]) (rest := []) ⟨hx, hb, hml, hown, hts⟩ (k_Net_isNode l dC dI cI cZ cJ oN aK aL aR aX aP aQ wb n sc s1 np fr kd lf rt nx pl pr x) (bx_nV (n := 1) hts hN mc_Net_isNode nl_BM_82 mi_Net_isNode ms_Net_isNode ini_Net (by decide +kernel) ⟨Nat.le_of_ble_eq_true rfl, Nat.le_of_ble_eq_true rfl⟩) (bx_prV hE hS hPc (ci := 2) (q0 := 0) rfl rfl) rfl rfl hl.1 rfl (lv_room (Nat.le_of_ble_eq_true rfl)) d_BM_truth_5 ⟨Nat.zero_le _, Nat.zero_le _⟩) (fun r_1 hw_r_1 => ?_)
  refine lv_if_ne (tgt := 21) hx hb d_BM_truth_8 (by decide) (fun c9 => absurd c9 (by rw [hw_r_1, decide_eq_false hbad]; decide)) (fun _ => ?_)
  exact bx_thr hx hb hst (cls := "java/lang/IndexOutOfBoundsException") (text := "no such node") hown hts hX (by decide +kernel) lk_BM_116 ini_IndexOutOfBoundsException xg_120 xb_120 (by decide +kernel) (by rw [hml]; exact hl.1) d_BM_truth_11 d_BM_truth_14 d_BM_truth_15 d_BM_truth_17 d_BM_truth_20 hno ⟨Nat.le_of_ble_eq_true rfl, Nat.le_of_ble_eq_true rfl, Nat.le_of_ble_eq_true rfl, Nat.le_of_ble_eq_true rfl⟩ hlocks

set_option maxHeartbeats 4000000 in
set_option maxRecDepth 100000 in
theorem k_BM_count (l : Launch) (dC : Nat → ClassId) (dI : Nat → Nat → Nat) (cI cZ cJ : ClassId) (oB : Nat) (oN aK aL aR aX aP aQ wb n sc s1 np fr : Nat) (kd lf rt nx pl pr : Nat → Nat) (oU : Nat) (oH aY rh la ch : Nat) (fp : Int32) (lh : Nat → Int32) (x : Int32) (hs1 : s1 ≤ sc) (hwn : wb + sc ≤ n) : Met l y_BM_count (bw y_BM_count b_BM_count 2 (some .int)) ({ frames := 1, cells := 0, slots := 0, locals := 20 }) (bx_pR dC dI cI cZ cJ [.ref oB, .int x] [(oB, .inr (3, [.ref oN, .ref oU, .ref oH])), (oN, .inr (2, [.int (nI wb), .int (nI (2 ^ wb)), .ref aK, .ref aL, .ref aR, .ref aX, .ref aP, .ref aQ, .int (nI n), .int (nI sc), .int (nI s1), .int (nI np), .int (nI fr)])), (aK, .inl (cI, 100, .inl (fun z9 => nI (kd z9)))), (aL, .inl (cI, 100, .inl (fun z9 => nI (lf z9)))), (aR, .inl (cI, 100, .inl (fun z9 => nI (rt z9)))), (aX, .inl (cI, 14, .inl (fun z9 => nI (nx z9)))), (aP, .inl (cI, 16, .inl (fun z9 => nI (pl z9)))), (aQ, .inl (cI, 16, .inl (fun z9 => nI (pr z9)))), (oH, .inr (0, [.ref oN, .ref aY, .int (nI rh), .int (nI la), .int (nI ch), .int fp]))]) (bx_qR (fun r => r = bm_cnt x (nI wb) (nI n) (nI (sc - s1)) (nI s1) (nI (n - wb - sc)) (nI np) (nI ch) fp)) 0 0 (fun _ => False) := by
  refine Met.ofW (cc := b_BM_count) (maxL := 2) (ret := some .int) (by decide) rfl ?_
  intro p e s m args below meth c s₁ B hml hv
  obtain ⟨rfl, hE, hP⟩ := hv
  have hx := B.exec
  have hb := B.bytes
  have hr := B.returns
  have hts9 := atoms_spec (ws := (bw y_BM_count b_BM_count 2 (some .int))) B.pre
  have hts : ∀ w ∈ gw, w.before _ s = true := fun w h => hts9 w (List.mem_cons_of_mem _ h)
  have hown : s.vm.findClass RX3 = some m.cls := findClass_of_methodNamed B.named
  have hlocks := B.notSynchronized
  have hK := hE.1
  have hN := hE.2.1
  have hS : va_S (fun _ => False) s.heap s.heap [] := va_S.rf
  have hP : va_P (dC, dI) vwCl [(oB, .inr (3, [.ref oN, .ref oU, .ref oH])), (oN, .inr (2, [.int (nI wb), .int (nI (2 ^ wb)), .ref aK, .ref aL, .ref aR, .ref aX, .ref aP, .ref aQ, .int (nI n), .int (nI sc), .int (nI s1), .int (nI np), .int (nI fr)])), (aK, .inl (cI, 100, .inl (fun z9 => nI (kd z9)))), (aL, .inl (cI, 100, .inl (fun z9 => nI (lf z9)))), (aR, .inl (cI, 100, .inl (fun z9 => nI (rt z9)))), (aX, .inl (cI, 14, .inl (fun z9 => nI (nx z9)))), (aP, .inl (cI, 16, .inl (fun z9 => nI (pl z9)))), (aQ, .inl (cI, 16, .inl (fun z9 => nI (pr z9)))), (oH, .inr (0, [.ref oN, .ref aY, .int (nI rh), .int (nI la), .int (nI ch), .int fp]))] s.heap := hP
  have hl := lv_entry ([.ref oB, .int x]) (n := 2) (Nat.le_of_ble_eq_true rfl)
  rw [lg_entry_eq]
  generalize (lg_sl ([.ref oB, .int x]) ++ List.replicate (2 - (lg_sl ([.ref oB, .int x])).length) Slot.unset).toArray = ls at hl ⊢
  have hl : lv_has ls 2 [(0, .ref oB), (1, .int x)] := hl
  refine lv_iload_n hx hb d_BM_count_0 rfl (lv_at hl 1 rfl) ?_
  by_cases h_0 : x = nI 0
  · refine bx_top (y := nI 0) h_0 ?_
    refine lv_tableIn (tgt := 48) hx hb d_BM_count_1 (by decide +kernel) (by decide +kernel) rfl (by decide) ?_
    refine lv_aload_n hx hb d_BM_count_48 rfl (lv_at hl 0 rfl) ?_
    refine va_get (D := (dC, dI)) (ci := 3) (v := .ref oN) (C := RX3) (T := TX3) (N := 3) hx hb hts in_X3 hown hK hP 0 rfl rfl 0 (by decide) (hts _ lk_BM_18) (fun _ h9 => h9) rfl d_BM_count_49 ?_
    refine va_getN (D := (dC, dI)) (ci := 2) (v := .int (nI wb)) (C := RX2) (T := TX2) (N := 13) hx hb hts in_X2 hown hK hP 1 rfl rfl 0 (by decide) (va_Nw.use rfl (hN _ nl_BM_147)) (fun _ h9 => h9) rfl d_BM_count_52 ?_
    exact W.iret (v := nI wb) hx hb hr (fun t ht hW => ⟨nI wb, rfl, by rw [h_0]; rfl, ht⟩) (fun q h => by cases h) d_BM_count_55
  by_cases h_1 : x = nI 1
  · refine bx_top (y := nI 1) h_1 ?_
    refine lv_tableIn (tgt := 56) hx hb d_BM_count_1 (by decide +kernel) (by decide +kernel) rfl (by decide) ?_
    refine lv_aload_n hx hb d_BM_count_56 rfl (lv_at hl 0 rfl) ?_
    refine va_get (D := (dC, dI)) (ci := 3) (v := .ref oN) (C := RX3) (T := TX3) (N := 3) hx hb hts in_X3 hown hK hP 0 rfl rfl 0 (by decide) (hts _ lk_BM_18) (fun _ h9 => h9) rfl d_BM_count_57 ?_
    refine va_getN (D := (dC, dI)) (ci := 2) (v := .int (nI n)) (C := RX2) (T := TX2) (N := 13) hx hb hts in_X2 hown hK hP 1 rfl rfl 8 (by decide) (va_Nw.use rfl (hN _ nl_BM_150)) (fun _ h9 => h9) rfl d_BM_count_60 ?_
    exact W.iret (v := nI n) hx hb hr (fun t ht hW => ⟨nI n, rfl, by rw [h_1]; rfl, ht⟩) (fun q h => by cases h) d_BM_count_63
  by_cases h_2 : x = nI 2
  · refine bx_top (y := nI 2) h_2 ?_
    refine lv_tableIn (tgt := 64) hx hb d_BM_count_1 (by decide +kernel) (by decide +kernel) rfl (by decide) ?_
    refine lv_aload_n hx hb d_BM_count_64 rfl (lv_at hl 0 rfl) ?_
    refine va_get (D := (dC, dI)) (ci := 3) (v := .ref oN) (C := RX3) (T := TX3) (N := 3) hx hb hts in_X3 hown hK hP 0 rfl rfl 0 (by decide) (hts _ lk_BM_18) (fun _ h9 => h9) rfl d_BM_count_65 ?_
    refine va_getN (D := (dC, dI)) (ci := 2) (v := .int (nI sc)) (C := RX2) (T := TX2) (N := 13) hx hb hts in_X2 hown hK hP 1 rfl rfl 9 (by decide) (va_Nw.use rfl (hN _ nl_BM_153)) (fun _ h9 => h9) rfl d_BM_count_68 ?_
    refine lv_aload_n hx hb d_BM_count_71 rfl (lv_at hl 0 rfl) ?_
    refine va_get (D := (dC, dI)) (ci := 3) (v := .ref oN) (C := RX3) (T := TX3) (N := 3) hx hb hts in_X3 hown hK hP 0 rfl rfl 0 (by decide) (hts _ lk_BM_18) (fun _ h9 => h9) rfl d_BM_count_72 ?_
    refine va_getN (D := (dC, dI)) (ci := 2) (v := .int (nI s1)) (C := RX2) (T := TX2) (N := 13) hx hb hts in_X2 hown hK hP 1 rfl rfl 10 (by decide) (va_Nw.use rfl (hN _ nl_BM_156)) (fun _ h9 => h9) rfl d_BM_count_75 ?_
    refine lv_isub hx hb d_BM_count_78 ?_
    refine bx_top (y := nI (sc - s1)) (pk_sub hs1) ?_
    exact W.iret (v := nI (sc - s1)) hx hb hr (fun t ht hW => ⟨nI (sc - s1), rfl, by rw [h_2]; rfl, ht⟩) (fun q h => by cases h) d_BM_count_79
  by_cases h_3 : x = nI 3
  · refine bx_top (y := nI 3) h_3 ?_
    refine lv_tableIn (tgt := 80) hx hb d_BM_count_1 (by decide +kernel) (by decide +kernel) rfl (by decide) ?_
    refine lv_aload_n hx hb d_BM_count_80 rfl (lv_at hl 0 rfl) ?_
    refine va_get (D := (dC, dI)) (ci := 3) (v := .ref oN) (C := RX3) (T := TX3) (N := 3) hx hb hts in_X3 hown hK hP 0 rfl rfl 0 (by decide) (hts _ lk_BM_18) (fun _ h9 => h9) rfl d_BM_count_81 ?_
    refine va_getN (D := (dC, dI)) (ci := 2) (v := .int (nI s1)) (C := RX2) (T := TX2) (N := 13) hx hb hts in_X2 hown hK hP 1 rfl rfl 10 (by decide) (va_Nw.use rfl (hN _ nl_BM_156)) (fun _ h9 => h9) rfl d_BM_count_84 ?_
    exact W.iret (v := nI s1) hx hb hr (fun t ht hW => ⟨nI s1, rfl, by rw [h_3]; rfl, ht⟩) (fun q h => by cases h) d_BM_count_87
  by_cases h_4 : x = nI 4
  · refine bx_top (y := nI 4) h_4 ?_
    refine lv_tableIn (tgt := 88) hx hb d_BM_count_1 (by decide +kernel) (by decide +kernel) rfl (by decide) ?_
    refine lv_aload_n hx hb d_BM_count_88 rfl (lv_at hl 0 rfl) ?_
    refine va_get (D := (dC, dI)) (ci := 3) (v := .ref oN) (C := RX3) (T := TX3) (N := 3) hx hb hts in_X3 hown hK hP 0 rfl rfl 0 (by decide) (hts _ lk_BM_18) (fun _ h9 => h9) rfl d_BM_count_89 ?_
    have hPc := hP.sub (ws' := [(oN, .inr (2, [.int (nI wb), .int (nI (2 ^ wb)), .ref aK, .ref aL, .ref aR, .ref aX, .ref aP, .ref aQ, .int (nI n), .int (nI sc), .int (nI s1), .int (nI np), .int (nI fr)])), (aK, .inl (cI, 100, .inl (fun z9 => nI (kd z9)))), (aL, .inl (cI, 100, .inl (fun z9 => nI (lf z9)))), (aR, .inl (cI, 100, .inl (fun z9 => nI (rt z9)))), (aX, .inl (cI, 14, .inl (fun z9 => nI (nx z9)))), (aP, .inl (cI, 16, .inl (fun z9 => nI (pl z9)))), (aQ, .inl (cI, 16, .inl (fun z9 => nI (pr z9))))]) [1, 2, 3, 4, 5, 6, 7] rfl
    refine bx_callR (va_runVN (As := []) (rest := []) ⟨hx, hb, hml, hown, hts⟩ (k_Net_gateCount l dC dI cI cZ cJ oN aK aL aR aX aP aQ wb n sc s1 np fr kd lf rt nx pl pr hwn) (bx_nV (n := 0) hts hN mc_Net_gateCount nl_BM_159 mi_Net_gateCount ms_Net_gateCount ini_Net (by decide +kernel) ⟨Nat.le_of_ble_eq_true rfl, Nat.le_of_ble_eq_true rfl⟩) (bx_prV hE hS hPc (ci := 2) (q0 := 0) rfl rfl) rfl rfl hl.1 rfl (lv_room (Nat.le_of_ble_eq_true rfl)) d_BM_count_92 ⟨Nat.zero_le _, Nat.zero_le _⟩) (fun r_1 hw_r_1 => ?_)
    refine bx_top (y := nI (n - wb - sc)) hw_r_1 ?_
    exact W.iret (v := nI (n - wb - sc)) hx hb hr (fun t ht hW => ⟨nI (n - wb - sc), rfl, by rw [h_4]; rfl, ht⟩) (fun q h => by cases h) d_BM_count_95
  by_cases h_5 : x = nI 5
  · refine bx_top (y := nI 5) h_5 ?_
    refine lv_tableIn (tgt := 96) hx hb d_BM_count_1 (by decide +kernel) (by decide +kernel) rfl (by decide) ?_
    refine lv_aload_n hx hb d_BM_count_96 rfl (lv_at hl 0 rfl) ?_
    refine va_get (D := (dC, dI)) (ci := 3) (v := .ref oN) (C := RX3) (T := TX3) (N := 3) hx hb hts in_X3 hown hK hP 0 rfl rfl 0 (by decide) (hts _ lk_BM_18) (fun _ h9 => h9) rfl d_BM_count_97 ?_
    refine va_getN (D := (dC, dI)) (ci := 2) (v := .int (nI np)) (C := RX2) (T := TX2) (N := 13) hx hb hts in_X2 hown hK hP 1 rfl rfl 11 (by decide) (va_Nw.use rfl (hN _ nl_BM_101)) (fun _ h9 => h9) rfl d_BM_count_100 ?_
    exact W.iret (v := nI np) hx hb hr (fun t ht hW => ⟨nI np, rfl, by rw [h_5]; rfl, ht⟩) (fun q h => by cases h) d_BM_count_103
  by_cases h_6 : x = nI 6
  · refine bx_top (y := nI 6) h_6 ?_
    refine lv_tableIn (tgt := 104) hx hb d_BM_count_1 (by decide +kernel) (by decide +kernel) rfl (by decide) ?_
    refine lv_aload_n hx hb d_BM_count_104 rfl (lv_at hl 0 rfl) ?_
    refine va_get (D := (dC, dI)) (ci := 3) (v := .ref oH) (C := RX3) (T := TX3) (N := 3) hx hb hts in_X3 hown hK hP 0 rfl rfl 2 (by decide) (hts _ lk_BM_36) (fun _ h9 => h9) rfl d_BM_count_105 ?_
    refine va_getN (D := (dC, dI)) (ci := 0) (v := .int (nI ch)) (C := RX0) (T := TX0) (N := 6) hx hb hts in_X0 hown hK hP 8 rfl rfl 4 (by decide) (va_Nw.use rfl (hN _ nl_BM_163)) (fun _ h9 => h9) rfl d_BM_count_108 ?_
    exact W.iret (v := nI ch) hx hb hr (fun t ht hW => ⟨nI ch, rfl, by rw [h_6]; rfl, ht⟩) (fun q h => by cases h) d_BM_count_111
  by_cases h_7 : x = nI 7
  · refine bx_top (y := nI 7) h_7 ?_
    refine lv_tableIn (tgt := 112) hx hb d_BM_count_1 (by decide +kernel) (by decide +kernel) rfl (by decide) ?_
    refine lv_aload_n hx hb d_BM_count_112 rfl (lv_at hl 0 rfl) ?_
    refine va_get (D := (dC, dI)) (ci := 3) (v := .ref oH) (C := RX3) (T := TX3) (N := 3) hx hb hts in_X3 hown hK hP 0 rfl rfl 2 (by decide) (hts _ lk_BM_36) (fun _ h9 => h9) rfl d_BM_count_113 ?_
    refine va_getN (D := (dC, dI)) (ci := 0) (v := .int fp) (C := RX0) (T := TX0) (N := 6) hx hb hts in_X0 hown hK hP 8 rfl rfl 5 (by decide) (va_Nw.use rfl (hN _ nl_BM_166)) (fun _ h9 => h9) rfl d_BM_count_116 ?_
    exact W.iret (v := fp) hx hb hr (fun t ht hW => ⟨fp, rfl, by rw [h_7]; rfl, ht⟩) (fun q h => by cases h) d_BM_count_119
  · refine lv_tableOut (tgt := 120) hx hb d_BM_count_1 (bm_out8 x h_0 h_1 h_2 h_3 h_4 h_5 h_6 h_7) (by decide) ?_
    refine lv_iconst (v := (-1)) hx hb d_BM_count_120 (by decide +kernel) ?_
    exact W.iret (v := (-1)) hx hb hr (fun t ht hW => ⟨(-1), rfl, by unfold bm_cnt; rw [if_neg h_0, if_neg h_1, if_neg h_2, if_neg h_3, if_neg h_4, if_neg h_5, if_neg h_6, if_neg h_7], ht⟩) (fun q h => by cases h) d_BM_count_121

set_option maxHeartbeats 4000000 in
set_option maxRecDepth 100000 in
theorem k_BM_replay_none (l : Launch) (dC : Nat → ClassId) (dI : Nat → Nat → Nat) (cI cZ cJ : ClassId) (oB oN oH : Nat) (oU aU aW aO aS aG aB : Nat) (lu : Nat → Int32) (rw og st pg : Nat → Nat) (kn : Nat → Int32) (rc cl : Nat) (pL : Int32) (hpL : pL = (-1)) : Met l y_BM_replay (bw y_BM_replay b_BM_replay 4 (some .int)) ({ frames := 0, cells := 0, slots := 0, locals := 0 }) (bx_pR dC dI cI cZ cJ [.ref oB] [(oB, .inr (3, [.ref oN, .ref oU, .ref oH])), (oU, .inr (1, [.ref oN, .ref aU, .ref aW, .ref aO, .ref aS, .ref aG, .ref aB, .int (nI rc), .int (nI cl), .int pL]))]) (bx_qR (fun r => r = (-1))) 0 0 (fun _ => False) := by
  refine Met.ofW (cc := b_BM_replay) (maxL := 4) (ret := some .int) (by decide) rfl ?_
  intro p e s m args below meth c s₁ B hml hv
  obtain ⟨rfl, hE, hP⟩ := hv
  have hx := B.exec
  have hb := B.bytes
  have hr := B.returns
  have hts9 := atoms_spec (ws := (bw y_BM_replay b_BM_replay 4 (some .int))) B.pre
  have hts : ∀ w ∈ gw, w.before _ s = true := fun w h => hts9 w (List.mem_cons_of_mem _ h)
  have hown : s.vm.findClass RX3 = some m.cls := findClass_of_methodNamed B.named
  have hlocks := B.notSynchronized
  have hK := hE.1
  have hN := hE.2.1
  have hS : va_S (fun _ => False) s.heap s.heap [] := va_S.rf
  have hP : va_P (dC, dI) vwCl [(oB, .inr (3, [.ref oN, .ref oU, .ref oH])), (oU, .inr (1, [.ref oN, .ref aU, .ref aW, .ref aO, .ref aS, .ref aG, .ref aB, .int (nI rc), .int (nI cl), .int pL]))] s.heap := hP
  have hl := lv_entry ([.ref oB]) (n := 4) (Nat.le_of_ble_eq_true rfl)
  rw [lg_entry_eq]
  generalize (lg_sl ([.ref oB]) ++ List.replicate (4 - (lg_sl ([.ref oB])).length) Slot.unset).toArray = ls at hl ⊢
  have hl : lv_has ls 4 [(0, .ref oB)] := hl
  refine lv_aload_n hx hb d_BM_replay_0 rfl (lv_at hl 0 rfl) ?_
  refine va_get (D := (dC, dI)) (ci := 3) (v := .ref oU) (C := RX3) (T := TX3) (N := 3) hx hb hts in_X3 hown hK hP 0 rfl rfl 1 (by decide) (hts _ lk_BM_29) (fun _ h9 => h9) rfl d_BM_replay_1 ?_
  refine va_getN (D := (dC, dI)) (ci := 1) (v := .int pL) (C := RX1) (T := TX1) (N := 10) hx hb hts in_X1 hown hK hP 1 rfl rfl 9 (by decide) (va_Nw.use rfl (hN _ nl_BM_110)) (fun _ h9 => h9) rfl d_BM_replay_4 ?_
  refine lv_iconst (v := (-1)) hx hb d_BM_replay_7 (by decide +kernel) ?_
  refine lv_icmp_ne (tgt := 13) hx hb d_BM_replay_8 (by decide) (fun c9 => absurd c9 (fun h => h hpL)) (fun _ => ?_)
  refine lv_iconst (v := (-1)) hx hb d_BM_replay_11 (by decide +kernel) ?_
  exact W.iret (v := (-1)) hx hb hr (fun t ht hW => ⟨(-1), rfl, rfl, ht⟩) (fun q h => by cases h) d_BM_replay_12

set_option maxHeartbeats 4000000 in
set_option maxRecDepth 100000 in
theorem k_BM_replay_some (l : Launch) (dC : Nat → ClassId) (dI : Nat → Nat → Nat) (cI cZ cJ : ClassId) (sz : Nat) (oB : Nat) (oN aK aL aR aX aP aQ wb n sc s1 np fr : Nat) (kd lf rt nx pl pr : Nat → Nat) (oU aU aW aO aS aG aB : Nat) (lu : Nat → Int32) (rw og st pg : Nat → Nat) (kn : Nat → Int32) (rc cl : Nat) (pL : Int32) (oH aY rh la ch : Nat) (fp : Int32) (lh : Nat → Int32) (hwf : bm_wf wb n sc kd lf rt) (hnp : np ≤ 16) (hpl : ∀ p, p < np → pl p < n ∧ pr p < n) (hnx : ∀ s, s < sc → nx s < n) (ps : Nat) (hpL : pL = nI ps) (hps : 0 < ps ∧ ps ≤ 16384) : Met l y_BM_replay (bw y_BM_replay b_BM_replay 4 (some .int)) ({ frames := 4, cells := 0, slots := 0, locals := 92 }) (bx_pW dC dI cI cZ cJ [.ref oB] [(oB, .inr (3, [.ref oN, .ref oU, .ref oH])), (oN, .inr (2, [.int (nI wb), .int (nI (2 ^ wb)), .ref aK, .ref aL, .ref aR, .ref aX, .ref aP, .ref aQ, .int (nI n), .int (nI sc), .int (nI s1), .int (nI np), .int (nI fr)])), (aK, .inl (cI, 100, .inl (fun z9 => nI (kd z9)))), (aL, .inl (cI, 100, .inl (fun z9 => nI (lf z9)))), (aR, .inl (cI, 100, .inl (fun z9 => nI (rt z9)))), (aX, .inl (cI, 14, .inl (fun z9 => nI (nx z9)))), (aP, .inl (cI, 16, .inl (fun z9 => nI (pl z9)))), (aQ, .inl (cI, 16, .inl (fun z9 => nI (pr z9)))), (oU, .inr (1, [.ref oN, .ref aU, .ref aW, .ref aO, .ref aS, .ref aG, .ref aB, .int (nI rc), .int (nI cl), .int pL])), (aU, .inl (cI, 100, .inl lu)), (aW, .inl (cI, 16384, .inl (fun z9 => nI (rw z9)))), (aO, .inl (cI, 16384, .inl (fun z9 => nI (og z9)))), (aS, .inl (cI, 16386, .inl (fun z9 => nI (st z9)))), (aG, .inl (cI, 16384, .inl (fun z9 => nI (pg z9)))), (aB, .inl (cI, 512, .inl kn)), (oH, .inr (0, [.ref oN, .ref aY, .int (nI rh), .int (nI la), .int (nI ch), .int fp])), (aY, .inl (cI, 100, .inl lh))] sz) (va_Qi (fun (r : Int32) (u9 : Nat × Int32 × (Nat → Int32)) => match u9 with | (la2, f2, ln) => r = (bm_ff (bm_dif n np kd lf rt pl pr) (bm_stp n sc kd lf rt nx) fr (fun k => bm_w wb (nI (pg k))) ps) ∧ (la2 = bm_w wb (nI (pg (ps - 1))) ∧ bm_ln kd lf rt (bm_rp (bm_stp n sc kd lf rt nx) fr (fun k => bm_w wb (nI (pg k))) (ps - 1)) ln n ∧ bm_fp np (fun q => (bm_vals kd lf rt (fun s => ((bm_rp (bm_stp n sc kd lf rt nx) fr (fun k => bm_w wb (nI (pg k))) (ps - 1))).testBit s) (bm_w wb (nI (pg (ps - 1)))) n (pl q) ^^ bm_vals kd lf rt (fun s => ((bm_rp (bm_stp n sc kd lf rt nx) fr (fun k => bm_w wb (nI (pg k))) (ps - 1))).testBit s) (bm_w wb (nI (pg (ps - 1)))) n (pr q))) f2)) (bx_B dC dI (va_A [(oB, .inr (3, [.ref oN, .ref oU, .ref oH])), (oN, .inr (2, [.int (nI wb), .int (nI (2 ^ wb)), .ref aK, .ref aL, .ref aR, .ref aX, .ref aP, .ref aQ, .int (nI n), .int (nI sc), .int (nI s1), .int (nI np), .int (nI fr)])), (aK, .inl (cI, 100, .inl (fun z9 => nI (kd z9)))), (aL, .inl (cI, 100, .inl (fun z9 => nI (lf z9)))), (aR, .inl (cI, 100, .inl (fun z9 => nI (rt z9)))), (aX, .inl (cI, 14, .inl (fun z9 => nI (nx z9)))), (aP, .inl (cI, 16, .inl (fun z9 => nI (pl z9)))), (aQ, .inl (cI, 16, .inl (fun z9 => nI (pr z9)))), (oU, .inr (1, [.ref oN, .ref aU, .ref aW, .ref aO, .ref aS, .ref aG, .ref aB, .int (nI rc), .int (nI cl), .int pL])), (aU, .inl (cI, 100, .inl lu)), (aW, .inl (cI, 16384, .inl (fun z9 => nI (rw z9)))), (aO, .inl (cI, 16384, .inl (fun z9 => nI (og z9)))), (aS, .inl (cI, 16386, .inl (fun z9 => nI (st z9)))), (aG, .inl (cI, 16384, .inl (fun z9 => nI (pg z9)))), (aB, .inl (cI, 512, .inl kn)), (oH, .inr (0, [.ref oN, .ref aY, .int (nI rh), .int (nI la), .int (nI ch), .int fp])), (aY, .inl (cI, 100, .inl lh))] sz) (fun (u9 : Nat × Int32 × (Nat → Int32)) => match u9 with | (la2, f2, ln) => ([(oB, .inr (3, [.ref oN, .ref oU, .ref oH])), (oN, .inr (2, [.int (nI wb), .int (nI (2 ^ wb)), .ref aK, .ref aL, .ref aR, .ref aX, .ref aP, .ref aQ, .int (nI n), .int (nI sc), .int (nI s1), .int (nI np), .int (nI fr)])), (aK, .inl (cI, 100, .inl (fun z9 => nI (kd z9)))), (aL, .inl (cI, 100, .inl (fun z9 => nI (lf z9)))), (aR, .inl (cI, 100, .inl (fun z9 => nI (rt z9)))), (aX, .inl (cI, 14, .inl (fun z9 => nI (nx z9)))), (aP, .inl (cI, 16, .inl (fun z9 => nI (pl z9)))), (aQ, .inl (cI, 16, .inl (fun z9 => nI (pr z9)))), (oU, .inr (1, [.ref oN, .ref aU, .ref aW, .ref aO, .ref aS, .ref aG, .ref aB, .int (nI rc), .int (nI cl), .int pL])), (aU, .inl (cI, 100, .inl lu)), (aW, .inl (cI, 16384, .inl (fun z9 => nI (rw z9)))), (aO, .inl (cI, 16384, .inl (fun z9 => nI (og z9)))), (aS, .inl (cI, 16386, .inl (fun z9 => nI (st z9)))), (aG, .inl (cI, 16384, .inl (fun z9 => nI (pg z9)))), (aB, .inl (cI, 512, .inl kn)), (oH, .inr (0, [.ref oN, .ref aY, .int (nI (bm_rp (bm_stp n sc kd lf rt nx) fr (fun k => bm_w wb (nI (pg k))) ps)), .int (nI la2), .int (nI ps), .int f2])), (aY, .inl (cI, 100, .inl ln))] : va_W))) (va_A [(oB, .inr (3, [.ref oN, .ref oU, .ref oH])), (oN, .inr (2, [.int (nI wb), .int (nI (2 ^ wb)), .ref aK, .ref aL, .ref aR, .ref aX, .ref aP, .ref aQ, .int (nI n), .int (nI sc), .int (nI s1), .int (nI np), .int (nI fr)])), (aK, .inl (cI, 100, .inl (fun z9 => nI (kd z9)))), (aL, .inl (cI, 100, .inl (fun z9 => nI (lf z9)))), (aR, .inl (cI, 100, .inl (fun z9 => nI (rt z9)))), (aX, .inl (cI, 14, .inl (fun z9 => nI (nx z9)))), (aP, .inl (cI, 16, .inl (fun z9 => nI (pl z9)))), (aQ, .inl (cI, 16, .inl (fun z9 => nI (pr z9)))), (oU, .inr (1, [.ref oN, .ref aU, .ref aW, .ref aO, .ref aS, .ref aG, .ref aB, .int (nI rc), .int (nI cl), .int pL])), (aU, .inl (cI, 100, .inl lu)), (aW, .inl (cI, 16384, .inl (fun z9 => nI (rw z9)))), (aO, .inl (cI, 16384, .inl (fun z9 => nI (og z9)))), (aS, .inl (cI, 16386, .inl (fun z9 => nI (st z9)))), (aG, .inl (cI, 16384, .inl (fun z9 => nI (pg z9)))), (aB, .inl (cI, 512, .inl kn)), (oH, .inr (0, [.ref oN, .ref aY, .int (nI rh), .int (nI la), .int (nI ch), .int fp])), (aY, .inl (cI, 100, .inl lh))] sz)) 0 0 (va_A [(oB, .inr (3, [.ref oN, .ref oU, .ref oH])), (oN, .inr (2, [.int (nI wb), .int (nI (2 ^ wb)), .ref aK, .ref aL, .ref aR, .ref aX, .ref aP, .ref aQ, .int (nI n), .int (nI sc), .int (nI s1), .int (nI np), .int (nI fr)])), (aK, .inl (cI, 100, .inl (fun z9 => nI (kd z9)))), (aL, .inl (cI, 100, .inl (fun z9 => nI (lf z9)))), (aR, .inl (cI, 100, .inl (fun z9 => nI (rt z9)))), (aX, .inl (cI, 14, .inl (fun z9 => nI (nx z9)))), (aP, .inl (cI, 16, .inl (fun z9 => nI (pl z9)))), (aQ, .inl (cI, 16, .inl (fun z9 => nI (pr z9)))), (oU, .inr (1, [.ref oN, .ref aU, .ref aW, .ref aO, .ref aS, .ref aG, .ref aB, .int (nI rc), .int (nI cl), .int pL])), (aU, .inl (cI, 100, .inl lu)), (aW, .inl (cI, 16384, .inl (fun z9 => nI (rw z9)))), (aO, .inl (cI, 16384, .inl (fun z9 => nI (og z9)))), (aS, .inl (cI, 16386, .inl (fun z9 => nI (st z9)))), (aG, .inl (cI, 16384, .inl (fun z9 => nI (pg z9)))), (aB, .inl (cI, 512, .inl kn)), (oH, .inr (0, [.ref oN, .ref aY, .int (nI rh), .int (nI la), .int (nI ch), .int fp])), (aY, .inl (cI, 100, .inl lh))] sz) := by
  refine Met.ofW (cc := b_BM_replay) (maxL := 4) (ret := some .int) (by decide) rfl ?_
  intro p e s m args below meth c s₁ B hml hv
  obtain ⟨rfl, hsz, hE, hP, hD0⟩ := hv
  have hx := B.exec
  have hb := B.bytes
  have hr := B.returns
  have hts9 := atoms_spec (ws := (bw y_BM_replay b_BM_replay 4 (some .int))) B.pre
  have hts : ∀ w ∈ gw, w.before _ s = true := fun w h => hts9 w (List.mem_cons_of_mem _ h)
  have hown : s.vm.findClass RX3 = some m.cls := findClass_of_methodNamed B.named
  have hlocks := B.notSynchronized
  subst hsz
  have hD := hD0.self (sz := s.heap.size)
  generalize hAe : va_A [(oB, .inr (3, [.ref oN, .ref oU, .ref oH])), (oN, .inr (2, [.int (nI wb), .int (nI (2 ^ wb)), .ref aK, .ref aL, .ref aR, .ref aX, .ref aP, .ref aQ, .int (nI n), .int (nI sc), .int (nI s1), .int (nI np), .int (nI fr)])), (aK, .inl (cI, 100, .inl (fun z9 => nI (kd z9)))), (aL, .inl (cI, 100, .inl (fun z9 => nI (lf z9)))), (aR, .inl (cI, 100, .inl (fun z9 => nI (rt z9)))), (aX, .inl (cI, 14, .inl (fun z9 => nI (nx z9)))), (aP, .inl (cI, 16, .inl (fun z9 => nI (pl z9)))), (aQ, .inl (cI, 16, .inl (fun z9 => nI (pr z9)))), (oU, .inr (1, [.ref oN, .ref aU, .ref aW, .ref aO, .ref aS, .ref aG, .ref aB, .int (nI rc), .int (nI cl), .int pL])), (aU, .inl (cI, 100, .inl lu)), (aW, .inl (cI, 16384, .inl (fun z9 => nI (rw z9)))), (aO, .inl (cI, 16384, .inl (fun z9 => nI (og z9)))), (aS, .inl (cI, 16386, .inl (fun z9 => nI (st z9)))), (aG, .inl (cI, 16384, .inl (fun z9 => nI (pg z9)))), (aB, .inl (cI, 512, .inl kn)), (oH, .inr (0, [.ref oN, .ref aY, .int (nI rh), .int (nI la), .int (nI ch), .int fp])), (aY, .inl (cI, 100, .inl lh))] s.heap.size = A at hE hD ⊢
  have hA : ∀ q : Nat, s.heap.size ≤ q → A q := fun q h => by rw [← hAe]; exact Or.inr h
  have hS : va_S A s.heap s.heap [] := va_S.rf
  have hK := hE.1
  have hN := hE.2.1
  have hP : va_P (dC, dI) vwCl [(oB, .inr (3, [.ref oN, .ref oU, .ref oH])), (oN, .inr (2, [.int (nI wb), .int (nI (2 ^ wb)), .ref aK, .ref aL, .ref aR, .ref aX, .ref aP, .ref aQ, .int (nI n), .int (nI sc), .int (nI s1), .int (nI np), .int (nI fr)])), (aK, .inl (cI, 100, .inl (fun z9 => nI (kd z9)))), (aL, .inl (cI, 100, .inl (fun z9 => nI (lf z9)))), (aR, .inl (cI, 100, .inl (fun z9 => nI (rt z9)))), (aX, .inl (cI, 14, .inl (fun z9 => nI (nx z9)))), (aP, .inl (cI, 16, .inl (fun z9 => nI (pl z9)))), (aQ, .inl (cI, 16, .inl (fun z9 => nI (pr z9)))), (oU, .inr (1, [.ref oN, .ref aU, .ref aW, .ref aO, .ref aS, .ref aG, .ref aB, .int (nI rc), .int (nI cl), .int pL])), (aU, .inl (cI, 100, .inl lu)), (aW, .inl (cI, 16384, .inl (fun z9 => nI (rw z9)))), (aO, .inl (cI, 16384, .inl (fun z9 => nI (og z9)))), (aS, .inl (cI, 16386, .inl (fun z9 => nI (st z9)))), (aG, .inl (cI, 16384, .inl (fun z9 => nI (pg z9)))), (aB, .inl (cI, 512, .inl kn)), (oH, .inr (0, [.ref oN, .ref aY, .int (nI rh), .int (nI la), .int (nI ch), .int fp])), (aY, .inl (cI, 100, .inl lh))] s.heap := hP
  have hl := lv_entry ([.ref oB]) (n := 4) (Nat.le_of_ble_eq_true rfl)
  rw [lg_entry_eq]
  generalize (lg_sl ([.ref oB]) ++ List.replicate (4 - (lg_sl ([.ref oB])).length) Slot.unset).toArray = ls at hl ⊢
  have hl : lv_has ls 4 [(0, .ref oB)] := hl
  have hwb := hwf.1
  have hpw : 2 ^ wb ≤ 16 := by
    have h3 : wb = 1 ∨ wb = 2 ∨ wb = 3 ∨ wb = 4 := by omega
    rcases h3 with h3 | h3 | h3 | h3 <;> rw [h3] <;> decide
  have hpl1 : ∀ p, p < np → pl p < 100 ∧ pr p < 100 := fun p hp => by have := hpl p hp; omega
  have hnx1 : ∀ s, s < sc → nx s < 100 := fun s hs => by have := hnx s hs; omega
  have hw16 : ∀ x, bm_w wb x < 16 := fun x => Nat.lt_of_lt_of_le (Nat.mod_lt _ (Nat.two_pow_pos wb)) hpw
  have hne : ¬ pL = (-1) := by rw [hpL]; exact bn_ne1 (by omega)
  refine lv_aload_n hx hb d_BM_replay_0 rfl (lv_at hl 0 rfl) ?_
  refine va_get (D := (dC, dI)) (ci := 3) (v := .ref oU) (C := RX3) (T := TX3) (N := 3) hx hb hts in_X3 hown hK hP 0 rfl rfl 1 (by decide) (hts _ lk_BM_29) (fun _ h9 => h9) rfl d_BM_replay_1 ?_
  refine va_getN (D := (dC, dI)) (ci := 1) (v := .int pL) (C := RX1) (T := TX1) (N := 10) hx hb hts in_X1 hown hK hP 8 rfl rfl 9 (by decide) (va_Nw.use rfl (hN _ nl_BM_110)) (fun _ h9 => h9) rfl d_BM_replay_4 ?_
  refine lv_iconst (v := (-1)) hx hb d_BM_replay_7 (by decide +kernel) ?_
  refine lv_icmp_ne (tgt := 13) hx hb d_BM_replay_8 (by decide) (fun _ => ?_) (fun c9 => absurd c9 hne)
  refine lv_aload_n hx hb d_BM_replay_13 rfl (lv_at hl 0 rfl) ?_
  refine va_get (D := (dC, dI)) (ci := 3) (v := .ref oH) (C := RX3) (T := TX3) (N := 3) hx hb hts in_X3 hown hK hP 0 rfl rfl 2 (by decide) (hts _ lk_BM_36) (fun _ h9 => h9) rfl d_BM_replay_14 ?_
  have hPc := hP.sub (ws' := [(oN, .inr (2, [.int (nI wb), .int (nI (2 ^ wb)), .ref aK, .ref aL, .ref aR, .ref aX, .ref aP, .ref aQ, .int (nI n), .int (nI sc), .int (nI s1), .int (nI np), .int (nI fr)])), (aK, .inl (cI, 100, .inl (fun z9 => nI (kd z9)))), (aL, .inl (cI, 100, .inl (fun z9 => nI (lf z9)))), (aR, .inl (cI, 100, .inl (fun z9 => nI (rt z9)))), (aX, .inl (cI, 14, .inl (fun z9 => nI (nx z9)))), (aP, .inl (cI, 16, .inl (fun z9 => nI (pl z9)))), (aQ, .inl (cI, 16, .inl (fun z9 => nI (pr z9)))), (oH, .inr (0, [.ref oN, .ref aY, .int (nI rh), .int (nI la), .int (nI ch), .int fp])), (aY, .inl (cI, 100, .inl lh))]) [1, 2, 3, 4, 5, 6, 7, 15, 16] rfl
  have hDc := hD.sub (ws' := [(oN, .inr (2, [.int (nI wb), .int (nI (2 ^ wb)), .ref aK, .ref aL, .ref aR, .ref aX, .ref aP, .ref aQ, .int (nI n), .int (nI sc), .int (nI s1), .int (nI np), .int (nI fr)])), (aK, .inl (cI, 100, .inl (fun z9 => nI (kd z9)))), (aL, .inl (cI, 100, .inl (fun z9 => nI (lf z9)))), (aR, .inl (cI, 100, .inl (fun z9 => nI (rt z9)))), (aX, .inl (cI, 14, .inl (fun z9 => nI (nx z9)))), (aP, .inl (cI, 16, .inl (fun z9 => nI (pl z9)))), (aQ, .inl (cI, 16, .inl (fun z9 => nI (pr z9)))), (oH, .inr (0, [.ref oN, .ref aY, .int (nI rh), .int (nI la), .int (nI ch), .int fp])), (aY, .inl (cI, 100, .inl lh))]) [1, 2, 3, 4, 5, 6, 7, 15, 16] (by decide) rfl
  have hFc := va_free (wc := [(oN, .inr (2, [.int (nI wb), .int (nI (2 ^ wb)), .ref aK, .ref aL, .ref aR, .ref aX, .ref aP, .ref aQ, .int (nI n), .int (nI sc), .int (nI s1), .int (nI np), .int (nI fr)])), (aK, .inl (cI, 100, .inl (fun z9 => nI (kd z9)))), (aL, .inl (cI, 100, .inl (fun z9 => nI (lf z9)))), (aR, .inl (cI, 100, .inl (fun z9 => nI (rt z9)))), (aX, .inl (cI, 14, .inl (fun z9 => nI (nx z9)))), (aP, .inl (cI, 16, .inl (fun z9 => nI (pl z9)))), (aQ, .inl (cI, 16, .inl (fun z9 => nI (pr z9)))), (oH, .inr (0, [.ref oN, .ref aY, .int (nI rh), .int (nI la), .int (nI ch), .int fp])), (aY, .inl (cI, 100, .inl lh))]) hD hS hA [1, 2, 3, 4, 5, 6, 7, 15, 16] rfl
  refine va_callv (va_runVN (As := []) (rest := []) ⟨hx, hb, hml, hown, hts⟩ (k_Hand_restart l dC dI cI cZ cJ s.heap.size oN aK aL aR aX aP aQ wb n sc s1 np fr kd lf rt nx pl pr oH aY rh la ch fp lh hwf) (bx_nV (n := 0) hts hN mc_Hand_restart nl_BM_136 mi_Hand_restart ms_Hand_restart ini_Hand (by decide +kernel) ⟨Nat.le_of_ble_eq_true rfl, Nat.le_of_ble_eq_true rfl⟩) (bx_pwV hE hS hPc hDc hFc (ci := 0) (q0 := 7) rfl rfl) rfl rfl hl.1 rfl (lv_room (Nat.le_of_ble_eq_true rfl)) d_BM_replay_17 ⟨Nat.le_of_ble_eq_true rfl, Nat.le_of_ble_eq_true rfl⟩) hS (fun q _ h => hFc q h) hFc (fun ln t H1 locs ht hvm hw hB hz1 hk1 hS => ?_)
  obtain ⟨hP1, hD1⟩ := hB
  rw [ht] at hP1
  obtain ⟨hP, hD⟩ := va_join (wr := [(oB, .inr (3, [.ref oN, .ref oU, .ref oH])), (oU, .inr (1, [.ref oN, .ref aU, .ref aW, .ref aO, .ref aS, .ref aG, .ref aB, .int (nI rc), .int (nI cl), .int pL])), (aU, .inl (cI, 100, .inl lu)), (aW, .inl (cI, 16384, .inl (fun z9 => nI (rw z9)))), (aO, .inl (cI, 16384, .inl (fun z9 => nI (og z9)))), (aS, .inl (cI, 16386, .inl (fun z9 => nI (st z9)))), (aG, .inl (cI, 16384, .inl (fun z9 => nI (pg z9)))), (aB, .inl (cI, 512, .inl kn))]) (w1 := [(oN, .inr (2, [.int (nI wb), .int (nI (2 ^ wb)), .ref aK, .ref aL, .ref aR, .ref aX, .ref aP, .ref aQ, .int (nI n), .int (nI sc), .int (nI s1), .int (nI np), .int (nI fr)])), (aK, .inl (cI, 100, .inl (fun z9 => nI (kd z9)))), (aL, .inl (cI, 100, .inl (fun z9 => nI (lf z9)))), (aR, .inl (cI, 100, .inl (fun z9 => nI (rt z9)))), (aX, .inl (cI, 14, .inl (fun z9 => nI (nx z9)))), (aP, .inl (cI, 16, .inl (fun z9 => nI (pl z9)))), (aQ, .inl (cI, 16, .inl (fun z9 => nI (pr z9)))), (oH, .inr (0, [.ref oN, .ref aY, .int (nI fr), .int (nI 0), .int (nI 0), .int (-1)])), (aY, .inl (cI, 100, .inl ln))]) hP hD [1, 2, 3, 4, 5, 6, 7, 15, 16] [0, 8, 9, 10, 11, 12, 13, 14] rfl rfl (by decide) (by decide) hk1 hFc hP1 hD1
  generalize H1 = H at hP hS ⊢
  have hP : va_P (dC, dI) vwCl [(oB, .inr (3, [.ref oN, .ref oU, .ref oH])), (oU, .inr (1, [.ref oN, .ref aU, .ref aW, .ref aO, .ref aS, .ref aG, .ref aB, .int (nI rc), .int (nI cl), .int pL])), (aU, .inl (cI, 100, .inl lu)), (aW, .inl (cI, 16384, .inl (fun z9 => nI (rw z9)))), (aO, .inl (cI, 16384, .inl (fun z9 => nI (og z9)))), (aS, .inl (cI, 16386, .inl (fun z9 => nI (st z9)))), (aG, .inl (cI, 16384, .inl (fun z9 => nI (pg z9)))), (aB, .inl (cI, 512, .inl kn)), (oN, .inr (2, [.int (nI wb), .int (nI (2 ^ wb)), .ref aK, .ref aL, .ref aR, .ref aX, .ref aP, .ref aQ, .int (nI n), .int (nI sc), .int (nI s1), .int (nI np), .int (nI fr)])), (aK, .inl (cI, 100, .inl (fun z9 => nI (kd z9)))), (aL, .inl (cI, 100, .inl (fun z9 => nI (lf z9)))), (aR, .inl (cI, 100, .inl (fun z9 => nI (rt z9)))), (aX, .inl (cI, 14, .inl (fun z9 => nI (nx z9)))), (aP, .inl (cI, 16, .inl (fun z9 => nI (pl z9)))), (aQ, .inl (cI, 16, .inl (fun z9 => nI (pr z9)))), (oH, .inr (0, [.ref oN, .ref aY, .int (nI fr), .int (nI 0), .int (nI 0), .int (-1)])), (aY, .inl (cI, 100, .inl ln))] H := hP
  have hD : va_D A [(oB, .inr (3, [.ref oN, .ref oU, .ref oH])), (oU, .inr (1, [.ref oN, .ref aU, .ref aW, .ref aO, .ref aS, .ref aG, .ref aB, .int (nI rc), .int (nI cl), .int pL])), (aU, .inl (cI, 100, .inl lu)), (aW, .inl (cI, 16384, .inl (fun z9 => nI (rw z9)))), (aO, .inl (cI, 16384, .inl (fun z9 => nI (og z9)))), (aS, .inl (cI, 16386, .inl (fun z9 => nI (st z9)))), (aG, .inl (cI, 16384, .inl (fun z9 => nI (pg z9)))), (aB, .inl (cI, 512, .inl kn)), (oN, .inr (2, [.int (nI wb), .int (nI (2 ^ wb)), .ref aK, .ref aL, .ref aR, .ref aX, .ref aP, .ref aQ, .int (nI n), .int (nI sc), .int (nI s1), .int (nI np), .int (nI fr)])), (aK, .inl (cI, 100, .inl (fun z9 => nI (kd z9)))), (aL, .inl (cI, 100, .inl (fun z9 => nI (lf z9)))), (aR, .inl (cI, 100, .inl (fun z9 => nI (rt z9)))), (aX, .inl (cI, 14, .inl (fun z9 => nI (nx z9)))), (aP, .inl (cI, 16, .inl (fun z9 => nI (pl z9)))), (aQ, .inl (cI, 16, .inl (fun z9 => nI (pr z9)))), (oH, .inr (0, [.ref oN, .ref aY, .int (nI fr), .int (nI 0), .int (nI 0), .int (-1)])), (aY, .inl (cI, 100, .inl ln))] := hD
  refine lv_iconst (v := (-1)) hx hb d_BM_replay_20 (by decide +kernel) ?_
  refine lv_istore_n (lv' := [(1, .int (-1)), (0, .ref oB)]) hx hb d_BM_replay_21 rfl hl (by decide) rfl (fun ls hl => ?_)
  refine lv_iconst (v := nI 0) hx hb d_BM_replay_22 (by decide +kernel) ?_
  refine lv_istore_n (lv' := [(2, .int (nI 0)), (1, .int (-1)), (0, .ref oB)]) hx hb d_BM_replay_23 rfl hl (by decide) rfl (fun ls hl => ?_)
  refine bx_gen (fun V9 hV9 => ?_)
  have loop9 : ∀ (k9 i9 : Nat) (la : Nat) (fp : Int32) (lh : Nat → Int32) (H : Heap) (locs : List Loc) (ls : Array Slot), i9 + k9 = ps → (0 < i9 → (la = bm_w wb (nI (pg (i9 - 1))) ∧ bm_ln kd lf rt (bm_rp (bm_stp n sc kd lf rt nx) fr (fun k => bm_w wb (nI (pg k))) (i9 - 1)) lh n ∧ bm_fp np (fun q => (bm_vals kd lf rt (fun s => ((bm_rp (bm_stp n sc kd lf rt nx) fr (fun k => bm_w wb (nI (pg k))) (i9 - 1))).testBit s) (bm_w wb (nI (pg (i9 - 1)))) n (pl q) ^^ bm_vals kd lf rt (fun s => ((bm_rp (bm_stp n sc kd lf rt nx) fr (fun k => bm_w wb (nI (pg k))) (i9 - 1))).testBit s) (bm_w wb (nI (pg (i9 - 1)))) n (pr q))) fp)) → va_P (dC, dI) vwCl [(oB, .inr (3, [.ref oN, .ref oU, .ref oH])), (oN, .inr (2, [.int (nI wb), .int (nI (2 ^ wb)), .ref aK, .ref aL, .ref aR, .ref aX, .ref aP, .ref aQ, .int (nI n), .int (nI sc), .int (nI s1), .int (nI np), .int (nI fr)])), (aK, .inl (cI, 100, .inl (fun z9 => nI (kd z9)))), (aL, .inl (cI, 100, .inl (fun z9 => nI (lf z9)))), (aR, .inl (cI, 100, .inl (fun z9 => nI (rt z9)))), (aX, .inl (cI, 14, .inl (fun z9 => nI (nx z9)))), (aP, .inl (cI, 16, .inl (fun z9 => nI (pl z9)))), (aQ, .inl (cI, 16, .inl (fun z9 => nI (pr z9)))), (oU, .inr (1, [.ref oN, .ref aU, .ref aW, .ref aO, .ref aS, .ref aG, .ref aB, .int (nI rc), .int (nI cl), .int pL])), (aU, .inl (cI, 100, .inl lu)), (aW, .inl (cI, 16384, .inl (fun z9 => nI (rw z9)))), (aO, .inl (cI, 16384, .inl (fun z9 => nI (og z9)))), (aS, .inl (cI, 16386, .inl (fun z9 => nI (st z9)))), (aG, .inl (cI, 16384, .inl (fun z9 => nI (pg z9)))), (aB, .inl (cI, 512, .inl kn)), (oH, .inr (0, [.ref oN, .ref aY, .int (nI (bm_rp (bm_stp n sc kd lf rt nx) fr (fun k => bm_w wb (nI (pg k))) i9)), .int (nI la), .int (nI i9), .int fp])), (aY, .inl (cI, 100, .inl lh))] H → va_D A [(oB, .inr (3, [.ref oN, .ref oU, .ref oH])), (oN, .inr (2, [.int (nI wb), .int (nI (2 ^ wb)), .ref aK, .ref aL, .ref aR, .ref aX, .ref aP, .ref aQ, .int (nI n), .int (nI sc), .int (nI s1), .int (nI np), .int (nI fr)])), (aK, .inl (cI, 100, .inl (fun z9 => nI (kd z9)))), (aL, .inl (cI, 100, .inl (fun z9 => nI (lf z9)))), (aR, .inl (cI, 100, .inl (fun z9 => nI (rt z9)))), (aX, .inl (cI, 14, .inl (fun z9 => nI (nx z9)))), (aP, .inl (cI, 16, .inl (fun z9 => nI (pl z9)))), (aQ, .inl (cI, 16, .inl (fun z9 => nI (pr z9)))), (oU, .inr (1, [.ref oN, .ref aU, .ref aW, .ref aO, .ref aS, .ref aG, .ref aB, .int (nI rc), .int (nI cl), .int pL])), (aU, .inl (cI, 100, .inl lu)), (aW, .inl (cI, 16384, .inl (fun z9 => nI (rw z9)))), (aO, .inl (cI, 16384, .inl (fun z9 => nI (og z9)))), (aS, .inl (cI, 16386, .inl (fun z9 => nI (st z9)))), (aG, .inl (cI, 16384, .inl (fun z9 => nI (pg z9)))), (aB, .inl (cI, 512, .inl kn)), (oH, .inr (0, [.ref oN, .ref aY, .int (nI (bm_rp (bm_stp n sc kd lf rt nx) fr (fun k => bm_w wb (nI (pg k))) i9)), .int (nI la), .int (nI i9), .int fp])), (aY, .inl (cI, 100, .inl lh))] → va_S A s.heap H locs → lv_has ls 4 [(0, .ref oB), (1, .int (bm_ff (bm_dif n np kd lf rt pl pr) (bm_stp n sc kd lf rt nx) fr (fun k => bm_w wb (nI (pg k))) i9)), (2, .int (nI i9))] → V9 H locs 0 0 (F0 m 24 ls []) := by
    intro k9
    induction k9 with
    | zero =>
      intro i9 la fp lh H locs ls hik9 hla hP hD hS hl
      refine (hV9 _ _ _ _ _).mpr ?_
      have e0 : i9 = ps := by omega
      subst i9
      refine lv_iload_n hx hb d_BM_replay_24 rfl (lv_at hl 2 rfl) ?_
      refine lv_aload_n hx hb d_BM_replay_25 rfl (lv_at hl 0 rfl) ?_
      refine va_get (D := (dC, dI)) (ci := 3) (v := .ref oU) (C := RX3) (T := TX3) (N := 3) hx hb hts in_X3 hown hK hP 0 rfl rfl 1 (by decide) (hts _ lk_BM_29) (fun _ h9 => h9) rfl d_BM_replay_26 ?_
      refine va_getN (D := (dC, dI)) (ci := 1) (v := .int pL) (C := RX1) (T := TX1) (N := 10) hx hb hts in_X1 hown hK hP 8 rfl rfl 9 (by decide) (va_Nw.use rfl (hN _ nl_BM_110)) (fun _ h9 => h9) rfl d_BM_replay_29 ?_
      refine lv_icmp_ge (tgt := 68) hx hb d_BM_replay_32 (by decide) (fun _ => ?_) (fun c9 => absurd (by rw [hpL]; exact nI_le (Nat.le_refl ps) (by omega)) c9)
      refine lv_iload_n hx hb d_BM_replay_68 rfl (lv_at hl 1 rfl) ?_
      have hP9 := hP.sub (ws' := [(oB, .inr (3, [.ref oN, .ref oU, .ref oH])), (oN, .inr (2, [.int (nI wb), .int (nI (2 ^ wb)), .ref aK, .ref aL, .ref aR, .ref aX, .ref aP, .ref aQ, .int (nI n), .int (nI sc), .int (nI s1), .int (nI np), .int (nI fr)])), (aK, .inl (cI, 100, .inl (fun z9 => nI (kd z9)))), (aL, .inl (cI, 100, .inl (fun z9 => nI (lf z9)))), (aR, .inl (cI, 100, .inl (fun z9 => nI (rt z9)))), (aX, .inl (cI, 14, .inl (fun z9 => nI (nx z9)))), (aP, .inl (cI, 16, .inl (fun z9 => nI (pl z9)))), (aQ, .inl (cI, 16, .inl (fun z9 => nI (pr z9)))), (oU, .inr (1, [.ref oN, .ref aU, .ref aW, .ref aO, .ref aS, .ref aG, .ref aB, .int (nI rc), .int (nI cl), .int pL])), (aU, .inl (cI, 100, .inl lu)), (aW, .inl (cI, 16384, .inl (fun z9 => nI (rw z9)))), (aO, .inl (cI, 16384, .inl (fun z9 => nI (og z9)))), (aS, .inl (cI, 16386, .inl (fun z9 => nI (st z9)))), (aG, .inl (cI, 16384, .inl (fun z9 => nI (pg z9)))), (aB, .inl (cI, 512, .inl kn)), (oH, .inr (0, [.ref oN, .ref aY, .int (nI (bm_rp (bm_stp n sc kd lf rt nx) fr (fun k => bm_w wb (nI (pg k))) ps)), .int (nI la), .int (nI ps), .int fp])), (aY, .inl (cI, 100, .inl lh))]) [0, 1, 2, 3, 4, 5, 6, 7, 8, 9, 10, 11, 12, 13, 14, 15, 16] rfl
      have hD9 := hD.sub (ws' := [(oB, .inr (3, [.ref oN, .ref oU, .ref oH])), (oN, .inr (2, [.int (nI wb), .int (nI (2 ^ wb)), .ref aK, .ref aL, .ref aR, .ref aX, .ref aP, .ref aQ, .int (nI n), .int (nI sc), .int (nI s1), .int (nI np), .int (nI fr)])), (aK, .inl (cI, 100, .inl (fun z9 => nI (kd z9)))), (aL, .inl (cI, 100, .inl (fun z9 => nI (lf z9)))), (aR, .inl (cI, 100, .inl (fun z9 => nI (rt z9)))), (aX, .inl (cI, 14, .inl (fun z9 => nI (nx z9)))), (aP, .inl (cI, 16, .inl (fun z9 => nI (pl z9)))), (aQ, .inl (cI, 16, .inl (fun z9 => nI (pr z9)))), (oU, .inr (1, [.ref oN, .ref aU, .ref aW, .ref aO, .ref aS, .ref aG, .ref aB, .int (nI rc), .int (nI cl), .int pL])), (aU, .inl (cI, 100, .inl lu)), (aW, .inl (cI, 16384, .inl (fun z9 => nI (rw z9)))), (aO, .inl (cI, 16384, .inl (fun z9 => nI (og z9)))), (aS, .inl (cI, 16386, .inl (fun z9 => nI (st z9)))), (aG, .inl (cI, 16384, .inl (fun z9 => nI (pg z9)))), (aB, .inl (cI, 512, .inl kn)), (oH, .inr (0, [.ref oN, .ref aY, .int (nI (bm_rp (bm_stp n sc kd lf rt nx) fr (fun k => bm_w wb (nI (pg k))) ps)), .int (nI la), .int (nI ps), .int fp])), (aY, .inl (cI, 100, .inl lh))]) [0, 1, 2, 3, 4, 5, 6, 7, 8, 9, 10, 11, 12, 13, 14, 15, 16] (by decide) rfl
      exact W.iret (v := (bm_ff (bm_dif n np kd lf rt pl pr) (bm_stp n sc kd lf rt nx) fr (fun k => bm_w wb (nI (pg k))) ps)) hx hb hr (fun t ht hW => ⟨⟨(bm_ff (bm_dif n np kd lf rt pl pr) (bm_stp n sc kd lf rt nx) fr (fun k => bm_w wb (nI (pg k))) ps), (la, fp, lh), rfl, ⟨rfl, hla (by omega)⟩, by rw [ht]; exact hP9, hD9⟩, hS.F ht⟩) hS.2.2 d_BM_replay_69
    | succ k9 ih9 =>
      intro i9 la fp lh H locs ls hik9 hla hP hD hS hl
      refine (hV9 _ _ _ _ _).mpr ?_
      refine lv_iload_n hx hb d_BM_replay_24 rfl (lv_at hl 2 rfl) ?_
      refine lv_aload_n hx hb d_BM_replay_25 rfl (lv_at hl 0 rfl) ?_
      refine va_get (D := (dC, dI)) (ci := 3) (v := .ref oU) (C := RX3) (T := TX3) (N := 3) hx hb hts in_X3 hown hK hP 0 rfl rfl 1 (by decide) (hts _ lk_BM_29) (fun _ h9 => h9) rfl d_BM_replay_26 ?_
      refine va_getN (D := (dC, dI)) (ci := 1) (v := .int pL) (C := RX1) (T := TX1) (N := 10) hx hb hts in_X1 hown hK hP 8 rfl rfl 9 (by decide) (va_Nw.use rfl (hN _ nl_BM_110)) (fun _ h9 => h9) rfl d_BM_replay_29 ?_
      refine lv_icmp_ge (tgt := 68) hx hb d_BM_replay_32 (by decide) (fun c9 => absurd c9 (by rw [hpL]; exact nI_ge (by omega) (by omega))) (fun _ => ?_)
      refine lv_aload_n hx hb d_BM_replay_35 rfl (lv_at hl 0 rfl) ?_
      refine va_get (D := (dC, dI)) (ci := 3) (v := .ref oH) (C := RX3) (T := TX3) (N := 3) hx hb hts in_X3 hown hK hP 0 rfl rfl 2 (by decide) (hts _ lk_BM_36) (fun _ h9 => h9) rfl d_BM_replay_36 ?_
      refine lv_aload_n hx hb d_BM_replay_39 rfl (lv_at hl 0 rfl) ?_
      refine va_get (D := (dC, dI)) (ci := 3) (v := .ref oU) (C := RX3) (T := TX3) (N := 3) hx hb hts in_X3 hown hK hP 0 rfl rfl 1 (by decide) (hts _ lk_BM_29) (fun _ h9 => h9) rfl d_BM_replay_40 ?_
      refine lv_iload_n hx hb d_BM_replay_43 rfl (lv_at hl 2 rfl) ?_
      have hPc := hP.sub (ws' := [(oU, .inr (1, [.ref oN, .ref aU, .ref aW, .ref aO, .ref aS, .ref aG, .ref aB, .int (nI rc), .int (nI cl), .int pL])), (aU, .inl (cI, 100, .inl lu)), (aW, .inl (cI, 16384, .inl (fun z9 => nI (rw z9)))), (aO, .inl (cI, 16384, .inl (fun z9 => nI (og z9)))), (aS, .inl (cI, 16386, .inl (fun z9 => nI (st z9)))), (aG, .inl (cI, 16384, .inl (fun z9 => nI (pg z9)))), (aB, .inl (cI, 512, .inl kn))]) [8, 9, 10, 11, 12, 13, 14] rfl
      refine bx_callR (va_runVN (As := [.int (nI i9)]) (rest := [.ref oH]) ⟨hx, hb, hml, hown, hts⟩ (k_Hunt_programWord l dC dI cI cZ cJ oN oU aU aW aO aS aG aB 16384 16386 512 lu rw og st pg kn rc cl pL i9 (by omega) (by decide)) (bx_nV (n := 1) hts hN mc_Hunt_programWord nl_BM_121 mi_Hunt_programWord ms_Hunt_programWord ini_Hunt (by decide +kernel) ⟨Nat.le_of_ble_eq_true rfl, Nat.le_of_ble_eq_true rfl⟩) (bx_prV hE hS hPc (ci := 1) (q0 := 0) rfl rfl) rfl rfl hl.1 rfl (lv_room (Nat.le_of_ble_eq_true rfl)) d_BM_replay_44 ⟨Nat.zero_le _, Nat.zero_le _⟩) (fun r_1 hw_r_1 => ?_)
      refine bx_top (y := nI (pg i9)) hw_r_1 ?_
      have hPc := hP.sub (ws' := [(oN, .inr (2, [.int (nI wb), .int (nI (2 ^ wb)), .ref aK, .ref aL, .ref aR, .ref aX, .ref aP, .ref aQ, .int (nI n), .int (nI sc), .int (nI s1), .int (nI np), .int (nI fr)])), (aK, .inl (cI, 100, .inl (fun z9 => nI (kd z9)))), (aL, .inl (cI, 100, .inl (fun z9 => nI (lf z9)))), (aR, .inl (cI, 100, .inl (fun z9 => nI (rt z9)))), (aX, .inl (cI, 14, .inl (fun z9 => nI (nx z9)))), (aP, .inl (cI, 16, .inl (fun z9 => nI (pl z9)))), (aQ, .inl (cI, 16, .inl (fun z9 => nI (pr z9)))), (oH, .inr (0, [.ref oN, .ref aY, .int (nI (bm_rp (bm_stp n sc kd lf rt nx) fr (fun k => bm_w wb (nI (pg k))) i9)), .int (nI la), .int (nI i9), .int fp])), (aY, .inl (cI, 100, .inl lh))]) [1, 2, 3, 4, 5, 6, 7, 15, 16] rfl
      have hDc := hD.sub (ws' := [(oN, .inr (2, [.int (nI wb), .int (nI (2 ^ wb)), .ref aK, .ref aL, .ref aR, .ref aX, .ref aP, .ref aQ, .int (nI n), .int (nI sc), .int (nI s1), .int (nI np), .int (nI fr)])), (aK, .inl (cI, 100, .inl (fun z9 => nI (kd z9)))), (aL, .inl (cI, 100, .inl (fun z9 => nI (lf z9)))), (aR, .inl (cI, 100, .inl (fun z9 => nI (rt z9)))), (aX, .inl (cI, 14, .inl (fun z9 => nI (nx z9)))), (aP, .inl (cI, 16, .inl (fun z9 => nI (pl z9)))), (aQ, .inl (cI, 16, .inl (fun z9 => nI (pr z9)))), (oH, .inr (0, [.ref oN, .ref aY, .int (nI (bm_rp (bm_stp n sc kd lf rt nx) fr (fun k => bm_w wb (nI (pg k))) i9)), .int (nI la), .int (nI i9), .int fp])), (aY, .inl (cI, 100, .inl lh))]) [1, 2, 3, 4, 5, 6, 7, 15, 16] (by decide) rfl
      have hFc := va_free (wc := [(oN, .inr (2, [.int (nI wb), .int (nI (2 ^ wb)), .ref aK, .ref aL, .ref aR, .ref aX, .ref aP, .ref aQ, .int (nI n), .int (nI sc), .int (nI s1), .int (nI np), .int (nI fr)])), (aK, .inl (cI, 100, .inl (fun z9 => nI (kd z9)))), (aL, .inl (cI, 100, .inl (fun z9 => nI (lf z9)))), (aR, .inl (cI, 100, .inl (fun z9 => nI (rt z9)))), (aX, .inl (cI, 14, .inl (fun z9 => nI (nx z9)))), (aP, .inl (cI, 16, .inl (fun z9 => nI (pl z9)))), (aQ, .inl (cI, 16, .inl (fun z9 => nI (pr z9)))), (oH, .inr (0, [.ref oN, .ref aY, .int (nI (bm_rp (bm_stp n sc kd lf rt nx) fr (fun k => bm_w wb (nI (pg k))) i9)), .int (nI la), .int (nI i9), .int fp])), (aY, .inl (cI, 100, .inl lh))]) hD hS hA [1, 2, 3, 4, 5, 6, 7, 15, 16] rfl
      refine va_calli (va_runVN (As := [.int (nI (pg i9))]) (rest := []) ⟨hx, hb, hml, hown, hts⟩ (k_Hand_step l dC dI cI cZ cJ H.size oN aK aL aR aX aP aQ wb n sc s1 np fr kd lf rt nx pl pr oH aY (bm_rp (bm_stp n sc kd lf rt nx) fr (fun k => bm_w wb (nI (pg k))) i9) la i9 fp lh (nI (pg i9)) hwf hnp hpl1 hnx1) (bx_nV (n := 1) hts hN mc_Hand_step nl_BM_139 mi_Hand_step ms_Hand_step ini_Hand (by decide +kernel) ⟨Nat.le_of_ble_eq_true rfl, Nat.le_of_ble_eq_true rfl⟩) (bx_pwV hE hS hPc hDc hFc (ci := 0) (q0 := 7) rfl rfl) rfl rfl hl.1 rfl (lv_room (Nat.le_of_ble_eq_true rfl)) d_BM_replay_47 ⟨Nat.le_of_ble_eq_true rfl, Nat.le_of_ble_eq_true rfl⟩) hS (fun q _ h => hFc q h) hFc (fun r_2 u t H1 locs ht hvm hw hB hz1 hk1 hS => ?_)
      obtain ⟨ln, f2⟩ := u
      dsimp only at hw
      obtain ⟨hP1, hD1⟩ := hB
      rw [ht] at hP1
      obtain ⟨hP, hD⟩ := va_join (wr := [(oB, .inr (3, [.ref oN, .ref oU, .ref oH])), (oU, .inr (1, [.ref oN, .ref aU, .ref aW, .ref aO, .ref aS, .ref aG, .ref aB, .int (nI rc), .int (nI cl), .int pL])), (aU, .inl (cI, 100, .inl lu)), (aW, .inl (cI, 16384, .inl (fun z9 => nI (rw z9)))), (aO, .inl (cI, 16384, .inl (fun z9 => nI (og z9)))), (aS, .inl (cI, 16386, .inl (fun z9 => nI (st z9)))), (aG, .inl (cI, 16384, .inl (fun z9 => nI (pg z9)))), (aB, .inl (cI, 512, .inl kn))]) (w1 := [(oN, .inr (2, [.int (nI wb), .int (nI (2 ^ wb)), .ref aK, .ref aL, .ref aR, .ref aX, .ref aP, .ref aQ, .int (nI n), .int (nI sc), .int (nI s1), .int (nI np), .int (nI fr)])), (aK, .inl (cI, 100, .inl (fun z9 => nI (kd z9)))), (aL, .inl (cI, 100, .inl (fun z9 => nI (lf z9)))), (aR, .inl (cI, 100, .inl (fun z9 => nI (rt z9)))), (aX, .inl (cI, 14, .inl (fun z9 => nI (nx z9)))), (aP, .inl (cI, 16, .inl (fun z9 => nI (pl z9)))), (aQ, .inl (cI, 16, .inl (fun z9 => nI (pr z9)))), (oH, .inr (0, [.ref oN, .ref aY, .int (nI (bn_row (fun s => bt (ln (nx s)) (bm_w wb (nI (pg i9)))) sc)), .int (nI (bm_w wb (nI (pg i9)))), .int (nI (i9 + 1)), .int f2])), (aY, .inl (cI, 100, .inl ln))]) hP hD [1, 2, 3, 4, 5, 6, 7, 15, 16] [0, 8, 9, 10, 11, 12, 13, 14] rfl rfl (by decide) (by decide) hk1 hFc hP1 hD1
      generalize H1 = H at hP hS ⊢
      have hP : va_P (dC, dI) vwCl [(oB, .inr (3, [.ref oN, .ref oU, .ref oH])), (oU, .inr (1, [.ref oN, .ref aU, .ref aW, .ref aO, .ref aS, .ref aG, .ref aB, .int (nI rc), .int (nI cl), .int pL])), (aU, .inl (cI, 100, .inl lu)), (aW, .inl (cI, 16384, .inl (fun z9 => nI (rw z9)))), (aO, .inl (cI, 16384, .inl (fun z9 => nI (og z9)))), (aS, .inl (cI, 16386, .inl (fun z9 => nI (st z9)))), (aG, .inl (cI, 16384, .inl (fun z9 => nI (pg z9)))), (aB, .inl (cI, 512, .inl kn)), (oN, .inr (2, [.int (nI wb), .int (nI (2 ^ wb)), .ref aK, .ref aL, .ref aR, .ref aX, .ref aP, .ref aQ, .int (nI n), .int (nI sc), .int (nI s1), .int (nI np), .int (nI fr)])), (aK, .inl (cI, 100, .inl (fun z9 => nI (kd z9)))), (aL, .inl (cI, 100, .inl (fun z9 => nI (lf z9)))), (aR, .inl (cI, 100, .inl (fun z9 => nI (rt z9)))), (aX, .inl (cI, 14, .inl (fun z9 => nI (nx z9)))), (aP, .inl (cI, 16, .inl (fun z9 => nI (pl z9)))), (aQ, .inl (cI, 16, .inl (fun z9 => nI (pr z9)))), (oH, .inr (0, [.ref oN, .ref aY, .int (nI (bn_row (fun s => bt (ln (nx s)) (bm_w wb (nI (pg i9)))) sc)), .int (nI (bm_w wb (nI (pg i9)))), .int (nI (i9 + 1)), .int f2])), (aY, .inl (cI, 100, .inl ln))] H := hP
      have hD : va_D A [(oB, .inr (3, [.ref oN, .ref oU, .ref oH])), (oU, .inr (1, [.ref oN, .ref aU, .ref aW, .ref aO, .ref aS, .ref aG, .ref aB, .int (nI rc), .int (nI cl), .int pL])), (aU, .inl (cI, 100, .inl lu)), (aW, .inl (cI, 16384, .inl (fun z9 => nI (rw z9)))), (aO, .inl (cI, 16384, .inl (fun z9 => nI (og z9)))), (aS, .inl (cI, 16386, .inl (fun z9 => nI (st z9)))), (aG, .inl (cI, 16384, .inl (fun z9 => nI (pg z9)))), (aB, .inl (cI, 512, .inl kn)), (oN, .inr (2, [.int (nI wb), .int (nI (2 ^ wb)), .ref aK, .ref aL, .ref aR, .ref aX, .ref aP, .ref aQ, .int (nI n), .int (nI sc), .int (nI s1), .int (nI np), .int (nI fr)])), (aK, .inl (cI, 100, .inl (fun z9 => nI (kd z9)))), (aL, .inl (cI, 100, .inl (fun z9 => nI (lf z9)))), (aR, .inl (cI, 100, .inl (fun z9 => nI (rt z9)))), (aX, .inl (cI, 14, .inl (fun z9 => nI (nx z9)))), (aP, .inl (cI, 16, .inl (fun z9 => nI (pl z9)))), (aQ, .inl (cI, 16, .inl (fun z9 => nI (pr z9)))), (oH, .inr (0, [.ref oN, .ref aY, .int (nI (bn_row (fun s => bt (ln (nx s)) (bm_w wb (nI (pg i9)))) sc)), .int (nI (bm_w wb (nI (pg i9)))), .int (nI (i9 + 1)), .int f2])), (aY, .inl (cI, 100, .inl ln))] := hD
      obtain ⟨hr1, hln, hfd⟩ := hw
      have hX : (bm_rp (bm_stp n sc kd lf rt nx) fr (fun k => bm_w wb (nI (pg k))) (i9 + 1)) = bn_row (fun s => bt (ln (nx s)) (bm_w wb (nI (pg i9)))) sc := (bm_stp_ln hln hnx (hw16 _)).symm
      have hfp : bm_fp np (fun q => bt (ln (pl q)) (bm_w wb (nI (pg i9))) ^^ bt (ln (pr q)) (bm_w wb (nI (pg i9)))) f2 := hfd
      have hfv : bm_fp np (fun q => (bm_vals kd lf rt (fun s => ((bm_rp (bm_stp n sc kd lf rt nx) fr (fun k => bm_w wb (nI (pg k))) i9)).testBit s) (bm_w wb (nI (pg i9))) n (pl q) ^^ bm_vals kd lf rt (fun s => ((bm_rp (bm_stp n sc kd lf rt nx) fr (fun k => bm_w wb (nI (pg k))) i9)).testBit s) (bm_w wb (nI (pg i9))) n (pr q))) f2 := bm_fp_cg hfp (fun q hq => by rw [hln _ (hpl q hq).1 _ (hw16 _), hln _ (hpl q hq).2 _ (hw16 _)])
      have hdd : decide (¬ f2 = (-1)) = (bm_dif n np kd lf rt pl pr) (bm_rp (bm_stp n sc kd lf rt nx) fr (fun k => bm_w wb (nI (pg k))) i9) (bm_w wb (nI (pg i9))) := (bm_fp_any hnp hfv).1
      rw [← hX] at hP hD
      refine lv_istore_n (lv' := [(3, .int r_2), (0, .ref oB), (1, .int (bm_ff (bm_dif n np kd lf rt pl pr) (bm_stp n sc kd lf rt nx) fr (fun k => bm_w wb (nI (pg k))) i9)), (2, .int (nI i9))]) hx hb d_BM_replay_50 rfl hl (by decide) rfl (fun ls hl => ?_)
      refine lv_iload_n hx hb d_BM_replay_51 rfl (lv_at hl 0 rfl) ?_
      refine lv_if_eq (tgt := 62) hx hb d_BM_replay_52 (by decide) (fun c_1 => ?_) (fun c_1 => ?_)
      · have hdf : (bm_dif n np kd lf rt pl pr) (bm_rp (bm_stp n sc kd lf rt nx) fr (fun k => bm_w wb (nI (pg k))) i9) (bm_w wb (nI (pg i9))) = false := by rw [← hdd]; exact (bz_0 _).mp (hr1.symm.trans c_1)
        have hY : (bm_ff (bm_dif n np kd lf rt pl pr) (bm_stp n sc kd lf rt nx) fr (fun k => bm_w wb (nI (pg k))) (i9 + 1)) = (bm_ff (bm_dif n np kd lf rt pl pr) (bm_stp n sc kd lf rt nx) fr (fun k => bm_w wb (nI (pg k))) i9) := if_neg (fun h => by rw [hdf] at h; cases h.1)
        refine lv_iinc (v := nI (i9 + 1)) (lv' := [(2, .int (nI (i9 + 1))), (3, .int r_2), (0, .ref oB), (1, .int (bm_ff (bm_dif n np kd lf rt pl pr) (bm_stp n sc kd lf rt nx) fr (fun k => bm_w wb (nI (pg k))) i9))]) hx hb d_BM_replay_62 hl (k := 3) rfl (bx_inc _) (by decide) rfl (fun ls hl => ?_)
        refine lv_goto (tgt := 24) hx hb d_BM_replay_65 (by decide) ?_
        have hl : lv_has ls 4 [(2, .int (nI (i9 + 1))), (3, .int r_2), (0, .ref oB), (1, .int (bm_ff (bm_dif n np kd lf rt pl pr) (bm_stp n sc kd lf rt nx) fr (fun k => bm_w wb (nI (pg k))) (i9 + 1)))] := by rw [hY]; exact hl
        exact (hV9 _ _ _ _ _).mp (ih9 (i9 + 1) (bm_w wb (nI (pg i9))) f2 ln _ _ ls (by omega) (fun _ => ⟨rfl, hln, hfv⟩) (hP.sub [0, 8, 9, 10, 11, 12, 13, 14, 1, 2, 3, 4, 5, 6, 7, 15, 16] rfl) (hD.sub [0, 8, 9, 10, 11, 12, 13, 14, 1, 2, 3, 4, 5, 6, 7, 15, 16] (by decide) rfl) hS (lv_sub hl [2, 3, 0] rfl))
      · have hdt : (bm_dif n np kd lf rt pl pr) (bm_rp (bm_stp n sc kd lf rt nx) fr (fun k => bm_w wb (nI (pg k))) i9) (bm_w wb (nI (pg i9))) = true := by rw [← hdd]; exact (bz_n0 _).mp (fun h => c_1 (hr1.trans h))
        refine lv_iload_n hx hb d_BM_replay_55 rfl (lv_at hl 2 rfl) ?_
        refine lv_iconst (v := (-1)) hx hb d_BM_replay_56 (by decide +kernel) ?_
        refine lv_icmp_ne (tgt := 62) hx hb d_BM_replay_57 (by decide) (fun c_2 => ?_) (fun c_2 => ?_)
        · have hY : (bm_ff (bm_dif n np kd lf rt pl pr) (bm_stp n sc kd lf rt nx) fr (fun k => bm_w wb (nI (pg k))) (i9 + 1)) = (bm_ff (bm_dif n np kd lf rt pl pr) (bm_stp n sc kd lf rt nx) fr (fun k => bm_w wb (nI (pg k))) i9) := if_neg (fun h => c_2 h.2)
          refine lv_iinc (v := nI (i9 + 1)) (lv' := [(2, .int (nI (i9 + 1))), (3, .int r_2), (0, .ref oB), (1, .int (bm_ff (bm_dif n np kd lf rt pl pr) (bm_stp n sc kd lf rt nx) fr (fun k => bm_w wb (nI (pg k))) i9))]) hx hb d_BM_replay_62 hl (k := 3) rfl (bx_inc _) (by decide) rfl (fun ls hl => ?_)
          refine lv_goto (tgt := 24) hx hb d_BM_replay_65 (by decide) ?_
          have hl : lv_has ls 4 [(2, .int (nI (i9 + 1))), (3, .int r_2), (0, .ref oB), (1, .int (bm_ff (bm_dif n np kd lf rt pl pr) (bm_stp n sc kd lf rt nx) fr (fun k => bm_w wb (nI (pg k))) (i9 + 1)))] := by rw [hY]; exact hl
          exact (hV9 _ _ _ _ _).mp (ih9 (i9 + 1) (bm_w wb (nI (pg i9))) f2 ln _ _ ls (by omega) (fun _ => ⟨rfl, hln, hfv⟩) (hP.sub [0, 8, 9, 10, 11, 12, 13, 14, 1, 2, 3, 4, 5, 6, 7, 15, 16] rfl) (hD.sub [0, 8, 9, 10, 11, 12, 13, 14, 1, 2, 3, 4, 5, 6, 7, 15, 16] (by decide) rfl) hS (lv_sub hl [2, 3, 0] rfl))
        · have hm1 : (bm_ff (bm_dif n np kd lf rt pl pr) (bm_stp n sc kd lf rt nx) fr (fun k => bm_w wb (nI (pg k))) i9) = (-1) := c_2
          have hY : (bm_ff (bm_dif n np kd lf rt pl pr) (bm_stp n sc kd lf rt nx) fr (fun k => bm_w wb (nI (pg k))) (i9 + 1)) = nI i9 := if_pos ⟨hdt, hm1⟩
          refine lv_iload_n hx hb d_BM_replay_60 rfl (lv_at hl 3 rfl) ?_
          refine lv_istore_n (lv' := [(1, .int (nI i9)), (3, .int r_2), (0, .ref oB), (2, .int (nI i9))]) hx hb d_BM_replay_61 rfl hl (by decide) rfl (fun ls hl => ?_)
          refine lv_iinc (v := nI (i9 + 1)) (lv' := [(2, .int (nI (i9 + 1))), (1, .int (nI i9)), (3, .int r_2), (0, .ref oB)]) hx hb d_BM_replay_62 hl (k := 3) rfl (bx_inc _) (by decide) rfl (fun ls hl => ?_)
          refine lv_goto (tgt := 24) hx hb d_BM_replay_65 (by decide) ?_
          have hl : lv_has ls 4 [(2, .int (nI (i9 + 1))), (1, .int (bm_ff (bm_dif n np kd lf rt pl pr) (bm_stp n sc kd lf rt nx) fr (fun k => bm_w wb (nI (pg k))) (i9 + 1))), (3, .int r_2), (0, .ref oB)] := by rw [hY]; exact hl
          exact (hV9 _ _ _ _ _).mp (ih9 (i9 + 1) (bm_w wb (nI (pg i9))) f2 ln _ _ ls (by omega) (fun _ => ⟨rfl, hln, hfv⟩) (hP.sub [0, 8, 9, 10, 11, 12, 13, 14, 1, 2, 3, 4, 5, 6, 7, 15, 16] rfl) (hD.sub [0, 8, 9, 10, 11, 12, 13, 14, 1, 2, 3, 4, 5, 6, 7, 15, 16] (by decide) rfl) hS (lv_sub hl [3, 1, 0] rfl))
  exact loop9 ps 0 0 (-1) ln _ _ ls (Nat.zero_add _) (fun h => absurd h (Nat.lt_irrefl 0)) (hP.sub [0, 8, 9, 10, 11, 12, 13, 14, 1, 2, 3, 4, 5, 6, 7, 15, 16] rfl) (hD.sub [0, 8, 9, 10, 11, 12, 13, 14, 1, 2, 3, 4, 5, 6, 7, 15, 16] (by decide) rfl) hS (lv_sub hl [2, 1, 0] rfl)
