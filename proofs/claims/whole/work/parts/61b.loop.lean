set_option maxHeartbeats 4000000 in
set_option maxRecDepth 100000 in
theorem lw_loop {p : Program} {e : Env} {s : State} {m : MethodId} {below : List Frame} {meth : Method} {c : Code} (l : Launch) {b L : Nat} {xs : Nat → Int32} {dC : Nat → ClassId} {dI : Nat → Nat → Nat} {cI cZ cJ : ClassId} {A : Nat → Prop} (C0 : lw_C p l s m c b L xs dC dI cI cZ cJ A) (hr : meth.sig.returnType = ret) (hlocks : meth.locks = false) (hAl : ∀ q, A q → s.heap.size ≤ q) (hL : L ≤ 2049) (oB oN aK aL aR aX aP aQ oU aU aW aO aS aG aB oH aY oM mS mO mL mR mT mN mX mF mA mB mV mW mQ mY mE mC mG mH aJ : Nat) : ∀ (k9 j : Nat) (v : lw_V) (H : Heap) (locs : List Loc) (ls : Array Slot) (cells slots : Nat), L + 1 ≤ j + 4 * k9 → j ≤ 2060 → cells + k9 ≤ 1072 → slots + 6 * k9 ≤ 173930 → lw_I v → va_P (dC, dI) vwCl (lw_W cI cZ cJ oB oN aK aL aR aX aP aQ oU aU aW aO aS aG aB oH aY oM mS mO mL mR mT mN mX mF mA mB mV mW mQ mY mE mC mG mH aJ v) H → va_D A (lw_W cI cZ cJ oB oN aK aL aR aX aP aQ oU aU aW aO aS aG aB oH aY oM mS mO mL mR mT mN mX mF mA mB mV mW mQ mY mE mC mG mH aJ v) → va_S A s.heap H locs → lv_has ls 7 [(0, .ref b), (1, .ref oB), (2, .ref oM), (3, .ref aJ), (4, .int (nI j))] → W p l e room_1 s m #[Value.ref b] below meth c H locs cells slots (lw_Z below #[Value.ref b] s) (F0 m 33 ls []) := by
  have C9 := C0
  obtain ⟨hx, hb, hml, hown, hts, hSX, hbl, hbA, hA, hE, hX, hst⟩ := C0
  intro k9
  induction k9 with
  | zero =>
    intro j v H locs ls cells slots hk hj hc hs hI hP hD hS hl
    refine lv_iload hx hb d_Law_law_33 (lv_at hl 4 rfl) ?_
    refine lv_aload_n hx hb d_Law_law_35 rfl (lv_at hl 0 rfl) ?_
    refine va_slen hx hb hSX hbl hbA hS d_Law_law_36 ?_
    refine lv_iconst (v := nI 4) hx hb d_Law_law_37 (by decide +kernel) ?_
    refine lv_isub hx hb d_Law_law_38 ?_
    refine lv_icmp_gt (tgt := 774) hx hb d_Law_law_39 (by decide) (fun c_1 => ?_) (fun c_1 => ?_)
    · refine lv_iconst (v := 1) hx hb d_Law_law_774 (by decide +kernel) ?_
      refine va_forget (fun q hq => hAl _ (hS.2.2 q hq)) ?_
      refine W.widen (k := 1072) (n := 173930) (by omega) (by omega) ?_
      exact lw_ret hx hb hr hlocks d_Law_law_775
    · exact absurd ((lw_gt hL hj).mpr (by omega)) c_1
  | succ k9 ih =>
    intro j v H locs ls cells slots hk hj hc hs hI hP hD hS hl
    refine lv_iload hx hb d_Law_law_33 (lv_at hl 4 rfl) ?_
    refine lv_aload_n hx hb d_Law_law_35 rfl (lv_at hl 0 rfl) ?_
    refine va_slen hx hb hSX hbl hbA hS d_Law_law_36 ?_
    refine lv_iconst (v := nI 4) hx hb d_Law_law_37 (by decide +kernel) ?_
    refine lv_isub hx hb d_Law_law_38 ?_
    refine lv_icmp_gt (tgt := 774) hx hb d_Law_law_39 (by decide) (fun c_1 => ?_) (fun c_1 => ?_)
    · refine lv_iconst (v := 1) hx hb d_Law_law_774 (by decide +kernel) ?_
      refine va_forget (fun q hq => hAl _ (hS.2.2 q hq)) ?_
      refine W.widen (k := 1072) (n := 173930) (by omega) (by omega) ?_
      exact lw_ret hx hb hr hlocks d_Law_law_775
    · have hj4 : j + 4 ≤ L := by
        have h9 : ¬ L < j + 4 := fun h => c_1 ((lw_gt hL hj).mpr h)
        omega
      have hc1 : cells + 1 ≤ room_1.cells ∧ slots + 6 ≤ room_1.slots := ⟨show cells + 1 ≤ 1072 by omega, show slots + 6 ≤ 173930 by omega⟩
      have kk : ∀ (v2 : lw_V) (H : Heap) (locs : List Loc) (ls : Array Slot), lw_I v2 → va_P (dC, dI) vwCl (lw_W cI cZ cJ oB oN aK aL aR aX aP aQ oU aU aW aO aS aG aB oH aY oM mS mO mL mR mT mN mX mF mA mB mV mW mQ mY mE mC mG mH aJ v2) H → va_D A (lw_W cI cZ cJ oB oN aK aL aR aX aP aQ oU aU aW aO aS aG aB oH aY oM mS mO mL mR mT mN mX mF mA mB mV mW mQ mY mE mC mG mH aJ v2) → va_S A s.heap H locs → lv_has ls 7 [(0, .ref b), (1, .ref oB), (2, .ref oM), (3, .ref aJ), (4, .int (nI j))] → W p l e room_1 s m #[Value.ref b] below meth c H locs (cells + 1) (slots + 6) (lw_Z below #[Value.ref b] s) (F0 m 768 ls []) := by
        intro v2 H locs ls hI hP hD hS hl
        refine lv_iinc (v := nI (j + 4)) (lv' := [(4, .int (nI (j + 4))), (0, .ref b), (1, .ref oB), (2, .ref oM), (3, .ref aJ)]) hx hb d_Law_law_768 hl (k := 4) rfl (nI_add j 4) (by decide) rfl (fun ls hl => ?_)
        refine lv_goto (tgt := 33) hx hb d_Law_law_771 (by decide) ?_
        exact ih (j + 4) v2 _ _ ls _ _ (by omega) (by omega) (by omega) (by omega) hI hP hD hS (lv_sub hl [1, 2, 3, 4, 0] rfl)
      refine lv_aload_n hx hb d_Law_law_42 rfl (lv_at hl 0 rfl) ?_
      refine lv_iload hx hb d_Law_law_43 (lv_at hl 4 rfl) ?_
      refine va_sld hx hb hSX hbl hbA hS (vp_in_nI (by omega) (by omega)) d_Law_law_45 ?_
      refine lv_bipush (v := nI 15) hx hb d_Law_law_46 (by decide +kernel) ?_
      refine lv_iand hx hb d_Law_law_48 ?_
      obtain ⟨k, hk16, ek⟩ := lw_16 (xs (nI j).toNatClampNeg)
      refine bx_top (y := nI k) ek ?_
      have h16 : k = 0 ∨ k = 1 ∨ k = 2 ∨ k = 3 ∨ k = 4 ∨ k = 5 ∨ k = 6 ∨ k = 7 ∨ k = 8 ∨ k = 9 ∨ k = 10 ∨ k = 11 ∨ k = 12 ∨ k = 13 ∨ k = 14 ∨ k = 15 := by omega
      rcases h16 with h | h | h | h | h | h | h | h | h | h | h | h | h | h | h | h <;> subst h
      · refine lv_tableIn (tgt := 124) hx hb d_Law_law_49 (by decide +kernel) (by decide +kernel) rfl (by decide) ?_
        exact lw_k0 l C9 oB oN aK aL aR aX aP aQ oU aU aW aO aS aG aB oH aY oM mS mO mL mR mT mN mX mF mA mB mV mW mQ mY mE mC mG mH aJ v hI H locs ls cells slots j hj4 hL hc1 hP hD hS hl kk
      · refine lv_tableIn (tgt := 208) hx hb d_Law_law_49 (by decide +kernel) (by decide +kernel) rfl (by decide) ?_
        exact lw_k1 l C9 oB oN aK aL aR aX aP aQ oU aU aW aO aS aG aB oH aY oM mS mO mL mR mT mN mX mF mA mB mV mW mQ mY mE mC mG mH aJ v hI H locs ls cells slots j hj4 hL hc1 hP hD hS hl kk
      · refine lv_tableIn (tgt := 288) hx hb d_Law_law_49 (by decide +kernel) (by decide +kernel) rfl (by decide) ?_
        exact lw_k2 l C9 oB oN aK aL aR aX aP aQ oU aU aW aO aS aG aB oH aY oM mS mO mL mR mT mN mX mF mA mB mV mW mQ mY mE mC mG mH aJ v hI H locs ls cells slots j hj4 hL hc1 hP hD hS hl kk
      · refine lv_tableIn (tgt := 356) hx hb d_Law_law_49 (by decide +kernel) (by decide +kernel) rfl (by decide) ?_
        exact lw_k3 l C9 oB oN aK aL aR aX aP aQ oU aU aW aO aS aG aB oH aY oM mS mO mL mR mT mN mX mF mA mB mV mW mQ mY mE mC mG mH aJ v hI H locs ls cells slots j hj4 hL hc1 hP hD hS hl kk
      · refine lv_tableIn (tgt := 424) hx hb d_Law_law_49 (by decide +kernel) (by decide +kernel) rfl (by decide) ?_
        exact lw_k4 l C9 oB oN aK aL aR aX aP aQ oU aU aW aO aS aG aB oH aY oM mS mO mL mR mT mN mX mF mA mB mV mW mQ mY mE mC mG mH aJ v hI H locs ls cells slots j hj4 hL hc1 hP hD hS hl kk
      · refine lv_tableIn (tgt := 480) hx hb d_Law_law_49 (by decide +kernel) (by decide +kernel) rfl (by decide) ?_
        exact lw_k5 l C9 oB oN aK aL aR aX aP aQ oU aU aW aO aS aG aB oH aY oM mS mO mL mR mT mN mX mF mA mB mV mW mQ mY mE mC mG mH aJ v hI H locs ls cells slots j hj4 hL hc1 hP hD hS hl kk
      · refine lv_tableIn (tgt := 493) hx hb d_Law_law_49 (by decide +kernel) (by decide +kernel) rfl (by decide) ?_
        exact lw_k6 l C9 oB oN aK aL aR aX aP aQ oU aU aW aO aS aG aB oH aY oM mS mO mL mR mT mN mX mF mA mB mV mW mQ mY mE mC mG mH aJ v hI H locs ls cells slots j hj4 hL hc1 hP hD hS hl kk
      · refine lv_tableIn (tgt := 549) hx hb d_Law_law_49 (by decide +kernel) (by decide +kernel) rfl (by decide) ?_
        exact lw_k7 l C9 oB oN aK aL aR aX aP aQ oU aU aW aO aS aG aB oH aY oM mS mO mL mR mT mN mX mF mA mB mV mW mQ mY mE mC mG mH aJ v hI H locs ls cells slots j hj4 hL hc1 hP hD hS hl kk
      · refine lv_tableIn (tgt := 562) hx hb d_Law_law_49 (by decide +kernel) (by decide +kernel) rfl (by decide) ?_
        exact lw_k8 l C9 oB oN aK aL aR aX aP aQ oU aU aW aO aS aG aB oH aY oM mS mO mL mR mT mN mX mF mA mB mV mW mQ mY mE mC mG mH aJ v hI H locs ls cells slots j hj4 hL hc1 hP hD hS hl kk
      · refine lv_tableIn (tgt := 575) hx hb d_Law_law_49 (by decide +kernel) (by decide +kernel) rfl (by decide) ?_
        exact lw_k9 l C9 oB oN aK aL aR aX aP aQ oU aU aW aO aS aG aB oH aY oM mS mO mL mR mT mN mX mF mA mB mV mW mQ mY mE mC mG mH aJ v hI H locs ls cells slots j hj4 hL hc1 hP hD hS hl kk
      · refine lv_tableIn (tgt := 631) hx hb d_Law_law_49 (by decide +kernel) (by decide +kernel) rfl (by decide) ?_
        exact lw_k10 l C9 oB oN aK aL aR aX aP aQ oU aU aW aO aS aG aB oH aY oM mS mO mL mR mT mN mX mF mA mB mV mW mQ mY mE mC mG mH aJ v hI H locs ls cells slots j hj4 hL hc1 hP hD hS hl kk
      · refine lv_tableIn (tgt := 642) hx hb d_Law_law_49 (by decide +kernel) (by decide +kernel) rfl (by decide) ?_
        exact lw_k11 l C9 oB oN aK aL aR aX aP aQ oU aU aW aO aS aG aB oH aY oM mS mO mL mR mT mN mX mF mA mB mV mW mQ mY mE mC mG mH aJ v hI H locs ls cells slots j hj4 hL hc1 hP hD hS hl kk
      · refine lv_tableIn (tgt := 667) hx hb d_Law_law_49 (by decide +kernel) (by decide +kernel) rfl (by decide) ?_
        exact lw_k12 l C9 oB oN aK aL aR aX aP aQ oU aU aW aO aS aG aB oH aY oM mS mO mL mR mT mN mX mF mA mB mV mW mQ mY mE mC mG mH aJ v hI H locs ls cells slots j hj4 hL hc1 hP hD hS hl kk
      · refine lv_tableIn (tgt := 730) hx hb d_Law_law_49 (by decide +kernel) (by decide +kernel) rfl (by decide) ?_
        exact lw_k13 l C9 oB oN aK aL aR aX aP aQ oU aU aW aO aS aG aB oH aY oM mS mO mL mR mT mN mX mF mA mB mV mW mQ mY mE mC mG mH aJ v hI H locs ls cells slots j hj4 hL hc1 hP hD hS hl kk
      · refine lv_tableIn (tgt := 743) hx hb d_Law_law_49 (by decide +kernel) (by decide +kernel) rfl (by decide) ?_
        exact lw_k14 l C9 oB oN aK aL aR aX aP aQ oU aU aW aO aS aG aB oH aY oM mS mO mL mR mT mN mX mF mA mB mV mW mQ mY mE mC mG mH aJ v hI H locs ls cells slots j hj4 hL hc1 hP hD hS hl kk
      · refine lv_tableOut (tgt := 768) hx hb d_Law_law_49 (Or.inr (by decide +kernel)) (by decide) ?_
        refine W.widen (k := cells + 1) (n := slots + 6) (by omega) (by omega) ?_
        exact kk v _ _ ls hI hP hD hS hl
