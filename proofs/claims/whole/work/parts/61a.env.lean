-- ===== the start: what the tables and the premises give =====
theorem lw_gt {L j : Nat} (hL : L ≤ 2049) (hj : j ≤ 2060) : nI L - nI 4 < nI j ↔ L < j + 4 := by
  rw [Int32.lt_iff_toInt_lt, Int32.toInt_sub, nI_toInt (show L < 2 ^ 31 by omega), nI_toInt (show j < 2 ^ 31 by omega), nI_toInt (show 4 < 2 ^ 31 by decide), Int.bmod_eq_of_le (by omega) (by omega)]
  omega
theorem bm_z0 (wb : Nat) : bm_z wb (bm_k0 wb) (bm_l0 wb) (fun _ => 0) := fun z hz => ⟨if_neg (by omega), if_neg (by omega), rfl⟩
theorem lw_sh0 {wb : Nat} {sh : Nat → Bool} (h : mo_fst (bm_k0 wb) (bm_l0 wb) 0 sh wb) : ∀ j, j < wb → bt (nI 0) 0 = sh j := by
  intro j hj
  rw [h j hj, show bm_k0 wb j = 6 from if_pos hj, decide_eq_false (by decide), Bool.false_and]
  exact b_0 0
theorem lw_prX {s : State} {H : Heap} {locs : List Loc} {A : Nat → Prop} {b L : Nat} {xs : Nat → Int32} (hSX : va_X b L xs s s.heap) (hbl : b < s.heap.size) (hbA : ¬ A b) (hS : va_S A s.heap H locs) : PreS s H (va_Pc [.ref b, .int (nI 0)] (fun U => va_X b L xs U U.heap)) [.ref b, .int (nI 0)] :=
  ⟨fun _ U g mk h => ⟨h.1, va_X.moved (u := U) (Vm.Alike.refl U.vm) h.2⟩, fun U hU hW => ⟨rfl, show va_X b L xs U U.heap by rw [hU]; exact ((hSX.moved hW.alike).kept (hS.2.1 b hbl hbA))⟩⟩
theorem nwl_in : ∀ w ∈ nwl, w ∈ lw_tbl := by decide +kernel
theorem nwl_ot : ∀ w ∈ nwl, w.onTables = true := by decide +kernel
theorem xwl_in : ∀ w ∈ xwl, w ∈ lw_tbl := by decide +kernel
theorem xwl_on : ∀ w ∈ xwl, w.onTables = true := by decide +kernel
theorem lw_str {s : State} {b k : Nat} {tx : String} (h1 : (Cond.stringRef RX3 k tx).before #[Value.ref b] s = true) (h2 : (Cond.exactly (.string RX3 k) "java/lang/String").before #[Value.ref b] s = true) : ∃ a : Nat, vk_R RX3 k tx a s := by
  obtain ⟨a, c, cA, kA, q1, q2, q3, q4, q5, q6, -⟩ := Cond.exactly_spec (args := #[Value.ref b]) (first := s) (o := none) (s := s) (idx := []) (t := .string RX3 k) (cls := "java/lang/String") h2
  exact ⟨a, vk_R.of h1 q1⟩
set_option maxHeartbeats 4000000 in
set_option maxRecDepth 100000 in
theorem lw_env {s : State} {b : Nat} (hts0 : ∀ w ∈ lw_tbl, w.before #[Value.ref b] s = true) (hgv : (Jvm.Cond.and given_1 narrow_1).before #[Value.ref b] s = true) : ∃ (dC : Nat → ClassId) (dI : Nat → Nat → Nat) (cI cZ cJ : ClassId), bx_E dC dI cI cZ cJ (fun q => s.heap.size ≤ q) s ∧ bx_x (fun q => s.heap.size ≤ q) s := by
  have hts : ∀ w ∈ gw, w.before #[Value.ref b] s = true := fun w h => hts0 w (gw_tbl h)
  have hs := flat_of_before _ hgv
  have hA : ∀ a : Nat, a < s.heap.size → ¬ (fun q : Nat => s.heap.size ≤ q) a := fun a h => Nat.not_le.mpr h
  obtain ⟨c0, i0, k0⟩ := u_known (C := RX0) (T := TX0) (N := 6) (n := 6) hts in_X0 (hts _ inst_Hand)
  obtain ⟨c1, i1, k1⟩ := u_known (C := RX1) (T := TX1) (N := 10) (n := 10) hts in_X1 (hts _ inst_Hunt)
  obtain ⟨c2, i2, k2⟩ := u_known (C := RX2) (T := TX2) (N := 13) (n := 13) hts in_X2 (hts _ inst_Net)
  obtain ⟨c3, i3, k3⟩ := u_known (C := RX3) (T := TX3) (N := 3) (n := 3) hts in_X3 (hts _ inst_BM)
  obtain ⟨c4, i4, k4⟩ := u_known (C := RX4) (T := TX4) (N := 31) (n := 31) hts in_X4 (hts _ inst_Mod)
  obtain ⟨dC, dI, hKc⟩ : ∃ (dC : Nat → ClassId) (dI : Nat → Nat → Nat), ∀ (k : Nat) (q : vw_C), vwCl[k]? = some q → u_Kn s q.1 q.2.1 q.2.2 (dC k) (dI k) := by
    refine ⟨fun k => if k = 0 then c0 else if k = 1 then c1 else if k = 2 then c2 else if k = 3 then c3 else c4, fun k => if k = 0 then i0 else if k = 1 then i1 else if k = 2 then i2 else if k = 3 then i3 else i4, ?_⟩
    intro k q hq
    match k, hq with
    | 0, hq => cases hq; exact k0
    | 1, hq => cases hq; exact k1
    | 2, hq => cases hq; exact k2
    | 3, hq => cases hq; exact k3
    | 4, hq => cases hq; exact k4
    | k + 5, hq => simp at hq
  obtain ⟨cI, kI, mI, a1, a2, a3⟩ := Cond.arrayClass_spec (hts _ m_arr_int)
  obtain ⟨cZ, kZ, mZ, b1, b2, b3⟩ := Cond.arrayClass_spec (hts _ m_arr_boolean)
  obtain ⟨cJ, kJ, mJ, g1, g2, g3⟩ := Cond.arrayClass_spec (hts _ m_arr_long)
  have hK : va_K (dC, dI) vwCl [(cI, .int), (cZ, .boolean), (cJ, .long)] s := by
    refine ⟨hKc, fun k q hq => ?_⟩
    match k, hq with
    | 0, hq => cases hq; exact ⟨fun n z => ⟨fun k h => (by cases h), kI, a2, mI, a3⟩, a1⟩
    | 1, hq => cases hq; exact ⟨fun n z => ⟨fun k h => (by cases h), kZ, b2, mZ, b3⟩, b1⟩
    | 2, hq => cases hq; exact ⟨fun n z => ⟨fun k h => (by cases h), kJ, g2, mJ, g3⟩, g1⟩
    | k + 3, hq => simp at hq
  have hNw : bx_nw s := fun w hw => va_Nw.of (nwl_ot w hw) (hts0 w (nwl_in w hw))
  obtain ⟨t, ht, hT⟩ := va_Tof (args := #[Value.ref b]) (s := s) (tm := .static "BoundedMachines$Net" "LANES_OF_WORD_BITS" "[I") (ty := .int) (N := 4) (f := fun j => .int (bm_LW j)) (A := fun q => s.heap.size ≤ q) (by decide) (hs _ (by decide +kernel)) (va_eqt (hs (Cond.eq (.length (.static "BoundedMachines$Net" "LANES_OF_WORD_BITS" "[I")) (.int 4)) (by decide +kernel))) (fun j hj => by
    have h4 : j = 0 ∨ j = 1 ∨ j = 2 ∨ j = 3 := by omega
    rcases h4 with h | h | h | h <;> subst h
    · exact va_eqt (hs (Cond.eq (.elem (.static "BoundedMachines$Net" "LANES_OF_WORD_BITS" "[I") (.int 0)) (.int 43690)) (by decide +kernel))
    · exact va_eqt (hs (Cond.eq (.elem (.static "BoundedMachines$Net" "LANES_OF_WORD_BITS" "[I") (.int 1)) (.int 52428)) (by decide +kernel))
    · exact va_eqt (hs (Cond.eq (.elem (.static "BoundedMachines$Net" "LANES_OF_WORD_BITS" "[I") (.int 2)) (.int 61680)) (by decide +kernel))
    · exact va_eqt (hs (Cond.eq (.elem (.static "BoundedMachines$Net" "LANES_OF_WORD_BITS" "[I") (.int 3)) (.int 65280)) (by decide +kernel))) hA
  have hZ : bx_Z (fun q => s.heap.size ≤ q) s := ⟨t, va_Zof (hts0 (.laysStatic "BoundedMachines$Net" "LANES_OF_WORD_BITS" "[I") (by decide +kernel)) (hts _ ini_Net) ht hA, hT⟩
  have hU := vx_Zqof (args := #[Value.ref b]) (s := s) (C := Bundle.tN) (n := "UNASSIGNED_STACK") (d := Bundle.steD) (A := fun q => s.heap.size ≤ q) (hts0 _ (by decide +kernel)) (hts0 _ (by decide +kernel)) (hs _ (by decide +kernel)) hA
  have hV := vx_Zqof (args := #[Value.ref b]) (s := s) (C := Bundle.tN) (n := "SUPPRESSED_SENTINEL") (d := Bundle.listD) (A := fun q => s.heap.size ≤ q) (hts0 _ (by decide +kernel)) (hts0 _ (by decide +kernel)) (hs _ (by decide +kernel)) hA
  have hstr : ∀ q ∈ bx_strs, ∃ a : Nat, vk_R RX3 q.1 q.2 a s := by
    intro q hq
    unfold bx_strs at hq
    simp only [List.mem_cons, List.not_mem_nil, or_false] at hq
    rcases hq with h | h | h | h | h | h | h | h | h | h | h <;> subst h <;> exact lw_str (hts0 _ (by decide +kernel)) (hs _ (by decide +kernel))
  exact ⟨dC, dI, cI, cZ, cJ, ⟨hK, hNw, hZ⟩, hU, hV, hstr, fun w hw => va_Nw.of (xwl_on w hw) (hts0 w (xwl_in w hw)), va_Nc.of (hs (Cond.not (.castable "java/lang/UnsupportedOperationException" "java/lang/IllegalArgumentException")) (by decide +kernel))⟩
