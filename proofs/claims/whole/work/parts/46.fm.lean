-- ===== Math.floorMod by four; the constructors' numbers =====
theorem bm_t4 (x : Int32) : ((x - x / nI 4 * nI 4).toInt : Int) = x.toInt.tmod 4 := by
  have h4 : (nI 4).toInt = 4 := by decide +kernel
  rw [irem_eq_mod, Int32.toInt_mod, h4]
theorem bm_tn (x : Int32) : ((x.toBitVec.toNat % 4 : Nat) : Int) = x.toInt % 4 := by
  have h := BitVec.toInt_eq_toNat_cond x.toBitVec
  have h2 : x.toInt = x.toBitVec.toInt := rfl
  rw [h2, h]
  have h3 := x.toBitVec.isLt
  split <;> omega
theorem bm_nn (y : Int32) : 0 ≤ y ↔ 0 ≤ y.toInt := by
  rw [Int32.le_iff_toInt_le]
  have : (0 : Int32).toInt = 0 := by decide +kernel
  rw [this]
theorem bm_x4 (y : Int32) : 0 ≤ y ^^^ nI 4 ↔ 0 ≤ y := by
  rw [bm_nn, bm_nn]
  have h : ∀ z : Int32, 0 ≤ z.toInt ↔ z.toBitVec.msb = false := fun z => by
    rw [BitVec.msb_eq_toInt, show z.toInt = z.toBitVec.toInt from rfl]
    simp only [decide_eq_false_iff_not]
    omega
  have h4 : (nI 4).toBitVec.msb = false := by decide +kernel
  rw [h, h, Int32.toBitVec_xor, BitVec.msb_xor, h4, Bool.xor_false]
theorem bm_rem (x : Int32) : (x - x / nI 4 * nI 4 = nI 0 ∧ x.toBitVec.toNat % 4 = 0) ∨ (x - x / nI 4 * nI 4 = nI 1 ∧ x.toBitVec.toNat % 4 = 1 ∧ 0 ≤ x) ∨ (x - x / nI 4 * nI 4 = nI 2 ∧ x.toBitVec.toNat % 4 = 2 ∧ 0 ≤ x) ∨ (x - x / nI 4 * nI 4 = nI 3 ∧ x.toBitVec.toNat % 4 = 3 ∧ 0 ≤ x) ∨ (x - x / nI 4 * nI 4 = (-1) ∧ x.toBitVec.toNat % 4 = 3 ∧ ¬ 0 ≤ x) ∨ (x - x / nI 4 * nI 4 = (-2) ∧ x.toBitVec.toNat % 4 = 2 ∧ ¬ 0 ≤ x) ∨ (x - x / nI 4 * nI 4 = (-3) ∧ x.toBitVec.toNat % 4 = 1 ∧ ¬ 0 ≤ x) := by
  rw [bm_nn]
  have h1 := bm_t4 x
  have h2 := bm_tn x
  have key : ∀ y : Int32, (x - x / nI 4 * nI 4).toInt = y.toInt → x - x / nI 4 * nI 4 = y := fun y h => Int32.toInt_inj.mp h
  have e0 : (nI 0).toInt = 0 := by decide +kernel
  have e1 : (nI 1).toInt = 1 := by decide +kernel
  have e2 : (nI 2).toInt = 2 := by decide +kernel
  have e3 : (nI 3).toInt = 3 := by decide +kernel
  have f1 : (-1 : Int32).toInt = -1 := by decide +kernel
  have f2 : (-2 : Int32).toInt = -2 := by decide +kernel
  have f3 : (-3 : Int32).toInt = -3 := by decide +kernel
  have ht : (0 ≤ x.toInt ∧ x.toInt.tmod 4 = x.toInt % 4) ∨ (x.toInt < 0 ∧ x.toInt.tmod 4 = -((-x.toInt) % 4)) := by
    rcases Int.lt_or_le x.toInt 0 with h | h
    · refine Or.inr ⟨h, ?_⟩
      have e : x.toInt.tmod 4 = -((-x.toInt).tmod 4) := by rw [Int.neg_tmod, Int.neg_neg]
      rw [e, Int.tmod_eq_emod_of_nonneg (by omega)]
    · exact Or.inl ⟨h, Int.tmod_eq_emod_of_nonneg h⟩
  generalize x.toBitVec.toNat % 4 = t at h2 ⊢
  generalize x.toInt.tmod 4 = u at h1 ht
  have hu : (u = 0 ∧ t = 0) ∨ (u = 1 ∧ t = 1 ∧ 0 ≤ x.toInt) ∨ (u = 2 ∧ t = 2 ∧ 0 ≤ x.toInt) ∨ (u = 3 ∧ t = 3 ∧ 0 ≤ x.toInt) ∨ (u = -1 ∧ t = 3 ∧ ¬ 0 ≤ x.toInt) ∨ (u = -2 ∧ t = 2 ∧ ¬ 0 ≤ x.toInt) ∨ (u = -3 ∧ t = 1 ∧ ¬ 0 ≤ x.toInt) := by omega
  rcases hu with ⟨a, b⟩ | ⟨a, b⟩ | ⟨a, b⟩ | ⟨a, b⟩ | ⟨a, b⟩ | ⟨a, b⟩ | ⟨a, b⟩
  · exact Or.inl ⟨key _ (by rw [h1, a, e0]), b⟩
  · exact Or.inr (Or.inl ⟨key _ (by rw [h1, a, e1]), b⟩)
  · exact Or.inr (Or.inr (Or.inl ⟨key _ (by rw [h1, a, e2]), b⟩))
  · exact Or.inr (Or.inr (Or.inr (Or.inl ⟨key _ (by rw [h1, a, e3]), b⟩)))
  · exact Or.inr (Or.inr (Or.inr (Or.inr (Or.inl ⟨key _ (by rw [h1, a, f1]), b⟩))))
  · exact Or.inr (Or.inr (Or.inr (Or.inr (Or.inr (Or.inl ⟨key _ (by rw [h1, a, f2]), b⟩)))))
  · exact Or.inr (Or.inr (Or.inr (Or.inr (Or.inr (Or.inr ⟨key _ (by rw [h1, a, f3]), b⟩)))))
/-- the word bits that a constructor takes of its number -/
def bm_wb (x : Int32) : Nat := 1 + (x - nI 1).toBitVec.toNat % 4
theorem bm_wb_le (x : Int32) : 1 ≤ bm_wb x ∧ bm_wb x ≤ 4 := by
  unfold bm_wb
  omega
theorem bm_and3 (y : Int32) : nI 1 + (y &&& nI 3) = nI (1 + y.toBitVec.toNat % 4) := by
  have h : y &&& nI 3 = nI (y.toBitVec.toNat % 4) := by
    apply Int32.toBitVec_inj.mp
    apply BitVec.eq_of_toNat_eq
    have h3 : (nI 3).toBitVec.toNat = 3 := by decide +kernel
    have h5 : ∀ k : Nat, k < 4 → (nI k).toBitVec.toNat = k := by decide +kernel
    rw [Int32.toBitVec_and, BitVec.toNat_and, h3, h5 _ (Nat.mod_lt _ (by decide))]
    exact Nat.and_two_pow_sub_one_eq_mod _ 2
  rw [h, nI_add]
/-- the nodes that a constructor lays -/
def bm_k0 (i z : Nat) : Nat := if z < i then 6 else 0
def bm_l0 (i z : Nat) : Nat := if z < i then z else 0
theorem bm_k0_s (i : Nat) : va_up (bm_k0 i) i 6 = bm_k0 (i + 1) := by
  funext z
  by_cases q : z = i
  · rw [q, va_up_self]
    unfold bm_k0
    rw [if_pos (by omega)]
  · rw [va_up_ne _ _ q]
    unfold bm_k0
    by_cases h : z < i
    · rw [if_pos h, if_pos (by omega)]
    · rw [if_neg h, if_neg (by omega)]
theorem bm_l0_s (i : Nat) : va_up (bm_l0 i) i i = bm_l0 (i + 1) := by
  funext z
  by_cases q : z = i
  · rw [q, va_up_self]
    unfold bm_l0
    rw [if_pos (by omega)]
  · rw [va_up_ne _ _ q]
    unfold bm_l0
    by_cases h : z < i
    · rw [if_pos h, if_pos (by omega)]
    · rw [if_neg h, if_neg (by omega)]
theorem bm_k0_0 : bm_k0 0 = fun _ => 0 := funext (fun z => if_neg (Nat.not_lt_zero z))
theorem bm_l0_0 : bm_l0 0 = fun _ => 0 := funext (fun z => if_neg (Nat.not_lt_zero z))
theorem bm_op_s (i : Nat) : upd (fun z => mo_op (bm_k0 i z)) i (-1) = fun z => mo_op (bm_k0 (i + 1) z) := by
  rw [← bm_k0_s]
  exact mo_op_up (bm_k0 i) i 6
theorem bm_op_0 : (fun z9 => mo_op (bm_k0 0 z9)) = fun _ => nI 0 := by
  rw [bm_k0_0]
  rfl
theorem bm_mol0 (i : Nat) : (fun z9 => nI (mo_l (bm_k0 i) (bm_l0 i) z9)) = fun _ => nI 0 := by
  funext z
  unfold mo_l bm_k0 bm_l0
  by_cases h : z < i
  · rw [if_pos h, if_neg (by decide)]
  · rw [if_neg h, if_pos (by decide), if_neg h]
theorem bm_mos0 (i : Nat) : (fun z9 => nI (mo_s (bm_k0 i) (bm_l0 i) z9)) = fun _ => nI 0 := by
  funext z
  unfold mo_s bm_k0
  by_cases h : z < i
  · rw [if_pos h, if_neg (by decide)]
  · rw [if_neg h, if_neg (by decide)]
theorem bm_sd0 : (fun z9 => nI (mo_sd 0 0 z9)) = fun _ => nI 0 := by
  funext z
  unfold mo_sd
  split
  · rfl
  · split <;> rfl
theorem bm_tb0 : (fun z9 => bz (Nat.testBit 0 z9)) = fun _ => bz false := by
  funext z
  rw [Nat.zero_testBit]
theorem bm_wf0 {wb : Nat} (h1 : 1 ≤ wb) (h4 : wb ≤ 4) : bm_wf wb wb 0 (bm_k0 wb) (bm_l0 wb) (fun _ => 0) := by
  refine ⟨by omega, fun k hk => ?_⟩
  have e : bm_k0 wb k = 6 := if_pos hk
  have e2 : bm_l0 wb k = k := if_pos hk
  rw [e, e2]
  omega
theorem bn_in_z {kn : Nat → Int32} {q : Nat} (h : kn (q / 32) = nI 0) : bn_in kn q = false := by
  unfold bn_in
  rw [h]
  exact b_0 _
/-- as Met.ofW, for a method that no native stands for -/
theorem bx_ofWF {l : Launch} {y : MethodName} {ws ws' : List Cond} {rm : Room} {Pc : Array Value → State → Prop} {Qc : Array Value → State → Outcome → State → Prop} {mc ms : Nat} {free : Addr → Prop} {cc : ByteArray} {maxL : Nat} {ret : Option FieldType}
    (hy : plainFor y = true) (hw : ws = Cond.code y cc maxL ret :: ws')
    (body : ∀ p e s m args below meth c s₁, BodyLoose p l y (headSpec ws rm) cc maxL ret e s m args below meth c s₁ → c.maxLocals = maxL → Pc args s →
      W p l e (headSpec ws rm).room s m args below meth c s.heap [] 0 0 (MQ below Qc args s mc ms free) (entryFrame m args maxL)) : Met l y ws rm Pc Qc mc ms free := by
  refine MetFree.of_bodySF (code := cc) (maxLocals := maxL) (ret := ret) hy ?_ ?_
  · intro args s m h hn
    obtain ⟨meth, c, h1, h2, h3, h4, h5, h6, -, -⟩ := Cond.code_spec hn (atoms_spec (ws := ws) h _ (by rw [hw]; exact List.mem_cons_self))
    exact ⟨meth, c, h1, h2, h3, h4, h5, h6⟩
  · intro p e s m args below meth c s₁ B hml hP _
    have hh0 : s₁.heap = s.heap := by rw [B.state]; rfl
    obtain ⟨t, a1, o, b1, b2, b3⟩ := body p e s m args below meth c s₁ B hml hP s₁ hh0 (Stand.of_body B)
    exact ⟨t, o, a1, b1, b2, ⟨b3.1, b3.2⟩⟩
/-- as Met.ofW, for a method with handlers -/
theorem bx_ofWH {l : Launch} {y : MethodName} {ws ws' : List Cond} {rm : Room} {Pc : Array Value → State → Prop} {Qc : Array Value → State → Outcome → State → Prop} {mc ms : Nat} {free : Addr → Prop} {cc : ByteArray} {maxL : Nat} {ret : Option FieldType} {hh : List (Nat × Nat × Nat × Nat)}
    (hy : plainName y.cls = true) (hw : ws = Cond.codeWith y cc maxL ret hh :: ws')
    (body : ∀ p e s m args below meth c s₁, BodyLoose p l y (headSpec ws rm) cc maxL ret e s m args below meth c s₁ → c.maxLocals = maxL → Pc args s →
      W p l e (headSpec ws rm).room s m args below meth c s.heap [] 0 0 (MQ below Qc args s mc ms free) (entryFrame m args maxL)) : Met l y ws rm Pc Qc mc ms free := by
  refine MetFree.of_bodyS (code := cc) (maxLocals := maxL) (ret := ret) hy ?_ ?_
  · intro args s m h hn
    obtain ⟨m9, meth, c, hn9, h1, h2, h3, h4, -, h5, h6, -⟩ := Cond.codeWith_spec (atoms_spec (ws := ws) h _ (by rw [hw]; exact List.mem_cons_self))
    cases hn.symm.trans hn9
    exact ⟨meth, c, h1, h2, h3, h4, h5, h6⟩
  · intro p e s m args below meth c s₁ B hml hP _
    have hh0 : s₁.heap = s.heap := by rw [B.state]; rfl
    obtain ⟨t, a1, o, b1, b2, b3⟩ := body p e s m args below meth c s₁ B hml hP s₁ hh0 (Stand.of_body B)
    exact ⟨t, o, a1, b1, b2, ⟨b3.1, b3.2⟩⟩
