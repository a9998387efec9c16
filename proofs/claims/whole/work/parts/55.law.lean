-- ===== class and reference side by side =====
def bm_pl (ps : Nat) : Int32 := if 0 < ps then nI ps else (-1)
theorem bm_pl_0 : bm_pl 0 = (-1) := rfl
theorem bm_pl_s {ps : Nat} (h : 0 < ps) : bm_pl ps = nI ps := if_pos h
/-- the searches of both hold the same -/
def lw_S (dif : Nat → Nat → Bool) (stp : Nat → Nat → Nat) (nw fr M mrc mcl : Nat) (ov : Bool) (mw : Nat → Nat) (mq : Nat → Int32) (mb lb : Nat → Nat) (cm : Nat → Bool) (ps : Nat) (mg rw og st : Nat → Nat) (kn : Nat → Int32) (pg : Nat → Nat) : Prop :=
  (mrc = 0 ∧ mcl = 0 ∧ ov = false ∧ ps = 0 ∧ ∀ q, q < 16384 → cm q = false) ∨ (mo_I stp nw fr mrc mcl mw mq mb lb cm ov ∧ ((ps = 0 ∧ hu_N dif stp nw fr M mrc mcl rw og st kn) ∨ (ps = mcl + 1 ∧ ∃ a w, hu_F dif stp nw fr mrc mcl st pg a w ∧ ∀ k, k ≤ mcl → mg k = bs_pg (bs_L stp nw fr mcl).1.2.2 a w mcl k)))
section LWS
variable {dif : Nat → Nat → Bool} {stp : Nat → Nat → Nat} {nw fr M mrc mcl : Nat} {ov : Bool} {mw : Nat → Nat} {mq : Nat → Int32} {mb lb : Nat → Nat} {cm : Nat → Bool} {ps : Nat} {mg rw og st : Nat → Nat} {kn : Nat → Int32} {pg : Nat → Nat}
theorem lw_S_0 (h : ∀ q, q < 16384 → cm q = false) : lw_S dif stp nw fr M 0 0 false mw mq mb lb cm 0 mg rw og st kn pg := Or.inl ⟨rfl, rfl, rfl, rfl, h⟩
theorem lw_S_b (h : lw_S dif stp nw fr M mrc mcl ov mw mq mb lb cm ps mg rw og st kn pg) (hf : fr < M) (hs : ∀ r w, stp r w < M) (hM : M ≤ 16384) : mrc ≤ 16384 ∧ (∀ k, k < mrc → mw k < 16384) ∧ (∀ q, q < 16384 → cm q = true → ∃ k, 0 ≤ k ∧ k < mrc ∧ mw k = q) ∧ mcl ≤ 16384 ∧ ps ≤ 16384 := by
  rcases h with ⟨h1, h2, h3, h4, h5⟩ | ⟨hI, h⟩
  · refine ⟨by omega, fun k hk => by omega, fun q hq e => ?_, by omega, by omega⟩
    rw [h5 q hq] at e
    cases e
  · have hok := mo_I_ok hI hf hs
    have hle : mrc ≤ M := bs_ok_le hok
    have hcl : bs_cl dif stp nw fr mcl := by
      rcases h with ⟨-, h⟩ | ⟨-, a, w, h, -⟩
      · exact h.2.2.1
      · exact h.2.2.1
    have h1 := bs_cl_le hcl mcl (Nat.le_refl _)
    have h2 := bs_L_mono stp nw fr mcl mcl (Nat.le_refl _)
    have h3 := bs_L_cnt stp nw fr mcl
    have h4 := hI.1
    refine ⟨by omega, fun k hk => Nat.lt_of_lt_of_le (hok.1 k hk) hM, fun q hq e => ?_, by omega, ?_⟩
    · have e2 := mo_I_cm hI q hq
      rw [e] at e2
      obtain ⟨j, j1, j2⟩ := (bs_has_iff _ _ _).mp e2.symm
      exact ⟨j, Nat.zero_le _, j1, j2⟩
    · rcases h with ⟨h, -⟩ | ⟨h, a, w, hF, -⟩
      · omega
      · have h5 := hF.2.2.2.1.1
        have h6 := hF.2.2.2.1.2.1
        omega
theorem lw_S_h (h : lw_S dif stp nw fr M mrc mcl ov mw mq mb lb cm ps mg rw og st kn pg) : (mrc = 0 ∧ mcl = 0 ∧ bm_pl ps = (-1)) ∨ (bm_pl ps = (-1) ∧ hu_N dif stp nw fr M mrc mcl rw og st kn) ∨ ∃ a w, bm_pl ps = nI (mcl + 1) ∧ hu_F dif stp nw fr mrc mcl st pg a w := by
  rcases h with ⟨h1, h2, h3, h4, h5⟩ | ⟨hI, ⟨h, hN⟩ | ⟨h, a, w, hF, -⟩⟩
  · exact Or.inl ⟨h1, h2, by rw [h4]; rfl⟩
  · exact Or.inr (Or.inl ⟨by rw [h]; rfl, hN⟩)
  · exact Or.inr (Or.inr ⟨a, w, by rw [h]; exact bm_pl_s (Nat.succ_pos _), hF⟩)
theorem lw_S_l (h : lw_S dif stp nw fr M mrc mcl ov mw mq mb lb cm ps mg rw og st kn pg) {k : Nat} (hk : k ≤ mcl) : (mrc ≠ 0 → lb k ≤ (if k = mcl then mrc else lb (k + 1))) ∧ (mrc ≠ 0 → st k ≤ st (k + 1)) ∧ (if mrc = 0 then 0 else st (k + 1) - st k) = (if mrc = 0 then 0 else (if k = mcl then mrc else lb (k + 1)) - lb k) := by
  rcases h with ⟨h1, h2, h3, h4, h5⟩ | ⟨hI, h⟩
  · exact ⟨fun q => absurd h1 q, fun q => absurd h1 q, by rw [if_pos h1, if_pos h1]⟩
  · have hst : ∀ k, k ≤ mcl + 1 → st k = (bs_L stp nw fr mcl).2 k := by
      rcases h with ⟨-, h⟩ | ⟨-, a, w, h, -⟩
      · exact h.2.1
      · exact h.2.1
    have e1 := hI.2.2.1 k hk
    have e2 : (if k = mcl then mrc else lb (k + 1)) = (bs_L stp nw fr mcl).2 (k + 1) := by
      by_cases q : k = mcl
      · rw [if_pos q, q, bs_L_cnt]
        exact hI.1
      · rw [if_neg q]
        exact hI.2.2.1 (k + 1) (by omega)
    have e3 := hst k (by omega)
    have e4 := hst (k + 1) (by omega)
    have e5 := bs_L_mono stp nw fr mcl k hk
    rw [e1, e2, e3, e4]
    exact ⟨fun _ => e5, fun _ => e5, rfl⟩
theorem lw_S_w (h : lw_S dif stp nw fr M mrc mcl ov mw mq mb lb cm ps mg rw og st kn pg) {k : Nat} (hk : k < ps) : pg k = mg k := by
  rcases h with ⟨h1, h2, h3, h4, h5⟩ | ⟨hI, ⟨h, hN⟩ | ⟨h, a, w, hF, hm⟩⟩
  · omega
  · omega
  · rw [hm k (by omega)]
    exact hF.2.2.2.2 k (by omega)
/-- both searched alike -/
theorem lw_se {d c0 rc2 cl2 mrc2 mcl2 ps2 : Nat} {pL2 r : Int32} {rw2 og2 st2 pg2 mw2 mb2 lb2 mg2 : Nat → Nat} {kn2 mq2 : Nat → Int32} {cm2 : Nat → Bool} {ov2 : Bool}
    (hg : (pL2 = (-1) ∧ hu_N dif stp nw fr M rc2 cl2 rw2 og2 st2 kn2 ∧ bs_en dif stp nw fr d c0 cl2) ∨ (pL2 = nI (cl2 + 1) ∧ ∃ a w, hu_F dif stp nw fr rc2 cl2 st2 pg2 a w ∧ bs_ef dif stp nw fr d c0 cl2 a w)) (hb : cl2 < 16384 + 1)
    (hm : mo_I stp nw fr mrc2 mcl2 mw2 mq2 mb2 lb2 cm2 ov2 ∧ bs_cl dif stp nw fr mcl2 ∧ c0 ≤ mcl2 ∧ ((ps2 = 0 ∧ (d ≤ mcl2 ∨ ov2 = true) ∧ (mcl2 ≤ d ∨ mcl2 = c0) ∧ r = nI (if ov2 then 2 else 1)) ∨ (ps2 = mcl2 + 1 ∧ mcl2 < d ∧ r = nI 0 ∧ ∃ a w, bs_fd dif stp nw fr mcl2 a w ∧ ∀ k, k ≤ mcl2 → mg2 k = bs_pg (bs_L stp nw fr mcl2).1.2.2 a w mcl2 k))) :
    rc2 = mrc2 ∧ cl2 = mcl2 ∧ pL2 = bm_pl ps2 ∧ (if pL2 = (-1) then (if (bs_L stp nw fr cl2).2 (cl2 + 1) = (bs_L stp nw fr cl2).2 cl2 then nI 2 else nI 1) else nI 0) = r ∧ lw_S dif stp nw fr M rc2 cl2 ov2 mw2 mq2 mb2 lb2 cm2 ps2 mg2 rw2 og2 st2 kn2 pg2 := by
  obtain ⟨hI, hC, h0, hm⟩ := hm
  have hov := hI.2.2.2.2.2
  rcases hg with ⟨e1, hN, hE⟩ | ⟨e1, a, w, hF, hE⟩
  · rcases hm with ⟨e2, e3, e4, e5⟩ | ⟨e2, e3, e4, a2, w2, hfd, hmg⟩
    · have hE2 : bs_en dif stp nw fr d c0 mcl2 := ⟨hC, h0, e3.imp id (fun h => of_decide_eq_true (hov.symm.trans h)), e4⟩
      obtain rfl := bs_en_nn hE hE2
      have hrc : rc2 = mrc2 := hN.1.trans hI.1.symm
      subst hrc
      refine ⟨rfl, rfl, by rw [e1, e2]; rfl, ?_, Or.inr ⟨hI, Or.inl ⟨e2, hN⟩⟩⟩
      rw [if_pos e1, e5, hov]
      by_cases q : (bs_L stp nw fr cl2).2 (cl2 + 1) = (bs_L stp nw fr cl2).2 cl2
      · rw [if_pos q, decide_eq_true q, if_pos rfl]
      · rw [if_neg q, decide_eq_false q, if_neg (by decide)]
    · exact (bs_en_nf hE ⟨hC, h0, e3, hfd⟩).elim
  · rcases hm with ⟨e2, e3, e4, e5⟩ | ⟨e2, e3, e4, a2, w2, hfd, hmg⟩
    · have hE2 : bs_en dif stp nw fr d c0 mcl2 := ⟨hC, h0, e3.imp id (fun h => of_decide_eq_true (hov.symm.trans h)), e4⟩
      exact (bs_en_nf hE2 hE).elim
    · obtain ⟨rfl, rfl, rfl⟩ := bs_en_ff hE ⟨hC, h0, e3, hfd⟩
      have hrc : rc2 = mrc2 := hF.1.trans hI.1.symm
      subst hrc
      refine ⟨rfl, rfl, by rw [e1, e2]; exact (bm_pl_s (Nat.succ_pos _)).symm, ?_, Or.inr ⟨hI, Or.inr ⟨e2, a, w, hF, hmg⟩⟩⟩
      rw [if_neg (by rw [e1]; exact bn_ne1 (by omega)), e4]
end LWS
/-- what is shown before any cycle, on both sides -/
theorem lw_fst {kd lf : Nat → Nat} {fr n : Nat} {ln : Nat → Int32} {sh : Nat → Bool} (h1 : bm_fst kd lf fr ln n) (h2 : mo_fst kd lf fr sh n) : ∀ j, j < n → bt (ln j) 0 = sh j := by
  intro j hj
  rw [h1 j hj, h2 j hj]
  by_cases q : kd j = 7
  · rw [if_pos q, decide_eq_true q, Bool.true_and]
    exact bm_lane _ 0 (by decide)
  · rw [if_neg q, decide_eq_false q, Bool.false_and]
    exact b_0 0
theorem lw_cmp (x : Int64) : lg_cmp x x = nI 0 := by simp [lg_cmp]; rfl
theorem lw_j {f : Nat → Int64} {v : Int64} (h : f 0 = v) : f (nI 0).toNatClampNeg = v := by
  rw [show (nI 0).toNatClampNeg = 0 by decide +kernel]
  exact h
theorem lw_16 (x : Int32) : ∃ k, k < 16 ∧ x &&& nI 15 = nI k := by
  refine ⟨x.toBitVec.toNat % 16, Nat.mod_lt _ (by decide), ?_⟩
  apply Int32.toBitVec_inj.mp
  apply BitVec.eq_of_toNat_eq
  have h3 : (nI 15).toBitVec.toNat = 15 := by decide +kernel
  have h5 : ∀ k : Nat, k < 16 → (nI k).toBitVec.toNat = k := by decide +kernel
  rw [Int32.toBitVec_and, BitVec.toNat_and, h3, h5 _ (Nat.mod_lt _ (by decide))]
  exact Nat.and_two_pow_sub_one_eq_mod _ 4
/-- the gate that three numbers name -/
theorem lw_ga {o a b : Int32} {n : Nat} (hn : n ≤ 100) (h : (¬ o < 0 ∧ o < nI 6) ∧ (o < nI 4 → ¬ a < 0 ∧ a < nI n) ∧ (o < nI 3 → ¬ b < 0 ∧ b < nI n)) : ∃ ok ga gb : Nat, o = nI ok ∧ ok ≤ 5 ∧ (ok ≤ 3 → a = nI ga ∧ ga < n) ∧ (ok ≤ 2 → b = nI gb ∧ gb < n) ∧ (4 ≤ ok → ga = 0) ∧ (3 ≤ ok → gb = 0) := by
  obtain ⟨h1, h2, h3⟩ := h
  obtain ⟨ok, hj, e⟩ := nI_of h1.1
  subst e
  have hok := (nI_ltI hj (by decide)).mp h1.2
  have ea : ∃ ga, (ok ≤ 3 → a = nI ga ∧ ga < n) ∧ (4 ≤ ok → ga = 0) := by
    by_cases q : ok ≤ 3
    · obtain ⟨j, j1, j2⟩ := bm_nd1 (h2 (nI_lt (by omega) (by decide))) hn
      exact ⟨j, fun _ => ⟨j2, j1⟩, fun h => by omega⟩
    · exact ⟨0, fun h => absurd h q, fun _ => rfl⟩
  have eb : ∃ gb, (ok ≤ 2 → b = nI gb ∧ gb < n) ∧ (3 ≤ ok → gb = 0) := by
    by_cases q : ok ≤ 2
    · obtain ⟨j, j1, j2⟩ := bm_nd1 (h3 (nI_lt (by omega) (by decide))) hn
      exact ⟨j, fun _ => ⟨j2, j1⟩, fun h => by omega⟩
    · exact ⟨0, fun h => absurd h q, fun _ => rfl⟩
  obtain ⟨ga, a1, a2⟩ := ea
  obtain ⟨gb, b1, b2⟩ := eb
  exact ⟨ok, ga, gb, rfl, by omega, a1, b1, a2, b2⟩
theorem bm_z_s {n o la ra : Nat} {kd lf rt : Nat → Nat} (h : bm_z n kd lf rt) : bm_z (n + 1) (va_up kd n o) (va_up lf n la) (va_up rt n ra) := by
  intro z hz
  rw [va_up_ne _ _ (show z ≠ n by omega), va_up_ne _ _ (show z ≠ n by omega), va_up_ne _ _ (show z ≠ n by omega)]
  exact h z (by omega)
theorem lw_66 {n o la : Nat} {kd lf : Nat → Nat} (h : ∀ k, k < n → kd k = 6 → lf k = k) (ho : o ≠ 6) : ∀ k, k < n + 1 → va_up kd n o k = 6 → va_up lf n la k = k := by
  intro k hk e
  by_cases q : k = n
  · rw [q, va_up_self] at e
    exact absurd e ho
  · rw [va_up_ne _ _ q] at e ⊢
    exact h k (by omega) e
theorem lw_lr {n la ra : Nat} {lf rt : Nat → Nat} (h : ∀ k, k < n → lf k < 100 ∧ rt k < 100) (h1 : la < 100) (h2 : ra < 100) : ∀ k, k < n + 1 → va_up lf n la k < 100 ∧ va_up rt n ra k < 100 := by
  intro k hk
  by_cases q : k = n
  · rw [q, va_up_self, va_up_self]
    exact ⟨h1, h2⟩
  · rw [va_up_ne _ _ q, va_up_ne _ _ q]
    exact h k (by omega)
theorem lw_upl {f : Nat → Nat} {k v n m : Nat} (h : ∀ i, i < k → f i < n) (hv : v < m) (hm : n ≤ m) : ∀ i, i < k + 1 → va_up f k v i < m := by
  intro i hi
  by_cases q : i = k
  · rw [q, va_up_self]
    exact hv
  · rw [va_up_ne _ _ q]
    exact Nat.lt_of_lt_of_le (h i (by omega)) hm
theorem lw_upl0 {f : Nat → Nat} {k v n sc : Nat} (h : ∀ i, i < sc → f i < n) (hv : v < n) : ∀ i, i < sc → va_up f k v i < n := by
  intro i hi
  by_cases q : i = k
  · rw [q, va_up_self]
    exact hv
  · rw [va_up_ne _ _ q]
    exact h i hi
/-- a word that names no program's word on the one side names none on the other -/
theorem lw_wd {x : Int32} {ps : Nat} (h : ¬ (¬ x < 0 ∧ x < nI ps)) : ¬ (¬ x < 0 ∧ x < bm_pl ps) := by
  rintro ⟨h1, h2⟩
  unfold bm_pl at h2
  by_cases q : 0 < ps
  · rw [if_pos q] at h2
    exact h ⟨h1, h2⟩
  · rw [if_neg q] at h2
    refine h1 (Int32.lt_iff_toInt_lt.mpr ?_)
    have h3 := Int32.lt_iff_toInt_lt.mp h2
    rw [show (-1 : Int32).toInt = -1 by decide +kernel] at h3
    rw [show (0 : Int32).toInt = 0 by decide +kernel]
    omega
theorem lw_d {x : Int32} (h : ¬ x < nI 1 ∧ x ≤ nI 20000) : ∃ d, 1 ≤ d ∧ d ≤ 20000 ∧ x = nI d := by
  have h1 : ¬ x < 0 := fun q => h.1 (Int32.lt_iff_toInt_lt.mpr (by
    have h3 := Int32.lt_iff_toInt_lt.mp q
    rw [show (0 : Int32).toInt = 0 by decide +kernel] at h3
    rw [show (nI 1).toInt = 1 by decide +kernel]
    omega))
  obtain ⟨d, hd, e⟩ := nI_of h1
  rw [e] at h
  have h2 : ¬ d < 1 := fun q => h.1 (nI_lt q (by decide))
  have h3 := (nI_leI hd (by decide)).mp h.2
  exact ⟨d, by omega, h3, e⟩
