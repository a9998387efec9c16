-- ===== how a search ends; a program run anew =====
theorem bs_L_stab (stp : Nat → Nat → Nat) (nw fr c : Nat) : ∀ k, (∀ i, i ≤ c + 1 → (bs_L stp nw fr (c + k)).2 i = (bs_L stp nw fr c).2 i) ∧ bs_ext (bs_L stp nw fr c).1 (bs_L stp nw fr (c + k)).1
  | 0 => ⟨fun _ _ => rfl, bs_ext_rf _⟩
  | k + 1 => by
    obtain ⟨h1, h2⟩ := bs_L_stab stp nw fr c k
    refine ⟨fun i hi => ?_, bs_ext_tr h2 (bs_L_ext stp nw fr (c + k))⟩
    rw [show c + (k + 1) = c + k + 1 by omega, bs_L_st stp nw fr (c + k) (by omega)]
    exact h1 i hi
/-- behind a search of depth d that began with c0 clear levels: c levels are clear; nothing found, or found at a by the word w -/
def bs_en (dif : Nat → Nat → Bool) (stp : Nat → Nat → Nat) (nw fr d c0 c : Nat) : Prop := bs_cl dif stp nw fr c ∧ c0 ≤ c ∧ (d ≤ c ∨ (bs_L stp nw fr c).2 (c + 1) = (bs_L stp nw fr c).2 c) ∧ (c ≤ d ∨ c = c0)
def bs_ef (dif : Nat → Nat → Bool) (stp : Nat → Nat → Nat) (nw fr d c0 c a w : Nat) : Prop := bs_cl dif stp nw fr c ∧ c0 ≤ c ∧ c < d ∧ bs_fd dif stp nw fr c a w
theorem bs_open {dif : Nat → Nat → Bool} {stp : Nat → Nat → Nat} {nw fr c c2 : Nat} (h : bs_cl dif stp nw fr c2) (hc : c < c2) : (bs_L stp nw fr c).2 c < (bs_L stp nw fr c).2 (c + 1) ∧ ∀ p, (bs_L stp nw fr c).2 c ≤ p → p < (bs_L stp nw fr c).2 (c + 1) → ∀ w, w < nw → dif ((bs_L stp nw fr c).1.2.1 p) w = false := by
  obtain ⟨k, rfl⟩ : ∃ k, c2 = c + k := ⟨c2 - c, by omega⟩
  obtain ⟨s1, s2⟩ := bs_L_stab stp nw fr c k
  obtain ⟨h1, h2⟩ := h c hc
  rw [s1 c (by omega), s1 (c + 1) (by omega)] at h1 h2
  refine ⟨h1, fun p p1 p2 w hw => ?_⟩
  have h3 := h2 p p1 p2 w hw
  rw [bs_L_cnt] at p2
  rw [(s2.2 p p2).1] at h3
  exact h3
theorem bs_en_nn {dif : Nat → Nat → Bool} {stp : Nat → Nat → Nat} {nw fr d c0 c c2 : Nat} (h : bs_en dif stp nw fr d c0 c) (h2 : bs_en dif stp nw fr d c0 c2) : c = c2 := by
  obtain ⟨a1, a2, a3, a4⟩ := h
  obtain ⟨b1, b2, b3, b4⟩ := h2
  rcases Nat.lt_trichotomy c c2 with q | q | q
  · have o := (bs_open b1 q).1
    omega
  · exact q
  · have o := (bs_open a1 q).1
    omega
theorem bs_en_nf {dif : Nat → Nat → Bool} {stp : Nat → Nat → Nat} {nw fr d c0 c c2 a w : Nat} (h : bs_en dif stp nw fr d c0 c) (h2 : bs_ef dif stp nw fr d c0 c2 a w) : False := by
  obtain ⟨a1, a2, a3, a4⟩ := h
  obtain ⟨b1, b2, b3, b4, b5, b6, b7, b8, b9⟩ := h2
  have hc := bs_L_cnt stp nw fr c2
  rcases Nat.lt_trichotomy c c2 with q | q | q
  · have o := (bs_open b1 q).1
    omega
  · subst q
    omega
  · have o := (bs_open a1 q).2 a b4 (by omega) w b6
    rw [b7] at o
    cases o
theorem bs_en_ff {dif : Nat → Nat → Bool} {stp : Nat → Nat → Nat} {nw fr d c0 c c2 a a2 w w2 : Nat} (h : bs_ef dif stp nw fr d c0 c a w) (h2 : bs_ef dif stp nw fr d c0 c2 a2 w2) : c = c2 ∧ a = a2 ∧ w = w2 := by
  obtain ⟨f1, f2, f3, f4, f5, f6, f7, f8, f9⟩ := h
  obtain ⟨g1, g2, g3, g4, g5, g6, g7, g8, g9⟩ := h2
  have hc := bs_L_cnt stp nw fr c
  have hc2 := bs_L_cnt stp nw fr c2
  have e : c = c2 := by
    rcases Nat.lt_trichotomy c c2 with q | q | q
    · have o := (bs_open g1 q).2 a f4 (by omega) w f6
      rw [f7] at o
      cases o
    · exact q
    · have o := (bs_open f1 q).2 a2 g4 (by omega) w2 g6
      rw [g7] at o
      cases o
  subst e
  have ea : a = a2 := by
    rcases Nat.lt_trichotomy a a2 with q | q | q
    · have o := g9 a f4 q w f6
      rw [f7] at o
      cases o
    · exact q
    · have o := f9 a2 g4 q w2 g6
      rw [g7] at o
      cases o
  subst ea
  refine ⟨rfl, rfl, ?_⟩
  rcases Nat.lt_trichotomy w w2 with q | q | q
  · have o := g8 w q
    rw [f7] at o
    cases o
  · exact q
  · have o := f8 w2 q
    rw [g7] at o
    cases o
/-- the class's rows hold what came so far: nothing found yet -/
def hu_N (dif : Nat → Nat → Bool) (stp : Nat → Nat → Nat) (nw fr M rc cl : Nat) (rw og st : Nat → Nat) (kn : Nat → Int32) : Prop :=
  rc = (bs_L stp nw fr cl).1.1 ∧ (∀ k, k ≤ cl + 1 → st k = (bs_L stp nw fr cl).2 k) ∧ bs_cl dif stp nw fr cl ∧ (∀ j, j < rc → rw j = (bs_L stp nw fr cl).1.2.1 j ∧ og j = (bs_L stp nw fr cl).1.2.2 j) ∧ bs_kn M kn (bs_L stp nw fr cl).1
/-- a program is found -/
def hu_F (dif : Nat → Nat → Bool) (stp : Nat → Nat → Nat) (nw fr rc cl : Nat) (st pg : Nat → Nat) (a w : Nat) : Prop :=
  rc = (bs_L stp nw fr cl).1.1 ∧ (∀ k, k ≤ cl + 1 → st k = (bs_L stp nw fr cl).2 k) ∧ bs_cl dif stp nw fr cl ∧ bs_fd dif stp nw fr cl a w ∧ ∀ k, k ≤ cl → pg k = bs_pg (bs_L stp nw fr cl).1.2.2 a w cl k
theorem hu_N_0 {dif : Nat → Nat → Bool} {stp : Nat → Nat → Nat} {nw fr M : Nat} {rw og st : Nat → Nat} {kn : Nat → Int32} (h1 : rw 0 = fr) (h2 : og 0 = 0) (h3 : st 0 = 0) (h4 : st 1 = 1) (h5 : ∀ q, q < M → bn_in kn q = decide (q = fr)) : hu_N dif stp nw fr M 1 0 rw og st kn := by
  refine ⟨rfl, fun k hk => ?_, bs_cl_0 _ _ _ _, fun j hj => ?_, fun q hq => ?_⟩
  · have h : k = 0 ∨ k = 1 := by omega
    rcases h with h | h <;> rw [h]
    · exact h3
    · exact h4
  · rw [show j = 0 by omega]
    exact ⟨h1, h2⟩
  · rw [h5 q hq]
    show decide (q = fr) = (false || (fr == q))
    by_cases z : q = fr
    · rw [z]; simp
    · have : ¬ fr = q := fun e => z e.symm
      simp [z, this]
theorem hu_N_eq {dif : Nat → Nat → Bool} {stp : Nat → Nat → Nat} {nw fr M rc cl : Nat} {rw og st : Nat → Nat} {kn : Nat → Int32} (h : hu_N dif stp nw fr M rc cl rw og st kn) : bs_eq (rc, rw, og) (bs_L stp nw fr cl).1 := ⟨h.1, h.2.2.2.1⟩
theorem hu_N_kn {dif : Nat → Nat → Bool} {stp : Nat → Nat → Nat} {nw fr M rc cl : Nat} {rw og st : Nat → Nat} {kn : Nat → Int32} (h : hu_N dif stp nw fr M rc cl rw og st kn) : bs_kn M kn (rc, rw, og) := fun q hq => by rw [h.2.2.2.2 q hq]; exact (bs_has_eq (hu_N_eq h) q).symm
theorem hu_N_ok {dif : Nat → Nat → Bool} {stp : Nat → Nat → Nat} {nw fr M rc cl : Nat} {rw og st : Nat → Nat} {kn : Nat → Int32} (h : hu_N dif stp nw fr M rc cl rw og st kn) (hf : fr < M) (hs : ∀ r w, stp r w < M) : bs_ok M (rc, rw, og) := bs_ok_eq (hu_N_eq h) (bs_L_ok hf hs cl).1
theorem hu_N_og {dif : Nat → Nat → Bool} {stp : Nat → Nat → Nat} {nw fr M rc cl : Nat} {rw og st : Nat → Nat} {kn : Nat → Int32} (h : hu_N dif stp nw fr M rc cl rw og st kn) (hnw : nw ≤ 16) : ∀ j, j < rc → og j / 16 ≤ j := fun j hj => by
  rw [(h.2.2.2.1 j hj).2]
  exact bs_og_le hnw cl j (by rw [← h.1]; exact hj)
theorem hu_N_st {dif : Nat → Nat → Bool} {stp : Nat → Nat → Nat} {nw fr M rc cl : Nat} {rw og st : Nat → Nat} {kn : Nat → Int32} (h : hu_N dif stp nw fr M rc cl rw og st kn) : st (cl + 1) = rc ∧ st cl ≤ rc ∧ cl ≤ st cl := by
  have h1 := h.2.1 (cl + 1) (Nat.le_refl _)
  have h2 := h.2.1 cl (Nat.le_succ _)
  have h3 := bs_L_cnt stp nw fr cl
  have h4 := bs_L_mono stp nw fr cl cl (Nat.le_refl _)
  have h5 := bs_cl_le h.2.2.1 cl (Nat.le_refl _)
  have h6 := h.1
  omega
/-- a clear level more -/
theorem hu_N_s {dif : Nat → Nat → Bool} {stp : Nat → Nat → Nat} {nw fr M rc cl : Nat} {rw og st : Nat → Nat} {kn kn2 : Nat → Int32} (h : hu_N dif stp nw fr M rc cl rw og st kn) (hop : st cl < rc) (hno : ∀ j, j < rc - st cl → ∀ w, w < nw → dif (rw (st cl + j)) w = false)
    {x : bs_T} (hx : x = bs_rs stp nw (rc, rw, og) (st cl) (rc - st cl)) (hk : bs_kn M kn2 x) : hu_N dif stp nw fr M x.1 (cl + 1) x.2.1 x.2.2 (va_up st (cl + 1 + 1) x.1) kn2 := by
  have he := hu_N_eq h
  obtain ⟨h1, h2, h3⟩ := hu_N_st h
  obtain ⟨g1, g2, g3, g4, g5⟩ := h
  have hcn := bs_L_cnt stp nw fr cl
  have hs0 := g2 cl (Nat.le_succ _)
  have hs1 := g2 (cl + 1) (Nat.le_refl _)
  have hxe : bs_eq x (bs_L stp nw fr (cl + 1)).1 := by
    rw [hx, bs_L_1, hcn, ← g1, ← hs0]
    exact bs_rs_eq stp nw he (st cl) (rc - st cl) (show st cl + (rc - st cl) ≤ rc by omega)
  refine ⟨hxe.1, fun k hk => ?_, bs_cl_s g3 (by omega) (fun p p1 p2 w hw => ?_), fun j hj => hxe.2 j hj, fun q hq => ?_⟩
  · by_cases z : k = cl + 1 + 1
    · rw [z, va_up_self, bs_L_cnt]
      exact hxe.1
    · rw [va_up_ne _ _ z, bs_L_st _ _ _ _ (by omega)]
      exact g2 k (by omega)
  · have h4 := hno (p - st cl) (by omega) w hw
    rw [show st cl + (p - st cl) = p by omega, (g4 p (by omega)).1] at h4
    exact h4
  · rw [← bs_has_eq hxe]
    exact hk q hq
/-- the level differs -/
theorem hu_F_of {dif : Nat → Nat → Bool} {stp : Nat → Nat → Nat} {nw fr M rc cl i w : Nat} {rw og og2 st pg : Nat → Nat} {kn : Nat → Int32} (hnw : nw ≤ 16) (h : hu_N dif stp nw fr M rc cl rw og st kn) (hi : st cl + i < rc) (hw : w < nw) (hd : dif (rw (st cl + i)) w = true) (hd2 : ∀ w2, w2 < w → dif (rw (st cl + i)) w2 = false) (hno : ∀ j, j < i → ∀ w, w < nw → dif (rw (st cl + j)) w = false)
    (ho : og2 = (bs_rs stp nw (rc, rw, og) (st cl) i).2.2) (hp : ∀ k, k ≤ cl → pg k = bs_pg og2 (st cl + i) w cl k) : hu_F dif stp nw fr rc cl st pg (st cl + i) w := by
  obtain ⟨h1, h2, h3⟩ := hu_N_st h
  obtain ⟨g1, g2, g3, g4, g5⟩ := h
  have hs0 := g2 cl (Nat.le_succ _)
  have hX := bs_rs_ext stp nw (rc, rw, og) (st cl) i
  have hoo : ∀ j, j < rc → og2 j = (bs_L stp nw fr cl).1.2.2 j := fun j hj => by
    rw [ho, (hX.2 j hj).2]
    exact (g4 j hj).2
  have hfd : bs_fd dif stp nw fr cl (st cl + i) w := by
    refine ⟨by omega, by omega, hw, by rw [← (g4 _ hi).1]; exact hd, fun w2 h4 => by rw [← (g4 _ hi).1]; exact hd2 w2 h4, fun p p1 p2 w2 h4 => ?_⟩
    have h5 := hno (p - st cl) (by omega) w2 h4
    rw [show st cl + (p - st cl) = p by omega, (g4 p (by omega)).1] at h5
    exact h5
  refine ⟨g1, g2, g3, hfd, fun k hk => ?_⟩
  rw [hp k hk]
  unfold bs_pg
  by_cases z : k = cl
  · rw [if_pos z, if_pos z]
  · rw [if_neg z, if_neg z]
    have hb : ∀ q, q < cl → bs_pa (bs_L stp nw fr cl).1.2.2 (st cl + i) q < rc := fun q hq => by
      have h6 := (bs_back_pos hnw (show (bs_L stp nw fr cl).2 cl ≤ st cl + i by omega) (show st cl + i < (bs_L stp nw fr cl).1.1 by omega) hq).2
      omega
    rw [bs_pa_eq (c := rc) (cl - 1 - k) hoo (fun q hq => hb q (by omega)), hoo _ (hb _ (by omega))]
/-- the word that a cycle takes of a number -/
def bm_w (wb : Nat) (x : Int32) : Nat := x.toBitVec.toNat % 2 ^ wb
/-- the row behind so many words; the first of them by which the machines differ -/
def bm_rp (stp : Nat → Nat → Nat) (fr : Nat) (pw : Nat → Nat) : Nat → Nat
  | 0 => fr
  | k + 1 => stp (bm_rp stp fr pw k) (pw k)
def bm_ff (dif : Nat → Nat → Bool) (stp : Nat → Nat → Nat) (fr : Nat) (pw : Nat → Nat) : Nat → Int32
  | 0 => (-1)
  | k + 1 => if dif (bm_rp stp fr pw k) (pw k) = true ∧ bm_ff dif stp fr pw k = (-1) then nI k else bm_ff dif stp fr pw k
theorem bm_ff_or (dif : Nat → Nat → Bool) (stp : Nat → Nat → Nat) (fr : Nat) (pw : Nat → Nat) : ∀ k, bm_ff dif stp fr pw k = (-1) ∨ ∃ j, j < k ∧ bm_ff dif stp fr pw k = nI j
  | 0 => Or.inl rfl
  | k + 1 => by
    by_cases q : dif (bm_rp stp fr pw k) (pw k) = true ∧ bm_ff dif stp fr pw k = (-1)
    · exact Or.inr ⟨k, Nat.lt_succ_self k, if_pos q⟩
    · rcases bm_ff_or dif stp fr pw k with h | ⟨j, h1, h2⟩
      · exact Or.inl ((if_neg q).trans h)
      · exact Or.inr ⟨j, Nat.lt_succ_of_lt h1, (if_neg q).trans h2⟩
theorem bm_rp_ext {stp : Nat → Nat → Nat} {fr : Nat} {pw pw2 : Nat → Nat} : ∀ k, (∀ j, j < k → pw j = pw2 j) → bm_rp stp fr pw k = bm_rp stp fr pw2 k
  | 0, _ => rfl
  | k + 1, h => by
    show stp _ _ = stp _ _
    rw [bm_rp_ext k (fun j hj => h j (by omega)), h k (by omega)]
theorem bm_ff_ext {dif : Nat → Nat → Bool} {stp : Nat → Nat → Nat} {fr : Nat} {pw pw2 : Nat → Nat} : ∀ k, (∀ j, j < k → pw j = pw2 j) → bm_ff dif stp fr pw k = bm_ff dif stp fr pw2 k
  | 0, _ => rfl
  | k + 1, h => by
    unfold bm_ff
    rw [bm_rp_ext k (fun j hj => h j (by omega)), bm_ff_ext k (fun j hj => h j (by omega)), h k (by omega)]
/-- the first differing pair, or none -/
def bm_fp (np : Nat) (f : Nat → Bool) (d : Int32) : Prop := (d = (-1) ∧ ∀ q, q < np → f q = false) ∨ ∃ q, q < np ∧ d = nI q ∧ f q = true ∧ ∀ q2, q2 < q → f q2 = false
theorem bm_fp_eq {np : Nat} {f g : Nat → Bool} {d d2 : Int32} (h : bm_fp np f d) (h2 : bm_fp np g d2) (he : ∀ q, q < np → f q = g q) : d = d2 := by
  rcases h with ⟨e1, a1⟩ | ⟨q, q1, e1, a1, a2⟩
  · rcases h2 with ⟨e2, b1⟩ | ⟨q', q2, e2, b1, b2⟩
    · rw [e1, e2]
    · rw [← he q' q2, a1 q' q2] at b1
      cases b1
  · rcases h2 with ⟨e2, b1⟩ | ⟨q', q2, e2, b1, b2⟩
    · rw [he q q1, b1 q q1] at a1
      cases a1
    · have : q = q' := by
        rcases Nat.lt_trichotomy q q' with z | z | z
        · have o := b2 q z
          rw [← he q q1, a1] at o
          cases o
        · exact z
        · have o := a2 q' z
          rw [he q' q2, b1] at o
          cases o
      rw [e1, e2, this]
theorem bm_fp_any {np : Nat} {f : Nat → Bool} {d : Int32} (hnp : np ≤ 16) (h : bm_fp np f d) : decide (¬ d = (-1)) = bn_any f np ∧ decide (0 ≤ d) = bn_any f np := by
  rcases h with ⟨e, a⟩ | ⟨q, q1, e, a, -⟩
  · have hf : bn_any f np = false := by
      cases hb : bn_any f np with
      | false => rfl
      | true =>
        obtain ⟨q, h1, h2⟩ := (bn_any_iff f np).mp hb
        rw [a q h1] at h2
        cases h2
    rw [hf, e]
    decide +kernel
  · have ht : bn_any f np = true := (bn_any_iff f np).mpr ⟨q, q1, a⟩
    rw [ht, e]
    exact ⟨decide_eq_true (bn_ne1 (by omega)), decide_eq_true (nI_pos' (by omega))⟩
theorem bm_w_bit (wb : Nat) (x : Int32) (k : Nat) (hk : k < wb) : bt x k = (bm_w wb x).testBit k := by
  unfold bm_w
  rw [Nat.testBit_mod_two_pow, decide_eq_true hk, Bool.true_and]
  rfl
