-- ===== what holds of a search, in the words of the levels =====
/-- the reference's arrays hold the rows behind so many clear levels -/
def mo_I (stp : Nat → Nat → Nat) (nw fr mrc mcl : Nat) (mw : Nat → Nat) (mq : Nat → Int32) (mb lb : Nat → Nat) (cm : Nat → Bool) (ov : Bool) : Prop :=
  mrc = (bs_L stp nw fr mcl).1.1 ∧ (∀ j, j < mrc → mw j = (bs_L stp nw fr mcl).1.2.1 j) ∧ (∀ k, k ≤ mcl → lb k = (bs_L stp nw fr mcl).2 k) ∧ mo_og (bs_L stp nw fr mcl).1 mq mb ∧ mo_cm cm (bs_L stp nw fr mcl).1 ∧ ov = decide ((bs_L stp nw fr mcl).2 (mcl + 1) = (bs_L stp nw fr mcl).2 mcl)
/-- levels 0 .. cl - 1 have rows, and are clear -/
def bs_cl (dif : Nat → Nat → Bool) (stp : Nat → Nat → Nat) (nw fr cl : Nat) : Prop := ∀ k, k < cl → (bs_L stp nw fr cl).2 k < (bs_L stp nw fr cl).2 (k + 1) ∧ ∀ p, (bs_L stp nw fr cl).2 k ≤ p → p < (bs_L stp nw fr cl).2 (k + 1) → ∀ w, w < nw → dif ((bs_L stp nw fr cl).1.2.1 p) w = false
/-- in level cl the row at a is the first one that differs, by the word w first -/
def bs_fd (dif : Nat → Nat → Bool) (stp : Nat → Nat → Nat) (nw fr cl a w : Nat) : Prop := (bs_L stp nw fr cl).2 cl ≤ a ∧ a < (bs_L stp nw fr cl).1.1 ∧ w < nw ∧ dif ((bs_L stp nw fr cl).1.2.1 a) w = true ∧ (∀ w2, w2 < w → dif ((bs_L stp nw fr cl).1.2.1 a) w2 = false) ∧ ∀ p, (bs_L stp nw fr cl).2 cl ≤ p → p < a → ∀ w2, w2 < nw → dif ((bs_L stp nw fr cl).1.2.1 p) w2 = false
theorem bs_cl_0 (dif : Nat → Nat → Bool) (stp : Nat → Nat → Nat) (nw fr : Nat) : bs_cl dif stp nw fr 0 := fun k h => absurd h (Nat.not_lt_zero k)
theorem bs_cl_s {dif : Nat → Nat → Bool} {stp : Nat → Nat → Nat} {nw fr cl : Nat} (h : bs_cl dif stp nw fr cl) (ho : (bs_L stp nw fr cl).2 cl < (bs_L stp nw fr cl).2 (cl + 1)) (hn : ∀ p, (bs_L stp nw fr cl).2 cl ≤ p → p < (bs_L stp nw fr cl).2 (cl + 1) → ∀ w, w < nw → dif ((bs_L stp nw fr cl).1.2.1 p) w = false) : bs_cl dif stp nw fr (cl + 1) := by
  intro k hk
  have hle := bs_L_le stp nw fr cl (i := k + 1) (cl + 1) (by omega) (Nat.le_refl _)
  have hcn := bs_L_cnt stp nw fr cl
  have key : (bs_L stp nw fr cl).2 k < (bs_L stp nw fr cl).2 (k + 1) ∧ ∀ p, (bs_L stp nw fr cl).2 k ≤ p → p < (bs_L stp nw fr cl).2 (k + 1) → ∀ w, w < nw → dif ((bs_L stp nw fr cl).1.2.1 p) w = false := by
    by_cases q : k = cl
    · rw [q]
      exact ⟨ho, hn⟩
    · exact h k (by omega)
  rw [bs_L_st _ _ _ _ (by omega), bs_L_st _ _ _ _ (by omega)]
  exact ⟨key.1, fun p h1 h2 w hw => by rw [((bs_L_ext stp nw fr cl).2 p (by omega)).1]; exact key.2 p h1 h2 w hw⟩
/-- clear levels have one row each at the least -/
theorem bs_cl_le {dif : Nat → Nat → Bool} {stp : Nat → Nat → Nat} {nw fr cl : Nat} (h : bs_cl dif stp nw fr cl) : ∀ k, k ≤ cl → k ≤ (bs_L stp nw fr cl).2 k
  | 0, _ => Nat.zero_le _
  | k + 1, hk => by
    have h1 := bs_cl_le h k (by omega)
    have h2 := (h k (by omega)).1
    omega
theorem mo_I_0 {stp : Nat → Nat → Nat} {nw fr : Nat} {mw : Nat → Nat} {mq : Nat → Int32} {mb lb : Nat → Nat} {cm : Nat → Bool} (h1 : mw 0 = fr) (h2 : lb 0 = 0) (h3 : ∀ q, q < 16384 → cm q = decide (q = fr)) : mo_I stp nw fr 1 0 mw mq mb lb cm false := by
  refine ⟨rfl, fun j hj => ?_, fun k hk => ?_, fun j h0 hj => ?_, fun q hq => ?_, rfl⟩
  · rw [show j = 0 by omega]
    exact h1
  · rw [show k = 0 by omega]
    exact h2
  · have hj : j < 1 := hj
    omega
  · rw [h3 q hq]
    show decide (q = fr) = (false || (fr == q))
    by_cases z : q = fr
    · rw [z]; simp
    · have : ¬ fr = q := fun e => z e.symm
      simp [z, this]
theorem mo_I_eq {stp : Nat → Nat → Nat} {nw fr mrc mcl : Nat} {mw : Nat → Nat} {mq : Nat → Int32} {mb lb : Nat → Nat} {cm : Nat → Bool} {ov : Bool} (h : mo_I stp nw fr mrc mcl mw mq mb lb cm ov) : bs_eq (mrc, mw, (bs_L stp nw fr mcl).1.2.2) (bs_L stp nw fr mcl).1 := ⟨h.1, fun j hj => ⟨h.2.1 j hj, rfl⟩⟩
theorem mo_I_s {stp : Nat → Nat → Nat} {nw fr mrc mcl : Nat} {mw : Nat → Nat} {mq mq2 : Nat → Int32} {mb mb2 lb : Nat → Nat} {cm cm2 : Nat → Bool} {ov ov2 : Bool} (h : mo_I stp nw fr mrc mcl mw mq mb lb cm ov) {x : bs_T} (hx : x = bs_rs stp nw (mrc, mw, (bs_L stp nw fr mcl).1.2.2) (lb mcl) (mrc - lb mcl))
    (hq : mo_og x mq2 mb2) (hc : mo_cm cm2 x) (ho : ov2 = decide (x.1 = mrc)) : mo_I stp nw fr x.1 (mcl + 1) x.2.1 mq2 mb2 (va_up lb (mcl + 1) mrc) cm2 ov2 := by
  have he := mo_I_eq h
  obtain ⟨h1, h2, h3, h4, h5, h6⟩ := h
  have hcn := bs_L_cnt stp nw fr mcl
  have hmo := bs_L_mono stp nw fr mcl mcl (Nat.le_refl _)
  have hlb := h3 mcl (Nat.le_refl _)
  have hxe : bs_eq x (bs_L stp nw fr (mcl + 1)).1 := by
    rw [hx, bs_L_1, hcn, ← h1, ← hlb]
    exact bs_rs_eq stp nw he (lb mcl) (mrc - lb mcl) (show lb mcl + (mrc - lb mcl) ≤ mrc by omega)
  refine ⟨hxe.1, fun j hj => (hxe.2 j hj).1, fun k hk => ?_, fun j h0 hj => ?_, fun q hq2 => ?_, ?_⟩
  · by_cases z : k = mcl + 1
    · rw [z, va_up_self, bs_L_st _ _ _ _ (Nat.le_refl _), hcn]
      exact h1
    · rw [va_up_ne _ _ z, bs_L_st _ _ _ _ (by omega)]
      exact h3 k (by omega)
  · rw [← hxe.1] at hj
    rw [← (hxe.2 j hj).2]
    exact hq j h0 hj
  · rw [← bs_has_eq hxe]
    exact hc q hq2
  · rw [ho, bs_L_cnt, bs_L_st _ _ _ _ (Nat.le_refl _), hcn, ← hxe.1, ← h1]
theorem mo_I_ok {M : Nat} {stp : Nat → Nat → Nat} {nw fr mrc mcl : Nat} {mw : Nat → Nat} {mq : Nat → Int32} {mb lb : Nat → Nat} {cm : Nat → Bool} {ov : Bool} (h : mo_I stp nw fr mrc mcl mw mq mb lb cm ov) (hf : fr < M) (hs : ∀ r w, stp r w < M) : bs_ok M (mrc, mw, (bs_L stp nw fr mcl).1.2.2) := bs_ok_eq (mo_I_eq h) (bs_L_ok hf hs mcl).1
theorem mo_I_og {stp : Nat → Nat → Nat} {nw fr mrc mcl : Nat} {mw : Nat → Nat} {mq : Nat → Int32} {mb lb : Nat → Nat} {cm : Nat → Bool} {ov : Bool} (h : mo_I stp nw fr mrc mcl mw mq mb lb cm ov) : mo_og (mrc, mw, (bs_L stp nw fr mcl).1.2.2) mq mb := fun j h0 hj => h.2.2.2.1 j h0 (by rw [← h.1]; exact hj)
theorem mo_I_cm {stp : Nat → Nat → Nat} {nw fr mrc mcl : Nat} {mw : Nat → Nat} {mq : Nat → Int32} {mb lb : Nat → Nat} {cm : Nat → Bool} {ov : Bool} (h : mo_I stp nw fr mrc mcl mw mq mb lb cm ov) : mo_cm cm (mrc, mw, (bs_L stp nw fr mcl).1.2.2) := fun q hq => by rw [h.2.2.2.2.1 q hq]; exact (bs_has_eq (mo_I_eq h) q).symm
theorem mo_I_lb {stp : Nat → Nat → Nat} {nw fr mrc mcl : Nat} {mw : Nat → Nat} {mq : Nat → Int32} {mb lb : Nat → Nat} {cm : Nat → Bool} {ov : Bool} (h : mo_I stp nw fr mrc mcl mw mq mb lb cm ov) : lb mcl = (bs_L stp nw fr mcl).2 mcl ∧ lb mcl ≤ mrc := by
  have h1 := h.2.2.1 mcl (Nat.le_refl _)
  have h2 := bs_L_mono stp nw fr mcl mcl (Nat.le_refl _)
  have h3 := bs_L_cnt stp nw fr mcl
  have h4 := h.1
  exact ⟨h1, by omega⟩
