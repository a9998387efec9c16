-- ===== levels: where each row came from; two pictures of the same rows =====
theorem bs_add_new_at {x : bs_T} {r o p : Nat} (h1 : x.1 ≤ p) (h2 : p < (bs_add x r o).1) : (bs_add x r o).2.2 p = o := by
  cases e : bs_has x.2.1 x.1 r with
  | true =>
    rw [bs_add_in x r o e] at h2
    omega
  | false =>
    rw [bs_add_new x r o e] at h2 ⊢
    have h2 : p < x.1 + 1 := h2
    rw [show p = x.1 by omega]
    exact va_up_self _ _ _
theorem bs_ws_new {stp : Nat → Nat → Nat} {x : bs_T} {pl r p : Nat} : ∀ w, w ≤ 16 → x.1 ≤ p → p < (bs_ws stp x pl r w).1 → (bs_ws stp x pl r w).2.2 p / 16 = pl
  | 0, _, h1, h2 => by
    have h2 : p < x.1 := h2
    omega
  | w + 1, hw, h1, h2 => by
    have hx := bs_add_ext (bs_ws stp x pl r w) (stp r w) (pl * 16 + w)
    by_cases q : p < (bs_ws stp x pl r w).1
    · have h3 : (bs_ws stp x pl r (w + 1)).2.2 p = (bs_ws stp x pl r w).2.2 p := (hx.2 p q).2
      rw [h3]
      exact bs_ws_new w (by omega) h1 q
    · have h3 : (bs_ws stp x pl r (w + 1)).2.2 p = pl * 16 + w := bs_add_new_at (by omega) h2
      rw [h3]
      omega
theorem bs_rs_new {stp : Nat → Nat → Nat} {nw : Nat} {x : bs_T} {fro p : Nat} (hnw : nw ≤ 16) : ∀ k, x.1 ≤ p → p < (bs_rs stp nw x fro k).1 → fro ≤ (bs_rs stp nw x fro k).2.2 p / 16 ∧ (bs_rs stp nw x fro k).2.2 p / 16 < fro + k
  | 0, h1, h2 => by
    have h2 : p < x.1 := h2
    omega
  | k + 1, h1, h2 => by
    have hx := bs_ws_ext stp (bs_rs stp nw x fro k) (fro + k) (x.2.1 (fro + k)) nw
    by_cases q : p < (bs_rs stp nw x fro k).1
    · have h3 : (bs_rs stp nw x fro (k + 1)).2.2 p = (bs_rs stp nw x fro k).2.2 p := (hx.2 p q).2
      have h4 := bs_rs_new (stp := stp) hnw k h1 q
      rw [h3]
      omega
    · have h3 : (bs_rs stp nw x fro (k + 1)).2.2 p / 16 = fro + k := bs_ws_new nw hnw (by omega) h2
      rw [h3]
      omega
theorem bs_L_st (stp : Nat → Nat → Nat) (nw fr k : Nat) {i : Nat} (hi : i ≤ k + 1) : (bs_L stp nw fr (k + 1)).2 i = (bs_L stp nw fr k).2 i := by rw [bs_L_2, va_up_ne _ _ (by omega)]
theorem bs_L_ext (stp : Nat → Nat → Nat) (nw fr k : Nat) : bs_ext (bs_L stp nw fr k).1 (bs_L stp nw fr (k + 1)).1 := bs_rs_ext _ _ _ _ _
theorem bs_L_cnt (stp : Nat → Nat → Nat) (nw fr : Nat) : ∀ k, (bs_L stp nw fr k).2 (k + 1) = (bs_L stp nw fr k).1.1
  | 0 => rfl
  | k + 1 => by rw [bs_L_2, va_up_self]
theorem bs_L_mono (stp : Nat → Nat → Nat) (nw fr : Nat) : ∀ k i, i ≤ k → (bs_L stp nw fr k).2 i ≤ (bs_L stp nw fr k).2 (i + 1)
  | 0, i, hi => by
    rw [show i = 0 by omega]
    exact Nat.zero_le _
  | k + 1, i, hi => by
    by_cases q : i = k + 1
    · subst q
      rw [bs_L_cnt, bs_L_st _ _ _ _ (Nat.le_refl _), bs_L_cnt]
      exact (bs_L_ext stp nw fr k).1
    · rw [bs_L_st _ _ _ _ (by omega), bs_L_st _ _ _ _ (by omega)]
      exact bs_L_mono stp nw fr k i (by omega)
theorem bs_L_le (stp : Nat → Nat → Nat) (nw fr k : Nat) {i : Nat} : ∀ j, i ≤ j → j ≤ k + 1 → (bs_L stp nw fr k).2 i ≤ (bs_L stp nw fr k).2 j
  | 0, h1, _ => by rw [show i = 0 by omega]; exact Nat.le_refl _
  | j + 1, h1, h2 => by
    by_cases q : i = j + 1
    · rw [q]
      exact Nat.le_refl _
    · exact Nat.le_trans (bs_L_le stp nw fr k j (by omega) (by omega)) (bs_L_mono stp nw fr k j (by omega))
theorem bs_L_01 (stp : Nat → Nat → Nat) (nw fr : Nat) : ∀ k, (bs_L stp nw fr k).2 0 = 0 ∧ (bs_L stp nw fr k).2 1 = 1
  | 0 => ⟨rfl, rfl⟩
  | k + 1 => by
    rw [bs_L_st _ _ _ _ (by omega), bs_L_st _ _ _ _ (by omega)]
    exact bs_L_01 stp nw fr k
theorem bs_L_pos (stp : Nat → Nat → Nat) (nw fr k : Nat) : 1 ≤ (bs_L stp nw fr k).1.1 := by
  rw [← bs_L_cnt]
  have h := bs_L_le stp nw fr k (i := 1) (k + 1) (by omega) (Nat.le_refl _)
  rw [(bs_L_01 stp nw fr k).2] at h
  exact h
/-- a row of level j + 1 came of a row of level j -/
theorem bs_lev {stp : Nat → Nat → Nat} {nw fr : Nat} (hnw : nw ≤ 16) : ∀ k j p, j < k → (bs_L stp nw fr k).2 (j + 1) ≤ p → p < (bs_L stp nw fr k).2 (j + 2) → (bs_L stp nw fr k).2 j ≤ (bs_L stp nw fr k).1.2.2 p / 16 ∧ (bs_L stp nw fr k).1.2.2 p / 16 < (bs_L stp nw fr k).2 (j + 1)
  | 0, j, p, h, _, _ => absurd h (Nat.not_lt_zero j)
  | k + 1, j, p, h, h1, h2 => by
    by_cases q : j = k
    · subst q
      rw [bs_L_st _ _ _ _ (Nat.le_refl _), bs_L_cnt] at h1
      rw [bs_L_cnt] at h2
      have h3 := bs_rs_new (stp := stp) (nw := nw) (x := (bs_L stp nw fr j).1) (fro := (bs_L stp nw fr j).2 j) hnw ((bs_L stp nw fr j).2 (j + 1) - (bs_L stp nw fr j).2 j) h1 h2
      have h4 := bs_L_mono stp nw fr j j (Nat.le_refl _)
      rw [← bs_L_1] at h3
      rw [bs_L_st _ _ _ _ (by omega), bs_L_st _ _ _ _ (by omega)]
      omega
    · rw [bs_L_st _ _ _ _ (by omega)] at h1 h2
      have h5 := bs_L_le stp nw fr k (i := j + 2) (k + 1) (by omega) (Nat.le_refl _)
      rw [bs_L_cnt] at h5
      rw [((bs_L_ext stp nw fr k).2 p (by omega)).2, bs_L_st _ _ _ _ (by omega), bs_L_st _ _ _ _ (by omega)]
      exact bs_lev hnw k j p (by omega) h1 h2
/-- back from a row of level k: level by level -/
theorem bs_back {stp : Nat → Nat → Nat} {nw fr k a : Nat} (hnw : nw ≤ 16) (h1 : (bs_L stp nw fr k).2 k ≤ a) (h2 : a < (bs_L stp nw fr k).1.1) : ∀ i, i ≤ k → (bs_L stp nw fr k).2 (k - i) ≤ bs_pa (bs_L stp nw fr k).1.2.2 a i ∧ bs_pa (bs_L stp nw fr k).1.2.2 a i < (bs_L stp nw fr k).2 (k - i + 1)
  | 0, _ => ⟨h1, by rw [Nat.sub_zero, bs_L_cnt]; exact h2⟩
  | i + 1, hi => by
    obtain ⟨g1, g2⟩ := bs_back hnw h1 h2 i (by omega)
    rw [show k - i = k - (i + 1) + 1 by omega] at g1 g2
    exact bs_lev hnw k (k - (i + 1)) _ (by omega) g1 g2
theorem bs_back_pos {stp : Nat → Nat → Nat} {nw fr k a i : Nat} (hnw : nw ≤ 16) (h1 : (bs_L stp nw fr k).2 k ≤ a) (h2 : a < (bs_L stp nw fr k).1.1) (hi : i < k) : 0 < bs_pa (bs_L stp nw fr k).1.2.2 a i ∧ bs_pa (bs_L stp nw fr k).1.2.2 a i < (bs_L stp nw fr k).1.1 := by
  obtain ⟨g1, g2⟩ := bs_back hnw h1 h2 i (by omega)
  have g3 := bs_L_le stp nw fr k (i := 1) (k - i) (by omega) (by omega)
  have g4 := bs_L_le stp nw fr k (i := k - i + 1) (k + 1) (by omega) (Nat.le_refl _)
  rw [(bs_L_01 stp nw fr k).2] at g3
  rw [bs_L_cnt] at g4
  omega
theorem bs_og_le {stp : Nat → Nat → Nat} {nw fr : Nat} (hnw : nw ≤ 16) : ∀ k j, j < (bs_L stp nw fr k).1.1 → (bs_L stp nw fr k).1.2.2 j / 16 ≤ j
  | 0, j, _ => by
    show 0 / 16 ≤ j
    omega
  | k + 1, j, hj => by
    by_cases q : j < (bs_L stp nw fr k).1.1
    · rw [((bs_L_ext stp nw fr k).2 j q).2]
      exact bs_og_le hnw k j q
    · have h3 := bs_rs_new (stp := stp) (nw := nw) (x := (bs_L stp nw fr k).1) (fro := (bs_L stp nw fr k).2 k) hnw ((bs_L stp nw fr k).2 (k + 1) - (bs_L stp nw fr k).2 k) (show (bs_L stp nw fr k).1.1 ≤ j by omega) hj
      have h4 := bs_L_mono stp nw fr k k (Nat.le_refl _)
      have h5 := bs_L_cnt stp nw fr k
      rw [← bs_L_1] at h3
      omega
/-- alike as far as they go -/
def bs_eq (x y : bs_T) : Prop := x.1 = y.1 ∧ ∀ j, j < x.1 → x.2.1 j = y.2.1 j ∧ x.2.2 j = y.2.2 j
theorem bs_has_eq {x y : bs_T} (h : bs_eq x y) (r : Nat) : bs_has x.2.1 x.1 r = bs_has y.2.1 y.1 r := by
  unfold bs_has
  rw [← h.1]
  exact bn_any_ext _ (fun i hi => by rw [(h.2 i hi).1])
theorem bs_add_eq {x y : bs_T} (h : bs_eq x y) (r o : Nat) : bs_eq (bs_add x r o) (bs_add y r o) := by
  cases e : bs_has x.2.1 x.1 r with
  | true =>
    rw [bs_add_in x r o e, bs_add_in y r o (by rw [← bs_has_eq h]; exact e)]
    exact h
  | false =>
    rw [bs_add_new x r o e, bs_add_new y r o (by rw [← bs_has_eq h]; exact e)]
    refine ⟨congrArg (· + 1) h.1, fun j hj => ?_⟩
    have hj : j < x.1 + 1 := hj
    show va_up x.2.1 x.1 r j = va_up y.2.1 y.1 r j ∧ va_up x.2.2 x.1 o j = va_up y.2.2 y.1 o j
    rw [← h.1]
    by_cases z : j = x.1
    · rw [z, va_up_self, va_up_self, va_up_self, va_up_self]
      exact ⟨rfl, rfl⟩
    · rw [va_up_ne _ _ z, va_up_ne _ _ z, va_up_ne _ _ z, va_up_ne _ _ z]
      exact h.2 j (by omega)
theorem bs_ws_eq {x y : bs_T} (stp : Nat → Nat → Nat) (h : bs_eq x y) (pl r : Nat) : ∀ w, bs_eq (bs_ws stp x pl r w) (bs_ws stp y pl r w)
  | 0 => h
  | w + 1 => bs_add_eq (bs_ws_eq stp h pl r w) _ _
theorem bs_rs_eq {x y : bs_T} (stp : Nat → Nat → Nat) (nw : Nat) (h : bs_eq x y) (fro : Nat) : ∀ k, fro + k ≤ x.1 → bs_eq (bs_rs stp nw x fro k) (bs_rs stp nw y fro k)
  | 0, _ => h
  | k + 1, hk => by
    have h1 := bs_rs_eq stp nw h fro k (by omega)
    show bs_eq (bs_ws stp (bs_rs stp nw x fro k) (fro + k) (x.2.1 (fro + k)) nw) (bs_ws stp (bs_rs stp nw y fro k) (fro + k) (y.2.1 (fro + k)) nw)
    rw [(h.2 (fro + k) (by omega)).1]
    exact bs_ws_eq stp h1 _ _ nw
theorem bs_ok_eq {M : Nat} {x y : bs_T} (h : bs_eq x y) (hy : bs_ok M y) : bs_ok M x := ⟨fun i hi => by rw [(h.2 i hi).1]; exact hy.1 i (by rw [← h.1]; exact hi), fun i j hi hj e => hy.2 i j (by rw [← h.1]; exact hi) (by rw [← h.1]; exact hj) (by rw [← (h.2 i hi).1, ← (h.2 j hj).1]; exact e)⟩
theorem bs_pa_eq {og og2 : Nat → Nat} {c a : Nat} : ∀ i, (∀ j, j < c → og j = og2 j) → (∀ k, k < i → bs_pa og2 a k < c) → bs_pa og a i = bs_pa og2 a i
  | 0, _, _ => rfl
  | i + 1, h, hc => by
    show og (bs_pa og a i) / 16 = og2 (bs_pa og2 a i) / 16
    rw [bs_pa_eq i h (fun k hk => hc k (by omega)), h _ (hc i (by omega))]
