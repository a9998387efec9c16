-- ===== what a new node changes, in the reference's arrays =====
/-- nothing lies beyond the nodes -/
def bm_z (n : Nat) (kd lf rt : Nat → Nat) : Prop := ∀ z, n ≤ z → kd z = 0 ∧ lf z = 0 ∧ rt z = 0
theorem mo_op_up (kd : Nat → Nat) (k v : Nat) : upd (fun z => mo_op (kd z)) k (mo_op v) = fun z => mo_op (va_up kd k v z) := by
  funext z
  by_cases h : z = k
  · rw [h, pk_us, va_up_self]
  · rw [pk_un h, va_up_ne _ _ h]
theorem mo_s_up7 (kd lf : Nat → Nat) (k v : Nat) : upd (fun z => nI (mo_s kd lf z)) k (nI v) = fun z => nI (mo_s (va_up kd k 7) (va_up lf k v) z) := by
  funext z
  by_cases h : z = k
  · rw [h, pk_us]
    unfold mo_s
    rw [va_up_self, va_up_self, if_pos rfl]
  · rw [pk_un h]
    unfold mo_s
    rw [va_up_ne _ _ h, va_up_ne _ _ h]
theorem mo_s_g {kd lf : Nat → Nat} {k o v : Nat} (ho : o ≤ 5) (h0 : kd k = 0) : (fun z => nI (mo_s (va_up kd k o) (va_up lf k v) z)) = fun z => nI (mo_s kd lf z) := by
  funext z
  by_cases h : z = k
  · rw [h]
    unfold mo_s
    rw [va_up_self, if_neg (by omega), if_neg (by omega)]
  · unfold mo_s
    rw [va_up_ne _ _ h, va_up_ne _ _ h]
theorem mo_l_7 {kd lf : Nat → Nat} {k v : Nat} (h0 : kd k = 0 ∧ lf k = 0) : (fun z => nI (mo_l (va_up kd k 7) (va_up lf k v) z)) = fun z => nI (mo_l kd lf z) := by
  funext z
  by_cases h : z = k
  · rw [h]
    unfold mo_l
    rw [va_up_self, if_neg (by decide), if_pos (by omega), h0.2]
  · unfold mo_l
    rw [va_up_ne _ _ h, va_up_ne _ _ h]
theorem mo_l_upg {kd lf : Nat → Nat} {k o v : Nat} (ho : o ≤ 5) : upd (fun z => nI (mo_l kd lf z)) k (nI v) = fun z => nI (mo_l (va_up kd k o) (va_up lf k v) z) := by
  funext z
  by_cases h : z = k
  · rw [h, pk_us]
    unfold mo_l
    rw [va_up_self, va_up_self, if_pos ho]
  · rw [pk_un h]
    unfold mo_l
    rw [va_up_ne _ _ h, va_up_ne _ _ h]
theorem bm_up0 {f : Nat → Nat} {k : Nat} (h : f k = 0) : va_up f k 0 = f := by
  funext z
  by_cases q : z = k
  · rw [q, va_up_self, h]
  · rw [va_up_ne _ _ q]
theorem bm_fr_bit {fr sc : Nat} (h : fr < 2 ^ sc) (b : Bool) (z : Nat) : (fr + (if b then 2 ^ sc else 0)).testBit z = (if z = sc then b else fr.testBit z) := by
  cases b with
  | false =>
    rw [if_neg (by decide), Nat.add_zero]
    by_cases q : z = sc
    · rw [if_pos q, q, Nat.testBit_lt_two_pow h]
    · rw [if_neg q]
  | true =>
    rw [if_pos rfl, ← bn_addor h, Nat.testBit_or, Nat.testBit_two_pow]
    by_cases q : z = sc
    · rw [if_pos q, q, decide_eq_true rfl, Bool.or_true]
    · rw [if_neg q, decide_eq_false (fun e => q e.symm), Bool.or_false]
theorem mo_f_up {fr sc : Nat} (h : fr < 2 ^ sc) (b : Bool) : upd (fun z => bz (fr.testBit z)) sc (bz b) = fun z => bz ((fr + (if b then 2 ^ sc else 0)).testBit z) := by
  funext z
  rw [bm_fr_bit h]
  by_cases q : z = sc
  · rw [if_pos q, q, pk_us]
  · rw [if_neg q, pk_un q]
theorem bm_fr_lt {fr sc : Nat} (h : fr < 2 ^ sc) (b : Bool) : fr + (if b then 2 ^ sc else 0) < 2 ^ (sc + 1) := by
  rw [Nat.pow_succ]
  cases b with
  | false => rw [if_neg (by decide)]; omega
  | true => rw [if_pos rfl]; omega
theorem mo_sd_up {sc s1 sd : Nat} (hs : s1 ≤ sc) (hd : sd < 2) : upd (fun z => nI (mo_sd sc s1 z)) sd (nI (mo_sd sc s1 sd + 1)) = fun z => nI (mo_sd (sc + 1) (s1 + sd) z) := by
  funext z
  have h2 : sd = 0 ∨ sd = 1 := by omega
  by_cases q : z = sd
  · rw [q, pk_us]
    rcases h2 with h | h <;> subst h <;> unfold mo_sd <;> simp <;> exact congrArg nI (by omega)
  · rw [pk_un q]
    unfold mo_sd
    rcases h2 with h | h <;> subst h
    · rw [if_neg q, if_neg q]
      rfl
    · by_cases h0 : z = 0
      · rw [if_pos h0, if_pos h0]
        exact congrArg nI (by omega)
      · rw [if_neg h0, if_neg h0, if_neg q, if_neg q]
theorem bm_wf_st {wb n sc : Nat} {kd lf rt : Nat → Nat} (h : bm_wf wb n sc kd lf rt) (hn : n < 100) (hs : sc < 14) : bm_wf wb (n + 1) (sc + 1) (va_up kd n 7) (va_up lf n sc) (va_up rt n 0) := by
  obtain ⟨h1, h2⟩ := h
  refine ⟨by omega, fun k hk => ?_⟩
  by_cases q : k = n
  · subst q
    rw [va_up_self, va_up_self, va_up_self]
    omega
  · rw [va_up_ne _ _ q, va_up_ne _ _ q, va_up_ne _ _ q]
    obtain ⟨g1, g2, g3, g4, g5⟩ := h2 k (by omega)
    exact ⟨g1, g2, g3, g4, fun e => by have := g5 e; omega⟩
theorem bm_wf_ga {wb n sc o la ra : Nat} {kd lf rt : Nat → Nat} (h : bm_wf wb n sc kd lf rt) (hn : n < 100) (ho : o ≤ 5) (hl : o ≤ 3 → la < n) (hr : o ≤ 2 → ra < n) : bm_wf wb (n + 1) sc (va_up kd n o) (va_up lf n la) (va_up rt n ra) := by
  obtain ⟨h1, h2⟩ := h
  refine ⟨by omega, fun k hk => ?_⟩
  by_cases q : k = n
  · subst q
    rw [va_up_self, va_up_self, va_up_self]
    exact ⟨by omega, hl, hr, by omega, by omega⟩
  · rw [va_up_ne _ _ q, va_up_ne _ _ q, va_up_ne _ _ q]
    exact h2 k (by omega)
