-- ===== the reference's nodes in the words of the net =====
def mo_op (k : Nat) : Int32 := if k = 6 then (-1) else if k = 7 then (-2) else nI k
def mo_l (kd lf : Nat → Nat) (z : Nat) : Nat := if kd z ≤ 5 then lf z else 0
def mo_s (kd lf : Nat → Nat) (z : Nat) : Nat := if kd z = 7 then lf z else 0
def mo_sd (sc s1 z : Nat) : Nat := if z = 0 then sc - s1 else if z = 1 then s1 else 0
def mo_th (a b : Bool) : Nat := if a then 1 else if b then 2 else 0
theorem mo_op6 : ∀ k, k ≤ 7 → (mo_op k = (-1) ↔ k = 6) := by decide +kernel
theorem mo_op7 : ∀ k, k ≤ 7 → (mo_op k = (-2) ↔ k = 7) := by decide +kernel
theorem mo_opk : ∀ k, k ≤ 5 → mo_op k = nI k := by decide +kernel
theorem mo_op5 : ∀ k, k ≤ 5 → (mo_op k = nI 5 ↔ k = 5) := by decide +kernel
/-- the truths of the first k nodes lie in tr -/
def mo_tr (kd lf rt : Nat → Nat) (r w : Nat) (tr : Nat → Bool) (k : Nat) : Prop := ∀ j, j < k → tr j = bm_vals kd lf rt (fun s => r.testBit s) w k j
theorem mo_tr_0 (kd lf rt : Nat → Nat) (r w : Nat) (tr : Nat → Bool) : mo_tr kd lf rt r w tr 0 := fun j h => absurd h (Nat.not_lt_zero j)
theorem mo_tr_up {kd lf rt : Nat → Nat} {r w k : Nat} {tr : Nat → Bool} {b : Bool} (h : mo_tr kd lf rt r w tr k) (hb : b = bm_gate (kd k) (lf k) (rt k) (bm_vals kd lf rt (fun s => r.testBit s) w k) (fun s => r.testBit s) w) : mo_tr kd lf rt r w (va_up tr k b) (k + 1) := by
  intro j hj
  by_cases q : j = k
  · subst q
    rw [va_up_self, bm_vals_new]
    exact hb
  · rw [va_up_ne _ _ q, bm_vals_old _ _ _ _ _ _ (by omega)]
    exact h j (by omega)
/-- what is shown before any cycle -/
def mo_fst (kd lf : Nat → Nat) (fr : Nat) (sh : Nat → Bool) (k : Nat) : Prop := ∀ j, j < k → sh j = (decide (kd j = 7) && fr.testBit (lf j))
theorem mo_fst_0 (kd lf : Nat → Nat) (fr : Nat) (sh : Nat → Bool) : mo_fst kd lf fr sh 0 := fun j h => absurd h (Nat.not_lt_zero j)
theorem mo_fst_up {kd lf : Nat → Nat} {fr k : Nat} {sh : Nat → Bool} {b : Bool} (h : mo_fst kd lf fr sh k) (hb : b = (decide (kd k = 7) && fr.testBit (lf k))) : mo_fst kd lf fr (va_up sh k b) (k + 1) := by
  intro j hj
  by_cases q : j = k
  · subst q
    rw [va_up_self]
    exact hb
  · rw [va_up_ne _ _ q]
    exact h j (by omega)
theorem mo_gate_eq {kd l r : Nat} {f g st : Nat → Bool} {w : Nat} (hk : kd ≤ 5) (hl : kd ≤ 3 → f l = g l) (hr : kd ≤ 2 → f r = g r) : bm_gate kd l r f (fun _ => false) 0 = bm_gate kd l r g st w := by
  have h9 : kd = 0 ∨ kd = 1 ∨ kd = 2 ∨ kd = 3 ∨ kd = 4 ∨ kd = 5 := by omega
  rcases h9 with h | h | h | h | h | h
  · simp [bm_gate, h, hl (by omega), hr (by omega)]
  · simp [bm_gate, h, hl (by omega), hr (by omega)]
  · simp [bm_gate, h, hl (by omega), hr (by omega)]
  · simp [bm_gate, h, hl (by omega)]
  · simp [bm_gate, h]
  · simp [bm_gate, h]
