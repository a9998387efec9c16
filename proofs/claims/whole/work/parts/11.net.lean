-- ===== the machines, as the document has them =====
/-- a node's truth by its kind, the nodes before it, the states and the word -/
def bm_gate (kd l r : Nat) (f : Nat → Bool) (st : Nat → Bool) (w : Nat) : Bool :=
  if kd = 0 then (f l && f r) else if kd = 1 then (f l || f r) else if kd = 2 then (f l ^^ f r) else if kd = 3 then !(f l) else if kd = 4 then false else if kd = 5 then true else if kd = 6 then w.testBit l else st l
/-- the truths of the first k nodes -/
def bm_vals (kd lf rt : Nat → Nat) (st : Nat → Bool) (w : Nat) : Nat → Nat → Bool
  | 0 => fun _ => false
  | k + 1 => va_up (bm_vals kd lf rt st w k) k (bm_gate (kd k) (lf k) (rt k) (bm_vals kd lf rt st w k) st w)
theorem bm_vals_new (kd lf rt : Nat → Nat) (st : Nat → Bool) (w k : Nat) : bm_vals kd lf rt st w (k + 1) k = bm_gate (kd k) (lf k) (rt k) (bm_vals kd lf rt st w k) st w := va_up_self _ _ _
theorem bm_vals_old (kd lf rt : Nat → Nat) (st : Nat → Bool) (w k : Nat) {j : Nat} (h : j < k) : bm_vals kd lf rt st w (k + 1) j = bm_vals kd lf rt st w k j := va_up_ne _ _ (by omega)
theorem bm_vals_st (kd lf rt : Nat → Nat) (st : Nat → Bool) (w : Nat) {j k : Nat} (h : j < k) : ∀ n, k ≤ n → bm_vals kd lf rt st w n j = bm_vals kd lf rt st w k j
  | 0, h2 => by omega
  | n + 1, h2 => by
    by_cases q : k = n + 1
    · rw [q]
    · rw [bm_vals_old kd lf rt st w n (by omega), bm_vals_st kd lf rt st w h n (by omega)]
/-- what was told so far hangs together: B word bits, n nodes, sc states -/
def bm_wf (B n sc : Nat) (kd lf rt : Nat → Nat) : Prop := (1 ≤ B ∧ B ≤ 4 ∧ B ≤ n ∧ n ≤ 100 ∧ sc ≤ 14) ∧ ∀ k, k < n → kd k ≤ 7 ∧ (kd k ≤ 3 → lf k < k) ∧ (kd k ≤ 2 → rt k < k) ∧ (kd k = 6 → lf k < B) ∧ (kd k = 7 → lf k < sc)
/-- the lanes hold the truths of the first k nodes under all sixteen words -/
def bm_ln (kd lf rt : Nat → Nat) (r : Nat) (ln : Nat → Int32) (k : Nat) : Prop := ∀ j, j < k → ∀ w, w < 16 → bt (ln j) w = bm_vals kd lf rt (fun s => r.testBit s) w k j
theorem bm_ln_0 (kd lf rt : Nat → Nat) (r : Nat) (ln : Nat → Int32) : bm_ln kd lf rt r ln 0 := fun j h => absurd h (Nat.not_lt_zero j)
theorem bm_ln_up {kd lf rt : Nat → Nat} {r k : Nat} {ln : Nat → Int32} {x : Int32} (h : bm_ln kd lf rt r ln k) (hx : ∀ w, w < 16 → bt x w = bm_gate (kd k) (lf k) (rt k) (bm_vals kd lf rt (fun s => r.testBit s) w k) (fun s => r.testBit s) w) : bm_ln kd lf rt r (upd ln k x) (k + 1) := by
  intro j hj w hw
  by_cases q : j = k
  · subst q
    rw [pk_us, bm_vals_new]
    exact hx w hw
  · rw [pk_un q, bm_vals_old _ _ _ _ _ _ (by omega)]
    exact h j (by omega) w hw
/-- the lanes of the word bits -/
def bm_LW (k : Nat) : Int32 := if k = 0 then 43690 else if k = 1 then 52428 else if k = 2 then 61680 else 65280
theorem bm_LW_bit : ∀ k, k < 4 → ∀ w, w < 16 → bt (bm_LW k) w = w.testBit k := by decide +kernel
theorem bm_lane (b : Bool) (w : Nat) (hw : w < 32) : bt (if b then (-1) else nI 0) w = b := by
  cases b with
  | false => exact b_0 w
  | true => exact b_m1 w hw
/-- the lanes before any cycle: of states as at first, of others no -/
def bm_fst (kd lf : Nat → Nat) (fr : Nat) (ln : Nat → Int32) (k : Nat) : Prop := ∀ j, j < k → ln j = if kd j = 7 then (if fr.testBit (lf j) then (-1) else nI 0) else nI 0
theorem bm_fst_0 (kd lf : Nat → Nat) (fr : Nat) (ln : Nat → Int32) : bm_fst kd lf fr ln 0 := fun j h => absurd h (Nat.not_lt_zero j)
theorem bm_fst_up {kd lf : Nat → Nat} {fr k : Nat} {ln : Nat → Int32} {x : Int32} (h : bm_fst kd lf fr ln k) (hx : x = if kd k = 7 then (if fr.testBit (lf k) then (-1) else nI 0) else nI 0) : bm_fst kd lf fr (upd ln k x) (k + 1) := by
  intro j hj
  by_cases q : j = k
  · subst q
    rw [pk_us]
    exact hx
  · rw [pk_un q]
    exact h j (by omega)
