-- ===== truths as ints =====
def bz (b : Bool) : Int32 := nI (if b then 1 else 0)
theorem bz_0 (b : Bool) : bz b = 0 ↔ b = false := by cases b <;> decide
theorem bz_n0 (b : Bool) : ¬ bz b = 0 ↔ b = true := by cases b <;> decide
theorem bz_nar (b : Bool) : narrow .boolean (.int (bz b)) = .int (bz b) := by cases b <;> rfl
theorem bz_t : nI 1 = bz true := rfl
theorem bz_f : nI 0 = bz false := rfl
theorem bz_eq1 {b : Bool} (h : b = true) : nI 1 = bz b := by rw [h]; rfl
theorem bz_eq0 {b : Bool} (h : b = false) : nI 0 = bz b := by rw [h]; rfl
theorem bz_vp (b : Bool) : vp_nar .boolean (bz b) = bz b := by cases b <;> rfl
theorem bz_fit (b : Bool) : fits .boolean (.int (bz b)) = true := by cases b <;> rfl
theorem bz_inj {a b : Bool} (h : bz a = bz b) : a = b := by cases a <;> cases b <;> first | rfl | (revert h; decide)
theorem bn_upB (f : Nat → Bool) (k : Nat) (b : Bool) : upd (fun j => bz (f j)) k (bz b) = fun j => bz (va_up f k b j) := by
  funext j
  by_cases h : j = k
  · subst h
    rw [pk_us, va_up_self]
  · rw [pk_un h, va_up_ne _ _ h]
theorem bn_row_t {f : Nat → Bool} {k : Nat} (hf : f k = true) (hk : k < 31) : nI (bn_row f k) ||| (nI 1 <<< (nI k &&& 31)) = nI (bn_row f (k + 1)) := by
  have h := bn_put (bn_row f k) k true hk (bn_row_lt f k)
  rw [if_pos rfl, if_pos rfl] at h
  rw [h]
  show _ = nI (bn_row f k + (if f k then 2 ^ k else 0))
  rw [if_pos hf]
theorem bn_row_f {f : Nat → Bool} {k : Nat} (hf : f k = false) : nI (bn_row f k) ||| nI 0 = nI (bn_row f (k + 1)) := by
  rw [bn_or, Nat.or_zero]
  show _ = nI (bn_row f k + (if f k then 2 ^ k else 0))
  rw [if_neg (by rw [hf]; decide), Nat.add_zero]
