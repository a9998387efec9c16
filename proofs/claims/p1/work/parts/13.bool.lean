-- ===== truths as ints =====
def bz (b : Bool) : Int32 := nI (if b then 1 else 0)
theorem bz_0 (b : Bool) : bz b = 0 ↔ b = false := by cases b <;> decide
theorem bz_n0 (b : Bool) : ¬ bz b = 0 ↔ b = true := by cases b <;> decide
theorem bz_nar (b : Bool) : narrow .boolean (.int (bz b)) = .int (bz b) := by cases b <;> rfl
theorem bz_t : nI 1 = bz true := rfl
theorem bz_f : nI 0 = bz false := rfl
theorem bz_eq1 {b : Bool} (h : b = true) : nI 1 = bz b := by rw [h]; rfl
theorem bz_eq0 {b : Bool} (h : b = false) : nI 0 = bz b := by rw [h]; rfl
