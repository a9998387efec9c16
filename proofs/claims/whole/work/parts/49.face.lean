-- ===== what the face asks of its numbers =====
theorem bm_le5 (o : Int32) : o ≤ nI 5 ↔ o < nI 6 := by
  rw [Int32.le_iff_toInt_le, Int32.lt_iff_toInt_lt, show (nI 5).toInt = 5 by decide +kernel, show (nI 6).toInt = 6 by decide +kernel]
  omega
theorem bm_le3 (o : Int32) : o ≤ nI 3 ↔ o < nI 4 := by
  rw [Int32.le_iff_toInt_le, Int32.lt_iff_toInt_lt, show (nI 3).toInt = 3 by decide +kernel, show (nI 4).toInt = 4 by decide +kernel]
  omega
theorem bm_01 {x : Int32} (h0 : ¬ x < 0) (h2 : x < nI 2) : x = 0 ∨ x = nI 1 := by
  obtain ⟨j, hj, e⟩ := nI_of h0
  rw [e] at h2 ⊢
  have h3 := (nI_ltI hj (by decide)).mp h2
  have h4 : j = 0 ∨ j = 1 := by omega
  rcases h4 with h | h <;> rw [h]
  · exact Or.inl rfl
  · exact Or.inr rfl
theorem bm_tg (o a b : Int32) (n : Nat) : (decide (¬ o < 0 ∧ o ≤ nI 5) && (!decide (o ≤ nI 3) || decide (¬ a < 0 ∧ a < nI n)) && (!decide (o < nI 3) || decide (¬ b < 0 ∧ b < nI n))) = decide ((¬ o < 0 ∧ o < nI 6) ∧ (o < nI 4 → ¬ a < 0 ∧ a < nI n) ∧ (o < nI 3 → ¬ b < 0 ∧ b < nI n)) := by
  rw [Bool.eq_iff_iff]
  simp only [Bool.and_eq_true, Bool.or_eq_true, Bool.not_eq_true', decide_eq_true_eq, decide_eq_false_iff_not, bm_le5, bm_le3]
  constructor
  · rintro ⟨⟨h1, h2⟩, h3⟩
    exact ⟨h1, fun h => h2.resolve_left (fun q => q h), fun h => h3.resolve_left (fun q => q h)⟩
  · rintro ⟨h1, h2, h3⟩
    refine ⟨⟨h1, ?_⟩, ?_⟩
    · by_cases q : o < nI 4
      · exact Or.inr (h2 q)
      · exact Or.inl q
    · by_cases q : o < nI 3
      · exact Or.inr (h3 q)
      · exact Or.inl q
theorem bm_tgo {ok la ra n : Nat} {a b : Int32} (hok : ok ≤ 5) (hla : ok ≤ 3 → a = nI la ∧ la < n) (hra : ok ≤ 2 → b = nI ra ∧ ra < n) (hn : n ≤ 100) : (¬ nI ok < 0 ∧ nI ok < nI 6) ∧ (nI ok < nI 4 → ¬ a < 0 ∧ a < nI n) ∧ (nI ok < nI 3 → ¬ b < 0 ∧ b < nI n) := by
  refine ⟨⟨nI_pos (by omega), nI_lt (by omega) (by decide)⟩, fun h => ?_, fun h => ?_⟩
  · obtain ⟨e, h1⟩ := hla (by have := (nI_ltI (by omega) (by decide)).mp h; omega)
    rw [e]
    exact ⟨nI_pos (by omega), nI_lt h1 (by omega)⟩
  · obtain ⟨e, h1⟩ := hra (by have := (nI_ltI (by omega) (by decide)).mp h; omega)
    rw [e]
    exact ⟨nI_pos (by omega), nI_lt h1 (by omega)⟩
/-- a number that names a node -/
theorem bm_nd1 {x : Int32} {n : Nat} (h : ¬ x < 0 ∧ x < nI n) (hn : n ≤ 100) : ∃ j, j < n ∧ x = nI j := by
  obtain ⟨j, hj, e⟩ := nI_of h.1
  exact ⟨j, (nI_ltI hj (by omega)).mp (by rw [← e]; exact h.2), e⟩
theorem bm_nd {x : Int32} {n : Nat} {kd : Nat → Nat} (h : ¬ x < 0 ∧ x < nI n) (hn : n ≤ 100) (h7 : kd x.toNatClampNeg = 7) : ∃ j, j < n ∧ x = nI j ∧ kd j = 7 := by
  obtain ⟨j, hj, e⟩ := bm_nd1 h hn
  refine ⟨j, hj, e, ?_⟩
  rw [e, nI_clamp (by omega)] at h7
  exact h7
theorem bm_fp_cg {np : Nat} {f g : Nat → Bool} {d : Int32} (h : bm_fp np f d) (he : ∀ q, q < np → f q = g q) : bm_fp np g d := by
  rcases h with ⟨e, a⟩ | ⟨q, q1, e, a, a2⟩
  · exact Or.inl ⟨e, fun q hq => by rw [← he q hq]; exact a q hq⟩
  · exact Or.inr ⟨q, q1, e, by rw [← he q q1]; exact a, fun q2 h2 => by rw [← he q2 (by omega)]; exact a2 q2 h2⟩
theorem bm_gl {ok la n : Nat} {a : Int32} (hok : ok ≤ 5) (hla : ok ≤ 3 → a = nI la ∧ la < n) (hla0 : 4 ≤ ok → la = 0) : (if nI ok ≤ nI 3 then a else nI 0) = nI la := by
  have h3 : nI ok ≤ nI 3 ↔ ok ≤ 3 := nI_leI (by omega) (by decide)
  by_cases q : ok ≤ 3
  · rw [if_pos (h3.mpr q), (hla q).1]
  · rw [if_neg (fun h => q (h3.mp h)), hla0 (by omega)]
theorem bm_gr {ok ra n : Nat} {b : Int32} (hok : ok ≤ 5) (hra : ok ≤ 2 → b = nI ra ∧ ra < n) (hra0 : 3 ≤ ok → ra = 0) : (if nI ok < nI 3 then b else nI 0) = nI ra := by
  have h4 : nI ok < nI 3 ↔ ok < 3 := nI_ltI (by omega) (by decide)
  by_cases q : ok ≤ 2
  · rw [if_pos (h4.mpr (by omega)), (hra q).1]
  · rw [if_neg (fun h => q (by have := h4.mp h; omega)), hra0 (by omega)]
