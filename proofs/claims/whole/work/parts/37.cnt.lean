def bm_cnt (x a0 a1 a2 a3 a4 a5 a6 a7 : Int32) : Int32 := if x = nI 0 then a0 else if x = nI 1 then a1 else if x = nI 2 then a2 else if x = nI 3 then a3 else if x = nI 4 then a4 else if x = nI 5 then a5 else if x = nI 6 then a6 else if x = nI 7 then a7 else (-1)
theorem bm_out8 (x : Int32) (h0 : ¬ x = nI 0) (h1 : ¬ x = nI 1) (h2 : ¬ x = nI 2) (h3 : ¬ x = nI 3) (h4 : ¬ x = nI 4) (h5 : ¬ x = nI 5) (h6 : ¬ x = nI 6) (h7 : ¬ x = nI 7) : x.toInt < 0 ∨ 7 < x.toInt := by
  have key : ∀ k : Nat, k < 8 → ¬ x = nI k := by
    intro k hk
    have h : k = 0 ∨ k = 1 ∨ k = 2 ∨ k = 3 ∨ k = 4 ∨ k = 5 ∨ k = 6 ∨ k = 7 := by omega
    rcases h with h | h | h | h | h | h | h | h <;> rw [h] <;> assumption
  by_cases q : x.toInt < 0 ∨ 7 < x.toInt
  · exact q
  · exfalso
    refine key x.toInt.toNat (by omega) (Int32.toInt_inj.mp ?_)
    rw [nI_toInt (by omega)]
    omega
