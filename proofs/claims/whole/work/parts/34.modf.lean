theorem mo_dif_f {n np : Nat} {kd lf rt pl pr : Nat → Nat} {r w : Nat} {tr : Nat → Bool} (h : mo_tr kd lf rt r w tr n) (hp : ∀ q, q < np → pl q < n ∧ pr q < n) (hd : ∀ q, q < np → (tr (pl q) ^^ tr (pr q)) = false) : bm_dif n np kd lf rt pl pr r w = false := by
  cases e : bm_dif n np kd lf rt pl pr r w with
  | false => rfl
  | true =>
    obtain ⟨q, h1, h2⟩ := (bn_any_iff _ np).mp e
    have h3 := hd q h1
    rw [h _ (hp q h1).1, h _ (hp q h1).2] at h3
    have h2 : (bm_vals kd lf rt (fun t => r.testBit t) w n (pl q) ^^ bm_vals kd lf rt (fun t => r.testBit t) w n (pr q)) = true := h2
    rw [h3] at h2
    cases h2
theorem mo_dif_t {n np : Nat} {kd lf rt pl pr : Nat → Nat} {r w q : Nat} {tr : Nat → Bool} (h : mo_tr kd lf rt r w tr n) (hp : ∀ q, q < np → pl q < n ∧ pr q < n) (hq : q < np) (hd : (tr (pl q) ^^ tr (pr q)) = true) : bm_dif n np kd lf rt pl pr r w = true := by
  refine (bn_any_iff _ np).mpr ⟨q, hq, ?_⟩
  rw [h _ (hp q hq).1, h _ (hp q hq).2] at hd
  exact hd
