-- ===== the reference's search in the words of the document =====
/-- parents and words beside the origins -/
def mo_og (x : bs_T) (mq : Nat → Int32) (mb : Nat → Nat) : Prop := ∀ j, 0 < j → j < x.1 → mq j = nI (x.2.2 j / 16) ∧ mb j = x.2.2 j % 16
def mo_cm (cm : Nat → Bool) (x : bs_T) : Prop := ∀ q, q < 16384 → cm q = bs_has x.2.1 x.1 q
theorem mo_cm_up {cm : Nat → Bool} {x : bs_T} {r : Nat} (o : Nat) (h : mo_cm cm x) (hn : bs_has x.2.1 x.1 r = false) : mo_cm (va_up cm r true) (bs_add x r o) := by
  intro q hq
  rw [bs_add_new x r o hn]
  show _ = bs_has (va_up x.2.1 x.1 r) (x.1 + 1) q
  rw [bs_has_up]
  by_cases z : q = r
  · rw [z, va_up_self, decide_eq_true rfl, Bool.or_true]
  · rw [va_up_ne _ _ z, h q hq, decide_eq_false z, Bool.or_false]
theorem mo_og_up {x : bs_T} {mq : Nat → Int32} {mb : Nat → Nat} {r k w : Nat} (hw : w < 16) (h : mo_og x mq mb) (hn : bs_has x.2.1 x.1 r = false) : mo_og (bs_add x r (k * 16 + w)) (upd mq x.1 (nI k)) (va_up mb x.1 w) := by
  intro j h0 hj
  rw [bs_add_new x r _ hn] at hj ⊢
  have hj : j < x.1 + 1 := hj
  show upd mq x.1 (nI k) j = nI (va_up x.2.2 x.1 (k * 16 + w) j / 16) ∧ va_up mb x.1 w j = va_up x.2.2 x.1 (k * 16 + w) j % 16
  by_cases z : j = x.1
  · rw [z, pk_us, va_up_self, va_up_self]
    exact ⟨congrArg nI (by omega), by omega⟩
  · rw [pk_un z, va_up_ne _ _ z, va_up_ne _ _ z]
    exact h j h0 (by omega)
theorem mo_stp_tr {n sc : Nat} {kd lf rt nx : Nat → Nat} {r w : Nat} {tr : Nat → Bool} (h : mo_tr kd lf rt r w tr n) (hnx : ∀ s, s < sc → nx s < n) : bn_row (fun s => tr (nx s)) sc = bm_stp n sc kd lf rt nx r w := bn_row_ext sc (fun s hs => h _ (hnx s hs))
theorem mo_bits (w : Nat) (k : Nat) (hk : k < 4) : bt (nI w) k = w.testBit k := bn_bt w (by omega)
