-- ===== searching, as the document has it =====
/-- so many different numbers below M are at most M -/
theorem bs_ph : ∀ (M c : Nat) (f : Nat → Nat), (∀ i, i < c → f i < M) → (∀ i j, i < c → j < c → f i = f j → i = j) → c ≤ M
  | 0, c, f, h, _ => by
    rcases Nat.eq_zero_or_pos c with q | q
    · omega
    · exact absurd (h 0 q) (Nat.not_lt_zero _)
  | M + 1, c, f, h, hi => by
    by_cases q : ∃ i, i < c ∧ f i = M
    · obtain ⟨i0, h0, e0⟩ := q
      have h1 : c - 1 ≤ M := by
        refine bs_ph M (c - 1) (fun j => if j = i0 then f (c - 1) else f j) (fun j hj => ?_) (fun a b ha hb e => ?_)
        · show (if j = i0 then f (c - 1) else f j) < M
          by_cases z : j = i0
          · rw [if_pos z]
            have h2 := h (c - 1) (by omega)
            have h3 : f (c - 1) ≠ M := fun e => by
              have := hi (c - 1) i0 (by omega) h0 (by rw [e, e0])
              omega
            omega
          · rw [if_neg z]
            have h2 := h j (by omega)
            have h3 : f j ≠ M := fun e => z (hi j i0 (by omega) h0 (by rw [e, e0]))
            omega
        · have e : (if a = i0 then f (c - 1) else f a) = (if b = i0 then f (c - 1) else f b) := e
          by_cases za : a = i0
          · by_cases zb : b = i0
            · omega
            · rw [if_pos za, if_neg zb] at e
              have := hi (c - 1) b (by omega) (by omega) e
              omega
          · by_cases zb : b = i0
            · rw [if_neg za, if_pos zb] at e
              have := hi a (c - 1) (by omega) (by omega) e
              omega
            · rw [if_neg za, if_neg zb] at e
              exact hi a b (by omega) (by omega) e
      omega
    · exact Nat.le_succ_of_le (bs_ph M c f (fun i hi2 => by
        have h2 := h i hi2
        have h3 : f i ≠ M := fun e => q ⟨i, hi2, e⟩
        omega) hi)
def bs_has (rows : Nat → Nat) (c r : Nat) : Bool := bn_any (fun j => rows j == r) c
theorem bs_has_iff (rows : Nat → Nat) (c r : Nat) : bs_has rows c r = true ↔ ∃ j, j < c ∧ rows j = r := by
  unfold bs_has
  rw [bn_any_iff]
  constructor
  · rintro ⟨i, h1, h2⟩
    exact ⟨i, h1, by simpa using h2⟩
  · rintro ⟨i, h1, h2⟩
    exact ⟨i, h1, by simpa using h2⟩
/-- rows so far: how many, which, and of what each came (its row's place times sixteen, and the word) -/
abbrev bs_T : Type := Nat × (Nat → Nat) × (Nat → Nat)
def bs_add (x : bs_T) (r o : Nat) : bs_T := if bs_has x.2.1 x.1 r then x else (x.1 + 1, va_up x.2.1 x.1 r, va_up x.2.2 x.1 o)
/-- what comes of the row r at a place, by the first words -/
def bs_ws (stp : Nat → Nat → Nat) (x : bs_T) (pl r : Nat) : Nat → bs_T
  | 0 => x
  | w + 1 => bs_add (bs_ws stp x pl r w) (stp r w) (pl * 16 + w)
/-- what comes of the first rows of a level -/
def bs_rs (stp : Nat → Nat → Nat) (nw : Nat) (x : bs_T) (fro : Nat) : Nat → bs_T
  | 0 => x
  | k + 1 => bs_ws stp (bs_rs stp nw x fro k) (fro + k) (x.2.1 (fro + k)) nw
/-- k levels are clear: the rows, and where each level begins -/
def bs_L (stp : Nat → Nat → Nat) (nw fr : Nat) : Nat → bs_T × (Nat → Nat)
  | 0 => ((1, fun _ => fr, fun _ => 0), fun k => if k = 0 then 0 else 1)
  | k + 1 => (bs_rs stp nw (bs_L stp nw fr k).1 ((bs_L stp nw fr k).2 k) ((bs_L stp nw fr k).2 (k + 1) - (bs_L stp nw fr k).2 k), va_up (bs_L stp nw fr k).2 (k + 2) (bs_rs stp nw (bs_L stp nw fr k).1 ((bs_L stp nw fr k).2 k) ((bs_L stp nw fr k).2 (k + 1) - (bs_L stp nw fr k).2 k)).1)
/-- good rows: all below M, no two alike -/
def bs_ok (M : Nat) (x : bs_T) : Prop := (∀ i, i < x.1 → x.2.1 i < M) ∧ ∀ i j, i < x.1 → j < x.1 → x.2.1 i = x.2.1 j → i = j
theorem bs_ok_le {M : Nat} {x : bs_T} (h : bs_ok M x) : x.1 ≤ M := bs_ph M x.1 x.2.1 h.1 h.2
/-- y goes on where x ends -/
def bs_ext (x y : bs_T) : Prop := x.1 ≤ y.1 ∧ ∀ i, i < x.1 → y.2.1 i = x.2.1 i ∧ y.2.2 i = x.2.2 i
theorem bs_ext_rf (x : bs_T) : bs_ext x x := ⟨Nat.le_refl _, fun _ _ => ⟨rfl, rfl⟩⟩
theorem bs_ext_tr {x y z : bs_T} (h1 : bs_ext x y) (h2 : bs_ext y z) : bs_ext x z := ⟨Nat.le_trans h1.1 h2.1, fun i hi => ⟨(h2.2 i (Nat.lt_of_lt_of_le hi h1.1)).1.trans (h1.2 i hi).1, (h2.2 i (Nat.lt_of_lt_of_le hi h1.1)).2.trans (h1.2 i hi).2⟩⟩
theorem bs_add_ext (x : bs_T) (r o : Nat) : bs_ext x (bs_add x r o) := by
  unfold bs_add
  by_cases h : bs_has x.2.1 x.1 r = true
  · rw [if_pos h]
    exact bs_ext_rf x
  · rw [if_neg h]
    exact ⟨Nat.le_succ _, fun i hi => ⟨va_up_ne _ _ (by omega), va_up_ne _ _ (by omega)⟩⟩
theorem bs_add_ok {M : Nat} {x : bs_T} {r : Nat} (o : Nat) (h : bs_ok M x) (hr : r < M) : bs_ok M (bs_add x r o) := by
  unfold bs_add
  by_cases q : bs_has x.2.1 x.1 r = true
  · rw [if_pos q]
    exact h
  · rw [if_neg q]
    have hno : ∀ i, i < x.1 → x.2.1 i ≠ r := fun i hi e => q ((bs_has_iff _ _ _).mpr ⟨i, hi, e⟩)
    refine ⟨fun i hi => ?_, fun i j hi hj e => ?_⟩
    · have hi : i < x.1 + 1 := hi
      show va_up x.2.1 x.1 r i < M
      by_cases z : i = x.1
      · rw [z, va_up_self]
        exact hr
      · rw [va_up_ne _ _ z]
        exact h.1 i (by omega)
    · have hi : i < x.1 + 1 := hi
      have hj : j < x.1 + 1 := hj
      have e : va_up x.2.1 x.1 r i = va_up x.2.1 x.1 r j := e
      by_cases zi : i = x.1
      · by_cases zj : j = x.1
        · omega
        · rw [zi, va_up_self, va_up_ne _ _ zj] at e
          exact absurd e.symm (hno j (by omega))
      · by_cases zj : j = x.1
        · rw [zj, va_up_self, va_up_ne _ _ zi] at e
          exact absurd e (hno i (by omega))
        · rw [va_up_ne _ _ zi, va_up_ne _ _ zj] at e
          exact h.2 i j (by omega) (by omega) e
theorem bs_ws_ext (stp : Nat → Nat → Nat) (x : bs_T) (pl r : Nat) : ∀ w, bs_ext x (bs_ws stp x pl r w)
  | 0 => bs_ext_rf x
  | w + 1 => bs_ext_tr (bs_ws_ext stp x pl r w) (bs_add_ext _ _ _)
theorem bs_ws_ok {M : Nat} {stp : Nat → Nat → Nat} {x : bs_T} (pl r : Nat) (h : bs_ok M x) (hs : ∀ w, stp r w < M) : ∀ w, bs_ok M (bs_ws stp x pl r w)
  | 0 => h
  | w + 1 => bs_add_ok _ (bs_ws_ok pl r h hs w) (hs w)
theorem bs_rs_ext (stp : Nat → Nat → Nat) (nw : Nat) (x : bs_T) (fro : Nat) : ∀ k, bs_ext x (bs_rs stp nw x fro k)
  | 0 => bs_ext_rf x
  | k + 1 => bs_ext_tr (bs_rs_ext stp nw x fro k) (bs_ws_ext _ _ _ _ _)
theorem bs_rs_ok {M : Nat} {stp : Nat → Nat → Nat} {nw : Nat} {x : bs_T} (fro : Nat) (h : bs_ok M x) (hs : ∀ r w, stp r w < M) : ∀ k, bs_ok M (bs_rs stp nw x fro k)
  | 0 => h
  | k + 1 => bs_ws_ok _ _ (bs_rs_ok fro h hs k) (fun w => hs _ w) _
theorem bs_L_1 (stp : Nat → Nat → Nat) (nw fr k : Nat) : (bs_L stp nw fr (k + 1)).1 = bs_rs stp nw (bs_L stp nw fr k).1 ((bs_L stp nw fr k).2 k) ((bs_L stp nw fr k).2 (k + 1) - (bs_L stp nw fr k).2 k) := rfl
theorem bs_L_2 (stp : Nat → Nat → Nat) (nw fr k : Nat) : (bs_L stp nw fr (k + 1)).2 = va_up (bs_L stp nw fr k).2 (k + 2) (bs_L stp nw fr (k + 1)).1.1 := rfl
/-- what holds of the rows behind k clear levels -/
theorem bs_L_ok {M : Nat} {stp : Nat → Nat → Nat} {nw fr : Nat} (hf : fr < M) (hs : ∀ r w, stp r w < M) : ∀ k, bs_ok M (bs_L stp nw fr k).1 ∧ (bs_L stp nw fr k).2 (k + 1) = (bs_L stp nw fr k).1.1 ∧ (bs_L stp nw fr k).2 0 = 0 ∧ (∀ i, i ≤ k → (bs_L stp nw fr k).2 i ≤ (bs_L stp nw fr k).2 (i + 1))
  | 0 => by
    refine ⟨⟨fun i _ => hf, fun i j hi hj _ => ?_⟩, rfl, rfl, fun i hi => ?_⟩
    · have hi : i < 1 := hi
      have hj : j < 1 := hj
      omega
    · rw [show i = 0 by omega]
      exact Nat.zero_le _
  | k + 1 => by
    obtain ⟨h1, h2, h3, h4⟩ := bs_L_ok (nw := nw) hf hs k
    have h5 := (bs_rs_ext stp nw (bs_L stp nw fr k).1 ((bs_L stp nw fr k).2 k) ((bs_L stp nw fr k).2 (k + 1) - (bs_L stp nw fr k).2 k)).1
    rw [← bs_L_1] at h5
    refine ⟨bs_rs_ok _ h1 hs _, ?_, ?_, fun i hi => ?_⟩
    · rw [bs_L_2, va_up_self]
    · rw [bs_L_2, va_up_ne _ _ (by omega)]
      exact h3
    · rw [bs_L_2, va_up_ne _ _ (show i ≠ k + 2 by omega)]
      by_cases z : i = k + 1
      · rw [z, va_up_self]
        exact Nat.le_trans (Nat.le_of_eq h2) h5
      · rw [va_up_ne _ _ (show i + 1 ≠ k + 2 by omega)]
        exact h4 i (by omega)
theorem bn_org {a w : Nat} (ha : a < 1048576) (hw : w < 16) : nI a <<< (nI 4 &&& 31) ||| nI w = nI (a * 16 + w) := by
  rw [pk_shlN _ 4 (s_l 4 (by decide)) (by omega), bn_or]
  have h1 := Nat.two_pow_add_eq_or_of_lt (i := 4) (b := w) (by omega) a
  rw [show a * 2 ^ 4 = 2 ^ 4 * a by omega, ← h1]
theorem bs_has_up (rows : Nat → Nat) (c r q : Nat) : bs_has (va_up rows c r) (c + 1) q = (bs_has rows c q || decide (q = r)) := by
  show (bn_any (fun j => va_up rows c r j == q) c || (va_up rows c r c == q)) = _
  rw [va_up_self, bn_any_ext (g := fun j => rows j == q) c (fun i hi => by rw [va_up_ne _ _ (by omega)])]
  congr 1
  rw [Bool.eq_iff_iff]
  simp only [beq_iff_eq, decide_eq_true_eq]
  exact ⟨fun h => h.symm, fun h => h.symm⟩
theorem bs_add_in (x : bs_T) (r o : Nat) (h : bs_has x.2.1 x.1 r = true) : bs_add x r o = x := if_pos h
theorem bs_add_new (x : bs_T) (r o : Nat) (h : bs_has x.2.1 x.1 r = false) : bs_add x r o = (x.1 + 1, va_up x.2.1 x.1 r, va_up x.2.2 x.1 o) := if_neg (by rw [h]; decide)
/-- a new row finds room -/
theorem bs_room {M : Nat} {x : bs_T} {r : Nat} (h : bs_ok M x) (hr : r < M) (hn : bs_has x.2.1 x.1 r = false) : x.1 < M := by
  have h1 := bs_ok_le (bs_add_ok 0 h hr)
  rw [bs_add_new x r 0 hn] at h1
  exact h1
/-- the rows, with what the set says of them -/
def bs_kn (M : Nat) (kn : Nat → Int32) (x : bs_T) : Prop := ∀ q, q < M → bn_in kn q = bs_has x.2.1 x.1 q
theorem bs_kn_up {M : Nat} {kn : Nat → Int32} {x : bs_T} (r o : Nat) (h : bs_kn M kn x) (hn : bs_has x.2.1 x.1 r = false) : bs_kn M (upd kn (r / 32) (kn (r / 32) ||| nI 1 <<< (nI (r % 32) &&& 31))) (bs_add x r o) := by
  intro q hq
  rw [bs_add_new x r o hn, bn_in_put, h q hq]
  exact (bs_has_up _ _ _ _).symm
/-- back along the rows that a row came of -/
def bs_pa (og : Nat → Nat) (a : Nat) : Nat → Nat
  | 0 => a
  | i + 1 => og (bs_pa og a i) / 16
theorem bs_pa_le {og : Nat → Nat} {c a : Nat} (h : ∀ j, j < c → og j / 16 ≤ j) (ha : a < c) : ∀ i, bs_pa og a i ≤ a
  | 0 => Nat.le_refl _
  | i + 1 => Nat.le_trans (h _ (Nat.lt_of_le_of_lt (bs_pa_le h ha i) ha)) (bs_pa_le h ha i)
/-- the program that ends at the place a of level cl with the word w, read back -/
def bs_pg (og : Nat → Nat) (a w cl k : Nat) : Nat := if k = cl then w else og (bs_pa og a (cl - 1 - k)) % 16
theorem bn_and15 (x : Nat) : nI x &&& nI 15 = nI (x % 16) := by
  rw [nx_and]
  exact congrArg nI (Nat.and_two_pow_sub_one_eq_mod x 4)
theorem bn_shr4 {x : Nat} (h : x < 2147483648) : nI x >>> (nI 4 &&& 31) = nI (x / 16) := pk_shrN (by omega) _ 4 (s_l 4 (by decide))
theorem bn_m1 (j : Nat) : nI (j + 1) - nI 1 = nI j := nI_pred j
theorem bn_neg : nI 0 - nI 1 < 0 := by decide +kernel
theorem bn_dec (j : Nat) : nI j + Int32.ofInt (-1) = nI j - nI 1 := by
  rw [Int32.sub_eq_add_neg]
  rfl
/-- the row that comes of r by the word w; whether the machines differ there -/
def bm_stp (n sc : Nat) (kd lf rt nx : Nat → Nat) (r w : Nat) : Nat := bn_row (fun s => bm_vals kd lf rt (fun t => r.testBit t) w n (nx s)) sc
def bm_dif (n np : Nat) (kd lf rt pl pr : Nat → Nat) (r w : Nat) : Bool := bn_any (fun q => bm_vals kd lf rt (fun t => r.testBit t) w n (pl q) ^^ bm_vals kd lf rt (fun t => r.testBit t) w n (pr q)) np
theorem bm_stp_lt (n sc : Nat) (kd lf rt nx : Nat → Nat) (r w : Nat) : bm_stp n sc kd lf rt nx r w < 2 ^ sc := bn_row_lt _ _
theorem bm_stp_ln {n sc : Nat} {kd lf rt nx : Nat → Nat} {r w : Nat} {ln : Nat → Int32} (h : bm_ln kd lf rt r ln n) (hnx : ∀ s, s < sc → nx s < n) (hw : w < 16) : bn_row (fun s => bt (ln (nx s)) w) sc = bm_stp n sc kd lf rt nx r w := bn_row_ext sc (fun s hs => h _ (hnx s hs) w hw)
theorem bm_dif_ln {n np : Nat} {kd lf rt pl pr : Nat → Nat} {r w : Nat} {ln : Nat → Int32} (h : bm_ln kd lf rt r ln n) (hp : ∀ q, q < np → pl q < n ∧ pr q < n) (hw : w < 16) : bn_any (fun q => bt (ln (pl q)) w ^^ bt (ln (pr q)) w) np = bm_dif n np kd lf rt pl pr r w := bn_any_ext np (fun q hq => by rw [h _ (hp q hq).1 w hw, h _ (hp q hq).2 w hw])
theorem bn_ne1 {w : Nat} (hw : w < 2147483648) : ¬ nI w = (-1) := by
  intro h
  have h1 := congrArg Int32.toInt h
  rw [nI_toInt (show w < 2 ^ 31 from hw)] at h1
  have h2 : (-1 : Int32).toInt = -1 := by decide +kernel
  rw [h2] at h1
  omega
