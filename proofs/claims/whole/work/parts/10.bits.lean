-- the rows bt .. b_sshr, nx_and, nx_xor began as kit/laws/BITS.to-paste.lean.txt
def bt (x : Int32) (i : Nat) : Bool := x.toBitVec.getLsbD i
theorem b_ext {x y : Int32} (h : ∀ i, i < 32 → bt x i = bt y i) : x = y := Int32.toBitVec_inj.mp (BitVec.eq_of_getLsbD_eq (fun i hi => h i hi))
theorem b_or (x y : Int32) (i : Nat) : bt (x ||| y) i = (bt x i || bt y i) := by unfold bt; rw [Int32.toBitVec_or, BitVec.getLsbD_or]
theorem b_and (x y : Int32) (i : Nat) : bt (x &&& y) i = (bt x i && bt y i) := by unfold bt; rw [Int32.toBitVec_and, BitVec.getLsbD_and]
theorem b_xor (x y : Int32) (i : Nat) : bt (x ^^^ y) i = (bt x i ^^ bt y i) := by unfold bt; rw [Int32.toBitVec_xor, BitVec.getLsbD_xor]
theorem b_big {x : Int32} {i : Nat} (h : 32 ≤ i) : bt x i = false := BitVec.getLsbD_of_ge _ _ h
theorem b_255 (i : Nat) : bt 255 i = decide (i < 8) := by
  rcases Nat.lt_or_ge i 32 with h | h
  · exact (by decide +kernel : ∀ i, i < 32 → bt 255 i = decide (i < 8)) i h
  · rw [b_big h, decide_eq_false (by omega)]
theorem b_65535 (i : Nat) : bt 65535 i = decide (i < 16) := by
  rcases Nat.lt_or_ge i 32 with h | h
  · exact (by decide +kernel : ∀ i, i < 32 → bt 65535 i = decide (i < 16)) i h
  · rw [b_big h, decide_eq_false (by omega)]
theorem b_m1 : ∀ i, i < 32 → bt (-1) i = true := by decide +kernel
theorem b_0 (i : Nat) : bt 0 i = false := BitVec.getLsbD_zero
theorem s_l : ∀ n, n < 32 → ((nI n &&& 31).toBitVec.smod 32).toNat = n := by decide +kernel
theorem s_u : ∀ n, n < 32 → (((nI n).toUInt32 &&& Int32.toUInt32 31).toBitVec % 32).toNat = n := by decide +kernel
theorem b_shl (n : Nat) (hn : n < 32) (x : Int32) {i : Nat} (hi : i < 32) : bt (x <<< (nI n &&& 31)) i = (decide (n ≤ i) && bt x (i - n)) := by
  unfold bt
  rw [Int32.toBitVec_shiftLeft]
  show (x.toBitVec <<< ((nI n &&& 31).toBitVec.smod 32).toNat).getLsbD i = _
  rw [s_l n hn, BitVec.getLsbD_shiftLeft]
  rcases Nat.lt_or_ge i n with h | h
  · simp [h, Nat.not_le.mpr h]
  · simp [hi, h, Nat.not_lt.mpr h]
theorem b_ushr (n : Nat) (hn : n < 32) (x : Int32) (i : Nat) : bt ((x.toUInt32 >>> ((nI n).toUInt32 &&& Int32.toUInt32 31)).toInt32) i = bt x (n + i) := by
  show (x.toUInt32 >>> ((nI n).toUInt32 &&& Int32.toUInt32 31)).toBitVec.getLsbD i = x.toUInt32.toBitVec.getLsbD (n + i)
  rw [UInt32.toBitVec_shiftRight]
  show (x.toUInt32.toBitVec >>> (((nI n).toUInt32 &&& Int32.toUInt32 31).toBitVec % 32).toNat).getLsbD i = _
  rw [s_u n hn, BitVec.getLsbD_ushiftRight]
theorem b_sshr (n : Nat) (hn : n < 32) (x : Int32) {i : Nat} (hi : i < 32) : bt (x >>> (nI n &&& 31)) i = if n + i < 32 then bt x (n + i) else bt x 31 := by
  unfold bt
  rw [Int32.toBitVec_shiftRight]
  show (x.toBitVec.sshiftRight ((nI n &&& 31).toBitVec.smod 32).toNat).getLsbD i = _
  rw [s_l n hn, BitVec.getLsbD_sshiftRight, BitVec.msb_eq_getLsbD_last]
  simp [hi]
theorem nx_and (a b : Nat) : nI a &&& nI b = nI (a &&& b) := by
  apply Int32.toBitVec_inj.1
  show BitVec.ofNat 32 a &&& BitVec.ofNat 32 b = BitVec.ofNat 32 (a &&& b)
  apply BitVec.eq_of_getLsbD_eq
  intro i hi
  simp [hi]
theorem nx_xor (a b : Nat) : nI a ^^^ nI b = nI (a ^^^ b) := by
  apply Int32.toBitVec_inj.1
  show BitVec.ofNat 32 a ^^^ BitVec.ofNat 32 b = BitVec.ofNat 32 (a ^^^ b)
  apply BitVec.eq_of_getLsbD_eq
  intro i hi
  simp [hi]

-- ===== our own rows on bits =====
theorem bn_bt (a : Nat) {i : Nat} (hi : i < 32) : bt (nI a) i = a.testBit i := by
  show (BitVec.ofNat 32 a).getLsbD i = _
  rw [BitVec.getLsbD_ofNat]
  simp [hi]
theorem bn_or (a b : Nat) : nI a ||| nI b = nI (a ||| b) := by
  apply b_ext
  intro i hi
  rw [b_or, bn_bt a hi, bn_bt b hi, bn_bt _ hi, Nat.testBit_or]
theorem bn_bit (x : Int32) (w : Nat) (hw : w < 32) : (x >>> (nI w &&& 31)) &&& nI 1 = nI (if bt x w then 1 else 0) := by
  apply b_ext
  intro i hi
  rw [b_and, b_sshr w hw x hi, bn_bt 1 hi, bn_bt _ hi]
  rcases Nat.eq_zero_or_pos i with h | h
  · subst h
    rw [if_pos (by omega)]
    cases h9 : bt x w <;> simp [h9]
  · have h2 : 1 < 2 ^ i := Nat.one_lt_two_pow (by omega)
    rw [Nat.testBit_lt_two_pow (x := 1) h2, Bool.and_false]
    symm
    apply Nat.testBit_lt_two_pow
    split <;> omega
theorem bn_bitN (r k : Nat) (hk : k < 32) : (nI r >>> (nI k &&& 31)) &&& nI 1 = nI (if r.testBit k then 1 else 0) := by
  rw [bn_bit (nI r) k hk, bn_bt r hk]
theorem bn_addor {r k : Nat} (h : r < 2 ^ k) : r ||| 2 ^ k = r + 2 ^ k := by
  have h1 := Nat.two_pow_add_eq_or_of_lt h 1
  rw [Nat.mul_one] at h1
  rw [Nat.add_comm, h1, Nat.or_comm]
theorem bn_put (r s : Nat) (b : Bool) (hs : s < 31) (hr : r < 2 ^ s) : nI r ||| (nI (if b then 1 else 0) <<< (nI s &&& 31)) = nI (r + (if b then 2 ^ s else 0)) := by
  have hp : 2 ^ s < 2 ^ 32 := Nat.pow_lt_pow_right (by decide) (by omega)
  cases b with
  | false =>
    rw [if_neg (by decide), if_neg (by decide), pk_shlN _ s (s_l s (by omega)) (by rw [Nat.zero_mul]; decide), bn_or, Nat.zero_mul, Nat.or_zero, Nat.add_zero]
  | true =>
    rw [if_pos rfl, if_pos rfl, pk_shlN _ s (s_l s (by omega)) (by rw [Nat.one_mul]; exact hp), bn_or, Nat.one_mul, bn_addor hr]
/-- a row of bits as a number -/
def bn_row (f : Nat → Bool) : Nat → Nat
  | 0 => 0
  | k + 1 => bn_row f k + (if f k then 2 ^ k else 0)
theorem bn_row_lt (f : Nat → Bool) : ∀ n, bn_row f n < 2 ^ n
  | 0 => by simp [bn_row]
  | n + 1 => by
    have h := bn_row_lt f n
    have h2 : 2 ^ (n + 1) = 2 ^ n + 2 ^ n := by rw [Nat.pow_succ]; omega
    show bn_row f n + (if f n then 2 ^ n else 0) < 2 ^ (n + 1)
    split <;> omega
theorem bn_row_bit (f : Nat → Bool) (i : Nat) : ∀ n, (bn_row f n).testBit i = (decide (i < n) && f i)
  | 0 => by simp [bn_row]
  | n + 1 => by
    have h := bn_row_bit f i n
    have hl := bn_row_lt f n
    show (bn_row f n + (if f n then 2 ^ n else 0)).testBit i = _
    by_cases hf : f n = true
    · rw [if_pos hf, ← bn_addor hl, Nat.testBit_or, h, Nat.testBit_two_pow]
      by_cases hi : i = n
      · subst hi
        simp [hf]
      · have e1 : decide (n = i) = false := decide_eq_false (fun q => hi q.symm)
        have e2 : decide (i < n + 1) = decide (i < n) := by
          by_cases q : i < n
          · rw [decide_eq_true q, decide_eq_true (by omega)]
          · rw [decide_eq_false q, decide_eq_false (by omega)]
        rw [e1, e2, Bool.or_false]
    · rw [if_neg hf, Nat.add_zero, h]
      by_cases hi : i = n
      · subst hi
        have hf2 : f i = false := by simpa using hf
        simp [hf2]
      · have e2 : decide (i < n + 1) = decide (i < n) := by
          by_cases q : i < n
          · rw [decide_eq_true q, decide_eq_true (by omega)]
          · rw [decide_eq_false q, decide_eq_false (by omega)]
        rw [e2]
theorem bn_row_ext {f g : Nat → Bool} : ∀ n, (∀ i, i < n → f i = g i) → bn_row f n = bn_row g n
  | 0, _ => rfl
  | n + 1, h => by
    show bn_row f n + (if f n then 2 ^ n else 0) = bn_row g n + (if g n then 2 ^ n else 0)
    rw [bn_row_ext n (fun i hi => h i (by omega)), h n (by omega)]
theorem bn_row_of {r n : Nat} (h : r < 2 ^ n) : bn_row (fun i => r.testBit i) n = r := by
  apply Nat.eq_of_testBit_eq
  intro i
  rw [bn_row_bit]
  by_cases hi : i < n
  · simp [hi]
  · rw [Nat.testBit_lt_two_pow (Nat.lt_of_lt_of_le h (Nat.pow_le_pow_right (by decide) (by omega)))]
    simp [hi]
theorem bn_sh1 (j : Nat) (hj : j < 32) {i : Nat} (hi : i < 32) : bt (nI 1 <<< (nI j &&& 31)) i = decide (i = j) := by
  rw [b_shl j hj _ hi, bn_bt 1 (by omega)]
  by_cases h : i = j
  · subst h
    simp
  · by_cases h2 : j ≤ i
    · have h3 : 1 < 2 ^ (i - j) := Nat.one_lt_two_pow (by omega)
      rw [Nat.testBit_lt_two_pow h3]
      simp [h]
    · simp [h, h2]
theorem bn_tst (x : Int32) (j : Nat) (hj : j < 32) : x &&& (nI 1 <<< (nI j &&& 31)) = 0 ↔ bt x j = false := by
  constructor
  · intro h
    have h1 := congrArg (fun z => bt z j) h
    simp only [b_and, b_0, bn_sh1 j hj hj] at h1
    simpa using h1
  · intro h
    apply b_ext
    intro i hi
    rw [b_and, b_0, bn_sh1 j hj hi]
    by_cases q : i = j
    · subst q
      simp [h]
    · simp [q]
theorem bn_set (x : Int32) (j : Nat) (hj : j < 32) {i : Nat} (hi : i < 32) : bt (x ||| (nI 1 <<< (nI j &&& 31))) i = (bt x i || decide (i = j)) := by
  rw [b_or, bn_sh1 j hj hi]
/-- a set of numbers, as bits of an array of ints -/
def bn_in (kn : Nat → Int32) (r : Nat) : Bool := bt (kn (r / 32)) (r % 32)
theorem bn_in_put (kn : Nat → Int32) (r q : Nat) : bn_in (upd kn (r / 32) (kn (r / 32) ||| (nI 1 <<< (nI (r % 32) &&& 31)))) q = (bn_in kn q || decide (q = r)) := by
  unfold bn_in
  by_cases h : q / 32 = r / 32
  · rw [h, pk_us, bn_set _ (r % 32) (by omega) (by omega)]
    congr 1
    apply decide_eq_decide.mpr
    omega
  · rw [pk_un h]
    have : ¬ q = r := fun e => h (by rw [e])
    simp [this]
theorem bn_mask (r : Nat) : nI r &&& nI 31 = nI (r % 32) := by
  rw [nx_and]
  exact congrArg nI (Nat.and_two_pow_sub_one_eq_mod r 5)
theorem bn_shr5 {r : Nat} (h : r < 2147483648) : nI r >>> (nI 5 &&& 31) = nI (r / 32) := pk_shrN (by omega) _ 5 (s_l 5 (by decide))
theorem bn_1shl {k : Nat} (h : k < 32) : nI 1 <<< (nI k &&& 31) = nI (2 ^ k) := by
  rw [pk_shlN (n := 1) _ k (s_l k h) (by rw [Nat.one_mul]; exact Nat.pow_lt_pow_right (by decide) h), Nat.one_mul]
/-- whether some of the first k -/
def bn_any (f : Nat → Bool) : Nat → Bool
  | 0 => false
  | k + 1 => bn_any f k || f k
theorem bn_any_iff (f : Nat → Bool) : ∀ n, bn_any f n = true ↔ ∃ i, i < n ∧ f i = true
  | 0 => ⟨(fun h => by cases h), (fun ⟨i, h, _⟩ => absurd h (Nat.not_lt_zero i))⟩
  | n + 1 => by
    show (bn_any f n || f n) = true ↔ _
    rw [Bool.or_eq_true, bn_any_iff f n]
    constructor
    · rintro (⟨i, h1, h2⟩ | h)
      · exact ⟨i, by omega, h2⟩
      · exact ⟨n, by omega, h⟩
    · rintro ⟨i, h1, h2⟩
      by_cases q : i = n
      · subst q
        exact Or.inr h2
      · exact Or.inl ⟨i, by omega, h2⟩
theorem bn_any_ext {f g : Nat → Bool} : ∀ n, (∀ i, i < n → f i = g i) → bn_any f n = bn_any g n
  | 0, _ => rfl
  | n + 1, h => by
    show (bn_any f n || f n) = (bn_any g n || g n)
    rw [bn_any_ext n (fun i hi => h i (by omega)), h n (by omega)]
theorem bn_upN (f : Nat → Nat) (k v : Nat) : upd (fun j => nI (f j)) k (nI v) = fun j => nI (va_up f k v j) := by
  funext j
  by_cases h : j = k
  · subst h
    rw [pk_us, va_up_self]
  · rw [pk_un h, va_up_ne _ _ h]
