/-! ===== numbers as sets ===== -/
theorem nI_bv (n : Nat) : (nI n).toBitVec = BitVec.ofNat 32 n := rfl
theorem i32_ext {a b : Int32} (h : a.toBitVec = b.toBitVec) : a = b := Int32.toBitVec_inj.mp h
theorem nIor (a b : Nat) : nI a ||| nI b = nI (a ||| b) := by
  apply i32_ext
  rw [Int32.toBitVec_or, nI_bv, nI_bv, nI_bv, BitVec.ofNat_or]
theorem nIand (a b : Nat) : nI a &&& nI b = nI (a &&& b) := by
  apply i32_ext
  rw [Int32.toBitVec_and, nI_bv, nI_bv, nI_bv, BitVec.ofNat_and]
theorem nIxor (a b : Nat) : nI a ^^^ nI b = nI (a ^^^ b) := by
  apply i32_ext
  rw [Int32.toBitVec_xor, nI_bv, nI_bv, nI_bv, BitVec.ofNat_xor]
theorem and31 {k : Nat} (h : k < 32) : nI k &&& 31 = nI k := by
  rw [pk_andN (by omega) 5 (by decide)]
  rw [Nat.mod_eq_of_lt (by omega)]
theorem smod32 {k : Nat} (h : k < 32) : ((nI k).toBitVec.smod 32).toNat = k := by
  have : ∀ k, k < 32 → ((nI k).toBitVec.smod 32).toNat = k := by decide +kernel
  exact this k h
theorem shl1 {c : Nat} (h : c < 31) : (1 : Int32) <<< (nI c &&& 31) = nI (2 ^ c) := by
  rw [and31 (by omega), show (1 : Int32) = nI 1 from rfl, pk_shlN (nI c) c (smod32 (by omega)), Nat.one_mul]
  rw [Nat.one_mul]
  exact Nat.pow_lt_pow_right (by omega) (by omega)
theorem shlN {a c : Nat} (h : c < 31) (ha : a * 2 ^ c < 2 ^ 32) : nI a <<< (nI c &&& 31) = nI (a * 2 ^ c) := by
  rw [and31 (by omega), pk_shlN (nI c) c (smod32 (by omega)) ha]
theorem shrN {s k : Nat} (hs : s < 2 ^ 31) (hk : k < 32) : nI s >>> (nI k &&& 31) = nI (s / 2 ^ k) := by
  rw [and31 hk, pk_shrN hs (nI k) k (smod32 hk)]
theorem hasN {s k : Nat} (hs : s < 2 ^ 31) (hk : k < 32) : ((nI s >>> (nI k &&& 31)) &&& 1 = 1) ↔ s.testBit k = true := by
  rw [shrN hs hk, pk_andN (show s / 2 ^ k < 2 ^ 32 from Nat.lt_of_le_of_lt (Nat.div_le_self _ _) (by omega)) 1 (by decide), show (1 : Int32) = nI 1 from rfl, nI_eq (by omega) (by omega), Nat.testBit_eq_decide_div_mod_eq]
  simp
/-- the bits of a that b hasn't -/
def dif (a b : Nat) : Nat := a ^^^ (a &&& b)
theorem dif_bit (a b i : Nat) : (dif a b).testBit i = (a.testBit i && !b.testBit i) := by
  unfold dif
  rw [Nat.testBit_xor, Nat.testBit_and]
  cases a.testBit i <;> cases b.testBit i <;> rfl
theorem dif_le (a b : Nat) {n : Nat} (h : a < 2 ^ n) : dif a b < 2 ^ n := by
  apply Nat.lt_pow_two_of_testBit
  intro i hi
  rw [dif_bit, Nat.testBit_lt_two_pow (Nat.lt_of_lt_of_le h (Nat.pow_le_pow_right (by omega) hi))]
  rfl
theorem andnot (a b : Nat) : nI a &&& (nI b ^^^ (-1)) = nI (dif a b) := by
  apply i32_ext
  rw [Int32.toBitVec_and, Int32.toBitVec_xor, nI_bv, nI_bv, nI_bv, show (-1 : Int32).toBitVec = BitVec.allOnes 32 from rfl]
  apply BitVec.eq_of_getLsbD_eq
  intro i hi
  rw [BitVec.getLsbD_and, BitVec.getLsbD_xor, BitVec.getLsbD_ofNat, BitVec.getLsbD_ofNat, BitVec.getLsbD_ofNat, BitVec.getLsbD_allOnes, dif_bit]
  simp only [hi, decide_true, Bool.true_and]
  cases a.testBit i <;> cases b.testBit i <;> rfl
/-- the set of those c below n for which p holds -/
def bset (n : Nat) (p : Nat → Bool) : Nat := match n with
  | 0 => 0
  | n + 1 => bset n p ||| (if p n then 2 ^ n else 0)
theorem bset_lt (p : Nat → Bool) : ∀ n, bset n p < 2 ^ n := by
  intro n
  induction n with
  | zero => simp [bset]
  | succ n ih =>
    unfold bset
    apply Nat.or_lt_two_pow
    · exact Nat.lt_of_lt_of_le ih (Nat.pow_le_pow_right (by omega) (by omega))
    · split
      · exact Nat.pow_lt_pow_right (by omega) (by omega)
      · exact Nat.two_pow_pos _
theorem bset_bit (p : Nat → Bool) : ∀ n i, (bset n p).testBit i = (decide (i < n) && p i) := by
  intro n
  induction n with
  | zero => intro i; simp [bset]
  | succ n ih =>
    intro i
    unfold bset
    rw [Nat.testBit_or, ih]
    by_cases h : i = n
    · subst h
      cases hp : p i <;> simp
    · have : (if p n = true then 2 ^ n else 0).testBit i = false := by
        split
        · rw [Nat.testBit_two_pow]; simp; omega
        · simp
      rw [this, Bool.or_false]
      congr 1
      simp only [decide_eq_decide]
      omega
theorem bset_ext {p q : Nat → Bool} : ∀ {n : Nat}, (∀ i, i < n → p i = q i) → bset n p = bset n q := by
  intro n h
  apply Nat.eq_of_testBit_eq
  intro i
  rw [bset_bit, bset_bit]
  by_cases hi : i < n
  · rw [h i hi]
  · simp [hi]
theorem bset_self {s n : Nat} (h : s < 2 ^ n) : bset n (fun i => s.testBit i) = s := by
  apply Nat.eq_of_testBit_eq
  intro i
  rw [bset_bit]
  by_cases hi : i < n
  · simp [hi]
  · rw [Nat.testBit_lt_two_pow (Nat.lt_of_lt_of_le h (Nat.pow_le_pow_right (by omega) (by omega)))]
    simp [hi]
theorem bset_step (p : Nat → Bool) {n : Nat} (hn : n < 31) : nI (bset n p) ||| (if p n = true then nI (2 ^ n) else 0) = nI (bset (n + 1) p) := by
  show _ = nI (bset n p ||| _)
  split
  · rw [nIor]
  · rw [show (0 : Int32) = nI 0 from rfl, nIor]
theorem testBit_big {s n i : Nat} (h : s < 2 ^ n) (hi : n ≤ i) : s.testBit i = false := Nat.testBit_lt_two_pow (Nat.lt_of_lt_of_le h (Nat.pow_le_pow_right (by omega) hi))
theorem eq_of_bits {a b n : Nat} (ha : a < 2 ^ n) (hb : b < 2 ^ n) (h : ∀ i, i < n → a.testBit i = b.testBit i) : a = b := by
  apply Nat.eq_of_testBit_eq
  intro i
  by_cases hi : i < n
  · exact h i hi
  · rw [testBit_big ha (by omega), testBit_big hb (by omega)]
/-- how many bits -/
def pcf (n S : Nat) : Nat := match n with
  | 0 => 0
  | n + 1 => S % 2 + pcf n (S / 2)
def pcn (S : Nat) : Nat := pcf 14 S
set_option maxRecDepth 100000 in
theorem pcn_tab : (List.range 16384).all (fun S => Nat.beq S 0 || Nat.beq (pcn (S &&& (S - 1)) + 1) (pcn S)) = true := by decide +kernel
theorem pcn_step {S : Nat} (h : S < 16384) (h0 : S ≠ 0) : pcn (S &&& (S - 1)) + 1 = pcn S := by
  have := List.all_eq_true.mp pcn_tab S (List.mem_range.mpr h)
  simp only [Bool.or_eq_true, Nat.beq_eq] at this
  omega
theorem pcn_0 : pcn 0 = 0 := rfl
theorem and_le {a b : Nat} : a &&& b ≤ a := Nat.and_le_left
