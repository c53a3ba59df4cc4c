/-! ===== the class: a lamp added ===== -/
theorem sm_60 : ∀ b, b < 60 → ((nI b).toInt64 &&& 63).toBitVec.smod 64 = BitVec.ofNat 64 b := by decide +kernel
theorem and1 (x : BitVec 64) : x &&& 1#64 = if x.getLsbD 0 = true then 1#64 else 0#64 := by
  apply BitVec.eq_of_getLsbD_eq
  intro i hi
  rw [BitVec.getLsbD_and]
  cases i with
  | zero => cases h : x.getLsbD 0 <;> simp
  | succ i =>
    have h1 : (1#64).getLsbD (i + 1) = false := by
      rw [BitVec.getLsbD_ofNat, Bool.and_eq_false_iff]
      exact Or.inr (by rw [Nat.testBit_succ]; exact Nat.zero_testBit _)
    rw [h1, Bool.and_false]
    split
    · exact h1.symm
    · exact BitVec.getLsbD_zero.symm
theorem shr_bv {x : Int64} {b : Nat} (hb : b < 60) : (x >>> ((nI b).toInt64 &&& 63)).toBitVec = x.toBitVec.sshiftRight b := by
  rw [Int64.toBitVec_shiftRight, sm_60 b hb]
  show x.toBitVec.sshiftRight (BitVec.ofNat 64 b).toNat = _
  rw [BitVec.toNat_ofNat, Nat.mod_eq_of_lt (by omega)]
theorem tb_bit {x : Int64} {b : Nat} (hb : b < 60) : ((x >>> ((nI b).toInt64 &&& 63)) &&& 1 = 1 ↔ x.toBitVec.getLsbD b = true) ∧ ((x >>> ((nI b).toInt64 &&& 63)) &&& 1 = 0 ↔ x.toBitVec.getLsbD b = false) := by
  have e : ((x >>> ((nI b).toInt64 &&& 63)) &&& 1).toBitVec = if x.toBitVec.getLsbD b = true then 1#64 else 0#64 := by
    rw [Int64.toBitVec_and, shr_bv hb, show (1 : Int64).toBitVec = 1#64 from rfl, and1, BitVec.getLsbD_sshiftRight]
    simp [show b < 64 by omega]
  have i1 : ((x >>> ((nI b).toInt64 &&& 63)) &&& 1 = 1) ↔ ((x >>> ((nI b).toInt64 &&& 63)) &&& 1).toBitVec = 1#64 := ⟨fun z => by rw [z]; rfl, fun z => Int64.toBitVec_inj.mp z⟩
  have i0 : ((x >>> ((nI b).toInt64 &&& 63)) &&& 1 = 0) ↔ ((x >>> ((nI b).toInt64 &&& 63)) &&& 1).toBitVec = 0#64 := ⟨fun z => by rw [z]; rfl, fun z => Int64.toBitVec_inj.mp z⟩
  rw [i1, i0, e]
  cases x.toBitVec.getLsbD b <;> simp
theorem or_bit {x : Int64} {a b : Nat} (ha : a < 60) (hb : b < 60) : (x ||| (1 : Int64) <<< ((nI a).toInt64 &&& 63)).toBitVec.getLsbD b = (x.toBitVec.getLsbD b || decide (b = a)) := by
  rw [Int64.toBitVec_or, BitVec.getLsbD_or, Int64.toBitVec_shiftLeft, sm_60 a ha]
  congr 1
  show (1#64 <<< (BitVec.ofNat 64 a).toNat).getLsbD b = _
  rw [BitVec.toNat_ofNat, Nat.mod_eq_of_lt (by omega), BitVec.getLsbD_shiftLeft, BitVec.getLsbD_ofNat]
  by_cases h : b = a
  · subst h; simp [show b < 64 by omega]
  · rw [decide_eq_false h]
    by_cases hlt : b < a
    · simp [hlt]
    · obtain ⟨k, hk⟩ : ∃ k, b - a = k + 1 := ⟨b - a - 1, by omega⟩
      rw [hk, show Nat.testBit 1 (k + 1) = false from by rw [Nat.testBit_succ]; exact Nat.zero_testBit _]
      simp
/-- one lamp more, behind the others -/
theorem lamp_sn (K : Nat → Int32) (m v : Int32) : ∀ n k, hsL K m v (n + 1) k = (hsL K m v n k || decide (K (120 + 3 * (k + n)) = m ∧ K (120 + 3 * (k + n) + 1) = v)) ∧ lby K m v (n + 1) k = if hsL K m v n k = true then lby K m v n k else if K (120 + 3 * (k + n)) = m ∧ K (120 + 3 * (k + n) + 1) = v then K (120 + 3 * (k + n) + 2) else v := by
  intro n
  induction n with
  | zero => intro k; simp [hsL, lby]
  | succ n ih =>
    intro k
    obtain ⟨i1, i2⟩ := ih (k + 1)
    rw [show k + 1 + n = k + (n + 1) by omega] at i1 i2
    refine ⟨?_, ?_⟩
    · rw [hsL, i1, hsL, Bool.or_assoc]
    · rw [lby, i2, hsL, lby]
      by_cases h : K (120 + 3 * k) = m ∧ K (120 + 3 * k + 1) = v
      · rw [if_pos h, decide_eq_true h, Bool.true_or, if_pos rfl, if_pos h]
      · rw [if_neg h, decide_eq_false h, Bool.false_or, if_neg h]
theorem hs_cg {K K' : Nat → Int32} (m v : Int32) : ∀ n k, (∀ i, 120 ≤ i → i < 120 + 3 * (k + n) → K' i = K i) → hsL K' m v n k = hsL K m v n k ∧ lby K' m v n k = lby K m v n k
  | 0, _, _ => ⟨rfl, rfl⟩
  | n + 1, k, e => by
    obtain ⟨i1, i2⟩ := hs_cg m v n (k + 1) (fun i a c => e i a (by omega))
    simp only [hsL, lby]
    rw [e (120 + 3 * k) (by omega) (by omega), e (120 + 3 * k + 1) (by omega) (by omega), e (120 + 3 * k + 2) (by omega) (by omega), i1, i2]
    exact ⟨rfl, rfl⟩
