/-! ===== the class: Asker, what is known, four bits each ===== -/
def nib (x : Int64) (k : Nat) : Nat := bset 4 (fun i => x.toBitVec.getLsbD (4 * k + i))
theorem nib_lt (x : Int64) (k : Nat) : nib x k < 16 := bset_lt _ 4
theorem b15 : ∀ i, i < 32 → (15 : Int32).toBitVec.getLsbD i = decide (i < 4) := by decide
theorem nib_read {x : Int64} {k : Nat} (hk : k < 16) : (x >>> ((nI (4 * k)).toInt64 &&& 63)).toInt32 &&& 15 = nI (nib x k) := by
  apply i32_ext
  rw [Int32.toBitVec_and, Int64.toBitVec_toInt32, Int64.toBitVec_shiftRight, BitVec.sshiftRight_eq', sm64 (show 4 * k < 64 by omega), nI_bv]
  apply BitVec.eq_of_getLsbD_eq
  intro i hi
  rw [BitVec.getLsbD_and, b15 i hi, BitVec.getLsbD_ofNat, decide_eq_true hi, Bool.true_and, nib, bset_bit, BitVec.getLsbD_signExtend, decide_eq_true hi, Bool.true_and, if_pos (show i < 64 by omega), BitVec.getLsbD_sshiftRight, decide_eq_false (show ¬ 64 ≤ i by omega)]
  by_cases h4 : i < 4
  · rw [decide_eq_true h4, if_pos (show 4 * k + i < 64 by omega)]; simp
  · rw [decide_eq_false h4, Bool.and_false, Bool.false_and]
theorem nib_put {x : Int64} {b k j : Nat} (hb : b < 16) (hk : k < 16) (hj : j < 16) : nib (x ||| ((nI b).toInt64 <<< ((nI (4 * k)).toInt64 &&& 63))) j = if j = k then nib x k ||| b else nib x j := by
  rw [nI_l (show b < 2 ^ 31 by omega), lshlN (show 4 * k < 64 by omega)]
  apply Nat.eq_of_testBit_eq
  intro i
  rw [nib, bset_bit]
  by_cases h4 : i < 4
  · rw [decide_eq_true h4, Bool.true_and, Int64.toBitVec_or, BitVec.getLsbD_or, lN_bv, BitVec.getLsbD_ofNat, decide_eq_true (show 4 * j + i < 64 by omega), Bool.true_and, tb_mul]
    by_cases e : j = k
    · subst e
      rw [if_pos rfl, Nat.testBit_or, nib, bset_bit, decide_eq_true h4, Bool.true_and, decide_eq_true (show 4 * j ≤ 4 * j + i by omega), Bool.true_and, Nat.add_sub_cancel_left]
    · rw [if_neg e, nib, bset_bit, decide_eq_true h4, Bool.true_and]
      by_cases h : 4 * k ≤ 4 * j + i
      · rw [testBit_big (n := 4) (i := 4 * j + i - 4 * k) hb (by omega), Bool.and_false, Bool.or_false]
      · rw [decide_eq_false h, Bool.false_and, Bool.or_false]
  · rw [decide_eq_false h4, Bool.false_and]
    split
    · rw [Nat.testBit_or, testBit_big (n := 4) (nib_lt x k) (by omega), testBit_big (n := 4) hb (by omega)]; rfl
    · rw [testBit_big (n := 4) (nib_lt x j) (by omega)]
set_option maxRecDepth 100000 in
theorem d16_tab : (List.range 16384).all (fun S => decide (nI S / 16 = nI (S / 16)) && decide (nI S - nI (S / 16) * 16 = nI (S % 16))) = true := by decide +kernel
theorem d16 {S : Nat} (h : S < 16384) : nI S / 16 = nI (S / 16) ∧ nI S - nI (S / 16) * 16 = nI (S % 16) := by
  have := List.all_eq_true.mp d16_tab S (List.mem_range.mpr h)
  rw [Bool.and_eq_true, decide_eq_true_eq, decide_eq_true_eq] at this
  exact this
theorem m4_tab : ∀ k, k < 16 → nI k * 4 = nI (4 * k) := by decide +kernel
theorem al_tab : ∀ n, n < 14 → 0 < n → (32 : Int32) - nI (31 - Nat.log2 n) = nI (Nat.log2 n + 1) := by decide +kernel
/-- what is known is right -/
def KN (M : mM) (K : Nat → Int32) : Prop := ∀ T, T < 16384 → nib (gJ M 206 (T / 16)) (T % 16) = 0 ∨ nib (gJ M 206 (T / 16)) (T % 16) = aq K T
theorem gJ_sk {M : mM} {q k j : Nat} (v : Int64) (h : j ≠ k) : gJ (sJ M q k v) q j = gJ M q j := by rw [gJ_uK]; exact if_neg h
theorem KN.put {M : mM} {K : Nat → Int32} (h : KN M K) {S : Nat} (hS : S < 16384) (ha : aq K S < 16) : KN (sJ M 206 (S / 16) (gJ M 206 (S / 16) ||| ((nI (aq K S)).toInt64 <<< ((nI (4 * (S % 16))).toInt64 &&& 63)))) K := by
  intro T hT
  by_cases e : T / 16 = S / 16
  · rw [e, gJ_ss, nib_put ha (by omega) (by omega)]
    by_cases e2 : T % 16 = S % 16
    · have : T = S := by omega
      subst this
      rw [if_pos rfl]
      right
      rcases h T hT with h | h
      · rw [h, Nat.zero_or]
      · rw [h, Nat.or_self]
    · rw [if_neg e2, ← e]
      exact h T hT
  · rw [gJ_sk _ e]
    exact h T hT
/-! words that part a set -/
def splB (K : Nat → Int32) (S w : Nat) : Bool := !(decide (prt K S w = 0) || decide (prt K S w = S))
def spl (K : Nat → Int32) (S : Nat) : Nat := cnt (kn K 3) (splB K S)
def SepS (K : Nat → Int32) (S : Nat) : Prop := ∀ a b, S.testBit a = true → S.testBit b = true → a ≠ b → ∃ w, w < kn K 3 ∧ (trH K a).testBit w ≠ (trH K b).testBit w
def Sub (T S : Nat) : Prop := ∀ i, T.testBit i = true → S.testBit i = true
theorem prt_bit {K : Nat → Int32} {S w c : Nat} (hS : S < 2 ^ kn K 2) : (prt K S w).testBit c = (S.testBit c && (trH K c).testBit w) := by
  unfold prt
  rw [bset_bit]
  by_cases h : c < kn K 2
  · rw [decide_eq_true h, Bool.true_and]
  · rw [decide_eq_false h, Bool.false_and, testBit_big hS (by omega), Bool.false_and]
theorem ex_bit {S : Nat} (h : S ≠ 0) : ∃ i, S.testBit i = true := by
  by_cases hh : ∃ i, S.testBit i = true
  · exact hh
  · exfalso
    apply h
    apply Nat.eq_of_testBit_eq
    intro i
    rw [Nat.zero_testBit]
    exact nt (fun z => hh ⟨i, z⟩)
theorem splB_iff {K : Nat → Int32} {S w : Nat} (hS : S < 2 ^ kn K 2) : splB K S w = true ↔ ∃ a b, S.testBit a = true ∧ S.testBit b = true ∧ (trH K a).testBit w = true ∧ (trH K b).testBit w = false := by
  unfold splB
  constructor
  · intro h
    have h1 : ¬ prt K S w = 0 := fun z => by rw [decide_eq_true z] at h; cases h
    have h2 : ¬ prt K S w = S := fun z => by rw [decide_eq_true (p := prt K S w = S) z, Bool.or_true] at h; cases h
    obtain ⟨a, ha⟩ := ex_bit h1
    rw [prt_bit hS, Bool.and_eq_true] at ha
    have : ∃ b, S.testBit b = true ∧ (trH K b).testBit w = false := by
      by_cases hh : ∃ b, S.testBit b = true ∧ (trH K b).testBit w = false
      · exact hh
      · exfalso
        apply h2
        apply Nat.eq_of_testBit_eq
        intro i
        rw [prt_bit hS]
        cases hs : S.testBit i
        · rfl
        · cases ht : (trH K i).testBit w
          · exact absurd ⟨i, hs, ht⟩ hh
          · rfl
    obtain ⟨b, hb⟩ := this
    exact ⟨a, b, ha.1, hb.1, ha.2, hb.2⟩
  · rintro ⟨a, b, h1, h2, h3, h4⟩
    rw [decide_eq_false (fun z => by
      have : (prt K S w).testBit a = true := by rw [prt_bit hS, h1, h3]; rfl
      rw [z, Nat.zero_testBit] at this; cases this), decide_eq_false (fun z => by
      have : (prt K S w).testBit b = false := by rw [prt_bit hS, h4, Bool.and_false]
      rw [z, h2] at this; cases this)]
    rfl
theorem cnt_lt {p q : Nat → Bool} {w : Nat} (hpq : ∀ i, p i = true → q i = true) (hq : q w = true) (hp : p w = false) : ∀ n, cnt n p + (if w < n then 1 else 0) ≤ cnt n q := by
  intro n
  induction n with
  | zero => exact Nat.le_refl _
  | succ n ih =>
    rw [show ∀ p : Nat → Bool, cnt (n + 1) p = cnt n p + (if p n = true then 1 else 0) from fun _ => rfl, show ∀ p : Nat → Bool, cnt (n + 1) p = cnt n p + (if p n = true then 1 else 0) from fun _ => rfl]
    by_cases e : w = n
    · subst e
      rw [if_neg (Nat.lt_irrefl w)] at ih
      rw [hp, hq, if_pos (Nat.lt_succ_self w), if_neg (by decide), if_pos rfl]
      omega
    · by_cases h1 : w < n
      · rw [if_pos h1] at ih
        rw [if_pos (show w < n + 1 by omega)]
        by_cases h2 : p n = true
        · rw [if_pos h2, if_pos (hpq n h2)]; omega
        · rw [if_neg h2]; omega
      · rw [if_neg h1] at ih
        rw [if_neg (show ¬ w < n + 1 by omega)]
        by_cases h2 : p n = true
        · rw [if_pos h2, if_pos (hpq n h2)]; omega
        · rw [if_neg h2]; omega
theorem Sub.lt {T S n : Nat} (h : Sub T S) (hS : S < 2 ^ n) : T < 2 ^ n := by
  apply Nat.lt_of_not_le
  intro z
  obtain ⟨i, hi, hb⟩ := Nat.exists_ge_and_testBit_of_ge_two_pow z
  have := h i hb
  rw [testBit_big hS hi] at this
  cases this
theorem Sub.prt {K : Nat → Int32} {S w : Nat} (hS : S < 2 ^ kn K 2) : Sub (prt K S w) S := by
  intro i h
  rw [prt_bit hS, Bool.and_eq_true] at h
  exact h.1
theorem Sub.dif (S T : Nat) : Sub (dif S T) S := by
  intro i h
  rw [dif_bit, Bool.and_eq_true] at h
  exact h.1
theorem Sub.tr {A B C : Nat} (h : Sub A B) (h2 : Sub B C) : Sub A C := fun i z => h2 i (h i z)
theorem spl_yes {K : Nat → Int32} {S w : Nat} (hS : S < 2 ^ kn K 2) (hw : w < kn K 3) (hs : splB K S w = true) : spl K (prt K S w) + 1 ≤ spl K S := by
  have hT := (Sub.prt (K := K) (w := w) hS).lt hS
  have := cnt_lt (p := splB K (prt K S w)) (q := splB K S) (w := w) (fun i h => by
    obtain ⟨a, b, h1, h2, h3⟩ := (splB_iff hT).mp h
    exact (splB_iff hS).mpr ⟨a, b, Sub.prt hS a h1, Sub.prt hS b h2, h3⟩) hs (nt (fun z => by
    obtain ⟨a, b, h1, h2, h3, h4⟩ := (splB_iff hT).mp z
    rw [prt_bit hS, h4, Bool.and_false] at h2
    cases h2)) (kn K 3)
  rw [if_pos hw] at this
  exact this
theorem spl_no {K : Nat → Int32} {S w : Nat} (hS : S < 2 ^ kn K 2) (hw : w < kn K 3) (hs : splB K S w = true) : spl K (dif S (prt K S w)) + 1 ≤ spl K S := by
  have hT := (Sub.dif S (prt K S w)).lt hS
  have := cnt_lt (p := splB K (dif S (prt K S w))) (q := splB K S) (w := w) (fun i h => by
    obtain ⟨a, b, h1, h2, h3⟩ := (splB_iff hT).mp h
    exact (splB_iff hS).mpr ⟨a, b, Sub.dif _ _ a h1, Sub.dif _ _ b h2, h3⟩) hs (nt (fun z => by
    obtain ⟨a, b, h1, h2, h3, h4⟩ := (splB_iff hT).mp z
    rw [dif_bit, prt_bit hS, h3, Bool.and_true] at h1
    cases hb : S.testBit a <;> rw [hb] at h1 <;> cases h1)) (kn K 3)
  rw [if_pos hw] at this
  exact this
theorem two_bits {S : Nat} (hS : S < 16384) (h : ¬ pcn S < 2) : ∃ a b, S.testBit a = true ∧ S.testBit b = true ∧ a ≠ b := by
  obtain ⟨a, ha⟩ := ex_bit (S := S) (fun z => by rw [z, pcn_0] at h; omega)
  by_cases hh : ∃ b, S.testBit b = true ∧ a ≠ b
  · obtain ⟨b, hb⟩ := hh
    exact ⟨a, b, ha, hb.1, hb.2⟩
  · exfalso
    have e : S = 2 ^ a := by
      apply Nat.eq_of_testBit_eq
      intro i
      rw [Nat.testBit_two_pow]
      by_cases e : a = i
      · subst e; rw [ha, decide_eq_true rfl]
      · rw [decide_eq_false e]
        exact nt (fun z => hh ⟨i, z, e⟩)
    have ha14 : a < 14 := Nat.lt_of_not_le (fun z => by rw [testBit_big (n := 14) hS z] at ha; cases ha)
    rw [e, pcn_two ha14] at h
    omega
theorem aqM_leg (g : Nat → Nat) {w : Nat} : ∀ n, w < n → aqM g n ≤ g w := by
  intro n
  induction n with
  | zero => intro h; omega
  | succ n ih =>
    intro h
    rw [aqM]
    by_cases e : w = n
    · subst e; omega
    · have := ih (by omega); omega
theorem aqM_at (g : Nat → Nat) : ∀ n, aqM g n = 536870912 ∨ ∃ w, w < n ∧ aqM g n = g w := by
  intro n
  induction n with
  | zero => exact Or.inl rfl
  | succ n ih =>
    rw [aqM]
    by_cases h : g n < aqM g n
    · exact Or.inr ⟨n, by omega, by omega⟩
    · rcases ih with h2 | ⟨w, h1, h2⟩
      · exact Or.inl (by omega)
      · exact Or.inr ⟨w, by omega, by omega⟩
theorem splB_p {K : Nat → Int32} {S w : Nat} : splB K S w = true ↔ ¬ (prt K S w = 0 ∨ prt K S w = S) := by
  unfold splB
  simp
theorem aq_spl {K : Nat → Int32} (h14 : kn K 2 ≤ 14) : ∀ n S, pcn S ≤ n → S < 2 ^ kn K 2 → SepS K S → aq K S ≤ spl K S := by
  have hpw : 2 ^ kn K 2 ≤ 2 ^ 14 := Nat.pow_le_pow_right (by omega) h14
  intro n
  induction n with
  | zero => intro S hp _ _; rw [aq_1 (by omega)]; omega
  | succ n ih =>
    intro S hp hS hsep
    by_cases h2 : pcn S < 2
    · rw [aq_1 h2]; omega
    · have hS14 : S < 16384 := by omega
      obtain ⟨a, b, ha, hb, hab⟩ := two_bits hS14 h2
      obtain ⟨w, hw, hd⟩ := hsep a b ha hb hab
      have hsp : splB K S w = true := by
        refine (splB_iff hS).mpr ?_
        cases h1 : (trH K a).testBit w
        · cases h3 : (trH K b).testBit w
          · rw [h1, h3] at hd; exact absurd rfl hd
          · exact ⟨b, a, hb, ha, h3, h1⟩
        · cases h3 : (trH K b).testBit w
          · exact ⟨a, b, ha, hb, h1, h3⟩
          · rw [h1, h3] at hd; exact absurd rfl hd
      have hy := splB_p.mp hsp
      have hpc := prt_pc h14 hS14 hy
      have i1 := ih (prt K S w) (by omega) ((Sub.prt hS).lt hS) (fun x y hx hy => hsep x y (Sub.prt hS x hx) (Sub.prt hS y hy))
      have i2 := ih (dif S (prt K S w)) (by omega) ((Sub.dif S _).lt hS) (fun x y hx hy => hsep x y (Sub.dif S _ x hx) (Sub.dif S _ y hy))
      have s1 := spl_yes hS hw hsp
      have s2 := spl_no hS hw hsp
      rw [aq_2 h14 hS14 h2]
      have := aqM_leg (aqB (aq K) K S) (kn K 3) hw
      rw [show aqB (aq K) K S w = 1 + max (aq K (prt K S w)) (aq K (dif S (prt K S w))) from if_neg hy] at this
      omega
theorem aq_log {K : Nat → Int32} (h14 : kn K 2 ≤ 14) : ∀ n S, pcn S ≤ n → S < 16384 → aq K S ≤ 10 → pcn S ≤ 2 ^ aq K S := by
  intro n
  induction n with
  | zero => intro S hp _ _; exact Nat.le_trans hp (Nat.zero_le _)
  | succ n ih =>
    intro S hp hS h10
    by_cases h2 : pcn S < 2
    · have := Nat.two_pow_pos (aq K S); omega
    · rw [aq_2 h14 hS h2] at h10 ⊢
      rcases aqM_at (aqB (aq K) K S) (kn K 3) with h | ⟨w, hw, h⟩
      · rw [h] at h10; omega
      · rw [h] at h10 ⊢
        unfold aqB at h10 ⊢
        split at h10
        · omega
        · rename_i hy
          rw [if_neg hy]
          have hpc := prt_pc h14 hS hy
          have i1 := ih (prt K S w) (by omega) (prt_lt h14 S w) (by omega)
          have i2 := ih (dif S (prt K S w)) (by omega) (dif_lt hS) (by omega)
          have hs := pcn_split S (prt K S w)
          rw [prt_sub] at hs
          have m1 : 2 ^ aq K (prt K S w) ≤ 2 ^ max (aq K (prt K S w)) (aq K (dif S (prt K S w))) := Nat.pow_le_pow_right (by omega) (Nat.le_max_left _ _)
          have m2 : 2 ^ aq K (dif S (prt K S w)) ≤ 2 ^ max (aq K (prt K S w)) (aq K (dif S (prt K S w))) := Nat.pow_le_pow_right (by omega) (Nat.le_max_right _ _)
          rw [Nat.add_comm, Nat.pow_succ]
          omega
/-- from words that part all -/
theorem sep_all {K : Nat → Int32} (hW : WK K) (h : prtA K (2 ^ kn K 3 - 1) = true) : SepS K (kn K 93) := by
  have h10 := hW.p.2.2.1.2
  have key : ∀ a b, a < b → (kn K 93).testBit a = true → (kn K 93).testBit b = true → ∃ w, w < kn K 3 ∧ (trH K a).testBit w ≠ (trH K b).testBit w := by
    intro a b hab ha hb
    have hb2 : b < kn K 2 := Nat.lt_of_not_le (fun z => by rw [testBit_big hW.i.2 z] at hb; cases hb)
    have := (prtO_iff (K := K) (s := 2 ^ kn K 3 - 1) (kn K 2) 0 (by omega)).mp h a b (Nat.zero_le _) hab hb2
    unfold prtP at this
    rw [ha, hb, Bool.true_and, Bool.true_and, decide_eq_false_iff_not] at this
    obtain ⟨w, hw⟩ := ex_bit this
    rw [Nat.testBit_and, Nat.testBit_xor, Nat.testBit_two_pow_sub_one, Bool.and_eq_true, decide_eq_true_eq] at hw
    refine ⟨w, hw.2, fun z => ?_⟩
    rw [z] at hw
    have := hw.1
    rw [Bool.xor_self] at this
    cases this
  intro a b ha hb hab
  by_cases h1 : a < b
  · exact key a b h1 ha hb
  · obtain ⟨w, h2, h3⟩ := key b a (by omega) hb ha
    exact ⟨w, h2, fun z => h3 z.symm⟩
