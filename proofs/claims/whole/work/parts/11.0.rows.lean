/-! ===== the class: Describer, rows of all sets of words ===== -/
theorem i64_ext {a b : Int64} (h : a.toBitVec = b.toBitVec) : a = b := Int64.toBitVec_inj.mp h
theorem lN_bv (n : Nat) : (lN n).toBitVec = BitVec.ofNat 64 n := rfl
theorem lNor (a b : Nat) : lN a ||| lN b = lN (a ||| b) := by
  apply i64_ext
  rw [Int64.toBitVec_or, lN_bv, lN_bv, lN_bv, BitVec.ofNat_or]
theorem lNand (a b : Nat) : lN a &&& lN b = lN (a &&& b) := by
  apply i64_ext
  rw [Int64.toBitVec_and, lN_bv, lN_bv, lN_bv, BitVec.ofNat_and]
theorem sm64 {k : Nat} (h : k < 64) : (((nI k).toInt64 &&& 63).toBitVec.smod 64).toNat = k := by
  have : ∀ k, k < 64 → (((nI k).toInt64 &&& 63).toBitVec.smod 64).toNat = k := by decide +kernel
  exact this k h
theorem lshlN {a k : Nat} (hk : k < 64) : lN a <<< ((nI k).toInt64 &&& 63) = lN (a * 2 ^ k) := by
  apply i64_ext
  rw [Int64.toBitVec_shiftLeft, BitVec.shiftLeft_eq', sm64 hk, lN_bv, lN_bv]
  apply BitVec.eq_of_toNat_eq
  rw [BitVec.toNat_shiftLeft, BitVec.toNat_ofNat, BitVec.toNat_ofNat, Nat.shiftLeft_eq, Nat.mod_mul_mod]
theorem lshrN {a k : Nat} (hk : k < 64) (ha : a < 2 ^ 63) : lN a >>> ((nI k).toInt64 &&& 63) = lN (a / 2 ^ k) := by
  apply i64_ext
  rw [Int64.toBitVec_shiftRight, BitVec.sshiftRight_eq', sm64 hk, lN_bv, lN_bv]
  apply BitVec.eq_of_toNat_eq
  rw [BitVec.toNat_sshiftRight, BitVec.toNat_ofNat, BitVec.toNat_ofNat, BitVec.msb_eq_false_iff_two_mul_lt.mpr (by rw [BitVec.toNat_ofNat, Nat.mod_eq_of_lt (by omega)]; omega), Nat.mod_eq_of_lt (show a < 2 ^ 64 by omega), Nat.mod_eq_of_lt (Nat.lt_of_le_of_lt (Nat.div_le_self _ _) (by omega)), Nat.shiftRight_eq_div_pow]
  simp [Nat.shiftRight_eq_div_pow]
theorem nI_hi (c m : Nat) : nI (c * 4294967296 + m) = nI m := by
  apply i32_ext
  rw [nI_bv, nI_bv]
  apply BitVec.eq_of_toNat_eq
  rw [BitVec.toNat_ofNat, BitVec.toNat_ofNat]
  show (c * 4294967296 + m) % 4294967296 = m % 4294967296
  omega
theorem or_add {c m k : Nat} (h : m < 2 ^ k) : c * 2 ^ k ||| m = c * 2 ^ k + m := by
  rw [Nat.mul_comm, Nat.two_pow_add_eq_or_of_lt h]
/-- a pool, less all that some word of S doesn't agree with -/
def mF (P : Nat) (a : Nat → Nat) (S : Nat) : Nat → Nat
  | 0 => P
  | w + 1 => if S.testBit w = true then mF P a S w &&& a w else mF P a S w
def xF (x : Nat → Nat) (S : Nat) : Nat → Nat
  | 0 => 0
  | w + 1 => if S.testBit w = true then xF x S w + x w else xF x S w
def mS (P : Nat) (a : Nat → Nat) (S : Nat) : Nat := mF P a S 10
def xS (x : Nat → Nat) (S : Nat) : Nat := xF x S 10
theorem mF_bit (P : Nat) (a : Nat → Nat) (S : Nat) : ∀ w i, (mF P a S w).testBit i = true ↔ (P.testBit i = true ∧ ∀ v, v < w → S.testBit v = true → (a v).testBit i = true) := by
  intro w
  induction w with
  | zero => intro i; exact ⟨fun h => ⟨h, fun v hv => absurd hv (by omega)⟩, fun h => h.1⟩
  | succ w ih =>
    intro i
    rw [mF]
    by_cases h : S.testBit w = true
    · rw [if_pos h, Nat.testBit_and, Bool.and_eq_true, ih]
      constructor
      · rintro ⟨⟨h1, h2⟩, h3⟩
        refine ⟨h1, fun v hv hs => ?_⟩
        by_cases e : v = w
        · subst e; exact h3
        · exact h2 v (by omega) hs
      · rintro ⟨h1, h2⟩
        exact ⟨⟨h1, fun v hv => h2 v (by omega)⟩, h2 w (by omega) h⟩
    · rw [if_neg h, ih]
      constructor
      · rintro ⟨h1, h2⟩
        refine ⟨h1, fun v hv hs => ?_⟩
        by_cases e : v = w
        · subst e; exact absurd hs h
        · exact h2 v (by omega) hs
      · rintro ⟨h1, h2⟩
        exact ⟨h1, fun v hv => h2 v (by omega)⟩
theorem mF_le (P : Nat) (a : Nat → Nat) (S : Nat) : ∀ w, mF P a S w ≤ P := by
  intro w
  induction w with
  | zero => exact Nat.le_refl _
  | succ w ih =>
    rw [mF]
    split
    · exact Nat.le_trans Nat.and_le_left ih
    · exact ih
theorem xF_le {x : Nat → Nat} {S nw : Nat} (hx : ∀ w, w < nw → x w ≤ 19) (hS : S < 2 ^ nw) : ∀ w, xF x S w ≤ 19 * w := by
  intro w
  induction w with
  | zero => exact Nat.le_refl _
  | succ w ih =>
    rw [xF]
    split
    · rename_i h
      have : w < nw := Nat.lt_of_not_le (fun z => by rw [testBit_big hS z] at h; cases h)
      have := hx w this
      omega
    · omega
set_option maxRecDepth 100000 in
theorem low_tab : (List.range 1024).all (fun S => Nat.beq S 0 || (Nat.blt (ntzN S) 10 && S.testBit (ntzN S) && (List.range 10).all (fun i => (S &&& (S - 1)).testBit i == (S.testBit i && !(Nat.beq i (ntzN S)))))) = true := by decide +kernel
theorem low_ok {S : Nat} (h : S < 1024) (h0 : S ≠ 0) : ntzN S < 10 ∧ S.testBit (ntzN S) = true ∧ ∀ i, i < 10 → (S &&& (S - 1)).testBit i = (S.testBit i && !(Nat.beq i (ntzN S))) := by
  have := List.all_eq_true.mp low_tab S (List.mem_range.mpr h)
  rw [Bool.or_eq_true] at this
  rcases this with h1 | h1
  · exact absurd (Nat.eq_of_beq_eq_true h1) h0
  · rw [Bool.and_eq_true, Bool.and_eq_true] at h1
    refine ⟨by have := h1.1.1; simpa using this, h1.1.2, fun i hi => ?_⟩
    have := List.all_eq_true.mp h1.2 i (List.mem_range.mpr hi)
    exact eq_of_beq this
theorem mF_step {P : Nat} {a : Nat → Nat} {S : Nat} (h : S < 1024) (h0 : S ≠ 0) : ∀ w, w ≤ 10 → mF P a S w = if ntzN S < w then mF P a (S &&& (S - 1)) w &&& a (ntzN S) else mF P a (S &&& (S - 1)) w := by
  obtain ⟨l1, l2, l3⟩ := low_ok h h0
  intro w
  induction w with
  | zero => intro _; rw [if_neg (by omega)]; rfl
  | succ w ih =>
    intro hw
    rw [mF, mF, ih (by omega), l3 w (by omega)]
    by_cases e : w = ntzN S
    · subst e
      rw [if_pos l2, if_neg (by omega), if_pos (by omega), Nat.beq_refl]
      simp
    · rw [nbeq_f e]
      by_cases hb : S.testBit w = true
      · rw [if_pos hb]
        by_cases hl : ntzN S < w
        · rw [if_pos hl, if_pos (show ntzN S < w + 1 by omega)]
          simp only [hb, Bool.not_false, Bool.and_true, if_true]
          rw [Nat.and_assoc, Nat.and_comm (a (ntzN S)), ← Nat.and_assoc]
        · rw [if_neg hl, if_neg (by omega)]
          simp [hb]
      · rw [if_neg hb]
        by_cases hl : ntzN S < w
        · rw [if_pos hl, if_pos (show ntzN S < w + 1 by omega)]
          simp [hb]
        · rw [if_neg hl, if_neg (by omega)]
          simp [hb]
theorem xF_step {x : Nat → Nat} {S : Nat} (h : S < 1024) (h0 : S ≠ 0) : ∀ w, w ≤ 10 → xF x S w = if ntzN S < w then xF x (S &&& (S - 1)) w + x (ntzN S) else xF x (S &&& (S - 1)) w := by
  obtain ⟨l1, l2, l3⟩ := low_ok h h0
  intro w
  induction w with
  | zero => intro _; rw [if_neg (by omega)]; rfl
  | succ w ih =>
    intro hw
    rw [xF, xF, ih (by omega), l3 w (by omega)]
    by_cases e : w = ntzN S
    · subst e
      rw [if_pos l2, if_neg (by omega), if_pos (by omega), Nat.beq_refl]
      simp
    · rw [nbeq_f e]
      by_cases hb : S.testBit w = true
      · rw [if_pos hb]
        by_cases hl : ntzN S < w
        · rw [if_pos hl, if_pos (show ntzN S < w + 1 by omega)]
          simp only [hb, Bool.not_false, Bool.and_true, if_true]
          omega
        · rw [if_neg hl, if_neg (by omega)]
          simp [hb]
      · rw [if_neg hb]
        by_cases hl : ntzN S < w
        · rw [if_pos hl, if_pos (show ntzN S < w + 1 by omega)]
          simp [hb]
        · rw [if_neg hl, if_neg (by omega)]
          simp [hb]
theorem mS_step {P : Nat} {a : Nat → Nat} {S : Nat} (h : S < 1024) (h0 : S ≠ 0) : mS P a S = mS P a (S &&& (S - 1)) &&& a (ntzN S) := by
  unfold mS
  rw [mF_step h h0 10 (Nat.le_refl _), if_pos (low_ok h h0).1]
theorem xS_step {x : Nat → Nat} {S : Nat} (h : S < 1024) (h0 : S ≠ 0) : xS x S = xS x (S &&& (S - 1)) + x (ntzN S) := by
  unfold xS
  rw [xF_step h h0 10 (Nat.le_refl _), if_pos (low_ok h h0).1]
/-- the rows of Describer, over the sets within A -/
def RowsOK (M : mM) (nw A P : Nat) (a x : Nat → Nat) : Prop := ∀ S, S < 2 ^ nw → dif S A = 0 → gJ M 202 S = lN (xS x S * 4294967296 + mS P a S)
def J202 (q _k : Nat) : Bool := Nat.beq q 202
def nW (_q _k : Nat) : Bool := false
theorem Plr.sj {M M' : mM} {p cd n : Nat} {K : Nat → Int32} {W J : Nat → Nat → Bool} (h : Plr M p cd n K) (e : Sj W J M M') (hJ : ∀ k, J p k = false) (hI : ∀ q k, (p ≤ q ∧ q ≤ p + 6) ∨ q = cd → W q k = false) : Plr M' p cd n K := h.mv e.2.1 e.2.2.1 (by funext k; exact e.2.2.2.2 p k (hJ k)) (fun q hq => by funext k; exact e.2.2.2.1 q k (hI q k hq))
theorem dif_sub {S A : Nat} (h : dif S A = 0) (h2 : dif (S &&& (S - 1)) S = 0) : dif (S &&& (S - 1)) A = 0 := by
  apply Nat.eq_of_testBit_eq
  intro i
  have a : (dif S A).testBit i = false := by rw [h, Nat.zero_testBit]
  have b : (dif (S &&& (S - 1)) S).testBit i = false := by rw [h2, Nat.zero_testBit]
  rw [dif_bit] at a b ⊢
  rw [Nat.zero_testBit]
  revert a b
  cases (S &&& (S - 1)).testBit i <;> cases S.testBit i <;> cases A.testBit i <;> simp
theorem dif_and (S T : Nat) : dif (S &&& T) S = 0 := by
  apply Nat.eq_of_testBit_eq
  intro i
  rw [dif_bit, Nat.testBit_and, Nat.zero_testBit]
  cases S.testBit i <;> simp
section D1
variable (G : mG) (M : mM)
theorem l1_spread (hS : Sh M) {p cd n A P : Nat} {K : Nat → Int32} {a x : Nat → Nat} (hp : Plr M p cd n K) (hP : WP K) (hA : A < 1024) (hp2 : p ≠ 202) (ha : ∀ w, w < kn K 3 → gI M 203 w = nI (a w)) (hx : ∀ w, w < kn K 3 → gI M 204 w = nI (x w) ∧ x w ≤ 19) (hPl : P < 2 ^ 28) :
    ∀ i S (o5 o6 o7 o8 o9 : Option Value) M', S + i = 2 ^ kn K 3 → 1 ≤ S → Sj nW J202 M M' → (∀ T, T < S → dif T A = 0 → gJ M' 202 T = lN (xS x T * 4294967296 + mS P a T)) →
    V G Y1_spread 1 0 0 (Rs none (fun M' => Sj nW J202 M M' ∧ RowsOK M' (kn K 3) A P a x)) NX 11 [some (.ref 201), some (.ref p), some (.int (nI A)), some (.int (nI P)), some (.int (nI S)), o5, o6, o7, o8, o9] [] M' := by
  have haw := aw_lt hP
  have h10 := hP.2.2.1.2
  have hpw := Nat.one_le_two_pow (n := kn K 3)
  intro i
  induction i with
  | zero =>
    intro S o5 o6 o7 o8 o9 M' hs h1 hM hr
    have hS' := hS.sj hM
    have hp' := hp.sj hM (fun k => nbeq_f hp2) (fun _ _ _ => rfl)
    have hp1 := hp'.1.1
    obtain rfl : S = 2 ^ kn K 3 := by omega
    refine v_iload dX1_spread_11 rfl ?_
    refine v_aload_n dX1_spread_13 rfl ?_
    refine v_cV [] (c4_allWords G M' hp' hP) k4_allWords dX1_spread_14 l1_26 (by first | exact hS.1 _ _ rfl | exact hS'.1 _ _ rfl | assumption) (by decide) rfl (Nat.le_of_ble_eq_true rfl) (Nat.le_of_ble_eq_true rfl) ?_
    refine v_icmp_gt 97 dX1_spread_17 (by decide) (fun h17 => ?_) (fun h17 => absurd (nI_lt (by omega) (by omega)) h17)
    refine v_vret dX1_spread_97 rfl ?_
    exact ⟨rfl, hM, hr⟩
  | succ i ih =>
    intro S o5 o6 o7 o8 o9 M' hs h1 hM hr
    have hS' := hS.sj hM
    have hp' := hp.sj hM (fun k => nbeq_f hp2) (fun _ _ _ => rfl)
    have hp1 := hp'.1.1
    have hS10 : S < 1024 := by omega
    by_cases hd : dif S A = 0
    · obtain ⟨l1, l2, l3⟩ := low_ok hS10 (by omega)
      have hw : ntzN S < kn K 3 := Nat.lt_of_not_le (fun z => by rw [testBit_big (show S < 2 ^ kn K 3 by omega) z] at l2; cases l2)
      have hsub : S &&& (S - 1) < S := Nat.lt_of_le_of_lt Nat.and_le_right (by omega)
      have hrow := hr (S &&& (S - 1)) hsub (dif_sub hd (dif_and _ _))
      have hxl := xF_le (x := x) (S := S &&& (S - 1)) (fun w hw => (hx w hw).2) (show S &&& (S - 1) < 2 ^ kn K 3 by omega) 10
      have hxl2 : xS x (S &&& (S - 1)) ≤ 190 := hxl
      have hml : mS P a (S &&& (S - 1)) ≤ P := mF_le P a _ 10
      have hml2 : mS P a S ≤ P := mF_le P a _ 10
      have eA : gI M' 203 (ntzN S) = nI (a (ntzN S)) := (hM.2.2.2.1 203 _ rfl).trans (ha _ hw)
      have eX : gI M' 204 (ntzN S) = nI (x (ntzN S)) := (hM.2.2.2.1 204 _ rfl).trans (hx _ hw).1
      have hx9 := (hx _ hw).2
      have f1 : lN (xS x (S &&& (S - 1)) * 4294967296 + mS P a (S &&& (S - 1))) >>> ((32 : Int32).toInt64 &&& 63) = lN (xS x (S &&& (S - 1))) := by
        rw [show (32 : Int32) = nI 32 from rfl, lshrN (by decide) (by omega)]
        congr 1
        show (xS x (S &&& (S - 1)) * 4294967296 + mS P a (S &&& (S - 1))) / 4294967296 = _
        omega
      have f2 : lN (xS x (S &&& (S - 1))) + (nI (x (ntzN S))).toInt64 = lN (xS x S) := by rw [nI_l (by omega), lN_add, xS_step hS10 (by omega)]
      have f3 : lN (xS x S) <<< ((32 : Int32).toInt64 &&& 63) = lN (xS x S * 4294967296) := by rw [show (32 : Int32) = nI 32 from rfl, lshlN (by decide)]
      have f4 : (lN (xS x (S &&& (S - 1)) * 4294967296 + mS P a (S &&& (S - 1)))).toInt32 &&& nI (a (ntzN S)) = nI (mS P a S) := by rw [lN_i, nI_hi, nIand, ← mS_step hS10 (by omega)]
      have f5 : lN (xS x S * 4294967296) ||| (nI (mS P a S)).toInt64 = lN (xS x S * 4294967296 + mS P a S) := by
        rw [nI_l (by omega), lNor]
        exact congrArg lN (or_add (k := 32) (show mS P a S < 2 ^ 32 by omega))
      refine v_iload dX1_spread_11 rfl ?_
      refine v_aload_n dX1_spread_13 rfl ?_
      refine v_cV [] (c4_allWords G M' hp' hP) k4_allWords dX1_spread_14 l1_26 (by first | exact hS.1 _ _ rfl | exact hS'.1 _ _ rfl | assumption) (by decide) rfl (Nat.le_of_ble_eq_true rfl) (Nat.le_of_ble_eq_true rfl) ?_
      refine v_icmp_gt 97 dX1_spread_17 (by decide) (fun h17 => absurd ((nI_ltI (by omega) (by omega)).mp h17) (by omega)) (fun h17 => ?_)
      refine v_iload dX1_spread_20 rfl ?_
      refine v_iload_n dX1_spread_22 rfl ?_
      refine v_iconst (-1) dX1_spread_23 (by decide) ?_
      refine v_ixor dX1_spread_24 ?_
      refine v_iand dX1_spread_25 ?_
      rw [andnot, hd]
      refine v_if_ne 91 dX1_spread_26 (by decide) (fun h26 => absurd rfl h26) (fun h26 => ?_)
      refine v_iload dX1_spread_29 rfl ?_
      refine v_cS [_] (cJ_ntz G M' _) kJ_ntz dX1_spread_31 l1_93 rfl (Nat.le_of_ble_eq_true rfl) (Nat.le_of_ble_eq_true rfl) ?_
      rw [ntz_n (by omega) (by omega)]
      refine v_istore dX1_spread_34 rfl (by decide) ?_
      refine v_aload_n dX1_spread_36 rfl ?_
      refine v_getR 1 0 _ dX1_spread_37 f1_9 (by first | exact hS.1 _ _ rfl | exact hS'.1 _ _ rfl | assumption) (by decide) (by first | exact hS.2 _ _ _ rfl | exact hS'.2 _ _ _ rfl | assumption) ?_
      refine v_iload dX1_spread_40 rfl ?_
      refine v_iload dX1_spread_42 rfl ?_
      refine v_iconst 1 dX1_spread_44 (by decide) ?_
      refine v_isub dX1_spread_45 ?_
      rw [show nI S - 1 = nI (S - 1) from pk_sub h1]
      refine v_iand dX1_spread_46 ?_
      rw [nIand]
      refine v_laldN (S &&& (S - 1)) dX1_spread_47 (by first | exact hS.1 _ _ rfl | exact hS'.1 _ _ rfl | assumption) (by simp only [n_lit, pk_mul, nI_add]) ⟨by omega, by omega⟩ ?_
      rw [hrow]
      refine v_lstore dX1_spread_48 rfl (by decide) ?_
      refine v_lload dX1_spread_50 rfl ?_
      refine v_bipush 32 dX1_spread_52 (by decide) ?_
      refine v_lshr dX1_spread_54 ?_
      rw [f1]
      refine v_aload_n dX1_spread_55 rfl ?_
      refine v_getR 1 2 _ dX1_spread_56 f1_19 (by first | exact hS.1 _ _ rfl | exact hS'.1 _ _ rfl | assumption) (by decide) (by first | exact hS.2 _ _ _ rfl | exact hS'.2 _ _ _ rfl | assumption) ?_
      refine v_iload dX1_spread_59 rfl ?_
      refine v_ialdN (ntzN S) dX1_spread_61 (by first | exact hS.1 _ _ rfl | exact hS'.1 _ _ rfl | assumption) (by simp only [n_lit, pk_mul, nI_add]) ⟨by omega, by omega⟩ ?_
      rw [eX]
      refine v_i2l dX1_spread_62 ?_
      refine v_ladd dX1_spread_63 ?_
      rw [f2]
      refine v_lstore dX1_spread_64 rfl (by decide) ?_
      refine v_aload_n dX1_spread_66 rfl ?_
      refine v_getR 1 0 _ dX1_spread_67 f1_9 (by first | exact hS.1 _ _ rfl | exact hS'.1 _ _ rfl | assumption) (by decide) (by first | exact hS.2 _ _ _ rfl | exact hS'.2 _ _ _ rfl | assumption) ?_
      refine v_iload dX1_spread_70 rfl ?_
      refine v_lload dX1_spread_72 rfl ?_
      refine v_bipush 32 dX1_spread_74 (by decide) ?_
      refine v_lshl dX1_spread_76 ?_
      rw [f3]
      refine v_lload dX1_spread_77 rfl ?_
      refine v_l2i dX1_spread_79 ?_
      refine v_aload_n dX1_spread_80 rfl ?_
      refine v_getR 1 1 _ dX1_spread_81 f1_15 (by first | exact hS.1 _ _ rfl | exact hS'.1 _ _ rfl | assumption) (by decide) (by first | exact hS.2 _ _ _ rfl | exact hS'.2 _ _ _ rfl | assumption) ?_
      refine v_iload dX1_spread_84 rfl ?_
      refine v_ialdN (ntzN S) dX1_spread_86 (by first | exact hS.1 _ _ rfl | exact hS'.1 _ _ rfl | assumption) (by simp only [n_lit, pk_mul, nI_add]) ⟨by omega, by omega⟩ ?_
      rw [eA]
      refine v_iand dX1_spread_87 ?_
      rw [f4]
      refine v_i2l dX1_spread_88 ?_
      refine v_lor dX1_spread_89 ?_
      rw [f5]
      refine v_lastN (S) dX1_spread_90 (by first | exact hS.1 _ _ rfl | exact hS'.1 _ _ rfl | assumption) (by simp only [n_lit, pk_mul, nI_add]) ⟨by omega, by omega⟩ ?_
      refine v_iinc 1 dX1_spread_91 rfl (by decide) rfl (by decide) ?_
      refine v_goto 11 dX1_spread_94 (by decide) ?_
      skip
      rw [nI_1]
      refine ih (S + 1) _ _ _ _ _ _ (by omega) (by omega) (hM.stj _ rfl) (fun T hT hTd => ?_)
      rw [gJ_uK]
      show (if T = S then _ else _) = _
      by_cases e : T = S
      · rw [if_pos e, e]
      · rw [if_neg e]; exact hr T (by omega) hTd
    · have hdl : dif S A < 1024 := dif_le S A (n := 10) hS10
      refine v_iload dX1_spread_11 rfl ?_
      refine v_aload_n dX1_spread_13 rfl ?_
      refine v_cV [] (c4_allWords G M' hp' hP) k4_allWords dX1_spread_14 l1_26 (by first | exact hS.1 _ _ rfl | exact hS'.1 _ _ rfl | assumption) (by decide) rfl (Nat.le_of_ble_eq_true rfl) (Nat.le_of_ble_eq_true rfl) ?_
      refine v_icmp_gt 97 dX1_spread_17 (by decide) (fun h17 => absurd ((nI_ltI (by omega) (by omega)).mp h17) (by omega)) (fun h17 => ?_)
      refine v_iload dX1_spread_20 rfl ?_
      refine v_iload_n dX1_spread_22 rfl ?_
      refine v_iconst (-1) dX1_spread_23 (by decide) ?_
      refine v_ixor dX1_spread_24 ?_
      refine v_iand dX1_spread_25 ?_
      rw [andnot]
      refine v_if_ne 91 dX1_spread_26 (by decide) (fun h26 => ?_) (fun h26 => absurd ((nI0 (by omega)).mp (Decidable.not_not.mp h26)) hd)
      refine v_iinc 1 dX1_spread_91 rfl (by decide) rfl (by decide) ?_
      refine v_goto 11 dX1_spread_94 (by decide) ?_
      skip
      rw [nI_1]
      refine ih (S + 1) _ _ _ _ _ _ (by omega) (by omega) hM (fun T hT hTd => ?_)
      by_cases e : T = S
      · subst e; exact absurd hTd hd
      · exact hr T (by omega) hTd
theorem c1_spread (hS : Sh M) {p cd n A P : Nat} {K : Nat → Int32} {a x : Nat → Nat} (hp : Plr M p cd n K) (hP : WP K) (hA : A < 1024) (hp2 : p ≠ 202) (ha : ∀ w, w < kn K 3 → gI M 203 w = nI (a w)) (hx : ∀ w, w < kn K 3 → gI M 204 w = nI (x w) ∧ x w ≤ 19) (hPl : P < 2 ^ 28) :
    Ct G Y1_spread 1 0 0 [.ref 201, .ref p, .int (nI A), .int (nI P)] M (Rs none (fun M' => Sj nW J202 M M' ∧ RowsOK M' (kn K 3) A P a x)) NX := by
  have h1 := Nat.one_le_two_pow (n := kn K 3)
  refine Ct.of k1_spread.1 (Nat.le_of_ble_eq_true rfl) ?_
  refine v_aload_n dX1_spread_0 rfl ?_
  refine v_getR 1 0 _ dX1_spread_1 f1_9 (by first | exact hS.1 _ _ rfl | exact hS'.1 _ _ rfl | assumption) (by decide) (by first | exact hS.2 _ _ _ rfl | exact hS'.2 _ _ _ rfl | assumption) ?_
  refine v_iconst 0 dX1_spread_4 (by decide) ?_
  refine v_iload_n dX1_spread_5 rfl ?_
  refine v_i2l dX1_spread_6 ?_
  refine v_lastN (0) dX1_spread_7 (by first | exact hS.1 _ _ rfl | exact hS'.1 _ _ rfl | assumption) (by simp only [n_lit, pk_mul, nI_add]) ⟨by omega, by omega⟩ ?_
  refine v_iconst 1 dX1_spread_8 (by decide) ?_
  refine v_istore dX1_spread_9 rfl (by decide) ?_
  skip
  refine v_pad (v_pad (v_pad (v_pad (v_pad ?_))))
  refine l1_spread G M hS hp hP hA hp2 ha hx hPl (2 ^ kn K 3 - 1) 1 none none none none none _ (by omega) (Nat.le_refl _) (Sj.rf.stj _ rfl) (fun T hT _ => ?_)
  obtain rfl : T = 0 := by omega
  rw [gJ_ss, nI_l (by omega)]
  have e1 : ∀ w, mF P a 0 w = P := by
    intro w
    induction w with
    | zero => rfl
    | succ w ih => rw [mF, Nat.zero_testBit, if_neg (by decide), ih]
  have e2 : ∀ w, xF x 0 w = 0 := by
    intro w
    induction w with
    | zero => rfl
    | succ w ih => rw [xF, Nat.zero_testBit, if_neg (by decide), ih]
  unfold mS xS
  rw [e1, e2, Nat.zero_mul, Nat.zero_add]
end D1
