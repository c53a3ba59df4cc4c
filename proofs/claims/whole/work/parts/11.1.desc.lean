/-! ===== the class: Describer, what it weighs ===== -/
theorem has0 {s k : Nat} (hs : s < 2 ^ 31) (hk : k < 32) : ((nI s >>> (nI k &&& 31)) &&& 1 = 0) ↔ s.testBit k = false := by
  rw [shrN hs hk, pk_andN (show s / 2 ^ k < 2 ^ 32 from Nat.lt_of_le_of_lt (Nat.div_le_self _ _) (by omega)) 1 (by decide), nI0 (by omega), Nat.testBit_eq_decide_div_mod_eq]
  have := Nat.mod_two_eq_zero_or_one (s / 2 ^ k)
  rw [decide_eq_false_iff_not]
  omega
def agP (M : mM) (s : Nat) (l : Bool) (c w d : Nat) : Bool := decide (((tvI M s l c ^^^ tvI M s l d) >>> (nI w &&& 31)) &&& 1 = 0)
def agA (M : mM) (s : Nat) (l : Bool) (c w : Nat) : Nat := bset 14 (agP M s l c w)
theorem agA_lt (M : mM) (s : Nat) (l : Bool) (c w : Nat) : agA M s l c w < 16384 := bset_lt _ 14
theorem agA_bit {M : mM} {s : Nat} {K : Nat → Int32} (h : StD M s K) (hP : WP K) (l : Bool) {c w d : Nat} (hc : c < kn K 2) (hd : d < kn K 2) (hw : w < 10) : (agA M s l c w).testBit d = ((trN K l c).testBit w == (trN K l d).testBit w) := by
  have h14 := hP.2.1.2
  unfold agA
  rw [bset_bit, decide_eq_true (show d < 14 by omega), Bool.true_and]
  unfold agP
  rw [tvI_n h l hc, tvI_n h l hd, nIxor]
  have t1 := trN_lt hP l c
  have t2 := trN_lt hP l d
  have hx : trN K l c ^^^ trN K l d < 1024 := Nat.xor_lt_two_pow (n := 10) t1 t2
  have e := has0 (s := trN K l c ^^^ trN K l d) (k := w) (by omega) (by omega)
  rw [Nat.testBit_xor] at e
  cases h1 : (trN K l c).testBit w <;> cases h2 : (trN K l d).testBit w <;> rw [h1, h2] at e <;> simp at e ⊢ <;> exact e
def Wwn (q _k : Nat) : Bool := Nat.beq q 203 || Nat.beq q 204
/-- what a word costs that is said as it holds for c -/
def xc (K : Nat → Int32) (c w : Nat) : Nat := wcN K w (!(trH K c).testBit w)
theorem dsc_lo {K : Nat → Int32} {c S w : Nat} (hw : w < 10) : (dsc K c S).testBit w = (S.testBit w && (trH K c).testBit w) := by
  unfold dsc
  rw [Nat.testBit_or, Nat.testBit_and, show (1024 : Nat) = 2 ^ 10 from rfl, tb_mul, decide_eq_false (by omega), Bool.false_and, Bool.or_false]
theorem dsc_hi {K : Nat → Int32} {c S w : Nat} (hS : S < 1024) : (dsc K c S).testBit (w + 10) = (S.testBit w && !(trH K c).testBit w) := by
  unfold dsc
  rw [Nat.testBit_or, Nat.testBit_and, show (1024 : Nat) = 2 ^ 10 from rfl, tb_mul, decide_eq_true (by omega), Bool.true_and, Nat.add_sub_cancel, dif_bit, testBit_big (n := 10) hS (by omega), Bool.false_and, Bool.false_or]
theorem dsc_mod {K : Nat → Int32} {c S : Nat} (hS : S < 1024) : dsc K c S % 1024 = S &&& trH K c ∧ dsc K c S / 1024 = dif S (trH K c) := by
  have h1 : S &&& trH K c < 1024 := Nat.lt_of_le_of_lt Nat.and_le_left hS
  unfold dsc
  rw [Nat.or_comm, show (1024 : Nat) = 2 ^ 10 from rfl, or_add (k := 10) h1]
  show _ % 1024 = _ ∧ _ / 1024 = _
  omega
/-- the costs of a set of words -/
theorem cost_dsc {K : Nat → Int32} (hP : WP K) {c S : Nat} (hS : S < 2 ^ kn K 3) : costN K (dsc K c S) = xS (xc K c) S := by
  have h10 := hP.2.2.1.2
  have hS10 : S < 1024 := Nat.lt_of_lt_of_le hS (show 2 ^ kn K 3 ≤ 2 ^ 10 from Nat.pow_le_pow_right (by omega) h10)
  have h1 : ∀ w, w ≤ 10 → costF K (dsc K c S) w = xF (xc K c) S w := by
    intro w
    induction w with
    | zero => intro _; rfl
    | succ w ih =>
      intro hw
      rw [costF_s, ih (by omega), xF]
      by_cases hb : S.testBit w = true
      · rw [if_pos hb]
        by_cases ht : (trH K c).testBit w = true
        · rw [costW_t (by rw [dsc_lo (by omega), hb, ht]; rfl), xc, ht]; rfl
        · rw [costW_d (by rw [dsc_lo (by omega), nt ht, Bool.and_false]; decide) (by rw [dsc_hi hS10, hb, nt ht]; rfl), xc, nt ht]; rfl
      · rw [if_neg hb, costW_n (by rw [dsc_lo (by omega), nt hb, Bool.false_and]; decide) (by rw [dsc_hi hS10, nt hb, Bool.false_and]; decide)]
        rfl
  have h2 : ∀ j, xF (xc K c) S (kn K 3 + j) = xF (xc K c) S (kn K 3) := by
    intro j
    induction j with
    | zero => rfl
    | succ j ih => rw [← Nat.add_assoc, xF, testBit_big hS (by omega), if_neg (by decide), ih]
  have := h2 (10 - kn K 3)
  rw [show kn K 3 + (10 - kn K 3) = 10 by omega] at this
  unfold costN xS
  rw [h1 _ h10, this]
/-- whom a set of words fits, from a pool of chests, by some light -/
theorem fit_bits {t h S : Nat} (hS : S < 1024) : (dif (S &&& t) h = 0 ∧ dif S t &&& h = 0) ↔ ∀ v, v < 10 → S.testBit v = true → (t.testBit v == h.testBit v) = true := by
  constructor
  · rintro ⟨e1, e2⟩ v hv hs
    have a : (dif (S &&& t) h).testBit v = false := by rw [e1, Nat.zero_testBit]
    have b : (dif S t &&& h).testBit v = false := by rw [e2, Nat.zero_testBit]
    rw [dif_bit, Nat.testBit_and, hs] at a
    rw [Nat.testBit_and, dif_bit, hs] at b
    revert a b
    cases t.testBit v <;> cases h.testBit v <;> simp
  · intro hall
    constructor
    · apply Nat.eq_of_testBit_eq; intro v
      rw [dif_bit, Nat.testBit_and, Nat.zero_testBit]
      by_cases hs : S.testBit v = true
      · have hv : v < 10 := Nat.lt_of_not_le (fun z => by rw [testBit_big (n := 10) hS z] at hs; cases hs)
        have := hall v hv hs
        rw [hs]
        revert this
        cases t.testBit v <;> cases h.testBit v <;> simp
      · rw [nt hs]; rfl
    · apply Nat.eq_of_testBit_eq; intro v
      rw [Nat.testBit_and, dif_bit, Nat.zero_testBit]
      by_cases hs : S.testBit v = true
      · have hv : v < 10 := Nat.lt_of_not_le (fun z => by rw [testBit_big (n := 10) hS z] at hs; cases hs)
        have := hall v hv hs
        rw [hs]
        revert this
        cases t.testBit v <;> cases h.testBit v <;> simp
      · rw [nt hs]; rfl
/-- the masks are whom a description fits -/
theorem mS_fit {K : Nat → Int32} (hP : WP K) {I c S : Nat} {a : Nat → Nat} (hI : I < 2 ^ kn K 2) (hS : S < 1024) (ha : ∀ w d, w < 10 → d < kn K 2 → (a w).testBit d = ((trH K c).testBit w == (trH K d).testBit w)) : mS I a S = fitN (kn K 2) I (trH K) (dsc K c S) := by
  obtain ⟨e1, e2⟩ := dsc_mod (K := K) (c := c) hS
  apply Nat.eq_of_testBit_eq
  intro i
  unfold fitN
  rw [bset_bit, e1, e2]
  unfold mS
  apply Bool.eq_iff_iff.mpr
  rw [mF_bit]
  by_cases hi : i < kn K 2
  · rw [decide_eq_true hi, Bool.true_and, Bool.and_eq_true, decide_eq_true_eq, fit_bits hS]
    constructor
    · rintro ⟨h1, h2⟩
      exact ⟨h1, fun v hv hs => by rw [← ha v i hv hi]; exact h2 v hv hs⟩
    · rintro ⟨h1, h2⟩
      exact ⟨h1, fun v hv hs => by rw [ha v i hv hi]; exact h2 v hv hs⟩
  · rw [decide_eq_false hi, testBit_big hI (by omega)]
    simp
section D2
variable (G : mG) (M : mM)
theorem l1_agreeing {s : Nat} {K : Nat → Int32} (hs : Str M s K) {c w : Nat} (hc : c < 14) (hw : w < 10) (l : Bool) : ∀ i d, d + i = 14 → V G Y1_agreeing 1 0 0 (Rv (some (.int (nI (agA M s l c w)))) M) NX 6 [some (.ref s), some (.int (nI c)), some (.int (nI w)), some (.int (bI (l = true))), some (.int (nI (bset d (agP M s l c w)))), some (.int (nI d))] [] M := by
  have hs1 := hs.1.1
  intro i
  induction i with
  | zero =>
    intro d hd
    obtain rfl : d = 14 := by omega
    refine v_iload dX1_agreeing_6 rfl ?_
    refine v_bipush 14 dX1_agreeing_8 (by decide) ?_
    refine v_icmp_ge 49 dX1_agreeing_10 (by decide) (fun h10 => ?_) (fun h10 => absurd (by decide) h10)
    refine v_iload dX1_agreeing_49 rfl ?_
    refine v_iret dX1_agreeing_51 rfl ?_
    exact ⟨rfl, rfl⟩
  | succ i ih =>
    intro d hd
    have hn := ih (d + 1) (by omega)
    by_cases hp : ((tvI M s l c ^^^ tvI M s l d) >>> (nI w &&& 31)) &&& 1 = 0
    · rw [← bset_p (p := agP M s l c w) (n := d) (by omega) (decide_eq_true hp)] at hn
      refine v_iload dX1_agreeing_6 rfl ?_
      refine v_bipush 14 dX1_agreeing_8 (by decide) ?_
      refine v_icmp_ge 49 dX1_agreeing_10 (by decide) (fun h10 => absurd ((nI_leI (a := 14) (by decide) (by omega)).mp h10) (by omega)) (fun h10 => ?_)
      refine v_aload_n dX1_agreeing_13 rfl ?_
      refine v_iload_n dX1_agreeing_14 rfl ?_
      refine v_iload_n dX1_agreeing_15 rfl ?_
      refine v_cV [_, _] (c7_truthBy G M hs hc l) k7_truthBy dX1_agreeing_16 l1_54 (by first | exact hS.1 _ _ rfl | exact hS'.1 _ _ rfl | assumption) (by decide) rfl (Nat.le_of_ble_eq_true rfl) (Nat.le_of_ble_eq_true rfl) ?_
      refine v_aload_n dX1_agreeing_19 rfl ?_
      refine v_iload dX1_agreeing_20 rfl ?_
      refine v_iload_n dX1_agreeing_22 rfl ?_
      refine v_cV [_, _] (c7_truthBy G M hs (by omega) l) k7_truthBy dX1_agreeing_23 l1_54 (by first | exact hS.1 _ _ rfl | exact hS'.1 _ _ rfl | assumption) (by decide) rfl (Nat.le_of_ble_eq_true rfl) (Nat.le_of_ble_eq_true rfl) ?_
      refine v_ixor dX1_agreeing_26 ?_
      refine v_iload_n dX1_agreeing_27 rfl ?_
      refine v_ishr dX1_agreeing_28 ?_
      refine v_iconst 1 dX1_agreeing_29 (by decide) ?_
      refine v_iand dX1_agreeing_30 ?_
      refine v_if_ne 43 dX1_agreeing_31 (by decide) (fun h31 => absurd hp h31) (fun h31 => ?_)
      refine v_iload dX1_agreeing_34 rfl ?_
      refine v_iconst 1 dX1_agreeing_36 (by decide) ?_
      refine v_iload dX1_agreeing_37 rfl ?_
      refine v_ishl dX1_agreeing_39 ?_
      refine v_ior dX1_agreeing_40 ?_
      refine v_istore dX1_agreeing_41 rfl (by decide) ?_
      refine v_iinc 1 dX1_agreeing_43 rfl (by decide) rfl (by decide) ?_
      refine v_goto 6 dX1_agreeing_46 (by decide) ?_
      (rw [nI_1]; exact hn)
    · rw [← bset_n (p := agP M s l c w) (n := d) (by omega) (decide_eq_false hp), Int32.or_zero] at hn
      refine v_iload dX1_agreeing_6 rfl ?_
      refine v_bipush 14 dX1_agreeing_8 (by decide) ?_
      refine v_icmp_ge 49 dX1_agreeing_10 (by decide) (fun h10 => absurd ((nI_leI (a := 14) (by decide) (by omega)).mp h10) (by omega)) (fun h10 => ?_)
      refine v_aload_n dX1_agreeing_13 rfl ?_
      refine v_iload_n dX1_agreeing_14 rfl ?_
      refine v_iload_n dX1_agreeing_15 rfl ?_
      refine v_cV [_, _] (c7_truthBy G M hs hc l) k7_truthBy dX1_agreeing_16 l1_54 (by first | exact hS.1 _ _ rfl | exact hS'.1 _ _ rfl | assumption) (by decide) rfl (Nat.le_of_ble_eq_true rfl) (Nat.le_of_ble_eq_true rfl) ?_
      refine v_aload_n dX1_agreeing_19 rfl ?_
      refine v_iload dX1_agreeing_20 rfl ?_
      refine v_iload_n dX1_agreeing_22 rfl ?_
      refine v_cV [_, _] (c7_truthBy G M hs (by omega) l) k7_truthBy dX1_agreeing_23 l1_54 (by first | exact hS.1 _ _ rfl | exact hS'.1 _ _ rfl | assumption) (by decide) rfl (Nat.le_of_ble_eq_true rfl) (Nat.le_of_ble_eq_true rfl) ?_
      refine v_ixor dX1_agreeing_26 ?_
      refine v_iload_n dX1_agreeing_27 rfl ?_
      refine v_ishr dX1_agreeing_28 ?_
      refine v_iconst 1 dX1_agreeing_29 (by decide) ?_
      refine v_iand dX1_agreeing_30 ?_
      refine v_if_ne 43 dX1_agreeing_31 (by decide) (fun h31 => ?_) (fun h31 => absurd (Decidable.not_not.mp h31) hp)
      refine v_iinc 1 dX1_agreeing_43 rfl (by decide) rfl (by decide) ?_
      refine v_goto 6 dX1_agreeing_46 (by decide) ?_
      (rw [nI_1]; exact hn)
theorem c1_agreeing {s : Nat} {K : Nat → Int32} (hs : Str M s K) {c w : Nat} (hc : c < 14) (hw : w < 10) (l : Bool) : Ct G Y1_agreeing 1 0 0 [.ref s, .int (nI c), .int (nI w), .int (bI (l = true))] M (Rv (some (.int (nI (agA M s l c w)))) M) NX := by
  refine Ct.of k1_agreeing.1 (Nat.le_of_ble_eq_true rfl) ?_
  refine v_iconst 0 dX1_agreeing_0 (by decide) ?_
  refine v_istore dX1_agreeing_1 rfl (by decide) ?_
  refine v_iconst 0 dX1_agreeing_3 (by decide) ?_
  refine v_istore dX1_agreeing_4 rfl (by decide) ?_
  -- at 6: .iload 5
  exact l1_agreeing G M hs hc hw l 14 0 (by omega)
theorem agA_mv {M M' : mM} {s : Nat} (e2 : gI M' (s + 2) = gI M (s + 2)) (e3 : gI M' (s + 3) = gI M (s + 3)) (l : Bool) (c w : Nat) : agA M' s l c w = agA M s l c w := by
  unfold agA agP tvI
  rw [e2, e3]
theorem l1_weighNow (hS : Sh M) {s p cd n : Nat} {K : Nat → Int32} (hs : Str M s K) (hp : Plr M p cd n K) (hW : WK K) (h203 : ∀ q, (s ≤ q ∧ q ≤ s + 5) ∨ (p ≤ q ∧ q ≤ p + 6) ∨ q = cd → q ≠ 203 ∧ q ≠ 204) {c : Nat} (hc : c < kn K 2) :
    ∀ i w M', w + i = kn K 3 → Sm Wwn M M' → (∀ v, v < w → gI M' 203 v = nI (agA M s (litB K) c v) ∧ gI M' 204 v = nI (xc K c v)) →
    V G Y1_weighNow 2 0 0 (Rs none (fun M' => Sm Wwn M M' ∧ ∀ v, v < kn K 3 → gI M' 203 v = nI (agA M s (litB K) c v) ∧ gI M' 204 v = nI (xc K c v))) NX 3 [some (.ref 201), some (.ref p), some (.ref s), some (.int (nI c)), some (.int (nI w))] [] M' := by
  have h10 := hW.p.2.2.1.2
  have h14 := hW.p.2.1.2
  have hwo : ∀ q, (s ≤ q ∧ q ≤ s + 5) ∨ (p ≤ q ∧ q ≤ p + 6) ∨ q = cd → ∀ k, Wwn q k = false := fun q hq k => by
    unfold Wwn
    rw [nbeq_f (h203 q hq).1, nbeq_f (h203 q hq).2]
    rfl
  intro i
  induction i with
  | zero =>
    intro w M' hw hM hv
    have hS' := hS.sm hM
    have hp' := hp.mv hM.2.1 hM.2.2.2.1 (by rw [hM.2.2.1]) (fun q hq => hM.row (hwo q (Or.inr hq)))
    obtain ⟨⟨p1, p2, p3, p4, p5, p6, p7, p8, p9, p10, p11, p12, p13, p14⟩, ⟨e1, e2, e3, e4, e5, e6, e7⟩, g2, g3, g4, g5, g6, g7⟩ := hp'
    obtain rfl : w = kn K 3 := by omega
    refine v_iload dX1_weighNow_3 rfl ?_
    refine v_aload_n dX1_weighNow_5 rfl ?_
    refine v_getI 4 4 dX1_weighNow_6 f1_58 (by first | exact hS.1 _ _ rfl | exact hS'.1 _ _ rfl | assumption) (by decide) ?_
    rw [e4, hW.p.2.2.1.1]
    refine v_icmp_ge 68 dX1_weighNow_9 (by decide) (fun h9 => ?_) (fun h9 => absurd (nI_le (Nat.le_refl _) (by omega)) h9)
    refine v_vret dX1_weighNow_68 rfl ?_
    exact ⟨rfl, hM, hv⟩
  | succ i ih =>
    intro w M' hw hM hv
    have hS' := hS.sm hM
    have hp' := hp.mv hM.2.1 hM.2.2.2.1 (by rw [hM.2.2.1]) (fun q hq => hM.row (hwo q (Or.inr hq)))
    have hs' := hs.mv hM.2.1 hM.2.2.2.1 (fun q h1 h2 => hM.row (hwo q (Or.inl ⟨h1, h2⟩)))
    have hp0 := hp'
    have hs1 := hs'.1.1
    have e8 := hs'.2.2.2.2.2.2
    obtain ⟨⟨p1, p2, p3, p4, p5, p6, p7, p8, p9, p10, p11, p12, p13, p14⟩, ⟨e1, e2, e3, e4, e5, e6, e7⟩, g2, g3, g4, g5, g6, g7⟩ := hp'
    have ea : agA M' s (litB K) c w = agA M s (litB K) c w := agA_mv (hM.row (hwo _ (Or.inl ⟨by omega, by omega⟩))) (hM.row (hwo _ (Or.inl ⟨by omega, by omega⟩))) _ _ _
    refine v_iload dX1_weighNow_3 rfl ?_
    refine v_aload_n dX1_weighNow_5 rfl ?_
    refine v_getI 4 4 dX1_weighNow_6 f1_58 (by first | exact hS.1 _ _ rfl | exact hS'.1 _ _ rfl | assumption) (by decide) ?_
    rw [e4, hW.p.2.2.1.1]
    refine v_icmp_ge 68 dX1_weighNow_9 (by decide) (fun h9 => absurd ((nI_leI (by omega) (by omega)).mp h9) (by omega)) (fun h9 => ?_)
    refine v_aload_n dX1_weighNow_12 rfl ?_
    refine v_getR 1 1 _ dX1_weighNow_13 f1_15 (by first | exact hS.1 _ _ rfl | exact hS'.1 _ _ rfl | assumption) (by decide) (by first | exact hS.2 _ _ _ rfl | exact hS'.2 _ _ _ rfl | assumption) ?_
    refine v_iload dX1_weighNow_16 rfl ?_
    refine v_aload_n dX1_weighNow_18 rfl ?_
    refine v_iload_n dX1_weighNow_19 rfl ?_
    refine v_iload dX1_weighNow_20 rfl ?_
    refine v_aload_n dX1_weighNow_22 rfl ?_
    refine v_getI 7 8 dX1_weighNow_23 f1_89 (by first | exact hS.1 _ _ rfl | exact hS'.1 _ _ rfl | assumption) (by decide) ?_
    rw [e8, lit_eq hW]
    refine v_cS [_, _, _, _] (c1_agreeing G M' hs' (by omega) (by omega) _) k1_agreeing dX1_weighNow_26 l1_61 rfl (Nat.le_of_ble_eq_true rfl) (Nat.le_of_ble_eq_true rfl) ?_
    skip
    rw [ea]
    refine v_iastN w dX1_weighNow_29 (hS'.1 203 _ rfl) rfl ⟨by omega, by decide⟩ ?_
    have m2 : Sm Wwn M (sI M' 203 w (nI (agA M s (litB K) c w))) := hM.st _ rfl
    obtain ⟨M2, e2⟩ : ∃ M2, M2 = sI M' 203 w (nI (agA M s (litB K) c w)) := ⟨_, rfl⟩
    rw [← e2] at m2 ⊢
    have hS2 := hS.sm m2
    have hp2 := hp.mv m2.2.1 m2.2.2.2.1 (by rw [m2.2.2.1]) (fun q hq => m2.row (hwo q (Or.inr hq)))
    have hs2 := hs.mv m2.2.1 m2.2.2.2.1 (fun q h1 h2 => m2.row (hwo q (Or.inl ⟨h1, h2⟩)))
    have hs21 := hs2.1.1
    have t1 : trH K c < 1024 := trN_lt hW.p (litB K) c
    have h0 := has0 (s := trH K c) (k := w) (by omega) (by omega)
    have fin : ∀ b : Bool, b = (!(trH K c).testBit w) → V G Y1_weighNow 2 0 0 (Rs none (fun M' => Sm Wwn M M' ∧ ∀ v, v < kn K 3 → gI M' 203 v = nI (agA M s (litB K) c v) ∧ gI M' 204 v = nI (xc K c v))) NX 58 [some (.ref 201), some (.ref p), some (.ref s), some (.int (nI c)), some (.int (nI w))] [.int (bI (b = true)), .int (nI w), .ref p, .ref s, .int (nI w), .ref 204] M2 := by
      intro b eb
      have hcon := c7_wordCost G M2 hs2 hp2 hW (w := w) (by omega) b
      rw [eb] at hcon ⊢
      refine v_cV [_, _, _] (hcon) k7_wordCost dX1_weighNow_58 l1_65 (by first | exact hS.1 _ _ rfl | exact hS'.1 _ _ rfl | assumption) (by decide) rfl (Nat.le_of_ble_eq_true rfl) (Nat.le_of_ble_eq_true rfl) ?_
      skip
      refine v_iastN w dX1_weighNow_61 (hS2.1 204 _ rfl) rfl ⟨by omega, by decide⟩ ?_
      refine v_iinc 1 dX1_weighNow_62 rfl (by decide) rfl (by decide) ?_
      refine v_goto 3 dX1_weighNow_65 (by decide) ?_
      -- at 3: .iload 4
      rw [nI_1]
      refine ih (w + 1) _ (by omega) (m2.st _ rfl) (fun v hv2 => ?_)
      rw [gI_sq _ _ (by decide), e2]
      by_cases e : v = w
      · subst e
        exact ⟨gI_ss _ _ _ _, gI_ss _ _ _ _⟩
      · rw [gI_sk _ _ e, gI_sk _ _ e, gI_sq _ _ (by decide)]
        exact hv v (by omega)
    refine v_aload_n dX1_weighNow_30 rfl ?_
    refine v_getR 1 2 _ dX1_weighNow_31 f1_19 (by first | exact hS2.1 _ _ rfl | assumption) (by decide) (by first | exact hS2.2 _ _ _ rfl | assumption) ?_
    refine v_iload dX1_weighNow_34 rfl ?_
    refine v_aload_n dX1_weighNow_36 rfl ?_
    refine v_aload_n dX1_weighNow_37 rfl ?_
    refine v_iload dX1_weighNow_38 rfl ?_
    refine v_aload_n dX1_weighNow_40 rfl ?_
    refine v_iload_n dX1_weighNow_41 rfl ?_
    refine v_cV [_] (c7_truthN G M2 hs2 hW hc) k7_truth dX1_weighNow_42 l1_46 (by first | exact hS2.1 _ _ rfl | assumption) (by decide) rfl (Nat.le_of_ble_eq_true rfl) (Nat.le_of_ble_eq_true rfl) ?_
    refine v_iload dX1_weighNow_45 rfl ?_
    refine v_ishr dX1_weighNow_47 ?_
    refine v_iconst 1 dX1_weighNow_48 (by decide) ?_
    refine v_iand dX1_weighNow_49 ?_
    refine v_if_ne 57 dX1_weighNow_50 (by decide) (fun h50 => ?_) (fun h50 => ?_)
    · refine v_iconst 0 dX1_weighNow_57 (by decide) ?_
      first | exact fin false (by rw [show (trH K c).testBit w = true from by cases hb : (trH K c).testBit w; exact absurd (h0.mpr hb) h50; rfl]; rfl) | exact fin true (by rw [h0.mp (Decidable.not_not.mp h50)]; rfl)
    · refine v_iconst 1 dX1_weighNow_53 (by decide) ?_
      refine v_goto 58 dX1_weighNow_54 (by decide) ?_
      first | exact fin false (by rw [show (trH K c).testBit w = true from by cases hb : (trH K c).testBit w; exact absurd (h0.mpr hb) h50; rfl]; rfl) | exact fin true (by rw [h0.mp (Decidable.not_not.mp h50)]; rfl)
theorem c1_weighNow (hS : Sh M) {s p cd n : Nat} {K : Nat → Int32} (hs : Str M s K) (hp : Plr M p cd n K) (hW : WK K) (h203 : ∀ q, (s ≤ q ∧ q ≤ s + 5) ∨ (p ≤ q ∧ q ≤ p + 6) ∨ q = cd → q ≠ 203 ∧ q ≠ 204) {c : Nat} (hc : c < kn K 2) :
    Ct G Y1_weighNow 2 0 0 [.ref 201, .ref p, .ref s, .int (nI c)] M (Rs none (fun M' => Sm Wwn M M' ∧ ∀ v, v < kn K 3 → gI M' 203 v = nI (agA M s (litB K) c v) ∧ gI M' 204 v = nI (xc K c v))) NX := by
  refine Ct.of k1_weighNow.1 (Nat.le_of_ble_eq_true rfl) ?_
  refine v_iconst 0 dX1_weighNow_0 (by decide) ?_
  refine v_istore dX1_weighNow_1 rfl (by decide) ?_
  -- at 3: .iload 4
  exact l1_weighNow G M hS hs hp hW h203 hc (kn K 3) 0 M (by omega) Sm.rf (fun v hv => absurd hv (by omega))
end D2
