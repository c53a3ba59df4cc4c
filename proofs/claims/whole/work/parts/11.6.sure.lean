/-! ===== the class: Describer, by any light ===== -/
theorem dsT_lo {t S w : Nat} (hw : w < 10) : (dsT t S).testBit w = (S.testBit w && t.testBit w) := by
  unfold dsT
  rw [Nat.testBit_or, Nat.testBit_and, show (1024 : Nat) = 2 ^ 10 from rfl, tb_mul, decide_eq_false (by omega), Bool.false_and, Bool.or_false]
theorem dsT_hi {t S w : Nat} (hS : S < 1024) : (dsT t S).testBit (w + 10) = (S.testBit w && !t.testBit w) := by
  unfold dsT
  rw [Nat.testBit_or, Nat.testBit_and, show (1024 : Nat) = 2 ^ 10 from rfl, tb_mul, decide_eq_true (by omega), Bool.true_and, Nat.add_sub_cancel, dif_bit, testBit_big (n := 10) hS (by omega), Bool.false_and, Bool.false_or]
theorem dsT_mod {t S : Nat} (hS : S < 1024) : dsT t S % 1024 = S &&& t ∧ dsT t S / 1024 = dif S t := by
  have h1 : S &&& t < 1024 := Nat.lt_of_le_of_lt Nat.and_le_left hS
  unfold dsT
  rw [Nat.or_comm, show (1024 : Nat) = 2 ^ 10 from rfl, or_add (k := 10) h1]
  show _ % 1024 = _ ∧ _ / 1024 = _
  omega
theorem dsT_cg {t t' S : Nat} (h : ∀ v, S.testBit v = true → t.testBit v = t'.testBit v) : dsT t S = dsT t' S := by
  have e1 : S &&& t = S &&& t' := by
    apply Nat.eq_of_testBit_eq; intro i
    rw [Nat.testBit_and, Nat.testBit_and]
    cases hs : S.testBit i
    · rfl
    · rw [h i hs]
  have e2 : dif S t = dif S t' := by
    apply Nat.eq_of_testBit_eq; intro i
    rw [dif_bit, dif_bit]
    cases hs : S.testBit i
    · rfl
    · rw [h i hs]
  unfold dsT
  rw [e1, e2]
def xT (K : Nat → Int32) (t w : Nat) : Nat := wcN K w (!t.testBit w)
theorem cost_dsT {K : Nat → Int32} (hP : WP K) {t S : Nat} (hS : S < 2 ^ kn K 3) : costN K (dsT t S) = xS (xT K t) S := by
  have h10 := hP.2.2.1.2
  have hS10 : S < 1024 := Nat.lt_of_lt_of_le hS (show 2 ^ kn K 3 ≤ 2 ^ 10 from Nat.pow_le_pow_right (by omega) h10)
  have h1 : ∀ w, w ≤ 10 → costF K (dsT t S) w = xF (xT K t) S w := by
    intro w
    induction w with
    | zero => intro _; rfl
    | succ w ih =>
      intro hw
      rw [costF_s, ih (by omega), xF]
      by_cases hb : S.testBit w = true
      · rw [if_pos hb]
        by_cases ht : t.testBit w = true
        · rw [costW_t (by rw [dsT_lo (by omega), hb, ht]; rfl), xT, ht]; rfl
        · rw [costW_d (by rw [dsT_lo (by omega), nt ht, Bool.and_false]; decide) (by rw [dsT_hi hS10, hb, nt ht]; rfl), xT, nt ht]; rfl
      · rw [if_neg hb, costW_n (by rw [dsT_lo (by omega), nt hb, Bool.false_and]; decide) (by rw [dsT_hi hS10, nt hb, Bool.false_and]; decide)]
        rfl
  have h2 : ∀ j, xF (xT K t) S (kn K 3 + j) = xF (xT K t) S (kn K 3) := by
    intro j
    induction j with
    | zero => rfl
    | succ j ih => rw [← Nat.add_assoc, xF, testBit_big hS (by omega), if_neg (by decide), ih]
  have := h2 (10 - kn K 3)
  rw [show kn K 3 + (10 - kn K 3) = 10 by omega] at this
  unfold costN xS
  rw [h1 _ h10, this]
theorem mS_fitT {nc I t S : Nat} {h a : Nat → Nat} (hI : I < 2 ^ nc) (hS : S < 1024) (ha : ∀ w d, w < 10 → d < nc → (a w).testBit d = (t.testBit w == (h d).testBit w)) : mS I a S = fitN nc I h (dsT t S) := by
  obtain ⟨e1, e2⟩ := dsT_mod (t := t) hS
  apply Nat.eq_of_testBit_eq
  intro i
  unfold fitN
  rw [bset_bit, e1, e2]
  unfold mS
  apply Bool.eq_iff_iff.mpr
  rw [mF_bit]
  by_cases hi : i < nc
  · rw [decide_eq_true hi, Bool.true_and, Bool.and_eq_true, decide_eq_true_eq, fit_bits hS]
    constructor
    · rintro ⟨h1, h2⟩
      exact ⟨h1, fun v hv hs => by rw [← ha v i hv hi]; exact h2 v hv hs⟩
    · rintro ⟨h1, h2⟩
      exact ⟨h1, fun v hv hs => by rw [ha v i hv hi]; exact h2 v hv hs⟩
  · rw [decide_eq_false hi, testBit_big hI (by omega)]
    simp
/-- both lights side by side -/
def agD (M : mM) (s c w : Nat) : Nat := agA M s false c w ||| agA M s true c w * 16384
theorem mS_two {I S : Nat} {a b : Nat → Nat} (hI : I < 16384) (ha : ∀ w, a w < 16384) : mS (I ||| I * 16384) (fun w => a w ||| b w * 16384) S = mS I a S ||| mS I b S * 16384 := by
  apply Nat.eq_of_testBit_eq
  intro i
  apply Bool.eq_iff_iff.mpr
  unfold mS
  rw [Nat.testBit_or, Bool.or_eq_true, show (16384 : Nat) = 2 ^ 14 from rfl, tb_mul, mF_bit, mF_bit, Bool.and_eq_true, decide_eq_true_eq, mF_bit, Nat.testBit_or, Bool.or_eq_true, tb_mul, Bool.and_eq_true, decide_eq_true_eq]
  by_cases hi : i < 14
  · constructor
    · rintro ⟨h1, h2⟩
      left
      refine ⟨?_, fun v hv hs => ?_⟩
      · rcases h1 with h1 | h1
        · exact h1
        · omega
      · have := h2 v hv hs
        rw [Nat.testBit_or, Bool.or_eq_true, tb_mul, Bool.and_eq_true, decide_eq_true_eq] at this
        rcases this with h | h
        · exact h
        · omega
    · rintro (⟨h1, h2⟩ | ⟨h1, h2⟩)
      · refine ⟨Or.inl h1, fun v hv hs => ?_⟩
        rw [Nat.testBit_or, h2 v hv hs]; rfl
      · omega
  · have hIi : I.testBit i = false := testBit_big (n := 14) hI (by omega)
    have hai : ∀ v, (a v).testBit i = false := fun v => testBit_big (n := 14) (ha v) (by omega)
    constructor
    · rintro ⟨h1, h2⟩
      right
      rcases h1 with h1 | h1
      · rw [hIi] at h1; cases h1
      · refine ⟨h1.1, h1.2, fun v hv hs => ?_⟩
        have := h2 v hv hs
        rw [Nat.testBit_or, hai, Bool.false_or, tb_mul, Bool.and_eq_true, decide_eq_true_eq] at this
        exact this.2
    · rintro (⟨h1, h2⟩ | ⟨h1, h2, h3⟩)
      · rw [hIi] at h1; cases h1
      · refine ⟨Or.inr ⟨h1, h2⟩, fun v hv hs => ?_⟩
        rw [Nat.testBit_or, hai, Bool.false_or, tb_mul, h3 v hv hs, decide_eq_true h1]; rfl
theorem mnF_cut {ok : Nat → Bool} {cs ds : Nat → Nat} {a : Nat} : ∀ j, (∀ s, a ≤ s → s < a + j → ok s = false) → mnF ok cs ds (a + j) = mnF ok cs ds a := by
  intro j
  induction j with
  | zero => intro _; rfl
  | succ j ih =>
    intro h
    rw [← Nat.add_assoc, mnF_f (by rw [h _ (by omega) (by omega)]; decide)]
    exact ih (fun s h1 h2 => h s h1 (by omega))
/-- the words by which c is the same in both lights -/
def suA (K : Nat → Int32) (c : Nat) : Nat := dif (2 ^ kn K 3 - 1) (trN K false c ^^^ trN K true c)
theorem fits_self {K : Nat → Int32} {I c S t : Nat} {h : Nat → Nat} (hS : S < 1024) (hc : c < kn K 2) (hf : fitN (kn K 2) I h (dsT t S) = 2 ^ c) : ∀ v, v < 10 → S.testBit v = true → t.testBit v = (h c).testBit v := by
  have hb : (fitN (kn K 2) I h (dsT t S)).testBit c = true := by rw [hf, Nat.testBit_two_pow]; simp
  unfold fitN at hb
  obtain ⟨e1, e2⟩ := dsT_mod (t := t) hS
  rw [bset_bit, e1, e2, Bool.and_eq_true, Bool.and_eq_true, decide_eq_true_eq, decide_eq_true_eq, fit_bits hS] at hb
  intro v hv hs
  exact eq_of_beq (hb.2.2 v hv hs)
theorem su_bit {K : Nat → Int32} (hP : WP K) {c S : Nat} (hS : S < 2 ^ kn K 3) : dif S (suA K c) = 0 ↔ ∀ v, S.testBit v = true → (trN K false c).testBit v = (trN K true c).testBit v := by
  constructor
  · intro h v hs
    have : (dif S (suA K c)).testBit v = false := by rw [h, Nat.zero_testBit]
    rw [dif_bit, hs] at this
    have h2 : (suA K c).testBit v = true := by simpa using this
    unfold suA at h2
    rw [dif_bit, Nat.testBit_xor] at h2
    revert h2
    cases (trN K false c).testBit v <;> cases (trN K true c).testBit v <;> simp
  · intro h
    apply Nat.eq_of_testBit_eq; intro v
    rw [dif_bit, Nat.zero_testBit]
    cases hs : S.testBit v
    · rfl
    · have hv : v < kn K 3 := Nat.lt_of_not_le (fun z => by rw [testBit_big hS z] at hs; cases hs)
      unfold suA
      rw [dif_bit, Nat.testBit_xor, h v hs, Nat.testBit_two_pow_sub_one, decide_eq_true hv]
      simp
theorem trH_or (K : Nat → Int32) (c : Nat) : trH K c = trN K false c ∨ trH K c = trN K true c := by
  unfold trH
  cases litB K
  · exact Or.inl rfl
  · exact Or.inr rfl
theorem row_sure {M : mM} {s : Nat} {K : Nat → Int32} (hd : StD M s K) (hW : WK K) {c : Nat} (hc : c < kn K 2) : mnF (okG (suA K c) (kn K 93 ||| kn K 93 * 16384) (agD M s c) (2 ^ c ||| 2 ^ c * 16384)) (xS (xT K (trN K false c))) (dsT (trN K false c)) (suA K c + 1) = lstN K c (2 ^ kn K 3 - 1) true := by
  have h14 := hW.p.2.1.2
  have hin := in_lt hW.p hW.i
  have haw := aw_lt hW.p
  have hpw := Nat.one_le_two_pow (n := kn K 3)
  have hA : suA K c < 2 ^ kn K 3 := dif_le _ _ (by omega)
  have c2 := two_pow_lt (c := c) (by omega)
  have key : ∀ S, S < 2 ^ kn K 3 → okG (suA K c) (kn K 93 ||| kn K 93 * 16384) (agD M s c) (2 ^ c ||| 2 ^ c * 16384) S = okL K c (2 ^ kn K 3 - 1) true S := by
    intro S hS
    have hS10 : S < 1024 := by omega
    unfold okG okL
    rw [decide_eq_true (dif_low.mpr hS), if_pos rfl, Bool.true_and]
    have em : mS (kn K 93 ||| kn K 93 * 16384) (agD M s c) S = fitN (kn K 2) (kn K 93) (trN K false) (dsT (trN K false c) S) ||| fitN (kn K 2) (kn K 93) (trN K true) (dsT (trN K true c) S) * 16384 := by
      rw [show agD M s c = fun w => agA M s false c w ||| agA M s true c w * 16384 from rfl, mS_two hin (fun w => agA_lt M s false c w)]
      rw [mS_fitT (a := fun w => agA M s false c w) (t := trN K false c) (h := trN K false) hW.i.2 hS10 (fun w d hw hdd => agA_bit hd hW.p false hc hdd hw)]
      rw [mS_fitT (a := fun w => agA M s true c w) (t := trN K true c) (h := trN K true) hW.i.2 hS10 (fun w d hw hdd => agA_bit hd hW.p true hc hdd hw)]
    rw [em]
    have f1 := fitN_lt (I := kn K 93) h14 (trN K false) (dsT (trN K false c) S)
    have f2 := fitN_lt (I := kn K 93) h14 (trN K true) (dsT (trN K true c) S)
    have split : ∀ x y, x < 16384 → y < 16384 → ((x ||| y * 16384 = 2 ^ c ||| 2 ^ c * 16384) ↔ (x = 2 ^ c ∧ y = 2 ^ c)) := by
      intro x y hx hy
      have a1 := or_add (c := y) (k := 14) (m := x) hx
      have a2 := or_add (c := 2 ^ c) (k := 14) (m := 2 ^ c) c2
      rw [Nat.or_comm x, Nat.or_comm (2 ^ c), show (16384 : Nat) = 2 ^ 14 from rfl, a1, a2]
      constructor
      · intro h; omega
      · rintro ⟨h1, h2⟩; rw [h1, h2]
    apply Bool.eq_iff_iff.mpr
    rw [Bool.and_eq_true, Bool.and_eq_true, decide_eq_true_eq, decide_eq_true_eq, split _ _ f1 f2, su_bit hW.p hS]
    unfold telB
    rw [decide_eq_true_eq, decide_eq_true_eq, show dsc K c S = dsT (trH K c) S from rfl]
    constructor
    · rintro ⟨h1, h2, h3⟩
      have e1 : dsT (trH K c) S = dsT (trN K false c) S := dsT_cg (fun v hv => by
        rcases trH_or K c with e | e
        · rw [e]
        · rw [e, h1 v hv])
      have e2 : dsT (trH K c) S = dsT (trN K true c) S := dsT_cg (fun v hv => by
        rcases trH_or K c with e | e
        · rw [e, h1 v hv]
        · rw [e])
      refine ⟨?_, ?_⟩
      · rw [e1]; exact h2
      · rw [e2]; exact h3
    · rintro ⟨h2, h3⟩
      have g2 := fits_self hS10 hc h2
      have g3 := fits_self hS10 hc h3
      have hv10 : ∀ v, S.testBit v = true → v < 10 := fun v hv => Nat.lt_of_not_le (fun z => by rw [testBit_big (n := 10) hS10 z] at hv; cases hv)
      have e1 : dsT (trH K c) S = dsT (trN K false c) S := dsT_cg (fun v hv => g2 v (hv10 v hv) hv)
      have e2 : dsT (trH K c) S = dsT (trN K true c) S := dsT_cg (fun v hv => g3 v (hv10 v hv) hv)
      refine ⟨fun v hv => (g2 v (hv10 v hv) hv).symm.trans (g3 v (hv10 v hv) hv), ?_, ?_⟩
      · rw [← e1]; exact h2
      · rw [← e2]; exact h3
  have cut : mnF (okG (suA K c) (kn K 93 ||| kn K 93 * 16384) (agD M s c) (2 ^ c ||| 2 ^ c * 16384)) (xS (xT K (trN K false c))) (dsT (trN K false c)) (2 ^ kn K 3 - 1 + 1) = mnF (okG (suA K c) (kn K 93 ||| kn K 93 * 16384) (agD M s c) (2 ^ c ||| 2 ^ c * 16384)) (xS (xT K (trN K false c))) (dsT (trN K false c)) (suA K c + 1) := by
    have := mnF_cut (ok := okG (suA K c) (kn K 93 ||| kn K 93 * 16384) (agD M s c) (2 ^ c ||| 2 ^ c * 16384)) (cs := xS (xT K (trN K false c))) (ds := dsT (trN K false c)) (a := suA K c + 1) (2 ^ kn K 3 - 1 + 1 - (suA K c + 1)) (fun S h1 h2 => by
      unfold okG
      rw [decide_eq_false (fun z => ?_), Bool.false_and]
      have : S &&& suA K c = S := by
        apply Nat.eq_of_testBit_eq; intro i
        rw [Nat.testBit_and]
        cases hb : S.testBit i
        · rfl
        · rw [sub_bit z hb]; rfl
      have := Nat.and_le_right (n := S) (m := suA K c)
      omega)
    rw [show suA K c + 1 + (2 ^ kn K 3 - 1 + 1 - (suA K c + 1)) = 2 ^ kn K 3 - 1 + 1 by omega] at this
    exact this
  rw [← cut]
  unfold lstN
  refine mnF_ext _ (fun S hS => key S (by omega)) (fun S hS hok => ?_)
  have hsu : dif S (suA K c) = 0 := by
    unfold okG at hok
    rw [Bool.and_eq_true, decide_eq_true_eq] at hok
    exact hok.1
  have hag := (su_bit hW.p (show S < 2 ^ kn K 3 by omega)).mp hsu
  have e1 : dsc K c S = dsT (trN K false c) S := dsT_cg (fun v hv => by
    rcases trH_or K c with e | e
    · rw [e]
    · rw [e, hag v hv])
  rw [e1]
  exact ⟨(cost_dsT hW.p (by omega)).symm, rfl⟩
section D6
variable (G : mG) (M : mM)
theorem l1_sure (hS : Sh M) {s p cd n : Nat} {K : Nat → Int32} (hs : Str M s K) (hp : Plr M p cd n K) (hW : WK K) (ha : Ap2 s p cd) {c : Nat} (hc : c < kn K 2) :
    ∀ i w M', w + i = kn K 3 → Sm Wwn M M' → (∀ v, v < w → gI M' 203 v = nI (agD M s c v) ∧ gI M' 204 v = nI (xT K (trN K false c) v)) →
    V G Y1_cheapestByAnLight 2 0 0 (Rs (some (.long (encL (lstN K c (2 ^ kn K 3 - 1) true)))) (Sj Wde J202 M)) NX 29 [some (.ref 201), some (.ref p), some (.ref s), some (.int (nI c)), some (.int (nI (trN K false c))), some (.int (nI (suA K c))), some (.int (nI w))] [] M' := by
  have h10 := hW.p.2.2.1.2
  have h14 := hW.p.2.1.2
  have hin := in_lt hW.p hW.i
  have haw := aw_lt hW.p
  have hpw := Nat.one_le_two_pow (n := kn K 3)
  have hA : suA K c < 2 ^ kn K 3 := dif_le _ _ (by omega)
  have c2 := two_pow_lt (c := c) (by omega)
  have c3 : 2 ^ (c + 14) = 2 ^ c * 16384 := by rw [Nat.pow_add]
  have td : trN K false c < 1024 := trN_lt hW.p _ _
  intro i
  induction i with
  | zero =>
    intro w M' hw hM hv
    have hS' := hS.sm hM
    have hs' := hs.sj (sw_d hM) (fun q k h1 h2 => Wde_o (ha.h203 q (Or.inl ⟨h1, h2⟩)) k)
    have hp' := hp.sj (sw_d hM) (fun k => nbeq_f (by have := ha.2 p (Or.inl ⟨by omega, by omega⟩); omega)) (fun q k hq => Wde_o (ha.h203 q (Or.inr hq)) k)
    have hs1 := hs'.1.1
    have e5 := hs'.2.2.2.1
    have hp0 := hp'
    obtain ⟨⟨p1, p2, p3, p4, p5, p6, p7, p8, p9, p10, p11, p12, p13, p14⟩, ⟨e1, e2, e3, e4, e5', e6, e7⟩, g2, g3, g4, g5, g6, g7⟩ := hp'
    obtain rfl : w = kn K 3 := by omega
    have hpool : kn K 93 ||| kn K 93 * 16384 < 2 ^ 28 := Nat.or_lt_two_pow (show kn K 93 < 2 ^ 28 by omega) (show kn K 93 * 16384 < 2 ^ 28 by omega)
    have hcon := c1_spread G M' hS' (A := suA K c) (P := kn K 93 ||| kn K 93 * 16384) (a := agD M s c) (x := xT K (trN K false c)) hp0 hW.p (by omega) (by have := ha.2 p (Or.inl ⟨by omega, by omega⟩); omega) (fun w hw => (hv w hw).1) (fun w hw => ⟨(hv w hw).2, wcN_le hW.p (by omega) _⟩) hpool
    have f14 : nI (kn K 93) <<< ((14 : Int32) &&& 31) = nI (kn K 93 * 16384) := shlN (c := 14) (by decide) (by omega)
    refine v_iload dX1_cheapestByAnyLight_29 rfl ?_
    refine v_aload_n dX1_cheapestByAnyLight_31 rfl ?_
    refine v_getI 4 4 dX1_cheapestByAnyLight_32 f1_58 (by first | exact hS.1 _ _ rfl | exact hS'.1 _ _ rfl | assumption) (by decide) ?_
    rw [e4, hW.p.2.2.1.1]
    refine v_icmp_ge 100 dX1_cheapestByAnyLight_35 (by decide) (fun h35 => ?_) (fun h35 => absurd (nI_le (Nat.le_refl _) (by omega)) h35)
    refine v_aload_n dX1_cheapestByAnyLight_100 rfl ?_
    refine v_aload_n dX1_cheapestByAnyLight_101 rfl ?_
    refine v_iload dX1_cheapestByAnyLight_102 rfl ?_
    refine v_aload_n dX1_cheapestByAnyLight_104 rfl ?_
    refine v_getI 7 5 dX1_cheapestByAnyLight_105 f1_36 (by first | exact hS.1 _ _ rfl | exact hS'.1 _ _ rfl | assumption) (by decide) ?_
    rw [e5, hW.i.1]
    refine v_aload_n dX1_cheapestByAnyLight_108 rfl ?_
    refine v_getI 7 5 dX1_cheapestByAnyLight_109 f1_36 (by first | exact hS.1 _ _ rfl | exact hS'.1 _ _ rfl | assumption) (by decide) ?_
    rw [e5, hW.i.1]
    refine v_bipush 14 dX1_cheapestByAnyLight_112 (by decide) ?_
    refine v_ishl dX1_cheapestByAnyLight_114 ?_
    rw [f14]
    refine v_ior dX1_cheapestByAnyLight_115 ?_
    skip
    rw [nIor]
    refine v_scVv [_, _, _] hcon k1_spread dX1_cheapestByAnyLight_116 l1_42 (hS'.1 201 _ rfl) (by decide) rfl (Nat.le_of_ble_eq_true rfl) (Nat.le_of_ble_eq_true rfl) (fun M3 hM3 => ?_)
    have m3 := (sw_d hM).tr (sj_d hM3.1)
    have hS3 := hS.sj m3
    have hl := c1_leastOfRows G M3 hS3 (x := xT K (trN K false c)) (t := trN K false c) (g := 2 ^ c ||| 2 ^ c * 16384) h10 hA hpool (Nat.lt_of_lt_of_le (Nat.or_lt_two_pow (n := 28) (show 2 ^ c < 2 ^ 28 by omega) (show 2 ^ c * 16384 < 2 ^ 28 by omega)) (by decide)) (fun w hw => wcN_le hW.p (by omega) _) hM3.2
    rw [row_sure hs.2 hW hc] at hl
    refine v_aload_n dX1_cheapestByAnyLight_119 rfl ?_
    refine v_iload dX1_cheapestByAnyLight_120 rfl ?_
    refine v_iload dX1_cheapestByAnyLight_122 rfl ?_
    refine v_iconst 1 dX1_cheapestByAnyLight_124 (by decide) ?_
    refine v_iload_n dX1_cheapestByAnyLight_125 rfl ?_
    refine v_ishl dX1_cheapestByAnyLight_126 ?_
    rw [shl1 (by omega)]
    refine v_iconst 1 dX1_cheapestByAnyLight_127 (by decide) ?_
    refine v_iload_n dX1_cheapestByAnyLight_128 rfl ?_
    refine v_bipush 14 dX1_cheapestByAnyLight_129 (by decide) ?_
    refine v_iadd dX1_cheapestByAnyLight_131 ?_
    rw [show nI c + 14 = nI (c + 14) from nI_add c 14]
    refine v_ishl dX1_cheapestByAnyLight_132 ?_
    rw [shl1 (by omega), c3]
    refine v_ior dX1_cheapestByAnyLight_133 ?_
    rw [nIor]
    refine v_cV [_, _, _] (hl) k1_leastOfRows dX1_cheapestByAnyLight_134 l1_50 (by first | exact hS3.1 _ _ rfl | assumption) (by decide) rfl (Nat.le_of_ble_eq_true rfl) (Nat.le_of_ble_eq_true rfl) ?_
    refine v_lret dX1_cheapestByAnyLight_137 rfl ?_
    exact ⟨rfl, m3⟩
  | succ i ih =>
    intro w M' hw hM hv
    have hS' := hS.sm hM
    have hs' := hs.sj (sw_d hM) (fun q k h1 h2 => Wde_o (ha.h203 q (Or.inl ⟨h1, h2⟩)) k)
    have hp' := hp.sj (sw_d hM) (fun k => nbeq_f (by have := ha.2 p (Or.inl ⟨by omega, by omega⟩); omega)) (fun q k hq => Wde_o (ha.h203 q (Or.inr hq)) k)
    have hs1 := hs'.1.1
    have hp0 := hp'
    obtain ⟨⟨p1, p2, p3, p4, p5, p6, p7, p8, p9, p10, p11, p12, p13, p14⟩, ⟨e1, e2, e3, e4, e5', e6, e7⟩, g2, g3, g4, g5, g6, g7⟩ := hp'
    have ea : ∀ l, agA M' s l c w = agA M s l c w := fun l => agA_mv (by funext k; exact (sw_d hM).2.2.2.1 _ k (Wde_o (ha.h203 _ (Or.inl ⟨by omega, by omega⟩)) k)) (by funext k; exact (sw_d hM).2.2.2.1 _ k (Wde_o (ha.h203 _ (Or.inl ⟨by omega, by omega⟩)) k)) _ _ _
    have hal := agA_lt M s true c w
    have f14 : nI (agA M s true c w) <<< ((14 : Int32) &&& 31) = nI (agA M s true c w * 16384) := shlN (c := 14) (by decide) (by omega)
    have g0 := c1_agreeing G M' hs' (c := c) (w := w) (by omega) (by omega) false
    have g1 := c1_agreeing G M' hs' (c := c) (w := w) (by omega) (by omega) true
    rw [ea] at g0 g1
    have m2 : Sm Wwn M (sI M' 203 w (nI (agD M s c w))) := hM.st _ rfl
    have hs2 := hs.sj (sw_d m2) (fun q k h1 h2 => Wde_o (ha.h203 q (Or.inl ⟨h1, h2⟩)) k)
    have hp2 := hp.sj (sw_d m2) (fun k => nbeq_f (by have := ha.2 p (Or.inl ⟨by omega, by omega⟩); omega)) (fun q k hq => Wde_o (ha.h203 q (Or.inr hq)) k)
    have hS2 := hS.sm m2
    have hs21 := hs2.1.1
    have h0 := has0 (s := trN K false c) (k := w) (by omega) (by omega)
    obtain ⟨M2, eM2⟩ : ∃ M2, M2 = sI M' 203 w (nI (agD M s c w)) := ⟨_, rfl⟩
    have fin : ∀ b : Bool, b = (!(trN K false c).testBit w) → V G Y1_cheapestByAnLight 2 0 0 (Rs (some (.long (encL (lstN K c (2 ^ kn K 3 - 1) true)))) (Sj Wde J202 M)) NX 90 [some (.ref 201), some (.ref p), some (.ref s), some (.int (nI c)), some (.int (nI (trN K false c))), some (.int (nI (suA K c))), some (.int (nI w))] [.int (bI (b = true)), .int (nI w), .ref p, .ref s, .int (nI w), .ref 204] M2 := by
      intro b eb
      have hcon := c7_wordCost G _ hs2 hp2 hW (w := w) (by omega) b
      rw [eb] at hcon ⊢
      rw [← eM2] at hcon hS2 hs21 m2
      refine v_cV [_, _, _] (hcon) k7_wordCost dX1_cheapestByAnyLight_90 l1_65 (by first | exact hS.1 _ _ rfl | exact hS'.1 _ _ rfl | assumption) (by decide) rfl (Nat.le_of_ble_eq_true rfl) (Nat.le_of_ble_eq_true rfl) ?_
      skip
      refine v_iastN w dX1_cheapestByAnyLight_93 (hS2.1 204 _ rfl) rfl ⟨by omega, by decide⟩ ?_
      refine v_iinc 1 dX1_cheapestByAnyLight_94 rfl (by decide) rfl (by decide) ?_
      refine v_goto 29 dX1_cheapestByAnyLight_97 (by decide) ?_
      -- at 29: .iload 6
      rw [nI_1]
      refine ih (w + 1) _ (by omega) (m2.st _ rfl) (fun v hv2 => ?_)
      rw [gI_sq _ _ (by decide), eM2]
      by_cases e : v = w
      · subst e
        exact ⟨gI_ss _ _ _ _, gI_ss _ _ _ _⟩
      · rw [gI_sk _ _ e, gI_sk _ _ e, gI_sq _ _ (by decide)]
        exact hv v (by omega)
    rw [← eM2] at hS2 hs21
    refine v_iload dX1_cheapestByAnyLight_29 rfl ?_
    refine v_aload_n dX1_cheapestByAnyLight_31 rfl ?_
    refine v_getI 4 4 dX1_cheapestByAnyLight_32 f1_58 (by first | exact hS.1 _ _ rfl | exact hS'.1 _ _ rfl | assumption) (by decide) ?_
    rw [e4, hW.p.2.2.1.1]
    refine v_icmp_ge 100 dX1_cheapestByAnyLight_35 (by decide) (fun h35 => absurd ((nI_leI (by omega) (by omega)).mp h35) (by omega)) (fun h35 => ?_)
    refine v_aload_n dX1_cheapestByAnyLight_38 rfl ?_
    refine v_getR 1 1 _ dX1_cheapestByAnyLight_39 f1_15 (by first | exact hS.1 _ _ rfl | exact hS'.1 _ _ rfl | assumption) (by decide) (by first | exact hS.2 _ _ _ rfl | exact hS'.2 _ _ _ rfl | assumption) ?_
    refine v_iload dX1_cheapestByAnyLight_42 rfl ?_
    refine v_aload_n dX1_cheapestByAnyLight_44 rfl ?_
    refine v_iload_n dX1_cheapestByAnyLight_45 rfl ?_
    refine v_iload dX1_cheapestByAnyLight_46 rfl ?_
    refine v_iconst 0 dX1_cheapestByAnyLight_48 (by decide) ?_
    refine v_cS [_, _, _, _] (g0) k1_agreeing dX1_cheapestByAnyLight_49 l1_61 rfl (Nat.le_of_ble_eq_true rfl) (Nat.le_of_ble_eq_true rfl) ?_
    refine v_aload_n dX1_cheapestByAnyLight_52 rfl ?_
    refine v_iload_n dX1_cheapestByAnyLight_53 rfl ?_
    refine v_iload dX1_cheapestByAnyLight_54 rfl ?_
    refine v_iconst 1 dX1_cheapestByAnyLight_56 (by decide) ?_
    refine v_cS [_, _, _, _] (g1) k1_agreeing dX1_cheapestByAnyLight_57 l1_61 rfl (Nat.le_of_ble_eq_true rfl) (Nat.le_of_ble_eq_true rfl) ?_
    refine v_bipush 14 dX1_cheapestByAnyLight_60 (by decide) ?_
    refine v_ishl dX1_cheapestByAnyLight_62 ?_
    rw [f14]
    refine v_ior dX1_cheapestByAnyLight_63 ?_
    skip
    rw [nIor]
    refine v_iastN w dX1_cheapestByAnyLight_64 (hS'.1 203 _ rfl) rfl ⟨by omega, by decide⟩ ?_
    rw [show sI M' 203 w (nI (agA M s false c w ||| agA M s true c w * 16384)) = M2 from eM2.symm]
    refine v_aload_n dX1_cheapestByAnyLight_65 rfl ?_
    refine v_getR 1 2 _ dX1_cheapestByAnyLight_66 f1_19 (by first | exact hS2.1 _ _ rfl | assumption) (by decide) (by first | exact hS2.2 _ _ _ rfl | assumption) ?_
    refine v_iload dX1_cheapestByAnyLight_69 rfl ?_
    refine v_aload_n dX1_cheapestByAnyLight_71 rfl ?_
    refine v_aload_n dX1_cheapestByAnyLight_72 rfl ?_
    refine v_iload dX1_cheapestByAnyLight_73 rfl ?_
    refine v_iload dX1_cheapestByAnyLight_75 rfl ?_
    refine v_iload dX1_cheapestByAnyLight_77 rfl ?_
    refine v_ishr dX1_cheapestByAnyLight_79 ?_
    refine v_iconst 1 dX1_cheapestByAnyLight_80 (by decide) ?_
    refine v_iand dX1_cheapestByAnyLight_81 ?_
    refine v_if_ne 89 dX1_cheapestByAnyLight_82 (by decide) (fun h82 => ?_) (fun h82 => ?_)
    · refine v_iconst 0 dX1_cheapestByAnyLight_89 (by decide) ?_
      first | exact fin false (by rw [show (trN K false c).testBit w = true from by cases hb : (trN K false c).testBit w; exact absurd (h0.mpr hb) h82; rfl]; rfl) | exact fin true (by rw [h0.mp (Decidable.not_not.mp h82)]; rfl)
    · refine v_iconst 1 dX1_cheapestByAnyLight_85 (by decide) ?_
      refine v_goto 90 dX1_cheapestByAnyLight_86 (by decide) ?_
      first | exact fin false (by rw [show (trN K false c).testBit w = true from by cases hb : (trN K false c).testBit w; exact absurd (h0.mpr hb) h82; rfl]; rfl) | exact fin true (by rw [h0.mp (Decidable.not_not.mp h82)]; rfl)
theorem c1_sure (hS : Sh M) {s p cd n : Nat} {K : Nat → Int32} (hs : Str M s K) (hp : Plr M p cd n K) (hW : WK K) (ha : Ap2 s p cd) {c : Nat} (hc : c < kn K 2) : Ct G Y1_cheapestByAnLight 2 0 0 [.ref 201, .ref p, .ref s, .int (nI c)] M (Rs (some (.long (encL (lstN K c (2 ^ kn K 3 - 1) true)))) (Sj Wde J202 M)) NX := by
  have h14 := hW.p.2.1.2
  have g0 := c7_truthBy G M hs (c := c) (by omega) false
  have g1 := c7_truthBy G M hs (c := c) (by omega) true
  rw [tvI_n hs.2 _ hc] at g0 g1
  have hs1 := hs.1.1
  have hp1 := hp.1.1
  refine Ct.of k1_cheapestByAnLight.1 (Nat.le_of_ble_eq_true rfl) ?_
  refine v_aload_n dX1_cheapestByAnyLight_0 rfl ?_
  refine v_iload_n dX1_cheapestByAnyLight_1 rfl ?_
  refine v_iconst 0 dX1_cheapestByAnyLight_2 (by decide) ?_
  refine v_cV [_, _] (g0) k7_truthBy dX1_cheapestByAnyLight_3 l1_54 (by first | exact hS.1 _ _ rfl | exact hS'.1 _ _ rfl | assumption) (by decide) rfl (Nat.le_of_ble_eq_true rfl) (Nat.le_of_ble_eq_true rfl) ?_
  refine v_istore dX1_cheapestByAnyLight_6 rfl (by decide) ?_
  refine v_aload_n dX1_cheapestByAnyLight_8 rfl ?_
  refine v_cV [] (c4_allWords G M hp hW.p) k4_allWords dX1_cheapestByAnyLight_9 l1_26 (by first | exact hS.1 _ _ rfl | exact hS'.1 _ _ rfl | assumption) (by decide) rfl (Nat.le_of_ble_eq_true rfl) (Nat.le_of_ble_eq_true rfl) ?_
  refine v_iload dX1_cheapestByAnyLight_12 rfl ?_
  refine v_aload_n dX1_cheapestByAnyLight_14 rfl ?_
  refine v_iload_n dX1_cheapestByAnyLight_15 rfl ?_
  refine v_iconst 1 dX1_cheapestByAnyLight_16 (by decide) ?_
  refine v_cV [_, _] (g1) k7_truthBy dX1_cheapestByAnyLight_17 l1_54 (by first | exact hS.1 _ _ rfl | exact hS'.1 _ _ rfl | assumption) (by decide) rfl (Nat.le_of_ble_eq_true rfl) (Nat.le_of_ble_eq_true rfl) ?_
  skip
  refine v_ixor dX1_cheapestByAnyLight_20 ?_
  rw [nIxor]
  refine v_iconst (-1) dX1_cheapestByAnyLight_21 (by decide) ?_
  refine v_ixor dX1_cheapestByAnyLight_22 ?_
  refine v_iand dX1_cheapestByAnyLight_23 ?_
  rw [andnot, show dif (2 ^ kn K 3 - 1) (trN K false c ^^^ trN K true c) = suA K c from rfl]
  refine v_istore dX1_cheapestByAnyLight_24 rfl (by decide) ?_
  refine v_iconst 0 dX1_cheapestByAnyLight_26 (by decide) ?_
  refine v_istore dX1_cheapestByAnyLight_27 rfl (by decide) ?_
  skip
  exact l1_sure G M hS hs hp hW ha hc (kn K 3) 0 M (by omega) Sm.rf (fun v hv => absurd hv (by omega))
end D6
