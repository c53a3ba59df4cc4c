/-! ===== the class: Describer, the cheapest, how many tell ===== -/
/-- a plan and a state lie apart from Describer's cells -/
def Ap2 (s p cd : Nat) : Prop := (s + 5 < 201 ∨ 204 < s) ∧ Apt p cd 201 204
theorem Ap2.h203 {s p cd : Nat} (h : Ap2 s p cd) : ∀ q, (s ≤ q ∧ q ≤ s + 5) ∨ (p ≤ q ∧ q ≤ p + 6) ∨ q = cd → q ≠ 203 ∧ q ≠ 204 := by
  intro q hq
  have h1 := h.1
  rcases hq with hq | hq
  · omega
  · have := h.2 q hq; omega
/-- Describer's numbers alone -/
def Wde (q _k : Nat) : Bool := Nat.beq q 203 || Nat.beq q 204
theorem sw_d {M M' : mM} (h : Sm Wwn M M') : Sj Wde J202 M M' := h.j
theorem sj_d {M M' : mM} (h : Sj nW J202 M M') : Sj Wde J202 M M' := h.wk (fun _ _ _ => rfl) (fun _ _ z => z)
theorem Str.sj {M M' : mM} {s : Nat} {K : Nat → Int32} {W J : Nat → Nat → Bool} (h : Str M s K) (e : Sj W J M M') (w : ∀ q k, s ≤ q → q ≤ s + 5 → W q k = false) : Str M' s K := h.mv e.2.1 e.2.2.1 (fun q h1 h2 => by funext k; exact e.2.2.2.1 q k (w q k h1 h2))
theorem Wde_o {q : Nat} (h : q ≠ 203 ∧ q ≠ 204) (k : Nat) : Wde q k = false := by
  unfold Wde
  rw [nbeq_f h.1, nbeq_f h.2]
  rfl
/-- what the rows are for, behind weighNow and spread -/
def aN (M : mM) (s : Nat) (K : Nat → Int32) (c w : Nat) : Nat := agA M s (litB K) c w
theorem okG_okL {M : mM} {s : Nat} {K : Nat → Int32} (hd : StD M s K) (hW : WK K) {c sm S : Nat} (hc : c < kn K 2) (hS : S < 1024) : okG sm (kn K 93) (aN M s K c) (2 ^ c) S = okL K c sm false S := by
  unfold okG okL telB
  rw [mS_fit (a := aN M s K c) hW.p hW.i.2 hS (c := c) (fun w d hw hdd => agA_bit hd hW.p _ hc hdd hw)]
  rfl
theorem row_lst {M : mM} {s : Nat} {K : Nat → Int32} (hd : StD M s K) (hW : WK K) {c sm : Nat} (hc : c < kn K 2) (hsm : sm < 2 ^ kn K 3) : mnF (okG sm (kn K 93) (aN M s K c) (2 ^ c)) (xS (xc K c)) (dsT (trH K c)) (sm + 1) = lstN K c sm false := by
  have hpw : 2 ^ kn K 3 ≤ 2 ^ 10 := Nat.pow_le_pow_right (by omega) hW.p.2.2.1.2
  unfold lstN
  exact mnF_ext _ (fun S hS => okG_okL hd hW hc (by omega)) (fun S hS _ => ⟨(cost_dsc hW.p (by omega)).symm, rfl⟩)
theorem lstN_b {K : Nat → Int32} (hP : WP K) {c sm : Nat} {sure : Bool} (hsm : sm < 1024) : ∀ c' d, lstN K c sm sure = some (c', d) → c' ≤ 190 ∧ d < 1048576 := fun c' d h => mnF_b (fun s => costN_le hP _) (fun s hs => dsc_lt K c hs) _ _ _ (by omega) h
section D4
variable (G : mG) (M : mM)
/-- weighNow and spread, one behind the other -/
theorem w1_rows (hS : Sh M) {s p cd n : Nat} {K : Nat → Int32} (hs : Str M s K) (hp : Plr M p cd n K) (hW : WK K) (ha : Ap2 s p cd) {c : Nat} (hc : c < kn K 2) (M2 : mM) (hM2 : Sm Wwn M M2) (hv : ∀ v, v < kn K 3 → gI M2 203 v = nI (agA M s (litB K) c v) ∧ gI M2 204 v = nI (xc K c v)) {A P : Nat} (hA : A < 1024) (hPl : P < 2 ^ 28) :
    Ct G Y1_spread 1 0 0 [.ref 201, .ref p, .int (nI A), .int (nI P)] M2 (Rs none (fun M' => Sj Wde J202 M M' ∧ Plr M' p cd n K ∧ Str M' s K ∧ RowsOK M' (kn K 3) A P (aN M s K c) (xc K c))) NX := by
  have h10 := hW.p.2.2.1.2
  have hp2 := hp.sj (sw_d hM2) (fun k => nbeq_f (by have := ha.2 p (Or.inl ⟨by omega, by omega⟩); omega)) (fun q k hq => Wde_o (ha.h203 q (Or.inr hq)) k)
  refine (c1_spread G M2 (hS.sm hM2) hp2 hW.p hA (by have := ha.2 p (Or.inl ⟨by omega, by omega⟩); omega) (fun w hw => (hv w hw).1) (fun w hw => ⟨(hv w hw).2, wcN_le hW.p (by omega) _⟩) hPl).post (fun v M' h => ?_) (fun _ _ h => h)
  have e := (sw_d hM2).tr (sj_d h.2.1)
  exact ⟨h.1, e, hp.sj e (fun k => nbeq_f (by have := ha.2 p (Or.inl ⟨by omega, by omega⟩); omega)) (fun q k hq => Wde_o (ha.h203 q (Or.inr hq)) k), hs.sj e (fun q k h1 h2 => Wde_o (ha.h203 q (Or.inl ⟨h1, h2⟩)) k), h.2.2⟩
theorem c1_cheapest (hS : Sh M) {s p cd n : Nat} {K : Nat → Int32} (hs : Str M s K) (hp : Plr M p cd n K) (hW : WK K) (ha : Ap2 s p cd) {c : Nat} (hc : c < kn K 2) (ws : Nat) : Ct G Y1_cheapest 3 0 0 [.ref 201, .ref p, .ref s, .int (nI c), .int (nI ws)] M (Rs (some (.long (encL (lstN K c (ws &&& (2 ^ kn K 3 - 1)) false)))) (Sj Wde J202 M)) NX := by
  have haw := aw_lt hW.p
  have h14 := hW.p.2.1.2
  have h10 := hW.p.2.2.1.2
  have hpw := Nat.one_le_two_pow (n := kn K 3)
  have hA : ws &&& (2 ^ kn K 3 - 1) ≤ 2 ^ kn K 3 - 1 := Nat.and_le_right
  have hin := in_lt hW.p hW.i
  have hs1 := hs.1.1
  have hp1 := hp.1.1
  have c2 := two_pow_lt (c := c) (by omega)
  refine Ct.of k1_cheapest.1 (Nat.le_of_ble_eq_true rfl) ?_
  refine v_iload dX1_cheapest_0 rfl ?_
  refine v_aload_n dX1_cheapest_2 rfl ?_
  refine v_cV [] (c4_allWords G M hp hW.p) k4_allWords dX1_cheapest_3 l1_26 (by first | exact hS.1 _ _ rfl | exact hS'.1 _ _ rfl | assumption) (by decide) rfl (Nat.le_of_ble_eq_true rfl) (Nat.le_of_ble_eq_true rfl) ?_
  refine v_iand dX1_cheapest_6 ?_
  rw [nIand]
  refine v_istore dX1_cheapest_7 rfl (by decide) ?_
  refine v_aload_n dX1_cheapest_9 rfl ?_
  refine v_aload_n dX1_cheapest_10 rfl ?_
  refine v_aload_n dX1_cheapest_11 rfl ?_
  refine v_iload_n dX1_cheapest_12 rfl ?_
  skip
  refine v_scVv [_, _, _] (c1_weighNow G M hS hs hp hW ha.h203 hc) k1_weighNow dX1_cheapest_13 l1_32 (hS.1 201 _ rfl) (by decide) rfl (Nat.le_of_ble_eq_true rfl) (Nat.le_of_ble_eq_true rfl) (fun M2 hM2 => ?_)
  have hS2 := hS.sm hM2.1
  have hs2 := hs.sj (sw_d hM2.1) (fun q k h1 h2 => Wde_o (ha.h203 q (Or.inl ⟨h1, h2⟩)) k)
  have t2 := hs2.1.1
  refine v_aload_n dX1_cheapest_16 rfl ?_
  refine v_aload_n dX1_cheapest_17 rfl ?_
  refine v_iload dX1_cheapest_18 rfl ?_
  refine v_aload_n dX1_cheapest_20 rfl ?_
  refine v_getI 7 5 dX1_cheapest_21 f1_36 (by first | exact hS2.1 _ _ rfl | assumption) (by decide) ?_
  skip
  rw [hs2.2.2.2.1, hW.i.1]
  refine v_scVv [_, _, _] (w1_rows G M hS hs hp hW ha hc M2 hM2.1 hM2.2 (show ws &&& (2 ^ kn K 3 - 1) < 1024 by omega) (show kn K 93 < 2 ^ 28 by omega)) k1_spread dX1_cheapest_24 l1_42 (hS2.1 201 _ rfl) (by decide) rfl (Nat.le_of_ble_eq_true rfl) (Nat.le_of_ble_eq_true rfl) (fun M3 hM3 => ?_)
  obtain ⟨m3, p3, s3, r3⟩ := hM3
  have hS3 := hS.sj m3
  have t3 := s3.1.1
  have hcon := c1_leastOfRows G M3 hS3 (x := xc K c) (t := trH K c) (g := 2 ^ c) h10 (show ws &&& (2 ^ kn K 3 - 1) < 2 ^ kn K 3 by omega) (show kn K 93 < 2 ^ 28 by omega) (by omega) (fun w hw => wcN_le hW.p (by omega) _) r3
  rw [row_lst hs.2 hW hc (by omega)] at hcon
  refine v_aload_n dX1_cheapest_27 rfl ?_
  refine v_iload dX1_cheapest_28 rfl ?_
  refine v_aload_n dX1_cheapest_30 rfl ?_
  refine v_iload_n dX1_cheapest_31 rfl ?_
  refine v_cV [_] (c7_truthN G M3 s3 hW hc) k7_truth dX1_cheapest_32 l1_46 (by first | exact hS3.1 _ _ rfl | assumption) (by decide) rfl (Nat.le_of_ble_eq_true rfl) (Nat.le_of_ble_eq_true rfl) ?_
  refine v_iconst 1 dX1_cheapest_35 (by decide) ?_
  refine v_iload_n dX1_cheapest_36 rfl ?_
  refine v_ishl dX1_cheapest_37 ?_
  rw [shl1 (by omega)]
  refine v_cV [_, _, _] (hcon) k1_leastOfRows dX1_cheapest_38 l1_50 (by first | exact hS3.1 _ _ rfl | assumption) (by decide) rfl (Nat.le_of_ble_eq_true rfl) (Nat.le_of_ble_eq_true rfl) ?_
  refine v_lret dX1_cheapest_41 rfl ?_
  exact ⟨rfl, m3⟩
theorem l1_tellingBelow {s p cd n : Nat} {K : Nat → Int32} {M3 : mM} (hS3 : Sh M3) (hd : StD M s K) (p3 : Plr M3 p cd n K) (hW : WK K) {c x : Nat} (hc : c < kn K 2) (hx : x < 2 ^ 31) (r3 : RowsOK M3 (kn K 3) (2 ^ kn K 3 - 1) (kn K 93) (aN M s K c) (xc K c)) : ∀ i S, S + i = 2 ^ kn K 3 → V G Y1_tellingBelow 3 0 0 (Rv (some (.int (nI (cnt (2 ^ kn K 3) (fun s => telB K (trH K) c (dsc K c s) && decide (costN K (dsc K c s) < x)))))) M3) NX 26 [some (.ref 201), some (.ref p), some (.ref s), some (.int (nI c)), some (.int (nI x)), some (.int (nI (cnt S (fun s => telB K (trH K) c (dsc K c s) && decide (costN K (dsc K c s) < x))))), some (.int (nI S))] [] M3 := by
  have h14 := hW.p.2.1.2
  have h10 := hW.p.2.2.1.2
  have haw := aw_lt hW.p
  have hpw := Nat.one_le_two_pow (n := kn K 3)
  have hp1 := p3.1.1
  have c2 := two_pow_lt (c := c) (by omega)
  have hin := in_lt hW.p hW.i
  intro i
  induction i with
  | zero =>
    intro S hs
    obtain rfl : S = 2 ^ kn K 3 := by omega
    refine v_iload dX1_tellingBelow_26 rfl ?_
    refine v_aload_n dX1_tellingBelow_28 rfl ?_
    refine v_cV [] (c4_allWords G M3 p3 hW.p) k4_allWords dX1_tellingBelow_29 l1_26 (by first | exact hS3.1 _ _ rfl | assumption) (by decide) rfl (Nat.le_of_ble_eq_true rfl) (Nat.le_of_ble_eq_true rfl) ?_
    refine v_icmp_gt 75 dX1_tellingBelow_32 (by decide) (fun h32 => ?_) (fun h32 => absurd (nI_lt (by omega) (by omega)) h32)
    refine v_iload dX1_tellingBelow_75 rfl ?_
    refine v_iret dX1_tellingBelow_77 rfl ?_
    exact ⟨rfl, rfl⟩
  | succ i ih =>
    intro S hs
    have hn := ih (S + 1) (by omega)
    rw [show ∀ f : Nat → Bool, cnt (S + 1) f = cnt S f + (if f S = true then 1 else 0) from fun _ => rfl, ← nI_add] at hn
    have hS2 : S < 2 ^ kn K 3 := by omega
    have hrow := r3 S hS2 (dif_low.mpr hS2)
    rw [mS_fit (a := aN M s K c) hW.p hW.i.2 (show S < 1024 by omega) (c := c) (fun w d hw hdd => agA_bit hd hW.p _ hc hdd hw), ← cost_dsc hW.p hS2] at hrow
    have hcl := costN_le hW.p (dsc K c S)
    have hfl := fitN_lt (I := kn K 93) h14 (trH K) (dsc K c S)
    have f1 : (lN (costN K (dsc K c S) * 4294967296 + fitN (kn K 2) (kn K 93) (trH K) (dsc K c S))).toInt32 = nI (fitN (kn K 2) (kn K 93) (trH K) (dsc K c S)) := by rw [lN_i, nI_hi]
    have f2 : lN (costN K (dsc K c S) * 4294967296 + fitN (kn K 2) (kn K 93) (trH K) (dsc K c S)) >>> ((32 : Int32).toInt64 &&& 63) = lN (costN K (dsc K c S)) := by
      rw [show (32 : Int32) = nI 32 from rfl, lshrN (by decide) (by omega)]
      congr 1
      show (costN K (dsc K c S) * 4294967296 + fitN (kn K 2) (kn K 93) (trH K) (dsc K c S)) / 4294967296 = _
      omega
    by_cases ht : fitN (kn K 2) (kn K 93) (trH K) (dsc K c S) = 2 ^ c
    · have hT : telB K (trH K) c (dsc K c S) = true := decide_eq_true ht
      rw [hT] at hn
      by_cases hc2 : costN K (dsc K c S) < x
      · rw [decide_eq_true hc2, if_pos (show (true && true) = true from rfl)] at hn
        refine v_iload dX1_tellingBelow_26 rfl ?_
        refine v_aload_n dX1_tellingBelow_28 rfl ?_
        refine v_cV [] (c4_allWords G M3 p3 hW.p) k4_allWords dX1_tellingBelow_29 l1_26 (by first | exact hS3.1 _ _ rfl | assumption) (by decide) rfl (Nat.le_of_ble_eq_true rfl) (Nat.le_of_ble_eq_true rfl) ?_
        refine v_icmp_gt 75 dX1_tellingBelow_32 (by decide) (fun h32 => absurd ((nI_ltI (by omega) (by omega)).mp h32) (by omega)) (fun h32 => ?_)
        refine v_aload_n dX1_tellingBelow_35 rfl ?_
        refine v_getR 1 0 _ dX1_tellingBelow_36 f1_9 (by first | exact hS3.1 _ _ rfl | assumption) (by decide) (by first | exact hS3.2 _ _ _ rfl | assumption) ?_
        refine v_iload dX1_tellingBelow_39 rfl ?_
        refine v_laldN (S) dX1_tellingBelow_41 (by first | exact hS3.1 _ _ rfl | assumption) (by simp only [n_lit, pk_mul, nI_add]) ⟨by omega, by omega⟩ ?_
        rw [hrow]
        refine v_l2i dX1_tellingBelow_42 ?_
        rw [f1, ht]
        refine v_iconst 1 dX1_tellingBelow_43 (by decide) ?_
        refine v_iload_n dX1_tellingBelow_44 rfl ?_
        refine v_ishl dX1_tellingBelow_45 ?_
        rw [shl1 (by omega)]
        refine v_icmp_ne 69 dX1_tellingBelow_46 (by decide) (fun h46 => absurd rfl h46) (fun h46 => ?_)
        refine v_aload_n dX1_tellingBelow_49 rfl ?_
        refine v_getR 1 0 _ dX1_tellingBelow_50 f1_9 (by first | exact hS3.1 _ _ rfl | assumption) (by decide) (by first | exact hS3.2 _ _ _ rfl | assumption) ?_
        refine v_iload dX1_tellingBelow_53 rfl ?_
        refine v_laldN (S) dX1_tellingBelow_55 (by first | exact hS3.1 _ _ rfl | assumption) (by simp only [n_lit, pk_mul, nI_add]) ⟨by omega, by omega⟩ ?_
        rw [hrow]
        refine v_bipush 32 dX1_tellingBelow_56 (by decide) ?_
        refine v_lshr dX1_tellingBelow_58 ?_
        rw [f2]
        refine v_iload dX1_tellingBelow_59 rfl ?_
        refine v_i2l dX1_tellingBelow_61 ?_
        rw [nI_l hx]
        refine v_lcmp dX1_tellingBelow_62 ?_
        refine v_if_ge 69 dX1_tellingBelow_63 (by decide) (fun h63 => absurd (lg_lt.mpr ((lN_lt (by omega) hx).mpr hc2)) (Int32.not_lt.mpr h63)) (fun h63 => ?_)
        refine v_iinc 1 dX1_tellingBelow_66 rfl (by decide) rfl (by decide) ?_
        refine v_iinc 1 dX1_tellingBelow_69 rfl (by decide) rfl (by decide) ?_
        refine v_goto 26 dX1_tellingBelow_72 (by decide) ?_
        (rw [nI_1 S]; exact hn)
      · rw [decide_eq_false hc2, Bool.and_false, if_neg (by decide), show nI 0 = 0 from rfl, Int32.add_zero] at hn
        refine v_iload dX1_tellingBelow_26 rfl ?_
        refine v_aload_n dX1_tellingBelow_28 rfl ?_
        refine v_cV [] (c4_allWords G M3 p3 hW.p) k4_allWords dX1_tellingBelow_29 l1_26 (by first | exact hS3.1 _ _ rfl | assumption) (by decide) rfl (Nat.le_of_ble_eq_true rfl) (Nat.le_of_ble_eq_true rfl) ?_
        refine v_icmp_gt 75 dX1_tellingBelow_32 (by decide) (fun h32 => absurd ((nI_ltI (by omega) (by omega)).mp h32) (by omega)) (fun h32 => ?_)
        refine v_aload_n dX1_tellingBelow_35 rfl ?_
        refine v_getR 1 0 _ dX1_tellingBelow_36 f1_9 (by first | exact hS3.1 _ _ rfl | assumption) (by decide) (by first | exact hS3.2 _ _ _ rfl | assumption) ?_
        refine v_iload dX1_tellingBelow_39 rfl ?_
        refine v_laldN (S) dX1_tellingBelow_41 (by first | exact hS3.1 _ _ rfl | assumption) (by simp only [n_lit, pk_mul, nI_add]) ⟨by omega, by omega⟩ ?_
        rw [hrow]
        refine v_l2i dX1_tellingBelow_42 ?_
        rw [f1, ht]
        refine v_iconst 1 dX1_tellingBelow_43 (by decide) ?_
        refine v_iload_n dX1_tellingBelow_44 rfl ?_
        refine v_ishl dX1_tellingBelow_45 ?_
        rw [shl1 (by omega)]
        refine v_icmp_ne 69 dX1_tellingBelow_46 (by decide) (fun h46 => absurd rfl h46) (fun h46 => ?_)
        refine v_aload_n dX1_tellingBelow_49 rfl ?_
        refine v_getR 1 0 _ dX1_tellingBelow_50 f1_9 (by first | exact hS3.1 _ _ rfl | assumption) (by decide) (by first | exact hS3.2 _ _ _ rfl | assumption) ?_
        refine v_iload dX1_tellingBelow_53 rfl ?_
        refine v_laldN (S) dX1_tellingBelow_55 (by first | exact hS3.1 _ _ rfl | assumption) (by simp only [n_lit, pk_mul, nI_add]) ⟨by omega, by omega⟩ ?_
        rw [hrow]
        refine v_bipush 32 dX1_tellingBelow_56 (by decide) ?_
        refine v_lshr dX1_tellingBelow_58 ?_
        rw [f2]
        refine v_iload dX1_tellingBelow_59 rfl ?_
        refine v_i2l dX1_tellingBelow_61 ?_
        rw [nI_l hx]
        refine v_lcmp dX1_tellingBelow_62 ?_
        refine v_if_ge 69 dX1_tellingBelow_63 (by decide) (fun h63 => ?_) (fun h63 => absurd ((lN_lt (by omega) hx).mp (lg_lt.mp (Int32.not_le.mp h63))) hc2)
        refine v_iinc 1 dX1_tellingBelow_69 rfl (by decide) rfl (by decide) ?_
        refine v_goto 26 dX1_tellingBelow_72 (by decide) ?_
        (rw [nI_1]; exact hn)
    · have hT : telB K (trH K) c (dsc K c S) = false := decide_eq_false ht
      rw [hT, Bool.false_and, if_neg (by decide), show nI 0 = 0 from rfl, Int32.add_zero] at hn
      refine v_iload dX1_tellingBelow_26 rfl ?_
      refine v_aload_n dX1_tellingBelow_28 rfl ?_
      refine v_cV [] (c4_allWords G M3 p3 hW.p) k4_allWords dX1_tellingBelow_29 l1_26 (by first | exact hS3.1 _ _ rfl | assumption) (by decide) rfl (Nat.le_of_ble_eq_true rfl) (Nat.le_of_ble_eq_true rfl) ?_
      refine v_icmp_gt 75 dX1_tellingBelow_32 (by decide) (fun h32 => absurd ((nI_ltI (by omega) (by omega)).mp h32) (by omega)) (fun h32 => ?_)
      refine v_aload_n dX1_tellingBelow_35 rfl ?_
      refine v_getR 1 0 _ dX1_tellingBelow_36 f1_9 (by first | exact hS3.1 _ _ rfl | assumption) (by decide) (by first | exact hS3.2 _ _ _ rfl | assumption) ?_
      refine v_iload dX1_tellingBelow_39 rfl ?_
      refine v_laldN (S) dX1_tellingBelow_41 (by first | exact hS3.1 _ _ rfl | assumption) (by simp only [n_lit, pk_mul, nI_add]) ⟨by omega, by omega⟩ ?_
      rw [hrow]
      refine v_l2i dX1_tellingBelow_42 ?_
      rw [f1]
      refine v_iconst 1 dX1_tellingBelow_43 (by decide) ?_
      refine v_iload_n dX1_tellingBelow_44 rfl ?_
      refine v_ishl dX1_tellingBelow_45 ?_
      rw [shl1 (by omega)]
      refine v_icmp_ne 69 dX1_tellingBelow_46 (by decide) (fun h46 => ?_) (fun h46 => absurd ((nI_eq (by omega) (by omega)).mp (Decidable.not_not.mp h46)) ht)
      refine v_iinc 1 dX1_tellingBelow_69 rfl (by decide) rfl (by decide) ?_
      refine v_goto 26 dX1_tellingBelow_72 (by decide) ?_
      (rw [nI_1]; exact hn)
theorem c1_tellingBelow (hS : Sh M) {s p cd n : Nat} {K : Nat → Int32} (hs : Str M s K) (hp : Plr M p cd n K) (hW : WK K) (ha : Ap2 s p cd) {c x : Nat} (hc : c < kn K 2) (hx : x < 2 ^ 31) : Ct G Y1_tellingBelow 3 0 0 [.ref 201, .ref p, .ref s, .int (nI c), .int (nI x)] M (Rs (some (.int (nI (lessN K c x)))) (Sj Wde J202 M)) NX := by
  have haw := aw_lt hW.p
  have hin := in_lt hW.p hW.i
  have hs1 := hs.1.1
  have hp1 := hp.1.1
  refine Ct.of k1_tellingBelow.1 (Nat.le_of_ble_eq_true rfl) ?_
  refine v_aload_n dX1_tellingBelow_0 rfl ?_
  refine v_aload_n dX1_tellingBelow_1 rfl ?_
  refine v_aload_n dX1_tellingBelow_2 rfl ?_
  refine v_iload_n dX1_tellingBelow_3 rfl ?_
  -- at 4: .invokevirtual 32
  refine v_scVv [_, _, _] (c1_weighNow G M hS hs hp hW ha.h203 hc) k1_weighNow dX1_tellingBelow_4 l1_32 (hS.1 201 _ rfl) (by decide) rfl (Nat.le_of_ble_eq_true rfl) (Nat.le_of_ble_eq_true rfl) (fun M2 hM2 => ?_)
  have hS2 := hS.sm hM2.1
  have hs2 := hs.sj (sw_d hM2.1) (fun q k h1 h2 => Wde_o (ha.h203 q (Or.inl ⟨h1, h2⟩)) k)
  have hp2 := hp.sj (sw_d hM2.1) (fun k => nbeq_f (by have := ha.2 p (Or.inl ⟨by omega, by omega⟩); omega)) (fun q k hq => Wde_o (ha.h203 q (Or.inr hq)) k)
  have t2 := hs2.1.1
  have u2 := hp2.1.1
  refine v_aload_n dX1_tellingBelow_7 rfl ?_
  refine v_aload_n dX1_tellingBelow_8 rfl ?_
  refine v_aload_n dX1_tellingBelow_9 rfl ?_
  refine v_cV [] (c4_allWords G M2 hp2 hW.p) k4_allWords dX1_tellingBelow_10 l1_26 (by first | exact hS2.1 _ _ rfl | assumption) (by decide) rfl (Nat.le_of_ble_eq_true rfl) (Nat.le_of_ble_eq_true rfl) ?_
  refine v_aload_n dX1_tellingBelow_13 rfl ?_
  refine v_getI 7 5 dX1_tellingBelow_14 f1_36 (by first | exact hS2.1 _ _ rfl | assumption) (by decide) ?_
  skip
  rw [hs2.2.2.2.1, hW.i.1]
  refine v_scVv [_, _, _] (w1_rows G M hS hs hp hW ha hc M2 hM2.1 hM2.2 haw (show kn K 93 < 2 ^ 28 by omega)) k1_spread dX1_tellingBelow_17 l1_42 (hS2.1 201 _ rfl) (by decide) rfl (Nat.le_of_ble_eq_true rfl) (Nat.le_of_ble_eq_true rfl) (fun M3 hM3 => ?_)
  obtain ⟨m3, p3, s3, r3⟩ := hM3
  refine v_iconst 0 dX1_tellingBelow_20 (by decide) ?_
  refine v_istore dX1_tellingBelow_21 rfl (by decide) ?_
  refine v_iconst 0 dX1_tellingBelow_23 (by decide) ?_
  refine v_istore dX1_tellingBelow_24 rfl (by decide) ?_
  -- at 26: .iload 6
  refine V.post (l1_tellingBelow G M (hS.sj m3) hs.2 p3 hW hc hx r3 (2 ^ kn K 3) 0 (by omega)) (fun v M4 h => ⟨h.1, by rw [h.2]; exact m3⟩) (fun _ _ h => h)
end D4
