/-! ===== the class: Describer, isHard, fewestThatHarden ===== -/
def fwN (o : Option Nat) : Nat := match o with
  | none => 15
  | some b => pcn b
section D5
variable (G : mG) (M : mM)
theorem l1_isHard {s p cd n0 : Nat} {K : Nat → Int32} {M3 : mM} (hS3 : Sh M3) (hd : StD M s K) (p3 : Plr M3 p cd n0 K) (hW : WK K) {c n I : Nat} (hc : c < kn K 2) (hn : n < 2 ^ 31) (hI : I < 2 ^ kn K 2) (r3 : RowsOK M3 (kn K 3) (2 ^ kn K 3 - 1) (2 ^ kn K 2 - 1) (aN M s K c) (xc K c)) : ∀ i S, S + i = 2 ^ kn K 3 → (∀ T, T < S → fitN (kn K 2) I (trH K) (dsc K c T) = 2 ^ c → n ≤ costN K (dsc K c T)) → V G Y1_isHard 1 0 0 (Rv (some (.int (bI (hrB K I c n = true)))) M3) NX 3 [some (.ref 201), some (.ref p), some (.int (nI I)), some (.int (nI c)), some (.int (nI n)), some (.int (nI S))] [] M3 := by
  have h14 := hW.p.2.1.2
  have haw := aw_lt hW.p
  have hpw := Nat.one_le_two_pow (n := kn K 3)
  have hp1 := p3.1.1
  have c2 := two_pow_lt (c := c) (by omega)
  have hI2 : I < 16384 := Nat.lt_of_lt_of_le hI (show 2 ^ kn K 2 ≤ 2 ^ 14 from Nat.pow_le_pow_right (by omega) h14)
  intro i
  induction i with
  | zero =>
    intro S hs ha
    obtain rfl : S = 2 ^ kn K 3 := by omega
    have e : hrB K I c n = true := decide_eq_true ha
    rw [e]
    refine v_iload dX1_isHard_3 rfl ?_
    refine v_aload_n dX1_isHard_5 rfl ?_
    refine v_cV [] (c4_allWords G M3 p3 hW.p) k4_allWords dX1_isHard_6 l1_26 (by first | exact hS3.1 _ _ rfl | assumption) (by decide) rfl (Nat.le_of_ble_eq_true rfl) (Nat.le_of_ble_eq_true rfl) ?_
    refine v_icmp_gt 53 dX1_isHard_9 (by decide) (fun h9 => ?_) (fun h9 => absurd (nI_lt (by omega) (by omega)) h9)
    refine v_iconst 1 dX1_isHard_53 (by decide) ?_
    refine v_zret dX1_isHard_54 rfl (by first | rfl | exact bI_nb _ | assumption) ?_
    exact ⟨rfl, rfl⟩
  | succ i ih =>
    intro S hs ha
    have hS2 : S < 2 ^ kn K 3 := by omega
    have hrow := r3 S hS2 (dif_low.mpr hS2)
    rw [← cost_dsc hW.p hS2] at hrow
    have hcl := costN_le hW.p (dsc K c S)
    have hml : mS (2 ^ kn K 2 - 1) (aN M s K c) S ≤ 2 ^ kn K 2 - 1 := mF_le _ _ _ 10
    have h2n : 2 ^ kn K 2 ≤ 2 ^ 14 := Nat.pow_le_pow_right (by omega) h14
    obtain ⟨m, em⟩ : ∃ m, m = mS (2 ^ kn K 2 - 1) (aN M s K c) S := ⟨_, rfl⟩
    rw [← em] at hrow hml
    have emI : m &&& I = fitN (kn K 2) I (trH K) (dsc K c S) := by
      rw [em, mS_and, all_and hI, mS_fit (a := aN M s K c) hW.p hI (show S < 1024 by omega) (c := c) (fun w d hw hdd => agA_bit hd hW.p _ hc hdd hw)]
    have hfl := fitN_lt (I := I) h14 (trH K) (dsc K c S)
    have f1 : (lN (costN K (dsc K c S) * 4294967296 + m)).toInt32 &&& nI I = nI (fitN (kn K 2) I (trH K) (dsc K c S)) := by rw [lN_i, nI_hi, nIand, emI]
    have f2 : lN (costN K (dsc K c S) * 4294967296 + m) >>> ((32 : Int32).toInt64 &&& 63) = lN (costN K (dsc K c S)) := by
      rw [show (32 : Int32) = nI 32 from rfl, lshrN (by decide) (by omega)]
      congr 1
      show (costN K (dsc K c S) * 4294967296 + m) / 4294967296 = _
      omega
    have goon : (fitN (kn K 2) I (trH K) (dsc K c S) = 2 ^ c → n ≤ costN K (dsc K c S)) → V G Y1_isHard 1 0 0 (Rv (some (.int (bI (hrB K I c n = true)))) M3) NX 3 [some (.ref 201), some (.ref p), some (.int (nI I)), some (.int (nI c)), some (.int (nI n)), some (.int (nI (S + 1)))] [] M3 := by
      intro h
      refine ih (S + 1) (by omega) (fun T hT hf => ?_)
      by_cases e : T = S
      · subst e; exact h hf
      · exact ha T (by omega) hf
    by_cases ht : fitN (kn K 2) I (trH K) (dsc K c S) = 2 ^ c
    · by_cases hc2 : costN K (dsc K c S) < n
      · have e : hrB K I c n = false := decide_eq_false (fun z => by have := z S hS2 ht; omega)
        rw [e]
        refine v_iload dX1_isHard_3 rfl ?_
        refine v_aload_n dX1_isHard_5 rfl ?_
        refine v_cV [] (c4_allWords G M3 p3 hW.p) k4_allWords dX1_isHard_6 l1_26 (by first | exact hS3.1 _ _ rfl | assumption) (by decide) rfl (Nat.le_of_ble_eq_true rfl) (Nat.le_of_ble_eq_true rfl) ?_
        refine v_icmp_gt 53 dX1_isHard_9 (by decide) (fun h9 => absurd ((nI_ltI (by omega) (by omega)).mp h9) (by omega)) (fun h9 => ?_)
        refine v_aload_n dX1_isHard_12 rfl ?_
        refine v_getR 1 0 _ dX1_isHard_13 f1_9 (by first | exact hS3.1 _ _ rfl | assumption) (by decide) (by first | exact hS3.2 _ _ _ rfl | assumption) ?_
        refine v_iload dX1_isHard_16 rfl ?_
        refine v_laldN (S) dX1_isHard_18 (by first | exact hS3.1 _ _ rfl | assumption) (by simp only [n_lit, pk_mul, nI_add]) ⟨by omega, by omega⟩ ?_
        rw [hrow]
        refine v_l2i dX1_isHard_19 ?_
        refine v_iload_n dX1_isHard_20 rfl ?_
        refine v_iand dX1_isHard_21 ?_
        rw [f1, ht]
        refine v_iconst 1 dX1_isHard_22 (by decide) ?_
        refine v_iload_n dX1_isHard_23 rfl ?_
        refine v_ishl dX1_isHard_24 ?_
        rw [shl1 (by omega)]
        refine v_icmp_ne 47 dX1_isHard_25 (by decide) (fun h25 => absurd rfl h25) (fun h25 => ?_)
        refine v_aload_n dX1_isHard_28 rfl ?_
        refine v_getR 1 0 _ dX1_isHard_29 f1_9 (by first | exact hS3.1 _ _ rfl | assumption) (by decide) (by first | exact hS3.2 _ _ _ rfl | assumption) ?_
        refine v_iload dX1_isHard_32 rfl ?_
        refine v_laldN (S) dX1_isHard_34 (by first | exact hS3.1 _ _ rfl | assumption) (by simp only [n_lit, pk_mul, nI_add]) ⟨by omega, by omega⟩ ?_
        rw [hrow]
        refine v_bipush 32 dX1_isHard_35 (by decide) ?_
        refine v_lshr dX1_isHard_37 ?_
        rw [f2]
        refine v_iload dX1_isHard_38 rfl ?_
        refine v_i2l dX1_isHard_40 ?_
        rw [nI_l hn]
        refine v_lcmp dX1_isHard_41 ?_
        refine v_if_ge 47 dX1_isHard_42 (by decide) (fun h42 => absurd (lg_lt.mpr ((lN_lt (by omega) hn).mpr hc2)) (Int32.not_lt.mpr h42)) (fun h42 => ?_)
        refine v_iconst 0 dX1_isHard_45 (by decide) ?_
        refine v_zret dX1_isHard_46 rfl (by first | rfl | exact bI_nb _ | assumption) ?_
        exact ⟨rfl, rfl⟩
      · refine v_iload dX1_isHard_3 rfl ?_
        refine v_aload_n dX1_isHard_5 rfl ?_
        refine v_cV [] (c4_allWords G M3 p3 hW.p) k4_allWords dX1_isHard_6 l1_26 (by first | exact hS3.1 _ _ rfl | assumption) (by decide) rfl (Nat.le_of_ble_eq_true rfl) (Nat.le_of_ble_eq_true rfl) ?_
        refine v_icmp_gt 53 dX1_isHard_9 (by decide) (fun h9 => absurd ((nI_ltI (by omega) (by omega)).mp h9) (by omega)) (fun h9 => ?_)
        refine v_aload_n dX1_isHard_12 rfl ?_
        refine v_getR 1 0 _ dX1_isHard_13 f1_9 (by first | exact hS3.1 _ _ rfl | assumption) (by decide) (by first | exact hS3.2 _ _ _ rfl | assumption) ?_
        refine v_iload dX1_isHard_16 rfl ?_
        refine v_laldN (S) dX1_isHard_18 (by first | exact hS3.1 _ _ rfl | assumption) (by simp only [n_lit, pk_mul, nI_add]) ⟨by omega, by omega⟩ ?_
        rw [hrow]
        refine v_l2i dX1_isHard_19 ?_
        refine v_iload_n dX1_isHard_20 rfl ?_
        refine v_iand dX1_isHard_21 ?_
        rw [f1, ht]
        refine v_iconst 1 dX1_isHard_22 (by decide) ?_
        refine v_iload_n dX1_isHard_23 rfl ?_
        refine v_ishl dX1_isHard_24 ?_
        rw [shl1 (by omega)]
        refine v_icmp_ne 47 dX1_isHard_25 (by decide) (fun h25 => absurd rfl h25) (fun h25 => ?_)
        refine v_aload_n dX1_isHard_28 rfl ?_
        refine v_getR 1 0 _ dX1_isHard_29 f1_9 (by first | exact hS3.1 _ _ rfl | assumption) (by decide) (by first | exact hS3.2 _ _ _ rfl | assumption) ?_
        refine v_iload dX1_isHard_32 rfl ?_
        refine v_laldN (S) dX1_isHard_34 (by first | exact hS3.1 _ _ rfl | assumption) (by simp only [n_lit, pk_mul, nI_add]) ⟨by omega, by omega⟩ ?_
        rw [hrow]
        refine v_bipush 32 dX1_isHard_35 (by decide) ?_
        refine v_lshr dX1_isHard_37 ?_
        rw [f2]
        refine v_iload dX1_isHard_38 rfl ?_
        refine v_i2l dX1_isHard_40 ?_
        rw [nI_l hn]
        refine v_lcmp dX1_isHard_41 ?_
        refine v_if_ge 47 dX1_isHard_42 (by decide) (fun h42 => ?_) (fun h42 => absurd ((lN_lt (by omega) hn).mp (lg_lt.mp (Int32.not_le.mp h42))) hc2)
        refine v_iinc 1 dX1_isHard_47 rfl (by decide) rfl (by decide) ?_
        refine v_goto 3 dX1_isHard_50 (by decide) ?_
        (rw [nI_1]; exact goon (fun _ => by omega))
    · refine v_iload dX1_isHard_3 rfl ?_
      refine v_aload_n dX1_isHard_5 rfl ?_
      refine v_cV [] (c4_allWords G M3 p3 hW.p) k4_allWords dX1_isHard_6 l1_26 (by first | exact hS3.1 _ _ rfl | assumption) (by decide) rfl (Nat.le_of_ble_eq_true rfl) (Nat.le_of_ble_eq_true rfl) ?_
      refine v_icmp_gt 53 dX1_isHard_9 (by decide) (fun h9 => absurd ((nI_ltI (by omega) (by omega)).mp h9) (by omega)) (fun h9 => ?_)
      refine v_aload_n dX1_isHard_12 rfl ?_
      refine v_getR 1 0 _ dX1_isHard_13 f1_9 (by first | exact hS3.1 _ _ rfl | assumption) (by decide) (by first | exact hS3.2 _ _ _ rfl | assumption) ?_
      refine v_iload dX1_isHard_16 rfl ?_
      refine v_laldN (S) dX1_isHard_18 (by first | exact hS3.1 _ _ rfl | assumption) (by simp only [n_lit, pk_mul, nI_add]) ⟨by omega, by omega⟩ ?_
      rw [hrow]
      refine v_l2i dX1_isHard_19 ?_
      refine v_iload_n dX1_isHard_20 rfl ?_
      refine v_iand dX1_isHard_21 ?_
      rw [f1]
      refine v_iconst 1 dX1_isHard_22 (by decide) ?_
      refine v_iload_n dX1_isHard_23 rfl ?_
      refine v_ishl dX1_isHard_24 ?_
      rw [shl1 (by omega)]
      refine v_icmp_ne 47 dX1_isHard_25 (by decide) (fun h25 => ?_) (fun h25 => absurd ((nI_eq (by omega) (by omega)).mp (Decidable.not_not.mp h25)) ht)
      refine v_iinc 1 dX1_isHard_47 rfl (by decide) rfl (by decide) ?_
      refine v_goto 3 dX1_isHard_50 (by decide) ?_
      (rw [nI_1]; exact goon (fun z => absurd z ht))
theorem c1_isHard {s p cd n0 : Nat} {K : Nat → Int32} {M3 : mM} (hS3 : Sh M3) (hd : StD M s K) (p3 : Plr M3 p cd n0 K) (hW : WK K) {c n I : Nat} (hc : c < kn K 2) (hn : n < 2 ^ 31) (hI : I < 2 ^ kn K 2) (r3 : RowsOK M3 (kn K 3) (2 ^ kn K 3 - 1) (2 ^ kn K 2 - 1) (aN M s K c) (xc K c)) : Ct G Y1_isHard 1 0 0 [.ref 201, .ref p, .int (nI I), .int (nI c), .int (nI n)] M3 (Rv (some (.int (bI (hrB K I c n = true)))) M3) NX := by
  refine Ct.of k1_isHard.1 (Nat.le_of_ble_eq_true rfl) ?_
  refine v_iconst 0 dX1_isHard_0 (by decide) ?_
  refine v_istore dX1_isHard_1 rfl (by decide) ?_
  -- at 3: .iload 5
  exact l1_isHard G M hS3 hd p3 hW hc hn hI r3 (2 ^ kn K 3) 0 (by omega) (fun T hT => absurd hT (by omega))
theorem l1_fewest {s p cd n0 : Nat} {K : Nat → Int32} {M3 : mM} (hS3 : Sh M3) (hd : StD M s K) (p3 : Plr M3 p cd n0 K) (s3 : Str M3 s K) (hW : WK K) {c n : Nat} (hc : c < kn K 2) (hn : n < 2 ^ 31) (h6 : pcn (outN K) ≤ 6) (r3 : RowsOK M3 (kn K 3) (2 ^ kn K 3 - 1) (2 ^ kn K 2 - 1) (aN M s K c) (xc K c)) {r : Int32} (hr : r = encO (hdF K c (nI n) (outN K) (outN K + 1))) :
    ∀ j i b, i + j = 64 → dif b (outN K) = 0 → cnt b (fun s => decide (dif s (outN K) = 0)) = i → V G Y1_fewestThatHarden 3 0 0 (Rv (some (.int r)) M3) NX 46 [some (.ref 201), some (.ref p), some (.ref s), some (.int (nI c)), some (.int (nI n)), some (.int (nI (outN K))), some (.int (encO (hdF K c (nI n) (outN K) b))), some (.int (nI (fwN (hdF K c (nI n) (outN K) b)))), some (.int (nI b)), some (.int (nI i))] [] M3 := by
  have h14 := hW.p.2.1.2
  have hin := in_lt hW.p hW.i
  have h2n : 2 ^ kn K 2 ≤ 2 ^ 14 := Nat.pow_le_pow_right (by omega) h14
  have hol := out_lt hW.p
  have ho : outN K < 16384 := by omega
  have hp1 := p3.1.1
  have hs1 := s3.1.1
  have e5 := s3.2.2.2.1
  have htot : cnt 16384 (fun s => decide (dif s (outN K) = 0)) ≤ 64 := by
    have := cnt_sub (outN K) 14
    rw [show (2 : Nat) ^ 14 = 16384 from rfl] at this
    rw [this]
    have e : cnt 14 (fun i => (outN K).testBit i) = pcn (outN K) := (pcf_cnt 14 _).symm
    rw [e]
    exact Nat.pow_le_pow_right (by decide) h6
  intro j
  induction j with
  | zero =>
    intro i b hi hb hcn
    exfalso
    have hb14 : b < 16384 := le_of_dif (n := 14) hb ho
    have h1 : cnt (b + 1) (fun s => decide (dif s (outN K) = 0)) = i + 1 := by rw [cnt, hcn, decide_eq_true hb]; rfl
    have := cnt_mono (fun s => decide (dif s (outN K) = 0)) (show b + 1 ≤ 16384 by omega)
    omega
  | succ j ih =>
    intro i b hi hb hcn
    have hb14 : b < 16384 := le_of_dif (n := 14) hb ho
    have hbn : b < 2 ^ kn K 2 := le_of_dif hb hol
    have hbI := or_in hW.i hbn
    have pb := pcn_le b
    have hb1 : cnt (b + 1) (fun s => decide (dif s (outN K) = 0)) = i + 1 := by rw [cnt, hcn, decide_eq_true hb]; rfl
    have hfw : fwN (hdF K c (nI n) (outN K) b) ≤ 15 := by
      unfold fwN
      split
      · omega
      · rename_i b' _; have := pcn_le b'; omega
    have tail : V G Y1_fewestThatHarden 3 0 0 (Rv (some (.int r)) M3) NX 92 [some (.ref 201), some (.ref p), some (.ref s), some (.int (nI c)), some (.int (nI n)), some (.int (nI (outN K))), some (.int (encO (hdF K c (nI n) (outN K) (b + 1)))), some (.int (nI (fwN (hdF K c (nI n) (outN K) (b + 1))))), some (.int (nI b)), some (.int (nI i))] [] M3 := by
      have enx : (nI b - nI (outN K)) &&& nI (outN K) = nI (nxN b (outN K)) := nxt_i hb ho
      by_cases h0 : dif (outN K) b = 0
      · have ez : nxN b (outN K) = 0 := if_pos h0
        have eb : b = outN K := by
          apply Nat.eq_of_testBit_eq; intro i
          have a1 : (dif b (outN K)).testBit i = false := by rw [hb, Nat.zero_testBit]
          have a2 : (dif (outN K) b).testBit i = false := by rw [h0, Nat.zero_testBit]
          rw [dif_bit] at a1 a2
          revert a1 a2
          cases b.testBit i <;> cases (outN K).testBit i <;> simp
        have er : encO (hdF K c (nI n) (outN K) (b + 1)) = r := by rw [hr, eb]
        rw [er]
        refine v_iload dX1_fewestThatHarden_92 rfl ?_
        refine v_iload dX1_fewestThatHarden_94 rfl ?_
        refine v_isub dX1_fewestThatHarden_96 ?_
        skip
        refine v_iload dX1_fewestThatHarden_97 rfl ?_
        refine v_iand dX1_fewestThatHarden_99 ?_
        rw [enx, ez]
        refine v_istore dX1_fewestThatHarden_100 rfl (by decide) ?_
        refine v_iload dX1_fewestThatHarden_102 rfl ?_
        refine v_if_ne 110 dX1_fewestThatHarden_104 (by decide) (fun h104 => absurd rfl h104) (fun h104 => ?_)
        refine v_goto 116 dX1_fewestThatHarden_107 (by decide) ?_
        refine v_iload dX1_fewestThatHarden_116 rfl ?_
        refine v_iret dX1_fewestThatHarden_118 rfl ?_
        exact ⟨rfl, rfl⟩
      · have hgt := nx_gt ho hb h0
        have hnl : nxN b (outN K) < 16384 := le_of_dif (n := 14) (nx_sub b (outN K)) ho
        have hnone : ∀ t, b + 1 ≤ t → t < b + 1 + (nxN b (outN K) - (b + 1)) → ¬ dif t (outN K) = 0 := fun t h1 h2 hz => nx_none ho hb hz (by omega) (by rw [if_neg h0]; omega)
        have hsk := hdF_skip (K := K) (c := c) (n := nI n) (out := outN K) (a := b + 1) (nxN b (outN K) - (b + 1)) hnone
        rw [show b + 1 + (nxN b (outN K) - (b + 1)) = nxN b (outN K) by omega] at hsk
        have hcs : cnt (nxN b (outN K)) (fun s => decide (dif s (outN K) = 0)) = i + 1 := by
          have h2 := cnt_add (fun s => decide (dif s (outN K) = 0)) (b + 1) (nxN b (outN K) - (b + 1))
          rw [show b + 1 + (nxN b (outN K) - (b + 1)) = nxN b (outN K) by omega, hb1] at h2
          have h3 : ∀ m, m ≤ nxN b (outN K) - (b + 1) → cnt m (fun i => decide (dif (b + 1 + i) (outN K) = 0)) = 0 := by
            intro m
            induction m with
            | zero => intro _; rfl
            | succ m ihm => intro hm; rw [cnt, ihm (by omega), decide_eq_false (hnone _ (by omega) (by omega))]; rfl
          rw [h2, h3 _ (Nat.le_refl _)]
        have hn2 := ih (i + 1) (nxN b (outN K)) (by omega) (nx_sub b (outN K)) hcs
        rw [hsk] at hn2
        refine v_iload dX1_fewestThatHarden_92 rfl ?_
        refine v_iload dX1_fewestThatHarden_94 rfl ?_
        refine v_isub dX1_fewestThatHarden_96 ?_
        refine v_iload dX1_fewestThatHarden_97 rfl ?_
        refine v_iand dX1_fewestThatHarden_99 ?_
        rw [enx]
        refine v_istore dX1_fewestThatHarden_100 rfl (by decide) ?_
        refine v_iload dX1_fewestThatHarden_102 rfl ?_
        refine v_if_ne 110 dX1_fewestThatHarden_104 (by decide) (fun h104 => ?_) (fun h104 => absurd ((nI0 (by omega)).mp (Decidable.not_not.mp h104)) (by omega))
        refine v_iinc 1 dX1_fewestThatHarden_110 rfl (by decide) rfl (by decide) ?_
        refine v_goto 46 dX1_fewestThatHarden_113 (by decide) ?_
        (rw [nI_1]; exact hn2)
    have eI : K 93 ||| nI b = nI (kn K 93 ||| b) := by rw [← nIor, ← hW.i.1]
    have heq := hdB_eq hW.p (c := c) (n := n) (s := b) hc (by omega) hn
    have hcond : (∀ b', hdF K c (nI n) (outN K) b = some b' → pcn b < pcn b') ↔ pcn b < fwN (hdF K c (nI n) (outN K) b) := by
      cases ho2 : hdF K c (nI n) (outN K) b with
      | none =>
        constructor
        · intro _; show pcn b < 15; omega
        · intro _ b' h; cases h
      | some b0 =>
        constructor
        · intro h; exact h b0 rfl
        · intro h b' e; cases e; exact h
    by_cases hf : pcn b < fwN (hdF K c (nI n) (outN K) b)
    · have hcon := c1_isHard G M hS3 hd p3 hW hc hn (I := kn K 93 ||| b) hbI r3
      by_cases hh : hrB K (kn K 93 ||| b) c n = true
      · rw [bI_t hh] at hcon
        rw [hdF_t hb (hcond.mpr hf) (by rw [heq]; exact hh)] at tail
        rw [show encO (some b) = nI b from rfl, show fwN (some b) = pcn b from rfl] at tail
        refine v_iload dX1_fewestThatHarden_46 rfl ?_
        refine v_bipush 64 dX1_fewestThatHarden_48 (by decide) ?_
        refine v_icmp_ge 116 dX1_fewestThatHarden_50 (by decide) (fun h50 => absurd ((nI_leI (a := 64) (by decide) (by omega)).mp h50) (by omega)) (fun h50 => ?_)
        refine v_iload dX1_fewestThatHarden_53 rfl ?_
        refine v_cS [_] (cJ_bitCount G M3 _) kJ_bitCount dX1_fewestThatHarden_55 l1_72 rfl (Nat.le_of_ble_eq_true rfl) (Nat.le_of_ble_eq_true rfl) ?_
        rw [bcI_n hb14]
        refine v_iload dX1_fewestThatHarden_58 rfl ?_
        refine v_icmp_ge 92 dX1_fewestThatHarden_60 (by decide) (fun h60 => absurd ((nI_leI (by omega) (by omega)).mp h60) (by omega)) (fun h60 => ?_)
        refine v_aload_n dX1_fewestThatHarden_63 rfl ?_
        refine v_aload_n dX1_fewestThatHarden_64 rfl ?_
        refine v_aload_n dX1_fewestThatHarden_65 rfl ?_
        refine v_getI 7 5 dX1_fewestThatHarden_66 f1_36 (by first | exact hS3.1 _ _ rfl | assumption) (by decide) ?_
        rw [e5]
        refine v_iload dX1_fewestThatHarden_69 rfl ?_
        refine v_ior dX1_fewestThatHarden_71 ?_
        rw [eI]
        refine v_iload_n dX1_fewestThatHarden_72 rfl ?_
        refine v_iload dX1_fewestThatHarden_73 rfl ?_
        refine v_cV [_, _, _, _] (hcon) k1_isHard dX1_fewestThatHarden_75 l1_77 (by first | exact hS3.1 _ _ rfl | assumption) (by decide) rfl (Nat.le_of_ble_eq_true rfl) (Nat.le_of_ble_eq_true rfl) ?_
        refine v_if_eq 92 dX1_fewestThatHarden_78 (by decide) (fun h78 => absurd h78 (by decide)) (fun h78 => ?_)
        refine v_iload dX1_fewestThatHarden_81 rfl ?_
        refine v_istore dX1_fewestThatHarden_83 rfl (by decide) ?_
        refine v_iload dX1_fewestThatHarden_85 rfl ?_
        refine v_cS [_] (cJ_bitCount G M3 _) kJ_bitCount dX1_fewestThatHarden_87 l1_72 rfl (Nat.le_of_ble_eq_true rfl) (Nat.le_of_ble_eq_true rfl) ?_
        rw [bcI_n hb14]
        refine v_istore dX1_fewestThatHarden_90 rfl (by decide) ?_
        exact tail
      · rw [bI_f hh] at hcon
        rw [hdF_f (fun z => hh (by rw [← heq]; exact z.2.2))] at tail
        refine v_iload dX1_fewestThatHarden_46 rfl ?_
        refine v_bipush 64 dX1_fewestThatHarden_48 (by decide) ?_
        refine v_icmp_ge 116 dX1_fewestThatHarden_50 (by decide) (fun h50 => absurd ((nI_leI (a := 64) (by decide) (by omega)).mp h50) (by omega)) (fun h50 => ?_)
        refine v_iload dX1_fewestThatHarden_53 rfl ?_
        refine v_cS [_] (cJ_bitCount G M3 _) kJ_bitCount dX1_fewestThatHarden_55 l1_72 rfl (Nat.le_of_ble_eq_true rfl) (Nat.le_of_ble_eq_true rfl) ?_
        rw [bcI_n hb14]
        refine v_iload dX1_fewestThatHarden_58 rfl ?_
        refine v_icmp_ge 92 dX1_fewestThatHarden_60 (by decide) (fun h60 => absurd ((nI_leI (by omega) (by omega)).mp h60) (by omega)) (fun h60 => ?_)
        refine v_aload_n dX1_fewestThatHarden_63 rfl ?_
        refine v_aload_n dX1_fewestThatHarden_64 rfl ?_
        refine v_aload_n dX1_fewestThatHarden_65 rfl ?_
        refine v_getI 7 5 dX1_fewestThatHarden_66 f1_36 (by first | exact hS3.1 _ _ rfl | assumption) (by decide) ?_
        rw [e5]
        refine v_iload dX1_fewestThatHarden_69 rfl ?_
        refine v_ior dX1_fewestThatHarden_71 ?_
        rw [eI]
        refine v_iload_n dX1_fewestThatHarden_72 rfl ?_
        refine v_iload dX1_fewestThatHarden_73 rfl ?_
        refine v_cV [_, _, _, _] (hcon) k1_isHard dX1_fewestThatHarden_75 l1_77 (by first | exact hS3.1 _ _ rfl | assumption) (by decide) rfl (Nat.le_of_ble_eq_true rfl) (Nat.le_of_ble_eq_true rfl) ?_
        refine v_if_eq 92 dX1_fewestThatHarden_78 (by decide) (fun h78 => ?_) (fun h78 => absurd rfl h78)
        exact tail
    · rw [hdF_f (fun z => hf (hcond.mp z.2.1))] at tail
      refine v_iload dX1_fewestThatHarden_46 rfl ?_
      refine v_bipush 64 dX1_fewestThatHarden_48 (by decide) ?_
      refine v_icmp_ge 116 dX1_fewestThatHarden_50 (by decide) (fun h50 => absurd ((nI_leI (a := 64) (by decide) (by omega)).mp h50) (by omega)) (fun h50 => ?_)
      refine v_iload dX1_fewestThatHarden_53 rfl ?_
      refine v_cS [_] (cJ_bitCount G M3 _) kJ_bitCount dX1_fewestThatHarden_55 l1_72 rfl (Nat.le_of_ble_eq_true rfl) (Nat.le_of_ble_eq_true rfl) ?_
      rw [bcI_n hb14]
      refine v_iload dX1_fewestThatHarden_58 rfl ?_
      refine v_icmp_ge 92 dX1_fewestThatHarden_60 (by decide) (fun h60 => ?_) (fun h60 => absurd (nI_le (by omega) (by omega)) h60)
      exact tail
theorem c1_fewest (hS : Sh M) {s p cd n0 : Nat} {K : Nat → Int32} (hs : Str M s K) (hp : Plr M p cd n0 K) (hW : WK K) (ha : Ap2 s p cd) {c n : Nat} (hc : c < kn K 2) (hn : n < 2 ^ 31) (h6 : pcn (outN K) ≤ 6) : Ct G Y1_fewestThatHarden 3 0 0 [.ref 201, .ref p, .ref s, .int (nI c), .int (nI n)] M (Rs (some (.int (encO (hdF K c (nI n) (outN K) (outN K + 1))))) (Sj Wde J202 M)) NX := by
  have haw := aw_lt hW.p
  have hin := in_lt hW.p hW.i
  have h14 := hW.p.2.1.2
  have h2n : 2 ^ kn K 2 ≤ 2 ^ 14 := Nat.pow_le_pow_right (by omega) h14
  have hs1 := hs.1.1
  have hp1 := hp.1.1
  have e5 := hs.2.2.2.1
  have eo : nI (2 ^ kn K 2 - 1) &&& (K 93 ^^^ (-1)) = nI (outN K) := by rw [hW.i.1, andnot]; rfl
  refine Ct.of k1_fewestThatHarden.1 (Nat.le_of_ble_eq_true rfl) ?_
  refine v_aload_n dX1_fewestThatHarden_0 rfl ?_
  refine v_cV [] (c4_allChests G M hp hW.p) k4_allChests dX1_fewestThatHarden_1 l1_69 (by first | exact hS3.1 _ _ rfl | assumption) (by decide) rfl (Nat.le_of_ble_eq_true rfl) (Nat.le_of_ble_eq_true rfl) ?_
  refine v_aload_n dX1_fewestThatHarden_4 rfl ?_
  refine v_getI 7 5 dX1_fewestThatHarden_5 f1_36 (by first | exact hS3.1 _ _ rfl | assumption) (by decide) ?_
  rw [e5]
  refine v_iconst (-1) dX1_fewestThatHarden_8 (by decide) ?_
  refine v_ixor dX1_fewestThatHarden_9 ?_
  refine v_iand dX1_fewestThatHarden_10 ?_
  rw [eo]
  refine v_istore dX1_fewestThatHarden_11 rfl (by decide) ?_
  refine v_aload_n dX1_fewestThatHarden_13 rfl ?_
  refine v_aload_n dX1_fewestThatHarden_14 rfl ?_
  refine v_aload_n dX1_fewestThatHarden_15 rfl ?_
  refine v_iload_n dX1_fewestThatHarden_16 rfl ?_
  skip
  refine v_scVv [_, _, _] (c1_weighNow G M hS hs hp hW ha.h203 hc) k1_weighNow dX1_fewestThatHarden_17 l1_32 (hS.1 201 _ rfl) (by decide) rfl (Nat.le_of_ble_eq_true rfl) (Nat.le_of_ble_eq_true rfl) (fun M2 hM2 => ?_)
  have hS2 := hS.sm hM2.1
  have hp2 := hp.sj (sw_d hM2.1) (fun k => nbeq_f (by have := ha.2 p (Or.inl ⟨by omega, by omega⟩); omega)) (fun q k hq => Wde_o (ha.h203 q (Or.inr hq)) k)
  have u2 := hp2.1.1
  refine v_aload_n dX1_fewestThatHarden_20 rfl ?_
  refine v_aload_n dX1_fewestThatHarden_21 rfl ?_
  refine v_aload_n dX1_fewestThatHarden_22 rfl ?_
  refine v_cV [] (c4_allWords G M2 hp2 hW.p) k4_allWords dX1_fewestThatHarden_23 l1_26 (by first | exact hS2.1 _ _ rfl | assumption) (by decide) rfl (Nat.le_of_ble_eq_true rfl) (Nat.le_of_ble_eq_true rfl) ?_
  refine v_aload_n dX1_fewestThatHarden_26 rfl ?_
  refine v_cV [] (c4_allChests G M2 hp2 hW.p) k4_allChests dX1_fewestThatHarden_27 l1_69 (by first | exact hS2.1 _ _ rfl | assumption) (by decide) rfl (Nat.le_of_ble_eq_true rfl) (Nat.le_of_ble_eq_true rfl) ?_
  skip
  refine v_scVv [_, _, _] (w1_rows G M hS hs hp hW ha hc M2 hM2.1 hM2.2 haw (show 2 ^ kn K 2 - 1 < 2 ^ 28 by omega)) k1_spread dX1_fewestThatHarden_30 l1_42 (hS2.1 201 _ rfl) (by decide) rfl (Nat.le_of_ble_eq_true rfl) (Nat.le_of_ble_eq_true rfl) (fun M3 hM3 => ?_)
  obtain ⟨m3, p3, s3, r3⟩ := hM3
  refine v_iconst (-1) dX1_fewestThatHarden_33 (by decide) ?_
  refine v_istore dX1_fewestThatHarden_34 rfl (by decide) ?_
  refine v_bipush 15 dX1_fewestThatHarden_36 (by decide) ?_
  refine v_istore dX1_fewestThatHarden_38 rfl (by decide) ?_
  refine v_iconst 0 dX1_fewestThatHarden_40 (by decide) ?_
  refine v_istore dX1_fewestThatHarden_41 rfl (by decide) ?_
  refine v_iconst 0 dX1_fewestThatHarden_43 (by decide) ?_
  refine v_istore dX1_fewestThatHarden_44 rfl (by decide) ?_
  -- at 46: .iload 9
  have hz : dif 0 (outN K) = 0 := by apply Nat.eq_of_testBit_eq; intro i; rw [dif_bit, Nat.zero_testBit]; rfl
  refine V.post (l1_fewest G M (hS.sj m3) hs.2 p3 s3 hW hc hn h6 r3 rfl 64 0 0 (by omega) hz rfl) (fun v M4 h => ⟨h.1, by rw [h.2]; exact m3⟩) (fun _ _ h => h)
end D5
