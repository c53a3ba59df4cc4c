/-! ===== the reference: differ, common, greedy ===== -/
theorem le_of_dif {S I n : Nat} (h : dif S I = 0) (hI : I < 2 ^ n) : S < 2 ^ n := by
  apply Nat.lt_pow_two_of_testBit
  intro i hi
  have h1 : (dif S I).testBit i = false := by rw [h, Nat.zero_testBit]
  rw [dif_bit, testBit_big hI hi] at h1
  simpa using h1
theorem i32_nlt0 {x : Int32} (h : 0 < x) : ¬ x < 0 := fun z => absurd (Int32.lt_trans h z) (by decide)
section RS
variable (G : mG) (M : mM)
theorem c12_differ (hS : Sh M) (hQ : WQ (gI M 231)) (c d : Int32) : Ct G Y12_differ 7 0 0 [.ref 230, .int c, .int d] M (Rs (some (.int (if (inR (kn (gI M 231) 2) c && inR (kn (gI M 231) 2) d) = true then nI (trH (gI M 231) c.toNatClampNeg ^^^ trH (gI M 231) d.toNatClampNeg) else 0))) (Pq M (if (inR (kn (gI M 231) 2) c && inR (kn (gI M 231) 2) d) = true then 0 else 1))) NX := by
  obtain ⟨hP, hI, hU⟩ := hQ
  have e1 : gI (sI M 230 4 0) 231 = gI M 231 := gI_sr _ _ (by decide)
  have hcon := c12_isChestN G (sI M 230 4 0) hS (by rw [e1]; exact hP) c
  have hcon2 := c12_isChestN G (sI M 230 4 0) hS (by rw [e1]; exact hP) d
  rw [e1] at hcon hcon2
  refine Ct.of k12_differ.1 (Nat.le_of_ble_eq_true rfl) ?_
  by_cases hc : inR (kn (gI M 231) 2) c = true
  · by_cases hd : inR (kn (gI M 231) 2) d = true
    · rw [bI_t hc] at hcon
      rw [bI_t hd] at hcon2
      rw [hc, hd]
      obtain ⟨j, hj, rfl, hj2⟩ := inR_of hc
      obtain ⟨k, hk, rfl, hk2⟩ := inR_of hd
      rw [nI_clamp hj2, nI_clamp hk2]
      refine v_aload_n dX12_differ_0 rfl ?_
      refine v_iconst 0 dX12_differ_1 (by decide) ?_
      refine v_putI 12 4 dX12_differ_2 f12_68 (by first | exact hS.1 _ _ rfl | exact hS'.1 _ _ rfl | assumption) (by decide) ?_
      refine v_aload_n dX12_differ_5 rfl ?_
      refine v_iload_n dX12_differ_6 rfl ?_
      refine v_i2l dX12_differ_7 ?_
      refine v_cV [_] (hcon) k12_isChest dX12_differ_8 l12_297 (by first | exact hS.1 _ _ rfl | exact hS'.1 _ _ rfl | assumption) (by decide) rfl (Nat.le_of_ble_eq_true rfl) (Nat.le_of_ble_eq_true rfl) ?_
      refine v_if_eq 23 dX12_differ_11 (by decide) (fun h11 => absurd h11 (by decide)) (fun h11 => ?_)
      refine v_aload_n dX12_differ_14 rfl ?_
      refine v_iload_n dX12_differ_15 rfl ?_
      refine v_i2l dX12_differ_16 ?_
      refine v_cV [_] (hcon2) k12_isChest dX12_differ_17 l12_297 (by first | exact hS.1 _ _ rfl | exact hS'.1 _ _ rfl | assumption) (by decide) rfl (Nat.le_of_ble_eq_true rfl) (Nat.le_of_ble_eq_true rfl) ?_
      refine v_if_ne 29 dX12_differ_20 (by decide) (fun h20 => ?_) (fun h20 => absurd (by decide) h20)
      refine v_aload_n dX12_differ_29 rfl ?_
      skip
      have e1 : gI (sI M 230 4 0) 231 = gI M 231 := gI_sr _ _ (by decide)
      refine v_scVv [] (c12_laysHold G (sI M 230 4 0) hS (by rw [e1]; exact hP)) k12_laysHold dX12_differ_30 l12_306 (hS.1 _ _ rfl) (by decide) rfl (Nat.le_of_ble_eq_true rfl) (Nat.le_of_ble_eq_true rfl) (fun M2 hM2 => ?_)
      have hS' := Sh.sm (M := sI M 230 4 0) hS hM2.1
      have e2 : gI M2 231 = gI M 231 := (hM2.1.K (fun _ => rfl)).trans e1
      have hH := hM2.2
      rw [e1, ← e2] at hH
      have hpq := Pq.of hM2.1
      rw [← e2] at hP hI hU ⊢
      rw [← e2] at hj hk
      have q1 := hH.hold hP j hj
      have q2 := hH.hold hP k hk
      have h14 := hP.2.1.2
      refine v_aload_n dX12_differ_33 rfl ?_
      refine v_getR 12 20 _ dX12_differ_34 f12_36 (by first | exact hS.1 _ _ rfl | exact hS'.1 _ _ rfl | assumption) (by decide) (by first | exact hS.2 _ _ _ rfl | exact hS'.2 _ _ _ rfl | assumption) ?_
      refine v_iload_n dX12_differ_37 rfl ?_
      refine v_ialdN (j) dX12_differ_38 (by first | exact hS.1 _ _ rfl | exact hS'.1 _ _ rfl | assumption) (by simp only [n_lit, pk_mul, nI_add]) ⟨by omega, by omega⟩ ?_
      rw [q1.1]
      refine v_aload_n dX12_differ_39 rfl ?_
      refine v_getR 12 20 _ dX12_differ_40 f12_36 (by first | exact hS.1 _ _ rfl | exact hS'.1 _ _ rfl | assumption) (by decide) (by first | exact hS.2 _ _ _ rfl | exact hS'.2 _ _ _ rfl | assumption) ?_
      refine v_iload_n dX12_differ_43 rfl ?_
      refine v_ialdN (k) dX12_differ_44 (by first | exact hS.1 _ _ rfl | exact hS'.1 _ _ rfl | assumption) (by simp only [n_lit, pk_mul, nI_add]) ⟨by omega, by omega⟩ ?_
      rw [q2.1]
      refine v_ixor dX12_differ_45 ?_
      rw [nIxor]
      refine v_iret dX12_differ_46 rfl ?_
      exact ⟨rfl, hpq⟩
    · rw [bI_t hc] at hcon
      rw [bI_f hd] at hcon2
      rw [if_neg (by simp [hd]), if_neg (by simp [hd])]
      refine v_aload_n dX12_differ_0 rfl ?_
      refine v_iconst 0 dX12_differ_1 (by decide) ?_
      refine v_putI 12 4 dX12_differ_2 f12_68 (by first | exact hS.1 _ _ rfl | exact hS'.1 _ _ rfl | assumption) (by decide) ?_
      refine v_aload_n dX12_differ_5 rfl ?_
      refine v_iload_n dX12_differ_6 rfl ?_
      refine v_i2l dX12_differ_7 ?_
      refine v_cV [_] (hcon) k12_isChest dX12_differ_8 l12_297 (by first | exact hS.1 _ _ rfl | exact hS'.1 _ _ rfl | assumption) (by decide) rfl (Nat.le_of_ble_eq_true rfl) (Nat.le_of_ble_eq_true rfl) ?_
      refine v_if_eq 23 dX12_differ_11 (by decide) (fun h11 => absurd h11 (by decide)) (fun h11 => ?_)
      refine v_aload_n dX12_differ_14 rfl ?_
      refine v_iload_n dX12_differ_15 rfl ?_
      refine v_i2l dX12_differ_16 ?_
      refine v_cV [_] (hcon2) k12_isChest dX12_differ_17 l12_297 (by first | exact hS.1 _ _ rfl | exact hS'.1 _ _ rfl | assumption) (by decide) rfl (Nat.le_of_ble_eq_true rfl) (Nat.le_of_ble_eq_true rfl) ?_
      refine v_if_ne 29 dX12_differ_20 (by decide) (fun h20 => absurd rfl h20) (fun h20 => ?_)
      refine v_aload_n dX12_differ_23 rfl ?_
      refine v_iconst 1 dX12_differ_24 (by decide) ?_
      refine v_cV [_] (c12_fails G (sI M 230 4 0) hS _) k12_fails dX12_differ_25 l12_224 (by first | exact hS.1 _ _ rfl | exact hS'.1 _ _ rfl | assumption) (by decide) rfl (Nat.le_of_ble_eq_true rfl) (Nat.le_of_ble_eq_true rfl) ?_
      refine v_iret dX12_differ_28 rfl ?_
      exact ⟨rfl, Pq.st2⟩
  · rw [bI_f hc] at hcon
    rw [if_neg (by simp [hc]), if_neg (by simp [hc])]
    refine v_aload_n dX12_differ_0 rfl ?_
    refine v_iconst 0 dX12_differ_1 (by decide) ?_
    refine v_putI 12 4 dX12_differ_2 f12_68 (by first | exact hS.1 _ _ rfl | exact hS'.1 _ _ rfl | assumption) (by decide) ?_
    refine v_aload_n dX12_differ_5 rfl ?_
    refine v_iload_n dX12_differ_6 rfl ?_
    refine v_i2l dX12_differ_7 ?_
    refine v_cV [_] (hcon) k12_isChest dX12_differ_8 l12_297 (by first | exact hS.1 _ _ rfl | exact hS'.1 _ _ rfl | assumption) (by decide) rfl (Nat.le_of_ble_eq_true rfl) (Nat.le_of_ble_eq_true rfl) ?_
    refine v_if_eq 23 dX12_differ_11 (by decide) (fun h11 => ?_) (fun h11 => absurd rfl h11)
    refine v_aload_n dX12_differ_23 rfl ?_
    refine v_iconst 1 dX12_differ_24 (by decide) ?_
    refine v_cV [_] (c12_fails G (sI M 230 4 0) hS _) k12_fails dX12_differ_25 l12_224 (by first | exact hS.1 _ _ rfl | exact hS'.1 _ _ rfl | assumption) (by decide) rfl (Nat.le_of_ble_eq_true rfl) (Nat.le_of_ble_eq_true rfl) ?_
    refine v_iret dX12_differ_28 rfl ?_
    exact ⟨rfl, Pq.st2⟩
theorem cmA_t {K : Nat → Int32} {S c : Nat} (h : S.testBit c = true) : cmA K S (c + 1) = cmA K S c &&& trH K c ∧ cmS K S (c + 1) = cmS K S c ||| trH K c := ⟨if_pos h, if_pos h⟩
theorem cmA_f {K : Nat → Int32} {S c : Nat} (h : ¬ S.testBit c = true) : cmA K S (c + 1) = cmA K S c ∧ cmS K S (c + 1) = cmS K S c := ⟨if_neg h, if_neg h⟩
theorem l12_common (hS : Sh M) (hP : WP (gI M 231)) (hH : HH M (gI M 231)) {S : Nat} (hs : S < 16384) : ∀ i c, c + i = kn (gI M 231) 2 → V G Y12_common 7 0 0 (Rv (some (.int (nI (cmA (gI M 231) S (kn (gI M 231) 2) ||| dif (2 ^ kn (gI M 231) 3 - 1) (cmS (gI M 231) S (kn (gI M 231) 2)) * 1024)))) M) NX 43 [some (.ref 230), some (.int (nI S)), some (.int (nI (cmA (gI M 231) S c))), some (.int (nI (cmS (gI M 231) S c))), some (.int (nI c))] [] M := by
  have h14 := hP.2.1.2
  have haw := aw_lt hP
  intro i
  induction i with
  | zero =>
    intro c hc
    obtain rfl : c = kn (gI M 231) 2 := by omega
    have hd := dif_le (2 ^ kn (gI M 231) 3 - 1) (cmS (gI M 231) S (kn (gI M 231) 2)) (n := 10) haw
    refine v_iload dX12_common_43 rfl ?_
    refine v_aload_n dX12_common_45 rfl ?_
    refine v_cV [] (c12_chestsN G M hS hP) k12_chests dX12_common_46 l12_245 (by first | exact hS.1 _ _ rfl | exact hS'.1 _ _ rfl | assumption) (by decide) rfl (Nat.le_of_ble_eq_true rfl) (Nat.le_of_ble_eq_true rfl) ?_
    refine v_icmp_ge 90 dX12_common_49 (by decide) (fun h49 => ?_) (fun h49 => absurd (nI_le (Nat.le_refl _) (by omega)) h49)
    refine v_iload_n dX12_common_90 rfl ?_
    refine v_aload_n dX12_common_91 rfl ?_
    refine v_cV [] (c12_allWords G M hS hP) k12_allWords dX12_common_92 l12_320 (by first | exact hS.1 _ _ rfl | exact hS'.1 _ _ rfl | assumption) (by decide) rfl (Nat.le_of_ble_eq_true rfl) (Nat.le_of_ble_eq_true rfl) ?_
    refine v_iload_n dX12_common_95 rfl ?_
    refine v_iconst (-1) dX12_common_96 (by decide) ?_
    refine v_ixor dX12_common_97 ?_
    refine v_iand dX12_common_98 ?_
    rw [andnot]
    refine v_bipush 10 dX12_common_99 (by decide) ?_
    refine v_ishl dX12_common_101 ?_
    rw [shl10 (show _ < 2 ^ 20 by omega)]
    refine v_ior dX12_common_102 ?_
    rw [nIor]
    refine v_iret dX12_common_103 rfl ?_
    exact ⟨rfl, rfl⟩
  | succ i ih =>
    intro c hc
    have hn := ih (c + 1) (by omega)
    have q1 := hH.hold hP c (by omega)
    refine v_iload dX12_common_43 rfl ?_
    refine v_aload_n dX12_common_45 rfl ?_
    refine v_cV [] (c12_chestsN G M hS hP) k12_chests dX12_common_46 l12_245 (by first | exact hS.1 _ _ rfl | exact hS'.1 _ _ rfl | assumption) (by decide) rfl (Nat.le_of_ble_eq_true rfl) (Nat.le_of_ble_eq_true rfl) ?_
    refine v_icmp_ge 90 dX12_common_49 (by decide) (fun h49 => ?_) (fun h49 => ?_)
    · (exfalso; (try simp (disch := omega) only [nI_leI, nI_ltI, nI_eq, nI0, bI_z, bI_lez, Decidable.not_not] at h49); omega)
    · refine v_iload_n dX12_common_52 rfl ?_
      refine v_iload dX12_common_53 rfl ?_
      refine v_cS [_, _] (c12_hasN G M (by omega) (by omega)) k12_has dX12_common_55 l12_248 rfl (Nat.le_of_ble_eq_true rfl) (Nat.le_of_ble_eq_true rfl) ?_
      refine v_if_ne 64 dX12_common_58 (by decide) (fun h58 => ?_) (fun h58 => ?_)
      · refine v_iload_n dX12_common_64 rfl ?_
        refine v_aload_n dX12_common_65 rfl ?_
        refine v_getR 12 20 _ dX12_common_66 f12_36 (by first | exact hS.1 _ _ rfl | exact hS'.1 _ _ rfl | assumption) (by decide) (by first | exact hS.2 _ _ _ rfl | exact hS'.2 _ _ _ rfl | assumption) ?_
        refine v_iload dX12_common_69 rfl ?_
        refine v_ialdN (c) dX12_common_71 (by first | exact hS.1 _ _ rfl | exact hS'.1 _ _ rfl | assumption) (by simp only [n_lit, pk_mul, nI_add]) ⟨by omega, by omega⟩ ?_
        rw [q1.1]
        refine v_iand dX12_common_72 ?_
        rw [nIand]
        refine v_istore_n dX12_common_73 rfl (by decide) ?_
        refine v_iload_n dX12_common_74 rfl ?_
        refine v_aload_n dX12_common_75 rfl ?_
        refine v_getR 12 20 _ dX12_common_76 f12_36 (by first | exact hS.1 _ _ rfl | exact hS'.1 _ _ rfl | assumption) (by decide) (by first | exact hS.2 _ _ _ rfl | exact hS'.2 _ _ _ rfl | assumption) ?_
        refine v_iload dX12_common_79 rfl ?_
        refine v_ialdN (c) dX12_common_81 (by first | exact hS.1 _ _ rfl | exact hS'.1 _ _ rfl | assumption) (by simp only [n_lit, pk_mul, nI_add]) ⟨by omega, by omega⟩ ?_
        rw [q1.1]
        refine v_ior dX12_common_82 ?_
        rw [nIor]
        refine v_istore_n dX12_common_83 rfl (by decide) ?_
        refine v_iinc 1 dX12_common_84 rfl (by decide) rfl (by decide) ?_
        refine v_goto 43 dX12_common_87 (by decide) ?_
        (rw [nI_1]; (try simp (disch := omega) only [nI_leI, nI_ltI, nI_eq, nI0, bI_z, bI_lez, Decidable.not_not] at h49 h58); first | (rw [(cmA_t (by assumption)).1, (cmA_t (by assumption)).2] at hn; exact hn) | (rw [(cmA_f (by assumption)).1, (cmA_f (by assumption)).2] at hn; exact hn))
      · refine v_goto 84 dX12_common_61 (by decide) ?_
        refine v_iinc 1 dX12_common_84 rfl (by decide) rfl (by decide) ?_
        refine v_goto 43 dX12_common_87 (by decide) ?_
        (rw [nI_1]; (try simp (disch := omega) only [nI_leI, nI_ltI, nI_eq, nI0, bI_z, bI_lez, Decidable.not_not] at h49 h58); first | (rw [(cmA_t (by assumption)).1, (cmA_t (by assumption)).2] at hn; exact hn) | (rw [(cmA_f (by assumption)).1, (cmA_f (by assumption)).2] at hn; exact hn))
theorem c12_common (hS : Sh M) (hQ : WQ (gI M 231)) (x : Int32) : Ct G Y12_common 7 0 0 [.ref 230, .int x] M (Rs (some (.int (if tCm (gI M 231) x = 0 then nI (cmA (gI M 231) x.toNatClampNeg (kn (gI M 231) 2) ||| dif (2 ^ kn (gI M 231) 3 - 1) (cmS (gI M 231) x.toNatClampNeg (kn (gI M 231) 2)) * 1024) else 0))) (Pq M (tCm (gI M 231) x))) NX := by
  obtain ⟨hP, hI, hU⟩ := hQ
  have e1 : gI (sI M 230 4 0) 231 = gI M 231 := gI_sr _ _ (by decide)
  refine Ct.of k12_common.1 (Nat.le_of_ble_eq_true rfl) ?_
  by_cases hx : 0 < x ∧ x &&& (gI M 231 93 ^^^ (-1)) = 0
  · rw [tCm, if_pos hx, if_pos rfl]
    have hin := in_lt hP hI
    obtain ⟨S, hS31, rfl⟩ := nI_of (i32_nlt0 hx.1)
    have hx2 := hx.2
    rw [hI.1, andnot, nI0 (dif_le _ _ (n := 31) hS31)] at hx2
    have hs : S < 2 ^ 14 := le_of_dif hx2 hin
    rw [nI_clamp hS31]
    refine v_aload_n dX12_common_0 rfl ?_
    refine v_iconst 0 dX12_common_1 (by decide) ?_
    refine v_putI 12 4 dX12_common_2 f12_68 (by first | exact hS.1 _ _ rfl | exact hS'.1 _ _ rfl | assumption) (by decide) ?_
    refine v_iload_n dX12_common_5 rfl ?_
    refine v_if_le 23 dX12_common_6 (by decide) (fun h6 => absurd hx.1 (Int32.not_lt.mpr h6)) (fun h6 => ?_)
    refine v_iload_n dX12_common_9 rfl ?_
    refine v_aload_n dX12_common_10 rfl ?_
    refine v_getR 12 0 _ dX12_common_11 f12_9 (by first | exact hS.1 _ _ rfl | exact hS'.1 _ _ rfl | assumption) (by decide) (by first | exact hS.2 _ _ _ rfl | exact hS'.2 _ _ _ rfl | assumption) ?_
    refine v_bipush 93 dX12_common_14 (by decide) ?_
    refine v_ialdN 93 dX12_common_16 (by first | exact hS.1 _ _ rfl | exact hS'.1 _ _ rfl | assumption) rfl (by decide) ?_
    refine v_iconst (-1) dX12_common_17 (by decide) ?_
    rw [e1]
    refine v_ixor dX12_common_18 ?_
    refine v_iand dX12_common_19 ?_
    refine v_if_eq 29 dX12_common_20 (by decide) (fun h20 => ?_) (fun h20 => absurd hx.2 h20)
    refine v_aload_n dX12_common_29 rfl ?_
    skip
    have e1 : gI (sI M 230 4 0) 231 = gI M 231 := gI_sr _ _ (by decide)
    refine v_scVv [] (c12_laysHold G (sI M 230 4 0) hS (by rw [e1]; exact hP)) k12_laysHold dX12_common_30 l12_306 (hS.1 _ _ rfl) (by decide) rfl (Nat.le_of_ble_eq_true rfl) (Nat.le_of_ble_eq_true rfl) (fun M2 hM2 => ?_)
    have hS' := Sh.sm (M := sI M 230 4 0) hS hM2.1
    have e2 : gI M2 231 = gI M 231 := (hM2.1.K (fun _ => rfl)).trans e1
    have hH := hM2.2
    rw [e1, ← e2] at hH
    have hpq := Pq.of hM2.1
    rw [← e2] at hP hI hU ⊢
    refine v_aload_n dX12_common_33 rfl ?_
    -- at 34: .invokevirtual 320
    refine v_cV [] (c12_allWords G M2 hS' hP) k12_allWords dX12_common_34 l12_320 (by first | exact hS.1 _ _ rfl | exact hS'.1 _ _ rfl | assumption) (by decide) rfl (Nat.le_of_ble_eq_true rfl) (Nat.le_of_ble_eq_true rfl) ?_
    refine v_istore_n dX12_common_37 rfl (by decide) ?_
    refine v_iconst 0 dX12_common_38 (by decide) ?_
    refine v_istore_n dX12_common_39 rfl (by decide) ?_
    refine v_iconst 0 dX12_common_40 (by decide) ?_
    refine v_istore dX12_common_41 rfl (by decide) ?_
    -- at 43: .iload 4
    refine V.post (l12_common G M2 hS' hP hH hs (kn (gI M2 231) 2) 0 (by omega)) (fun v M3 h => ⟨h.1, by rw [h.2]; exact hpq⟩) (fun _ _ h => h)
  · rw [tCm, if_neg hx, if_neg (by decide)]
    refine v_aload_n dX12_common_0 rfl ?_
    refine v_iconst 0 dX12_common_1 (by decide) ?_
    refine v_putI 12 4 dX12_common_2 f12_68 (by first | exact hS.1 _ _ rfl | exact hS'.1 _ _ rfl | assumption) (by decide) ?_
    refine v_iload_n dX12_common_5 rfl ?_
    refine v_if_le 23 dX12_common_6 (by decide) (fun h6 => ?_) (fun h6 => ?_)
    · refine v_aload_n dX12_common_23 rfl ?_
      refine v_iconst 1 dX12_common_24 (by decide) ?_
      refine v_cV [_] (c12_fails G (sI M 230 4 0) hS _) k12_fails dX12_common_25 l12_224 (by first | exact hS.1 _ _ rfl | exact hS'.1 _ _ rfl | assumption) (by decide) rfl (Nat.le_of_ble_eq_true rfl) (Nat.le_of_ble_eq_true rfl) ?_
      refine v_iret dX12_common_28 rfl ?_
      exact ⟨rfl, Pq.st2⟩
    · refine v_iload_n dX12_common_9 rfl ?_
      refine v_aload_n dX12_common_10 rfl ?_
      refine v_getR 12 0 _ dX12_common_11 f12_9 (by first | exact hS.1 _ _ rfl | exact hS'.1 _ _ rfl | assumption) (by decide) (by first | exact hS.2 _ _ _ rfl | exact hS'.2 _ _ _ rfl | assumption) ?_
      refine v_bipush 93 dX12_common_14 (by decide) ?_
      refine v_ialdN 93 dX12_common_16 (by first | exact hS.1 _ _ rfl | exact hS'.1 _ _ rfl | assumption) rfl (by decide) ?_
      refine v_iconst (-1) dX12_common_17 (by decide) ?_
      rw [e1]
      refine v_ixor dX12_common_18 ?_
      refine v_iand dX12_common_19 ?_
      refine v_if_eq 29 dX12_common_20 (by decide) (fun h20 => ?_) (fun h20 => ?_)
      · exact absurd ⟨Int32.not_le.mp h6, h20⟩ hx
      · refine v_aload_n dX12_common_23 rfl ?_
        refine v_iconst 1 dX12_common_24 (by decide) ?_
        refine v_cV [_] (c12_fails G (sI M 230 4 0) hS _) k12_fails dX12_common_25 l12_224 (by first | exact hS.1 _ _ rfl | exact hS'.1 _ _ rfl | assumption) (by decide) rfl (Nat.le_of_ble_eq_true rfl) (Nat.le_of_ble_eq_true rfl) ?_
        refine v_iret dX12_common_28 rfl ?_
        exact ⟨rfl, Pq.st2⟩
end RS
