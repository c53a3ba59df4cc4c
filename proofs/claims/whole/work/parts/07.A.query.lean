/-! ===== the reference: what it answers, descriptions ===== -/
def WQ (K : Nat → Int32) : Prop := WP K ∧ inOK K ∧ usOK K
/-- scratch of the reference's questions -/
def Wq (q k : Nat) : Bool := Wlh q k || (Nat.beq q 230 && Nat.beq k 4) || Nat.beq q 242 || Nat.beq q 243
/-- a question's end: t thrown, all else scratch -/
def Pq (M : mM) (t : Int32) (M' : mM) : Prop := Sm Wq M M' ∧ gI M' 230 4 = t
def inR (n : Nat) (x : Int32) : Bool := decide (¬ x < 0 ∧ x.toNatClampNeg < n)
theorem inR_nI {n j : Nat} (h : j < 2 ^ 31) : inR n (nI j) = decide (j < n) := by
  unfold inR
  rw [nI_clamp h]
  have := nI_pos h
  simp [this]
theorem inR_of {n : Nat} {x : Int32} (h : inR n x = true) : ∃ j, j < n ∧ x = nI j ∧ j < 2 ^ 31 := by
  simp only [inR, decide_eq_true_eq] at h
  obtain ⟨j, hj, rfl⟩ := nI_of h.1
  rw [nI_clamp hj] at h
  exact ⟨j, h.2, rfl, hj⟩
theorem within_in {n : Nat} (hn : n < 2 ^ 30) (x : Int32) : (0 ≤ x.toInt64 ∧ x.toInt64 ≤ (nI n - 1).toInt64) ↔ inR n x = true := by
  have e : (nI n - 1).toInt64.toInt = (n : Int) - 1 := by
    rw [Int32.toInt_toInt64]
    exact pk_sub_toInt (b := 1) hn (by omega)
  rw [Int64.le_iff_toInt_le, Int64.le_iff_toInt_le, e, Int32.toInt_toInt64, show (0 : Int64).toInt = 0 from rfl]
  constructor
  · intro h
    have h0 : ¬ x < 0 := by rw [Int32.lt_iff_toInt_lt]; have : (0 : Int32).toInt = 0 := rfl; omega
    obtain ⟨j, hj, rfl⟩ := nI_of h0
    rw [inR_nI hj]
    rw [nI_toInt hj] at h
    simp; omega
  · intro h
    obtain ⟨j, h1, rfl, h2⟩ := inR_of h
    rw [nI_toInt h2]
    omega
/-- why a chest can't be asked: 1 none such, 2 it isn't IN -/
def chF (K : Nat → Int32) (c : Int32) : Int32 := if inR (kn K 2) c = true then (if (kn K 93).testBit c.toNatClampNeg = true then 0 else 2) else 1
section RA
variable (G : mG) (M : mM)
theorem Pq.of {M M2 : mM} {t : Int32} (h : Sm Wlh (sI M 230 4 t) M2) : Pq M t M2 := by
  have h1 : Sm Wq M (sI M 230 4 t) := Sm.rf.st _ rfl
  refine ⟨h1.tr (h.wk (fun q k z => ?_)), (h.2.2.2.2 230 4 rfl).trans (gI_ss _ _ _ _)⟩
  simp only [Wq, Bool.or_eq_false_iff] at z ⊢
  exact z.1.1.1
theorem Pq.st {M : mM} {t : Int32} : Pq M t (sI M 230 4 t) := ⟨Sm.rf.st _ rfl, gI_ss _ _ _ _⟩
theorem Pq.st2 {M : mM} {t u : Int32} : Pq M t (sI (sI M 230 4 u) 230 4 t) := ⟨(Sm.rf.st _ rfl).st _ rfl, gI_ss _ _ _ _⟩
theorem c12_isChestN (hS : Sh M) (hP : WP (gI M 231)) (c : Int32) : Ct G Y12_isChest 1 0 0 [.ref 230, .long c.toInt64] M (Rv (some (.int (bI (inR (kn (gI M 231) 2) c = true)))) M) NX := by
  have h := c12_isChest G M hS c.toInt64
  rw [hP.2.1.1, bI_cong (within_in (by have := hP.2.1.2; omega) c)] at h
  exact h
theorem c12_isMark (hS : Sh M) (hP : WP (gI M 231)) (m : Int32) : Ct G Y12_isMark 1 0 0 [.ref 230, .long m.toInt64] M (Rv (some (.int (bI (inR (kn (gI M 231) 1) m = true)))) M) NX := by
  refine Ct.of k12_isMark.1 (Nat.le_of_ble_eq_true rfl) ?_
  refine v_lload_n dX12_isMark_0 rfl ?_
  refine v_lconst 0 dX12_isMark_1 (by decide) ?_
  refine v_aload_n dX12_isMark_2 rfl ?_
  refine v_getR 12 0 _ dX12_isMark_3 f12_9 (by first | exact hS.1 _ _ rfl | exact hS'.1 _ _ rfl | assumption) (by decide) (by first | exact hS.2 _ _ _ rfl | exact hS'.2 _ _ _ rfl | assumption) ?_
  refine v_iconst 1 dX12_isMark_6 (by decide) ?_
  refine v_ialdN 1 dX12_isMark_7 (by first | exact hS.1 _ _ rfl | exact hS'.1 _ _ rfl | assumption) rfl (by decide) ?_
  refine v_iconst 1 dX12_isMark_8 (by decide) ?_
  refine v_isub dX12_isMark_9 ?_
  refine v_i2l dX12_isMark_10 ?_
  -- at 11: .invokestatic 132
  rw [hP.1.1]
  refine v_cS [_, _, _] (c12_within _ _ _ _ _) k12_within dX12_isMark_11 l12_132 rfl (Nat.le_of_ble_eq_true rfl) (Nat.le_of_ble_eq_true rfl) ?_
  rw [bI_cong (within_in (by have := hP.1.2.2; omega) m)]
  refine v_zret dX12_isMark_14 rfl (by first | rfl | exact bI_nb _ | assumption) ⟨rfl, rfl⟩
theorem c12_isHallWord (hS : Sh M) (hP : WP (gI M 231)) (w : Int32) : Ct G Y12_isHallWord 1 0 0 [.ref 230, .int w] M (Rv (some (.int (bI (inR (kn (gI M 231) 3) w = true)))) M) NX := by
  refine Ct.of k12_isHallWord.1 (Nat.le_of_ble_eq_true rfl) ?_
  refine v_iload_n dX12_isHallWord_0 rfl ?_
  refine v_i2l dX12_isHallWord_1 ?_
  refine v_lconst 0 dX12_isHallWord_2 (by decide) ?_
  refine v_aload_n dX12_isHallWord_3 rfl ?_
  -- at 4: .invokevirtual 242
  refine v_cV [] (c12_words G M hS) k12_words dX12_isHallWord_4 l12_242 (by first | exact hS.1 _ _ rfl | exact hS'.1 _ _ rfl | assumption) (by decide) rfl (Nat.le_of_ble_eq_true rfl) (Nat.le_of_ble_eq_true rfl) ?_
  rw [hP.2.2.1.1]
  refine v_iconst 1 dX12_isHallWord_7 (by decide) ?_
  refine v_isub dX12_isHallWord_8 ?_
  refine v_i2l dX12_isHallWord_9 ?_
  -- at 10: .invokestatic 132
  refine v_cS [_, _, _] (c12_within _ _ _ _ _) k12_within dX12_isHallWord_10 l12_132 rfl (Nat.le_of_ble_eq_true rfl) (Nat.le_of_ble_eq_true rfl) ?_
  rw [bI_cong (within_in (by have := hP.2.2.1.2; omega) w)]
  refine v_zret dX12_isHallWord_13 rfl (by first | rfl | exact bI_nb _ | assumption) ⟨rfl, rfl⟩
theorem c12_isBody (hS : Sh M) (hP : WP (gI M 231)) (p : Int32) : Ct G Y12_isBody 1 0 0 [.ref 230, .int p] M (Rv (some (.int (bI (inR (kn (gI M 231) 6) p = true)))) M) NX := by
  refine Ct.of k12_isBody.1 (Nat.le_of_ble_eq_true rfl) ?_
  refine v_iload_n dX12_isBody_0 rfl ?_
  refine v_i2l dX12_isBody_1 ?_
  refine v_lconst 0 dX12_isBody_2 (by decide) ?_
  refine v_aload_n dX12_isBody_3 rfl ?_
  refine v_getR 12 0 _ dX12_isBody_4 f12_9 (by first | exact hS.1 _ _ rfl | exact hS'.1 _ _ rfl | assumption) (by decide) (by first | exact hS.2 _ _ _ rfl | exact hS'.2 _ _ _ rfl | assumption) ?_
  refine v_bipush 6 dX12_isBody_7 (by decide) ?_
  refine v_ialdN 6 dX12_isBody_9 (by first | exact hS.1 _ _ rfl | exact hS'.1 _ _ rfl | assumption) rfl (by decide) ?_
  refine v_iconst 1 dX12_isBody_10 (by decide) ?_
  refine v_isub dX12_isBody_11 ?_
  refine v_i2l dX12_isBody_12 ?_
  -- at 13: .invokestatic 132
  rw [hP.2.2.2.2.2.1.1]
  refine v_cS [_, _, _] (c12_within _ _ _ _ _) k12_within dX12_isBody_13 l12_132 rfl (Nat.le_of_ble_eq_true rfl) (Nat.le_of_ble_eq_true rfl) ?_
  rw [bI_cong (within_in (by have := hP.2.2.2.2.2.1.2; omega) p)]
  refine v_zret dX12_isBody_16 rfl (by first | rfl | exact bI_nb _ | assumption) ⟨rfl, rfl⟩
theorem c12_chestFault (hS : Sh M) (hP : WP (gI M 231)) (hI : inOK (gI M 231)) (c : Int32) : Ct G Y12_chestFault 2 0 0 [.ref 230, .int c] M (Rv (some (.int (chF (gI M 231) c))) M) NX := by
  refine Ct.of k12_chestFault.1 (Nat.le_of_ble_eq_true rfl) ?_
  refine v_aload_n dX12_chestFault_0 rfl ?_
  refine v_iload_n dX12_chestFault_1 rfl ?_
  refine v_i2l dX12_chestFault_2 ?_
  -- at 3: .invokevirtual 297
  refine v_cV [_] (c12_isChestN G M hS hP c) k12_isChest dX12_chestFault_3 l12_297 (by first | exact hS.1 _ _ rfl | exact hS'.1 _ _ rfl | assumption) (by decide) rfl (Nat.le_of_ble_eq_true rfl) (Nat.le_of_ble_eq_true rfl) ?_
  by_cases h : inR (kn (gI M 231) 2) c = true
  · rw [bI_t h]
    obtain ⟨j, hj, rfl, hj2⟩ := inR_of h
    refine v_if_ne 13 dX12_chestFault_6 (by decide) (fun h6 => ?_) (fun h6 => ?_)
    · refine v_aload_n dX12_chestFault_13 rfl ?_
      refine v_iload_n dX12_chestFault_14 rfl ?_
      -- at 15: .invokevirtual 250
      refine v_cV [_] (c12_isInN G M hS hP hI (by have := hP.2.1.2; omega)) k12_isIn dX12_chestFault_15 l12_250 (by first | exact hS.1 _ _ rfl | exact hS'.1 _ _ rfl | assumption) (by decide) rfl (Nat.le_of_ble_eq_true rfl) (Nat.le_of_ble_eq_true rfl) ?_
      by_cases hb : (kn (gI M 231) 93).testBit j = true
      · rw [bI_t hb]
        refine v_if_eq 25 dX12_chestFault_18 (by decide) (fun h18 => ?_) (fun h18 => ?_)
        · exact absurd h18 (by decide)
        · refine v_iconst 0 dX12_chestFault_21 (by decide) ?_
          refine v_goto 26 dX12_chestFault_22 (by decide) ?_
          -- at 26: .ireturn
          refine v_iret dX12_chestFault_26 rfl ⟨by rw [chF, if_pos h, nI_clamp hj2, if_pos hb], rfl⟩
      · rw [bI_f hb]
        refine v_if_eq 25 dX12_chestFault_18 (by decide) (fun h18 => ?_) (fun h18 => ?_)
        · refine v_iconst 2 dX12_chestFault_25 (by decide) ?_
          -- at 26: .ireturn
          refine v_iret dX12_chestFault_26 rfl ⟨by rw [chF, if_pos h, nI_clamp hj2, if_neg hb], rfl⟩
        · exact absurd rfl h18
    · exact absurd (by decide) h6
  · rw [bI_f h]
    refine v_if_ne 13 dX12_chestFault_6 (by decide) (fun h6 => ?_) (fun h6 => ?_)
    · exact absurd rfl h6
    · refine v_iconst 1 dX12_chestFault_9 (by decide) ?_
      refine v_goto 26 dX12_chestFault_10 (by decide) ?_
      -- at 26: .ireturn
      refine v_iret dX12_chestFault_26 rfl ⟨by rw [chF, if_neg h], rfl⟩
theorem chF_ok {K : Nat → Int32} {c : Int32} (h : ¬ (0 : Int32) < chF K c) : ∃ j, j < kn K 2 ∧ c = nI j ∧ (kn K 93).testBit j = true ∧ chF K c = 0 := by
  unfold chF at h ⊢
  split at h
  · rename_i h1
    obtain ⟨j, hj, rfl, hj2⟩ := inR_of h1
    rw [nI_clamp hj2] at h ⊢
    split at h
    · rename_i h2; exact ⟨j, hj, rfl, h2, by rw [if_pos h1, if_pos h2]⟩
    · exact absurd (by decide) h
  · exact absurd (by decide) h
theorem isDI_of {nw : Nat} {d : Int32} (h : isDI nw d = true) : ∃ D, d = nI D ∧ D < 1048576 ∧ d.toNatClampNeg = D ∧ isDN nw D = true := by
  simp only [isDI, Bool.and_eq_true, decide_eq_true_eq] at h
  obtain ⟨D, hD, rfl⟩ := nI_of h.1
  rw [nI_clamp hD] at h ⊢
  have h2 := h.2
  simp only [isDN, decide_eq_true_eq] at h2
  exact ⟨D, rfl, h2.1, rfl, h.2⟩
def tD (K : Nat → Int32) (d : Int32) : Int32 := if isDI (kn K 3) d = true then 0 else 1
/-- the head of a question by a description -/
theorem c12_fits (hS : Sh M) (hQ : WQ (gI M 231)) (d : Int32) : Ct G Y12_fits 7 0 0 [.ref 230, .int d] M (Rs (some (.int (if isDI (kn (gI M 231) 3) d = true then nI (fitN (kn (gI M 231) 2) (kn (gI M 231) 93) (trH (gI M 231)) d.toNatClampNeg) else 0))) (Pq M (tD (gI M 231) d))) NX := by
  obtain ⟨hP, hI, hU⟩ := hQ
  have e1 : gI (sI M 230 4 0) 231 = gI M 231 := gI_sr _ _ (by decide)
  refine Ct.of k12_fits.1 (Nat.le_of_ble_eq_true rfl) ?_
  refine v_aload_n dX12_fits_0 rfl ?_
  refine v_iconst 0 dX12_fits_1 (by decide) ?_
  refine v_putI 12 4 dX12_fits_2 f12_68 (by first | exact hS.1 _ _ rfl | exact hS'.1 _ _ rfl | assumption) (by decide) ?_
  refine v_aload_n dX12_fits_5 rfl ?_
  refine v_iload_n dX12_fits_6 rfl ?_
  -- at 7: .invokevirtual 333
  have hcon := c12_isDescription G (sI M 230 4 0) hS (by rw [e1]; exact hP) d
  rw [e1] at hcon
  refine v_cV [_] (hcon) k12_isDescription dX12_fits_7 l12_333 (by first | exact hS.1 _ _ rfl | exact hS'.1 _ _ rfl | assumption) (by decide) rfl (Nat.le_of_ble_eq_true rfl) (Nat.le_of_ble_eq_true rfl) ?_
  by_cases hd : isDI (kn (gI M 231) 3) d = true
  · rw [bI_t hd, if_pos hd]
    obtain ⟨D, rfl, hD, hD2, -⟩ := isDI_of hd
    refine v_if_ne 19 dX12_fits_10 (by decide) (fun h10 => ?_) (fun h10 => ?_)
    · refine v_aload_n dX12_fits_19 rfl ?_
      -- at 20: .invokevirtual 306
      refine v_scVv [] (c12_laysHold G (sI M 230 4 0) hS (by rw [e1]; exact hP)) k12_laysHold dX12_fits_20 l12_306 (hS.1 _ _ rfl) (by decide) rfl (Nat.le_of_ble_eq_true rfl) (Nat.le_of_ble_eq_true rfl) (fun M2 hM2 => ?_)
      have hS' := Sh.sm (M := sI M 230 4 0) hS hM2.1
      have e2 : gI M2 231 = gI M 231 := (hM2.1.K (fun _ => rfl)).trans e1
      have hH := hM2.2
      rw [e1, ← e2] at hH
      have hcon := c12_fitsOf G M2 hS' (by rw [e2]; exact hP) (by rw [e2]; exact hI) (hS'.1 238 _ rfl) (hH.hold (by rw [e2]; exact hP)) hD
      rw [e2] at hcon
      refine v_aload_n dX12_fits_23 rfl ?_
      refine v_iload_n dX12_fits_24 rfl ?_
      refine v_aload_n dX12_fits_25 rfl ?_
      refine v_getR 12 20 _ dX12_fits_26 f12_36 (by first | exact hS.1 _ _ rfl | exact hS'.1 _ _ rfl | assumption) (by decide) (by first | exact hS.2 _ _ _ rfl | exact hS'.2 _ _ _ rfl | assumption) ?_
      -- at 29: .invokevirtual 326
      refine v_cV [_, _] (hcon) k12_fitsOf dX12_fits_29 l12_326 (by first | exact hS.1 _ _ rfl | exact hS'.1 _ _ rfl | assumption) (by decide) rfl (Nat.le_of_ble_eq_true rfl) (Nat.le_of_ble_eq_true rfl) ?_
      refine v_iret dX12_fits_32 rfl ⟨by rw [hD2], by rw [tD, if_pos hd]; exact Pq.of hM2.1⟩
    · exact absurd (by decide) h10
  · rw [bI_f hd, if_neg hd]
    refine v_if_ne 19 dX12_fits_10 (by decide) (fun h10 => ?_) (fun h10 => ?_)
    · exact absurd rfl h10
    · refine v_aload_n dX12_fits_13 rfl ?_
      refine v_iconst 1 dX12_fits_14 (by decide) ?_
      -- at 15: .invokevirtual 224
      refine v_cV [_] (c12_fails G (sI M 230 4 0) hS _) k12_fails dX12_fits_15 l12_224 (by first | exact hS.1 _ _ rfl | exact hS'.1 _ _ rfl | assumption) (by decide) rfl (Nat.le_of_ble_eq_true rfl) (Nat.le_of_ble_eq_true rfl) ?_
      refine v_iret dX12_fits_18 rfl ⟨rfl, by rw [tD, if_neg hd]; exact Pq.st2⟩
theorem c12_tells (hS : Sh M) (hQ : WQ (gI M 231)) (d : Int32) : Ct G Y12_tells 7 0 0 [.ref 230, .int d] M (Rs (some (.int (if isDI (kn (gI M 231) 3) d = true then oneOf (fitN (kn (gI M 231) 2) (kn (gI M 231) 93) (trH (gI M 231)) d.toNatClampNeg) else 0))) (Pq M (tD (gI M 231) d))) NX := by
  obtain ⟨hP, hI, hU⟩ := hQ
  have e1 : gI (sI M 230 4 0) 231 = gI M 231 := gI_sr _ _ (by decide)
  refine Ct.of k12_tells.1 (Nat.le_of_ble_eq_true rfl) ?_
  refine v_aload_n dX12_tells_0 rfl ?_
  refine v_iconst 0 dX12_tells_1 (by decide) ?_
  refine v_putI 12 4 dX12_tells_2 f12_68 (by first | exact hS.1 _ _ rfl | exact hS'.1 _ _ rfl | assumption) (by decide) ?_
  refine v_aload_n dX12_tells_5 rfl ?_
  refine v_iload_n dX12_tells_6 rfl ?_
  -- at 7: .invokevirtual 333
  have hcon := c12_isDescription G (sI M 230 4 0) hS (by rw [e1]; exact hP) d
  rw [e1] at hcon
  refine v_cV [_] (hcon) k12_isDescription dX12_tells_7 l12_333 (by first | exact hS.1 _ _ rfl | exact hS'.1 _ _ rfl | assumption) (by decide) rfl (Nat.le_of_ble_eq_true rfl) (Nat.le_of_ble_eq_true rfl) ?_
  by_cases hd : isDI (kn (gI M 231) 3) d = true
  · rw [bI_t hd, if_pos hd]
    obtain ⟨D, rfl, hD, hD2, -⟩ := isDI_of hd
    refine v_if_ne 19 dX12_tells_10 (by decide) (fun h10 => ?_) (fun h10 => ?_)
    · refine v_aload_n dX12_tells_19 rfl ?_
      -- at 20: .invokevirtual 306
      refine v_scVv [] (c12_laysHold G (sI M 230 4 0) hS (by rw [e1]; exact hP)) k12_laysHold dX12_tells_20 l12_306 (hS.1 _ _ rfl) (by decide) rfl (Nat.le_of_ble_eq_true rfl) (Nat.le_of_ble_eq_true rfl) (fun M2 hM2 => ?_)
      have hS' := Sh.sm (M := sI M 230 4 0) hS hM2.1
      have e2 : gI M2 231 = gI M 231 := (hM2.1.K (fun _ => rfl)).trans e1
      have hH := hM2.2
      rw [e1, ← e2] at hH
      have hcon := c12_toldBy G M2 hS' (by rw [e2]; exact hP) (by rw [e2]; exact hI) hH hD
      rw [e2] at hcon
      refine v_aload_n dX12_tells_23 rfl ?_
      refine v_iload_n dX12_tells_24 rfl ?_
      -- at 25: .invokevirtual 336
      refine v_cV [_] (hcon) k12_toldBy dX12_tells_25 l12_336 (by first | exact hS.1 _ _ rfl | exact hS'.1 _ _ rfl | assumption) (by decide) rfl (Nat.le_of_ble_eq_true rfl) (Nat.le_of_ble_eq_true rfl) ?_
      refine v_iret dX12_tells_28 rfl ⟨by rw [hD2], by rw [tD, if_pos hd]; exact Pq.of hM2.1⟩
    · exact absurd (by decide) h10
  · rw [bI_f hd, if_neg hd]
    refine v_if_ne 19 dX12_tells_10 (by decide) (fun h10 => ?_) (fun h10 => ?_)
    · exact absurd rfl h10
    · refine v_aload_n dX12_tells_13 rfl ?_
      refine v_iconst 1 dX12_tells_14 (by decide) ?_
      -- at 15: .invokevirtual 224
      refine v_cV [_] (c12_fails G (sI M 230 4 0) hS _) k12_fails dX12_tells_15 l12_224 (by first | exact hS.1 _ _ rfl | exact hS'.1 _ _ rfl | assumption) (by decide) rfl (Nat.le_of_ble_eq_true rfl) (Nat.le_of_ble_eq_true rfl) ?_
      refine v_iret dX12_tells_18 rfl ⟨rfl, by rw [tD, if_neg hd]; exact Pq.st2⟩
theorem c12_cost (hS : Sh M) (hQ : WQ (gI M 231)) (d : Int32) : Ct G Y12_cost 3 0 0 [.ref 230, .int d] M (Rs (some (.int (if isDI (kn (gI M 231) 3) d = true then nI (costN (gI M 231) d.toNatClampNeg) else 0))) (Pq M (tD (gI M 231) d))) NX := by
  obtain ⟨hP, hI, hU⟩ := hQ
  have e1 : gI (sI M 230 4 0) 231 = gI M 231 := gI_sr _ _ (by decide)
  refine Ct.of k12_cost.1 (Nat.le_of_ble_eq_true rfl) ?_
  refine v_aload_n dX12_cost_0 rfl ?_
  refine v_iconst 0 dX12_cost_1 (by decide) ?_
  refine v_putI 12 4 dX12_cost_2 f12_68 (by first | exact hS.1 _ _ rfl | exact hS'.1 _ _ rfl | assumption) (by decide) ?_
  refine v_aload_n dX12_cost_5 rfl ?_
  refine v_iload_n dX12_cost_6 rfl ?_
  -- at 7: .invokevirtual 333
  have hcon := c12_isDescription G (sI M 230 4 0) hS (by rw [e1]; exact hP) d
  rw [e1] at hcon
  refine v_cV [_] (hcon) k12_isDescription dX12_cost_7 l12_333 (by first | exact hS.1 _ _ rfl | exact hS'.1 _ _ rfl | assumption) (by decide) rfl (Nat.le_of_ble_eq_true rfl) (Nat.le_of_ble_eq_true rfl) ?_
  by_cases hd : isDI (kn (gI M 231) 3) d = true
  · rw [bI_t hd, if_pos hd]
    obtain ⟨D, rfl, hD, hD2, -⟩ := isDI_of hd
    refine v_if_eq 21 dX12_cost_10 (by decide) (fun h10 => ?_) (fun h10 => ?_)
    · exact absurd h10 (by decide)
    · refine v_aload_n dX12_cost_13 rfl ?_
      refine v_iload_n dX12_cost_14 rfl ?_
      -- at 15: .invokevirtual 339
      have hcon := c12_costOf G (sI M 230 4 0) hS (by rw [e1]; exact hP) (by rw [e1]; exact hU) hD
      rw [e1] at hcon
      refine v_cV [_] (hcon) k12_costOf dX12_cost_15 l12_339 (by first | exact hS.1 _ _ rfl | exact hS'.1 _ _ rfl | assumption) (by decide) rfl (Nat.le_of_ble_eq_true rfl) (Nat.le_of_ble_eq_true rfl) ?_
      refine v_goto 26 dX12_cost_18 (by decide) ?_
      -- at 26: .ireturn
      refine v_iret dX12_cost_26 rfl ⟨by rw [hD2], by rw [tD, if_pos hd]; exact Pq.st⟩
  · rw [bI_f hd, if_neg hd]
    refine v_if_eq 21 dX12_cost_10 (by decide) (fun h10 => ?_) (fun h10 => ?_)
    · refine v_aload_n dX12_cost_21 rfl ?_
      refine v_iconst 1 dX12_cost_22 (by decide) ?_
      -- at 23: .invokevirtual 224
      refine v_cV [_] (c12_fails G (sI M 230 4 0) hS _) k12_fails dX12_cost_23 l12_224 (by first | exact hS.1 _ _ rfl | exact hS'.1 _ _ rfl | assumption) (by decide) rfl (Nat.le_of_ble_eq_true rfl) (Nat.le_of_ble_eq_true rfl) ?_
      refine v_iret dX12_cost_26 rfl ⟨rfl, by rw [tD, if_neg hd]; exact Pq.st2⟩
    · exact absurd rfl h10
end RA
