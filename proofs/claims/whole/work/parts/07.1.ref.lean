/-! ===== the reference's small methods ===== -/
section R1
variable (G : mG) (M : mM)
theorem c12_within (v lo hi : Int64) : Ct G Y12_within 0 0 0 [.long v, .long lo, .long hi] M (Rv (some (.int (bI (lo ≤ v ∧ v ≤ hi)))) M) NX := by
  refine Ct.of k12_within.1 (Nat.le_of_ble_eq_true rfl) ?_
  refine v_lload_n dX12_within_0 rfl ?_
  refine v_lload_n dX12_within_1 rfl ?_
  refine v_lcmp dX12_within_2 ?_
  refine v_if_lt 17 dX12_within_3 (by decide) (fun h3 => ?_) (fun h3 => ?_)
  · refine v_iconst 0 dX12_within_17 (by decide) ?_
    refine v_zret dX12_within_18 rfl (by first | rfl | exact bI_nb _ | assumption) ?_
    refine ⟨?_, rfl⟩; first | (simp [bI, Int64.not_lt.mp (fun z => h3 (lg_lt.mpr z)), Int64.not_lt.mp (fun z => h10 (lg_gt.mpr z))]; done) | (simp [bI, Int64.not_le.mpr (lg_gt.mp h10)]; done) | (simp [bI, Int64.not_le.mpr (lg_lt.mp h3)]; done)
  · refine v_lload_n dX12_within_6 rfl ?_
    refine v_lload dX12_within_7 rfl ?_
    refine v_lcmp dX12_within_9 ?_
    refine v_if_gt 17 dX12_within_10 (by decide) (fun h10 => ?_) (fun h10 => ?_)
    · refine v_iconst 0 dX12_within_17 (by decide) ?_
      refine v_zret dX12_within_18 rfl (by first | rfl | exact bI_nb _ | assumption) ?_
      refine ⟨?_, rfl⟩; first | (simp [bI, Int64.not_lt.mp (fun z => h3 (lg_lt.mpr z)), Int64.not_lt.mp (fun z => h10 (lg_gt.mpr z))]; done) | (simp [bI, Int64.not_le.mpr (lg_gt.mp h10)]; done) | (simp [bI, Int64.not_le.mpr (lg_lt.mp h3)]; done)
    · refine v_iconst 1 dX12_within_13 (by decide) ?_
      refine v_goto 18 dX12_within_14 (by decide) ?_
      refine v_zret dX12_within_18 rfl (by first | rfl | exact bI_nb _ | assumption) ?_
      refine ⟨?_, rfl⟩; first | (simp [bI, Int64.not_lt.mp (fun z => h3 (lg_lt.mpr z)), Int64.not_lt.mp (fun z => h10 (lg_gt.mpr z))]; done) | (simp [bI, Int64.not_le.mpr (lg_gt.mp h10)]; done) | (simp [bI, Int64.not_le.mpr (lg_lt.mp h3)]; done)
theorem c12_has (s k : Int32) : Ct G Y12_has 0 0 0 [.int s, .int k] M (Rv (some (.int (bI ((s >>> (k &&& 31)) &&& 1 = 1)))) M) NX := by
  refine Ct.of k12_has.1 (Nat.le_of_ble_eq_true rfl) ?_
  refine v_iload_n dX12_has_0 rfl ?_
  refine v_iload_n dX12_has_1 rfl ?_
  refine v_ishr dX12_has_2 ?_
  refine v_iconst 1 dX12_has_3 (by decide) ?_
  refine v_iand dX12_has_4 ?_
  refine v_iconst 1 dX12_has_5 (by decide) ?_
  refine v_icmp_ne 13 dX12_has_6 (by decide) (fun h6 => ?_) (fun h6 => ?_)
  · refine v_iconst 0 dX12_has_13 (by decide) ?_
    refine v_zret dX12_has_14 rfl (by first | rfl | exact bI_nb _ | assumption) ?_
    exact ⟨by simp_all [bI], rfl⟩
  · refine v_iconst 1 dX12_has_9 (by decide) ?_
    refine v_goto 14 dX12_has_10 (by decide) ?_
    refine v_zret dX12_has_14 rfl (by first | rfl | exact bI_nb _ | assumption) ?_
    exact ⟨by simp_all [bI], rfl⟩
theorem c12_thrown (hS : Sh M) : Ct G Y12_thrown 0 0 0 [.ref 230] M (Rv (some (.int (gI M 230 4))) M) NX := by
  refine Ct.of k12_thrown.1 (Nat.le_of_ble_eq_true rfl) ?_
  refine v_aload_n dX12_thrown_0 rfl ?_
  refine v_getI 12 4 dX12_thrown_1 f12_68 (by first | exact hS.1 _ _ rfl | exact hS'.1 _ _ rfl | assumption) (by decide) ?_
  refine v_iret dX12_thrown_4 rfl ?_
  exact ⟨rfl, rfl⟩
theorem c12_fails (hS : Sh M) (k : Int32) : Ct G Y12_fails 0 0 0 [.ref 230, .int k] M (Rv (some (.int 0)) (sI M 230 4 k)) NX := by
  refine Ct.of k12_fails.1 (Nat.le_of_ble_eq_true rfl) ?_
  refine v_aload_n dX12_fails_0 rfl ?_
  refine v_iload_n dX12_fails_1 rfl ?_
  refine v_putI 12 4 dX12_fails_2 f12_68 (by first | exact hS.1 _ _ rfl | exact hS'.1 _ _ rfl | assumption) (by decide) ?_
  refine v_iconst 0 dX12_fails_5 (by decide) ?_
  refine v_iret dX12_fails_6 rfl ?_
  exact ⟨rfl, rfl⟩
theorem c12_isLetter (c : Int32) : Ct G Y12_isLetter 0 0 0 [.int c] M (Rv (some (.int (bI (97 ≤ c ∧ c ≤ 122)))) M) NX := by
  refine Ct.of k12_isLetter.1 (Nat.le_of_ble_eq_true rfl) ?_
  refine v_iload_n dX12_isLetter_0 rfl ?_
  refine v_bipush 97 dX12_isLetter_1 (by decide) ?_
  refine v_icmp_lt 16 dX12_isLetter_3 (by decide) (fun h3 => ?_) (fun h3 => ?_)
  · refine v_iconst 0 dX12_isLetter_16 (by decide) ?_
    refine v_zret dX12_isLetter_17 rfl (by first | rfl | exact bI_nb _ | assumption) ?_
    refine ⟨?_, rfl⟩; first | (simp [bI, Int32.not_lt.mp h3, Int32.not_lt.mp h9]; done) | (simp [bI, Int32.not_le.mpr h9]; done) | (simp [bI, Int32.not_le.mpr h3]; done)
  · refine v_iload_n dX12_isLetter_6 rfl ?_
    refine v_bipush 122 dX12_isLetter_7 (by decide) ?_
    refine v_icmp_gt 16 dX12_isLetter_9 (by decide) (fun h9 => ?_) (fun h9 => ?_)
    · refine v_iconst 0 dX12_isLetter_16 (by decide) ?_
      refine v_zret dX12_isLetter_17 rfl (by first | rfl | exact bI_nb _ | assumption) ?_
      refine ⟨?_, rfl⟩; first | (simp [bI, Int32.not_lt.mp h3, Int32.not_lt.mp h9]; done) | (simp [bI, Int32.not_le.mpr h9]; done) | (simp [bI, Int32.not_le.mpr h3]; done)
    · refine v_iconst 1 dX12_isLetter_12 (by decide) ?_
      refine v_goto 17 dX12_isLetter_13 (by decide) ?_
      refine v_zret dX12_isLetter_17 rfl (by first | rfl | exact bI_nb _ | assumption) ?_
      refine ⟨?_, rfl⟩; first | (simp [bI, Int32.not_lt.mp h3, Int32.not_lt.mp h9]; done) | (simp [bI, Int32.not_le.mpr h9]; done) | (simp [bI, Int32.not_le.mpr h3]; done)
theorem c12_isDigit (c : Int32) : Ct G Y12_isDigit 0 0 0 [.int c] M (Rv (some (.int (bI (48 ≤ c ∧ c ≤ 57)))) M) NX := by
  refine Ct.of k12_isDigit.1 (Nat.le_of_ble_eq_true rfl) ?_
  refine v_iload_n dX12_isDigit_0 rfl ?_
  refine v_bipush 48 dX12_isDigit_1 (by decide) ?_
  refine v_icmp_lt 16 dX12_isDigit_3 (by decide) (fun h3 => ?_) (fun h3 => ?_)
  · refine v_iconst 0 dX12_isDigit_16 (by decide) ?_
    refine v_zret dX12_isDigit_17 rfl (by first | rfl | exact bI_nb _ | assumption) ?_
    refine ⟨?_, rfl⟩; first | (simp [bI, Int32.not_lt.mp h3, Int32.not_lt.mp h9]; done) | (simp [bI, Int32.not_le.mpr h9]; done) | (simp [bI, Int32.not_le.mpr h3]; done)
  · refine v_iload_n dX12_isDigit_6 rfl ?_
    refine v_bipush 57 dX12_isDigit_7 (by decide) ?_
    refine v_icmp_gt 16 dX12_isDigit_9 (by decide) (fun h9 => ?_) (fun h9 => ?_)
    · refine v_iconst 0 dX12_isDigit_16 (by decide) ?_
      refine v_zret dX12_isDigit_17 rfl (by first | rfl | exact bI_nb _ | assumption) ?_
      refine ⟨?_, rfl⟩; first | (simp [bI, Int32.not_lt.mp h3, Int32.not_lt.mp h9]; done) | (simp [bI, Int32.not_le.mpr h9]; done) | (simp [bI, Int32.not_le.mpr h3]; done)
    · refine v_iconst 1 dX12_isDigit_12 (by decide) ?_
      refine v_goto 17 dX12_isDigit_13 (by decide) ?_
      refine v_zret dX12_isDigit_17 rfl (by first | rfl | exact bI_nb _ | assumption) ?_
      refine ⟨?_, rfl⟩; first | (simp [bI, Int32.not_lt.mp h3, Int32.not_lt.mp h9]; done) | (simp [bI, Int32.not_le.mpr h9]; done) | (simp [bI, Int32.not_le.mpr h3]; done)
theorem c12_fitsBy (d w : Int32) : Ct G Y12_fitsBy 0 0 0 [.int d, .int w] M (Rv (some (.int (bI ((d &&& 1023) &&& (w ^^^ -1) = 0 ∧ (d >>> (10 &&& 31)) &&& w = 0)))) M) NX := by
  refine Ct.of k12_fitsBy.1 (Nat.le_of_ble_eq_true rfl) ?_
  refine v_iload_n dX12_fitsBy_0 rfl ?_
  refine v_sipush 1023 dX12_fitsBy_1 (by decide) ?_
  refine v_iand dX12_fitsBy_4 ?_
  refine v_iload_n dX12_fitsBy_5 rfl ?_
  refine v_iconst (-1) dX12_fitsBy_6 (by decide) ?_
  refine v_ixor dX12_fitsBy_7 ?_
  refine v_iand dX12_fitsBy_8 ?_
  refine v_if_ne 25 dX12_fitsBy_9 (by decide) (fun h9 => ?_) (fun h9 => ?_)
  · refine v_iconst 0 dX12_fitsBy_25 (by decide) ?_
    refine v_zret dX12_fitsBy_26 rfl (by first | rfl | exact bI_nb _ | assumption) ?_
    exact ⟨by simp_all [bI], rfl⟩
  · refine v_iload_n dX12_fitsBy_12 rfl ?_
    refine v_bipush 10 dX12_fitsBy_13 (by decide) ?_
    refine v_ishr dX12_fitsBy_15 ?_
    refine v_iload_n dX12_fitsBy_16 rfl ?_
    refine v_iand dX12_fitsBy_17 ?_
    refine v_if_ne 25 dX12_fitsBy_18 (by decide) (fun h18 => ?_) (fun h18 => ?_)
    · refine v_iconst 0 dX12_fitsBy_25 (by decide) ?_
      refine v_zret dX12_fitsBy_26 rfl (by first | rfl | exact bI_nb _ | assumption) ?_
      exact ⟨by simp_all [bI], rfl⟩
    · refine v_iconst 1 dX12_fitsBy_21 (by decide) ?_
      refine v_goto 26 dX12_fitsBy_22 (by decide) ?_
      refine v_zret dX12_fitsBy_26 rfl (by first | rfl | exact bI_nb _ | assumption) ?_
      exact ⟨by simp_all [bI], rfl⟩
theorem c12_isTray (t : Int32) : Ct G Y12_isTray 1 0 0 [.int t] M (Rv (some (.int (bI (0 ≤ t.toInt64 ∧ t.toInt64 ≤ 3)))) M) NX := by
  refine Ct.of k12_isTray.1 (Nat.le_of_ble_eq_true rfl) ?_
  refine v_iload_n dX12_isTray_0 rfl ?_
  refine v_i2l dX12_isTray_1 ?_
  refine v_lconst 0 dX12_isTray_2 (by decide) ?_
  refine v_ldc2 3 dX12_isTray_3 K12_315 ?_
  refine v_cS [_, _, _] (c12_within _ _ _ _ _) k12_within dX12_isTray_6 l12_132 rfl (Nat.le_of_ble_eq_true rfl) (Nat.le_of_ble_eq_true rfl) ?_
  refine v_zret dX12_isTray_9 rfl (by first | rfl | exact bI_nb _ | assumption) ?_
  exact ⟨rfl, rfl⟩
theorem c12_chests (hS : Sh M) : Ct G Y12_chests 0 0 0 [.ref 230] M (Rv (some (.int (gI M 231 2))) M) NX := by
  refine Ct.of k12_chests.1 (Nat.le_of_ble_eq_true rfl) ?_
  refine v_aload_n dX12_chests_0 rfl ?_
  refine v_getR 12 0 _ dX12_chests_1 f12_9 (by first | exact hS.1 _ _ rfl | exact hS'.1 _ _ rfl | assumption) (by decide) (by first | exact hS.2 _ _ _ rfl | exact hS'.2 _ _ _ rfl | assumption) ?_
  refine v_iconst 2 dX12_chests_4 (by decide) ?_
  refine v_ialdN 2 dX12_chests_5 (by first | exact hS.1 _ _ rfl | exact hS'.1 _ _ rfl | assumption) rfl (by decide) ?_
  refine v_iret dX12_chests_6 rfl ?_
  exact ⟨rfl, rfl⟩
theorem c12_words (hS : Sh M) : Ct G Y12_words 0 0 0 [.ref 230] M (Rv (some (.int (gI M 231 3))) M) NX := by
  refine Ct.of k12_words.1 (Nat.le_of_ble_eq_true rfl) ?_
  refine v_aload_n dX12_words_0 rfl ?_
  refine v_getR 12 0 _ dX12_words_1 f12_9 (by first | exact hS.1 _ _ rfl | exact hS'.1 _ _ rfl | assumption) (by decide) (by first | exact hS.2 _ _ _ rfl | exact hS'.2 _ _ _ rfl | assumption) ?_
  refine v_iconst 3 dX12_words_4 (by decide) ?_
  refine v_ialdN 3 dX12_words_5 (by first | exact hS.1 _ _ rfl | exact hS'.1 _ _ rfl | assumption) rfl (by decide) ?_
  refine v_iret dX12_words_6 rfl ?_
  exact ⟨rfl, rfl⟩
theorem c12_isIn (hS : Sh M) (c : Int32) : Ct G Y12_isIn 1 0 0 [.ref 230, .int c] M (Rv (some (.int (bI ((gI M 231 93 >>> (c &&& 31)) &&& 1 = 1)))) M) NX := by
  refine Ct.of k12_isIn.1 (Nat.le_of_ble_eq_true rfl) ?_
  refine v_aload_n dX12_isIn_0 rfl ?_
  refine v_getR 12 0 _ dX12_isIn_1 f12_9 (by first | exact hS.1 _ _ rfl | exact hS'.1 _ _ rfl | assumption) (by decide) (by first | exact hS.2 _ _ _ rfl | exact hS'.2 _ _ _ rfl | assumption) ?_
  refine v_bipush 93 dX12_isIn_4 (by decide) ?_
  refine v_ialdN 93 dX12_isIn_6 (by first | exact hS.1 _ _ rfl | exact hS'.1 _ _ rfl | assumption) rfl (by decide) ?_
  refine v_iload_n dX12_isIn_7 rfl ?_
  refine v_cS [_, _] (c12_has _ _ _ _) k12_has dX12_isIn_8 l12_248 rfl (Nat.le_of_ble_eq_true rfl) (Nat.le_of_ble_eq_true rfl) ?_
  refine v_zret dX12_isIn_11 rfl (by first | rfl | exact bI_nb _ | assumption) ?_
  exact ⟨rfl, rfl⟩
theorem c12_isChest (hS : Sh M) (c : Int64) : Ct G Y12_isChest 1 0 0 [.ref 230, .long c] M (Rv (some (.int (bI (0 ≤ c ∧ c ≤ (gI M 231 2 - 1).toInt64)))) M) NX := by
  refine Ct.of k12_isChest.1 (Nat.le_of_ble_eq_true rfl) ?_
  refine v_lload_n dX12_isChest_0 rfl ?_
  refine v_lconst 0 dX12_isChest_1 (by decide) ?_
  refine v_aload_n dX12_isChest_2 rfl ?_
  refine v_cV [] (c12_chests _ _ hS) k12_chests dX12_isChest_3 l12_245 (by first | exact hS.1 _ _ rfl | exact hS'.1 _ _ rfl | assumption) (by decide) rfl (Nat.le_of_ble_eq_true rfl) (Nat.le_of_ble_eq_true rfl) ?_
  refine v_iconst 1 dX12_isChest_6 (by decide) ?_
  refine v_isub dX12_isChest_7 ?_
  refine v_i2l dX12_isChest_8 ?_
  refine v_cS [_, _, _] (c12_within _ _ _ _ _) k12_within dX12_isChest_9 l12_132 rfl (Nat.le_of_ble_eq_true rfl) (Nat.le_of_ble_eq_true rfl) ?_
  refine v_zret dX12_isChest_12 rfl (by first | rfl | exact bI_nb _ | assumption) ?_
  exact ⟨rfl, rfl⟩
end R1
