/-! ===== the class: Tray ===== -/
theorem sm64c : ((56 : Int32).toInt64 &&& 63).toBitVec.smod 64 = 56#64 ∧ ((48 : Int32).toInt64 &&& 63).toBitVec.smod 64 = 48#64 ∧ ((32 : Int32).toInt64 &&& 63).toBitVec.smod 64 = 32#64 ∧ ((0 : Int32).toInt64 &&& 63).toBitVec.smod 64 = 0#64 := by decide
theorem ct_bits (v : BitVec 64) (s k : Nat) (hs : s + k = 64) (hk : 0 < k) {i : Nat} (hi : i < 64) : ((v <<< s).sshiftRight s).getLsbD i = if i < k then v.getLsbD i else v.getLsbD (k - 1) := by
  rw [BitVec.getLsbD_sshiftRight, decide_eq_false (show ¬ 64 ≤ i by omega), Bool.not_false, Bool.true_and]
  by_cases h : i < k
  · rw [if_pos h, if_pos (by omega), BitVec.getLsbD_shiftLeft, decide_eq_true (by omega), decide_eq_false (by omega), Bool.not_false, Bool.true_and, Bool.true_and, show s + i - s = i by omega]
  · rw [if_neg h, if_neg (by omega), BitVec.msb_eq_getLsbD_last, BitVec.getLsbD_shiftLeft, decide_eq_true (by omega), decide_eq_false (by omega), Bool.not_false, Bool.true_and, Bool.true_and, show 64 - 1 - s = k - 1 by omega]
theorem se_bits {w : Nat} (v : BitVec w) (k : Nat) (hk : k ≤ w) (h0 : 0 < k) {i : Nat} (n : Nat) (hn : k ≤ n) (hi : i < n) : ((BitVec.signExtend k v).signExtend n).getLsbD i = if i < k then v.getLsbD i else v.getLsbD (k - 1) := by
  rw [BitVec.getLsbD_signExtend, decide_eq_true hi, Bool.true_and]
  by_cases h : i < k
  · rw [if_pos h, if_pos h, BitVec.getLsbD_signExtend, decide_eq_true h, Bool.true_and, if_pos (by omega)]
  · rw [if_neg h, if_neg h, BitVec.msb_eq_getLsbD_last, BitVec.getLsbD_signExtend, decide_eq_true (by omega), Bool.true_and, if_pos (by omega)]
theorem cut_8 (v : Int64) : v.toInt32.toInt8.toInt32.toInt64 = ctV 0 v := by
  apply i64_ext
  unfold ctV
  rw [show lsS 0 = (56 : Int32) from rfl]
  rw [Int32.toBitVec_toInt64, Int8.toBitVec_toInt32, Int32.toBitVec_toInt8, Int64.toBitVec_toInt32, Int64.toBitVec_shiftRight, Int64.toBitVec_shiftLeft, sm64c.1]
  apply BitVec.eq_of_getLsbD_eq
  intro i hi
  rw [BitVec.shiftLeft_eq', BitVec.sshiftRight_eq', show (56#64).toNat = 56 from rfl, ct_bits _ 56 8 rfl (by decide) hi]
  rw [BitVec.getLsbD_signExtend, decide_eq_true hi, Bool.true_and, BitVec.msb_eq_getLsbD_last]
  have e : ∀ j, j < 32 → ((BitVec.signExtend 8 (BitVec.signExtend 32 v.toBitVec)).signExtend 32).getLsbD j = if j < 8 then v.toBitVec.getLsbD j else v.toBitVec.getLsbD 7 := by
    intro j hj
    rw [se_bits _ 8 (by decide) (by decide) 32 (by decide) hj, BitVec.getLsbD_signExtend, BitVec.getLsbD_signExtend]
    by_cases h : j < 8
    · rw [if_pos h, if_pos h, decide_eq_true (by omega), Bool.true_and, if_pos (by omega)]
    · rw [if_neg h, if_neg h]; rfl
  by_cases h : i < 32
  · rw [if_pos h, e i h]
  · rw [if_neg h, e 31 (by decide), if_neg (by decide), if_neg (by omega)]
theorem cut_16 (v : Int64) : v.toInt32.toInt16.toInt32.toInt64 = ctV 1 v := by
  apply i64_ext
  unfold ctV
  rw [show lsS 1 = (48 : Int32) from rfl]
  rw [Int32.toBitVec_toInt64, Int16.toBitVec_toInt32, Int32.toBitVec_toInt16, Int64.toBitVec_toInt32, Int64.toBitVec_shiftRight, Int64.toBitVec_shiftLeft, sm64c.2.1]
  apply BitVec.eq_of_getLsbD_eq
  intro i hi
  rw [BitVec.shiftLeft_eq', BitVec.sshiftRight_eq', show (48#64).toNat = 48 from rfl, ct_bits _ 48 16 rfl (by decide) hi]
  rw [BitVec.getLsbD_signExtend, decide_eq_true hi, Bool.true_and, BitVec.msb_eq_getLsbD_last]
  have e : ∀ j, j < 32 → ((BitVec.signExtend 16 (BitVec.signExtend 32 v.toBitVec)).signExtend 32).getLsbD j = if j < 16 then v.toBitVec.getLsbD j else v.toBitVec.getLsbD 15 := by
    intro j hj
    rw [se_bits _ 16 (by decide) (by decide) 32 (by decide) hj, BitVec.getLsbD_signExtend, BitVec.getLsbD_signExtend]
    by_cases h : j < 16
    · rw [if_pos h, if_pos h, decide_eq_true (by omega), Bool.true_and, if_pos (by omega)]
    · rw [if_neg h, if_neg h]; rfl
  by_cases h : i < 32
  · rw [if_pos h, e i h]
  · rw [if_neg h, e 31 (by decide), if_neg (by decide), if_neg (by omega)]
theorem cut_32 (v : Int64) : v.toInt32.toInt64 = ctV 2 v := by
  apply i64_ext
  unfold ctV
  rw [show lsS 2 = (32 : Int32) from rfl]
  rw [Int32.toBitVec_toInt64, Int64.toBitVec_toInt32, Int64.toBitVec_shiftRight, Int64.toBitVec_shiftLeft, sm64c.2.2.1]
  apply BitVec.eq_of_getLsbD_eq
  intro i hi
  rw [BitVec.shiftLeft_eq', BitVec.sshiftRight_eq', show (32#64).toNat = 32 from rfl, ct_bits _ 32 32 rfl (by decide) hi, se_bits _ 32 (by decide) (by decide) 64 (by decide) hi]
theorem cut_64 (v : Int64) : v = ctV 3 v := by
  apply i64_ext
  unfold ctV
  rw [show lsS 3 = (0 : Int32) from rfl]
  rw [Int64.toBitVec_shiftRight, Int64.toBitVec_shiftLeft, sm64c.2.2.2]
  apply BitVec.eq_of_getLsbD_eq
  intro i hi
  rw [BitVec.shiftLeft_eq', BitVec.sshiftRight_eq', show (0#64).toNat = 0 from rfl, ct_bits _ 0 64 rfl (by decide) hi, if_pos hi]
section T0
variable (G : mG) (M : mM)
theorem c10_lay {q c : Nat} (hq : gT M q = .inl 10) (hR : gR M q 2 = some c) (hc : gT M c = .inr (1, 30)) (s n : Int32) : Ct G Y10_lay 1 0 0 [.ref q, .int s, .int n] M (Rv none (flJ (sI (sI (sI M q 0 0) q 3 s) q 1 n) c 30 0)) NX := by
  refine Ct.of k10_lay.1 (Nat.le_of_ble_eq_true rfl) ?_
  refine v_aload_n dX10_lay_0 rfl ?_
  refine v_iconst 0 dX10_lay_1 (by decide) ?_
  refine v_putZ 10 0 dX10_lay_2 f10_9 (by assumption) (by decide) (by first | assumption | decide) ?_
  refine v_aload_n dX10_lay_5 rfl ?_
  refine v_iload_n dX10_lay_6 rfl ?_
  refine v_putI 10 3 dX10_lay_7 f10_19 (by assumption) (by decide) ?_
  refine v_aload_n dX10_lay_10 rfl ?_
  refine v_iload_n dX10_lay_11 rfl ?_
  refine v_putI 10 1 dX10_lay_12 f10_23 (by assumption) (by decide) ?_
  refine v_aload_n dX10_lay_15 rfl ?_
  refine v_getR 10 2 _ dX10_lay_16 f10_15 (by assumption) (by decide) (by assumption) ?_
  refine v_lconst 0 dX10_lay_19 (by decide) ?_
  refine v_cSv [_, _] (cJ_fillJ G (sI (sI (sI M q 0 0) q 3 s) q 1 n) 0 hc (by decide)) kJ_fillJ dX10_lay_20 l10_26 rfl (Nat.le_of_ble_eq_true rfl) (Nat.le_of_ble_eq_true rfl) ?_
  refine v_vret dX10_lay_23 rfl ?_
  exact ⟨rfl, rfl⟩
theorem c10_cut {q s : Nat} (hq : gT M q = .inl 10) (hs : gI M q 3 = nI s) (h4 : s < 4) (v : Int64) : Ct G Y10_cut 0 0 0 [.ref q, .long v] M (Rv (some (.long (ctV s v))) M) NX := by
  refine Ct.of k10_cut.1 (Nat.le_of_ble_eq_true rfl) ?_
  refine v_aload_n dX10_cut_0 rfl ?_
  refine v_getI 10 3 dX10_cut_1 f10_19 (by assumption) (by decide) ?_
  skip
  rw [hs]
  obtain rfl | rfl | rfl | rfl : s = 0 ∨ s = 1 ∨ s = 2 ∨ s = 3 := by omega
  · refine v_tableIn 32 dX10_cut_4 (by decide) (by decide) (off := 28) rfl (by decide) ?_
    refine v_lload_n dX10_cut_32 rfl ?_
    refine v_l2i dX10_cut_33 ?_
    refine v_i2b dX10_cut_34 ?_
    refine v_i2l dX10_cut_35 ?_
    refine v_lret dX10_cut_36 rfl ?_
    exact ⟨by rw [cut_8], rfl⟩
  · refine v_tableIn 37 dX10_cut_4 (by decide) (by decide) (off := 33) rfl (by decide) ?_
    refine v_lload_n dX10_cut_37 rfl ?_
    refine v_l2i dX10_cut_38 ?_
    refine v_i2s dX10_cut_39 ?_
    refine v_i2l dX10_cut_40 ?_
    refine v_lret dX10_cut_41 rfl ?_
    exact ⟨by rw [cut_16], rfl⟩
  · refine v_tableIn 42 dX10_cut_4 (by decide) (by decide) (off := 38) rfl (by decide) ?_
    refine v_lload_n dX10_cut_42 rfl ?_
    refine v_l2i dX10_cut_43 ?_
    refine v_i2l dX10_cut_44 ?_
    refine v_lret dX10_cut_45 rfl ?_
    exact ⟨by rw [cut_32], rfl⟩
  · refine v_tableOut 46 dX10_cut_4 (by decide) (by decide) ?_
    refine v_lload_n dX10_cut_46 rfl ?_
    refine v_lret dX10_cut_47 rfl ?_
    exact ⟨by rw [← cut_64], rfl⟩
end T0
