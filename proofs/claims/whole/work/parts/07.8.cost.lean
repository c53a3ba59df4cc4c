/-! ===== the reference: costs, descriptions, those alike ===== -/
/-- the state that a hall is in: USED words among the hall's, the lamp -/
def usOK (K : Nat → Int32) : Prop := K 95 = nI (kn K 95) ∧ kn K 95 < 2 ^ kn K 3
theorem us_lt {K : Nat → Int32} (hP : WP K) (h : usOK K) : kn K 95 < 1024 := Nat.lt_of_lt_of_le h.2 (show 2 ^ kn K 3 ≤ 2 ^ 10 from Nat.pow_le_pow_right (by omega) hP.2.2.1.2)
theorem costF_s (K : Nat → Int32) (d w : Nat) : costF K d (w + 1) = costF K d w + costW K d w := rfl
section R8
variable (G : mG) (M : mM)
theorem l12_costOf (hS : Sh M) (hP : WP (gI M 231)) (hU : usOK (gI M 231)) {d : Nat} (hd : d < 1048576) : ∀ i w, w + i = kn (gI M 231) 3 → V G Y12_costOf 1 0 0 (Rv (some (.int (nI (costN (gI M 231) d)))) M) NX 4 [some (.ref 230), some (.int (nI d)), some (.int (nI (costF (gI M 231) d w))), some (.int (nI w))] [] M := by
  have h10 := hP.2.2.1.2
  have hul := us_lt hP hU
  intro i
  induction i with
  | zero =>
    intro w hw
    obtain rfl : w = kn (gI M 231) 3 := by omega
    refine v_iload_n dX12_costOf_4 rfl ?_
    refine v_aload_n dX12_costOf_5 rfl ?_
    -- at 6: .invokevirtual 242
    refine v_cV [] (c12_words G M hS) k12_words dX12_costOf_6 l12_242 (by first | exact hS.1 _ _ rfl | exact hS'.1 _ _ rfl | assumption) (by decide) rfl (Nat.le_of_ble_eq_true rfl) (Nat.le_of_ble_eq_true rfl) ?_
    rw [hP.2.2.1.1]
    refine v_icmp_ge 91 dX12_costOf_9 (by decide) (fun hc2 => ?_) (fun hc2 => ?_)
    · refine v_iload_n dX12_costOf_91 rfl ?_
      -- at 92: .ireturn
      refine v_iret dX12_costOf_92 rfl ⟨rfl, rfl⟩
    · exact absurd (nI_le (Nat.le_refl _) (by omega)) hc2
  | succ i ih =>
    intro w hw
    have hn := ih (w + 1) (by omega)
    rw [costF_s, ← nI_1] at hn
    have hcw := (hP.2.2.2.2.2.2.2.2.1 w (by omega)).1
    refine v_iload_n dX12_costOf_4 rfl ?_
    refine v_aload_n dX12_costOf_5 rfl ?_
    -- at 6: .invokevirtual 242
    refine v_cV [] (c12_words G M hS) k12_words dX12_costOf_6 l12_242 (by first | exact hS.1 _ _ rfl | exact hS'.1 _ _ rfl | assumption) (by decide) rfl (Nat.le_of_ble_eq_true rfl) (Nat.le_of_ble_eq_true rfl) ?_
    rw [hP.2.2.1.1]
    refine v_icmp_ge 91 dX12_costOf_9 (by decide) (fun hc2 => ?_) (fun hc2 => ?_)
    · exact absurd ((nI_leI (by omega) (by omega)).mp hc2) (by omega)
    have end_ : ∀ x y, costW (gI M 231) d w = kn (gI M 231) (109 + w) + x + y → V G Y12_costOf 1 0 0 (Rv (some (.int (nI (costN (gI M 231) d)))) M) NX 82 [some (.ref 230), some (.int (nI d)), some (.int (nI (costF (gI M 231) d w))), some (.int (nI w))] [.int (nI y), .int (nI (kn (gI M 231) (109 + w)) + nI x), .int (nI (costF (gI M 231) d w))] M := by
      intro x y hxy
      refine v_iadd dX12_costOf_82 ?_
      refine v_iadd dX12_costOf_83 ?_
      refine v_istore_n dX12_costOf_84 rfl (by decide) ?_
      refine v_iinc 1 dX12_costOf_85 rfl (by decide) rfl (by decide) ?_
      refine v_goto 4 dX12_costOf_88 (by decide) ?_
      -- at 4: .iload_n 3
      rw [hxy] at hn
      rw [nI_add, nI_add, nI_add]
      exact hn
    have mid : ∀ x, (x = if d.testBit w = true then 0 else 1) → (d.testBit w = true ∨ d.testBit (w + 10) = true) → V G Y12_costOf 1 0 0 (Rv (some (.int (nI (costN (gI M 231) d)))) M) NX 57 [some (.ref 230), some (.int (nI d)), some (.int (nI (costF (gI M 231) d w))), some (.int (nI w))] [.int (nI x), .int (nI (kn (gI M 231) (109 + w))), .int (nI (costF (gI M 231) d w))] M := by
      intro x hx hor
      refine v_iadd dX12_costOf_57 ?_
      refine v_aload_n dX12_costOf_58 rfl ?_
      refine v_getR 12 0 _ dX12_costOf_59 f12_9 (by first | exact hS.1 _ _ rfl | exact hS'.1 _ _ rfl | assumption) (by decide) (by first | exact hS.2 _ _ _ rfl | exact hS'.2 _ _ _ rfl | assumption) ?_
      refine v_bipush 95 dX12_costOf_62 (by decide) ?_
      refine v_ialdN 95 dX12_costOf_64 (by first | exact hS.1 _ _ rfl | exact hS'.1 _ _ rfl | assumption) rfl (by decide) ?_
      refine v_iload_n dX12_costOf_65 rfl ?_
      -- at 66: .invokestatic 248
      rw [hU.1]
      refine v_cS [_, _] (c12_hasN G M (s := kn (gI M 231) 95) (k := w) (by omega) (by omega)) k12_has dX12_costOf_66 l12_248 rfl (Nat.le_of_ble_eq_true rfl) (Nat.le_of_ble_eq_true rfl) ?_
      by_cases hu : (kn (gI M 231) 95).testBit w = true
      · rw [bI_t hu]
        refine v_if_eq 81 dX12_costOf_69 (by decide) (fun h69 => ?_) (fun h69 => ?_)
        · exact absurd h69 (by decide)
        · refine v_aload_n dX12_costOf_72 rfl ?_
          refine v_getR 12 0 _ dX12_costOf_73 f12_9 (by first | exact hS.1 _ _ rfl | exact hS'.1 _ _ rfl | assumption) (by decide) (by first | exact hS.2 _ _ _ rfl | exact hS'.2 _ _ _ rfl | assumption) ?_
          refine v_iconst 5 dX12_costOf_76 (by decide) ?_
          refine v_ialdN 5 dX12_costOf_77 (by first | exact hS.1 _ _ rfl | exact hS'.1 _ _ rfl | assumption) rfl (by decide) ?_
          refine v_goto 82 dX12_costOf_78 (by decide) ?_
          -- at 82: .iadd
          rw [hP.2.2.2.2.1.1]
          exact end_ x (kn (gI M 231) 5) (by rw [costW, if_pos hor, if_pos hu, hx])
      · rw [bI_f hu]
        refine v_if_eq 81 dX12_costOf_69 (by decide) (fun h69 => ?_) (fun h69 => ?_)
        · refine v_iconst 0 dX12_costOf_81 (by decide) ?_
          -- at 82: .iadd
          exact end_ x 0 (by rw [costW, if_pos hor, if_neg hu, hx])
        · exact absurd rfl h69
    have both : (d.testBit w = true ∨ d.testBit (w + 10) = true) → V G Y12_costOf 1 0 0 (Rv (some (.int (nI (costN (gI M 231) d)))) M) NX 34 [some (.ref 230), some (.int (nI d)), some (.int (nI (costF (gI M 231) d w))), some (.int (nI w))] [] M := by
      intro hor
      refine v_iload_n dX12_costOf_34 rfl ?_
      refine v_aload_n dX12_costOf_35 rfl ?_
      refine v_getR 12 0 _ dX12_costOf_36 f12_9 (by first | exact hS.1 _ _ rfl | exact hS'.1 _ _ rfl | assumption) (by decide) (by first | exact hS.2 _ _ _ rfl | exact hS'.2 _ _ _ rfl | assumption) ?_
      refine v_bipush 109 dX12_costOf_39 (by decide) ?_
      refine v_iload_n dX12_costOf_41 rfl ?_
      refine v_iadd dX12_costOf_42 ?_
      refine v_ialdN (109 + w) dX12_costOf_43 (by first | exact hS.1 _ _ rfl | exact hS'.1 _ _ rfl | assumption) (by simp only [n_lit, pk_mul, nI_add]) ⟨by omega, by omega⟩ ?_
      refine v_iload_n dX12_costOf_44 rfl ?_
      refine v_iload_n dX12_costOf_45 rfl ?_
      -- at 46: .invokestatic 248
      rw [hcw]
      refine v_cS [_, _] (c12_hasN G M (s := d) (k := w) (by omega) (by omega)) k12_has dX12_costOf_46 l12_248 rfl (Nat.le_of_ble_eq_true rfl) (Nat.le_of_ble_eq_true rfl) ?_
      by_cases hb : d.testBit w = true
      · rw [bI_t hb]
        refine v_if_eq 56 dX12_costOf_49 (by decide) (fun h49 => ?_) (fun h49 => ?_)
        · exact absurd h49 (by decide)
        · refine v_iconst 0 dX12_costOf_52 (by decide) ?_
          refine v_goto 57 dX12_costOf_53 (by decide) ?_
          -- at 57: .iadd
          exact mid 0 (by rw [if_pos hb]) hor
      · rw [bI_f hb]
        refine v_if_eq 56 dX12_costOf_49 (by decide) (fun h49 => ?_) (fun h49 => ?_)
        · refine v_iconst 1 dX12_costOf_56 (by decide) ?_
          -- at 57: .iadd
          exact mid 1 (by rw [if_neg hb]) hor
        · exact absurd rfl h49
    refine v_iload_n dX12_costOf_12 rfl ?_
    refine v_iload_n dX12_costOf_13 rfl ?_
    -- at 14: .invokestatic 248
    refine v_cS [_, _] (c12_hasN G M (s := d) (k := w) (by omega) (by omega)) k12_has dX12_costOf_14 l12_248 rfl (Nat.le_of_ble_eq_true rfl) (Nat.le_of_ble_eq_true rfl) ?_
    by_cases hb : d.testBit w = true
    · rw [bI_t hb]
      refine v_if_ne 34 dX12_costOf_17 (by decide) (fun h17 => ?_) (fun h17 => ?_)
      · exact both (Or.inl hb)
      · exact absurd (by decide) h17
    · rw [bI_f hb]
      refine v_if_ne 34 dX12_costOf_17 (by decide) (fun h17 => ?_) (fun h17 => ?_)
      · exact absurd rfl h17
      · refine v_iload_n dX12_costOf_20 rfl ?_
        refine v_iload_n dX12_costOf_21 rfl ?_
        refine v_bipush 10 dX12_costOf_22 (by decide) ?_
        refine v_iadd dX12_costOf_24 ?_
        -- at 25: .invokestatic 248
        rw [show nI w + 10 = nI (w + 10) from nI_add w 10]
        refine v_cS [_, _] (c12_hasN G M (s := d) (k := w + 10) (by omega) (by omega)) k12_has dX12_costOf_25 l12_248 rfl (Nat.le_of_ble_eq_true rfl) (Nat.le_of_ble_eq_true rfl) ?_
        by_cases hb2 : d.testBit (w + 10) = true
        · rw [bI_t hb2]
          refine v_if_ne 34 dX12_costOf_28 (by decide) (fun h28 => ?_) (fun h28 => ?_)
          · exact both (Or.inr hb2)
          · exact absurd (by decide) h28
        · rw [bI_f hb2]
          refine v_if_ne 34 dX12_costOf_28 (by decide) (fun h28 => ?_) (fun h28 => ?_)
          · exact absurd rfl h28
          · refine v_goto 85 dX12_costOf_31 (by decide) ?_
            refine v_iinc 1 dX12_costOf_85 rfl (by decide) rfl (by decide) ?_
            refine v_goto 4 dX12_costOf_88 (by decide) ?_
            -- at 4: .iload_n 3
            rw [costW, if_neg (fun z => z.elim hb hb2), Nat.add_zero] at hn
            exact hn
theorem c12_costOf (hS : Sh M) (hP : WP (gI M 231)) (hU : usOK (gI M 231)) {d : Nat} (hd : d < 1048576) : Ct G Y12_costOf 1 0 0 [.ref 230, .int (nI d)] M (Rv (some (.int (nI (costN (gI M 231) d)))) M) NX := by
  refine Ct.of k12_costOf.1 (Nat.le_of_ble_eq_true rfl) ?_
  refine v_iconst 0 dX12_costOf_0 (by decide) ?_
  refine v_istore_n dX12_costOf_1 rfl (by decide) ?_
  refine v_iconst 0 dX12_costOf_2 (by decide) ?_
  refine v_istore_n dX12_costOf_3 rfl (by decide) ?_
  -- at 4: .iload_n 3
  exact l12_costOf G M hS hP hU hd (kn (gI M 231) 3) 0 (by omega)
theorem c12_allWords (hS : Sh M) (hP : WP (gI M 231)) : Ct G Y12_allWords 1 0 0 [.ref 230] M (Rv (some (.int (nI (2 ^ kn (gI M 231) 3 - 1)))) M) NX := by
  have h10 := hP.2.2.1.2
  refine Ct.of k12_allWords.1 (Nat.le_of_ble_eq_true rfl) ?_
  refine v_iconst 1 dX12_allWords_0 (by decide) ?_
  refine v_aload_n dX12_allWords_1 rfl ?_
  -- at 2: .invokevirtual 242
  refine v_cV [] (c12_words G M hS) k12_words dX12_allWords_2 l12_242 (by first | exact hS.1 _ _ rfl | exact hS'.1 _ _ rfl | assumption) (by decide) rfl (Nat.le_of_ble_eq_true rfl) (Nat.le_of_ble_eq_true rfl) ?_
  rw [hP.2.2.1.1]
  refine v_ishl dX12_allWords_5 ?_
  refine v_iconst 1 dX12_allWords_6 (by decide) ?_
  refine v_isub dX12_allWords_7 ?_
  -- at 8: .ireturn
  rw [shl1 (by omega), show nI (2 ^ kn (gI M 231) 3) - 1 = nI (2 ^ kn (gI M 231) 3 - 1) from pk_sub (b := 1) (Nat.one_le_two_pow)]
  refine v_iret dX12_allWords_8 rfl ⟨rfl, rfl⟩
theorem c12_described (hS : Sh M) (hP : WP (gI M 231)) (hH : HH M (gI M 231)) {c s : Nat} (hc : c < kn (gI M 231) 2) (hs : s < 1024) : Ct G Y12_described 0 0 0 [.ref 230, .int (nI c), .int (nI s)] M (Rv (some (.int (nI ((s &&& trH (gI M 231) c) ||| dif s (trH (gI M 231) c) * 1024)))) M) NX := by
  have h14 := hP.2.1.2
  have hh := (hH.hold hP c hc).1
  have hd := dif_le s (trH (gI M 231) c) (n := 10) hs
  refine Ct.of k12_described.1 (Nat.le_of_ble_eq_true rfl) ?_
  refine v_iload_n dX12_described_0 rfl ?_
  refine v_aload_n dX12_described_1 rfl ?_
  refine v_getR 12 20 _ dX12_described_2 f12_36 (by first | exact hS.1 _ _ rfl | exact hS'.1 _ _ rfl | assumption) (by decide) (by first | exact hS.2 _ _ _ rfl | exact hS'.2 _ _ _ rfl | assumption) ?_
  refine v_iload_n dX12_described_5 rfl ?_
  refine v_ialdN (c) dX12_described_6 (by first | exact hS.1 _ _ rfl | exact hS'.1 _ _ rfl | assumption) (by simp only [n_lit, pk_mul, nI_add]) ⟨by omega, by omega⟩ ?_
  -- at 7: .iand
  rw [hh]
  refine v_iand dX12_described_7 ?_
  refine v_iload_n dX12_described_8 rfl ?_
  refine v_aload_n dX12_described_9 rfl ?_
  refine v_getR 12 20 _ dX12_described_10 f12_36 (by first | exact hS.1 _ _ rfl | exact hS'.1 _ _ rfl | assumption) (by decide) (by first | exact hS.2 _ _ _ rfl | exact hS'.2 _ _ _ rfl | assumption) ?_
  refine v_iload_n dX12_described_13 rfl ?_
  refine v_ialdN (c) dX12_described_14 (by first | exact hS.1 _ _ rfl | exact hS'.1 _ _ rfl | assumption) (by simp only [n_lit, pk_mul, nI_add]) ⟨by omega, by omega⟩ ?_
  -- at 15: .iconst (-1)
  rw [hh]
  refine v_iconst (-1) dX12_described_15 (by decide) ?_
  refine v_ixor dX12_described_16 ?_
  refine v_iand dX12_described_17 ?_
  refine v_bipush 10 dX12_described_18 (by decide) ?_
  refine v_ishl dX12_described_20 ?_
  refine v_ior dX12_described_21 ?_
  -- at 22: .ireturn
  rw [andnot, shl10 (by omega), nIand, nIor]
  refine v_iret dX12_described_22 rfl ⟨rfl, rfl⟩
end R8
