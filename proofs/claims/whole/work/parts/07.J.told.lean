/-! ===== the reference: told deeds ===== -/
/-- whether a told deed can be -/
def canB (K : Nat → Int32) (v : Int64) : Bool :=
  if v = -1 then decide (K 96 ≠ -1) else if v < 0 then false else
    (decide (v.toNatClampNeg < 1400) && decide (v.toNatClampNeg / 100 < kn K 2) && decide (v.toNatClampNeg / 10 % 10 < kn K 1)) || decide (v.toNatClampNeg = 3000) || (decide (2000 ≤ v.toNatClampNeg) && decide (v.toNatClampNeg < 2014) && decide (v.toNatClampNeg - 2000 < kn K 2))
theorem lN_clamp {n : Nat} (h : n < 2 ^ 63) : (lN n).toNatClampNeg = n := by
  have := pk_lT h
  unfold Int64.toNatClampNeg
  rw [this]; simp
theorem bI_v (p : Prop) [Decidable p] (b : Bool) (h : p ↔ b = true) : bI p = bI (b = true) := bI_cong h
section RJ
variable (G : mG) (M : mM)
theorem c12_isChestL (hS : Sh M) (hP : WP (gI M 231)) {n : Nat} (hn : n < 2 ^ 31) : Ct G Y12_isChest 1 0 0 [.ref 230, .long (lN n)] M (Rv (some (.int (bI (n < kn (gI M 231) 2)))) M) NX := by
  have h := c12_isChestN G M hS hP (nI n)
  rw [nI_l hn, bI_cong (show inR (kn (gI M 231) 2) (nI n) = true ↔ n < kn (gI M 231) 2 by rw [inR_nI hn, decide_eq_true_eq])] at h
  exact h
theorem c12_isMarkL (hS : Sh M) (hP : WP (gI M 231)) {n : Nat} (hn : n < 2 ^ 31) : Ct G Y12_isMark 1 0 0 [.ref 230, .long (lN n)] M (Rv (some (.int (bI (n < kn (gI M 231) 1)))) M) NX := by
  have h := c12_isMark G M hS hP (nI n)
  rw [nI_l hn, bI_cong (show inR (kn (gI M 231) 1) (nI n) = true ↔ n < kn (gI M 231) 1 by rw [inR_nI hn, decide_eq_true_eq])] at h
  exact h
theorem c12_whyTold (hS : Sh M) (hP : WP (gI M 231)) (v : Int64) : Ct G Y12_whyTold 2 0 0 [.ref 230, .long v] M (Rv (some (.int (if canB (gI M 231) v = true then 0 else 1))) M) NX := by
  refine Ct.of k12_whyTold.1 (Nat.le_of_ble_eq_true rfl) ?_
  refine v_lload_n dX12_whyTold_0 rfl ?_
  refine v_ldc2 (-1) dX12_whyTold_1 K12_386 ?_
  refine v_lcmp dX12_whyTold_4 ?_
  -- at 5: .ifCond .ne 20
  refine v_if_ne 25 dX12_whyTold_5 (by decide) (fun h5 => ?_) (fun h5 => ?_)
  · have hne : ¬ v = -1 := fun z => h5 (lg_eq.mpr z)
    by_cases hneg : v < 0
    · have hc : ¬ canB (gI M 231) v = true := by rw [canB, if_neg hne, if_pos hneg]; decide
      rw [if_neg hc]
      refine v_lload_n dX12_whyTold_25 rfl ?_
      refine v_lconst 0 dX12_whyTold_26 (by decide) ?_
      refine v_ldc2 1399 dX12_whyTold_27 K12_388 ?_
      -- at 30: .invokestatic 132
      refine v_cS [_, _, _] (c12_within _ _ _ _ _) k12_within dX12_whyTold_30 l12_132 rfl (Nat.le_of_ble_eq_true rfl) (Nat.le_of_ble_eq_true rfl) ?_
      rw [bI_f (fun z => Int64.not_lt.mpr z.1 hneg)]
      refine v_if_eq 70 dX12_whyTold_33 (by decide) (fun h33 => ?_) (fun h33 => ?_)
      · refine v_lload_n dX12_whyTold_70 rfl ?_
        refine v_ldc2 3000 dX12_whyTold_71 K12_392 ?_
        refine v_lcmp dX12_whyTold_74 ?_
        -- at 75: .ifCond .eq 28
        refine v_if_eq 103 dX12_whyTold_75 (by decide) (fun h75 => ?_) (fun h75 => ?_)
        · exact absurd (lg_eq.mp h75) (fun z => by subst z; exact absurd hneg (by decide))
        · refine v_lload_n dX12_whyTold_78 rfl ?_
          refine v_ldc2 2000 dX12_whyTold_79 K12_394 ?_
          refine v_ldc2 2013 dX12_whyTold_82 K12_396 ?_
          -- at 85: .invokestatic 132
          refine v_cS [_, _, _] (c12_within _ _ _ _ _) k12_within dX12_whyTold_85 l12_132 rfl (Nat.le_of_ble_eq_true rfl) (Nat.le_of_ble_eq_true rfl) ?_
          rw [bI_f (fun z => Int64.not_lt.mpr (Int64.le_trans (show (0 : Int64) ≤ 2000 by decide) z.1) hneg)]
          refine v_if_eq 107 dX12_whyTold_88 (by decide) (fun h88 => ?_) (fun h88 => ?_)
          · refine v_iconst 1 dX12_whyTold_107 (by decide) ?_
            -- at 108: .ireturn
            refine v_iret dX12_whyTold_108 rfl ⟨rfl, rfl⟩
          · exact absurd rfl h88
      · exact absurd rfl h33
    · obtain ⟨n, hn, rfl⟩ := pk_lOf hneg
      have hc : canB (gI M 231) (lN n) = ((decide (n < 1400) && decide (n / 100 < kn (gI M 231) 2) && decide (n / 10 % 10 < kn (gI M 231) 1)) || decide (n = 3000) || (decide (2000 ≤ n) && decide (n < 2014) && decide (n - 2000 < kn (gI M 231) 2))) := by
        rw [canB, if_neg hne, if_neg hneg, lN_clamp hn]
      rw [hc]
      refine v_lload_n dX12_whyTold_25 rfl ?_
      refine v_lconst 0 dX12_whyTold_26 (by decide) ?_
      refine v_ldc2 1399 dX12_whyTold_27 K12_388 ?_
      -- at 30: .invokestatic 132
      refine v_cS [_, _, _] (c12_within _ _ _ _ _) k12_within dX12_whyTold_30 l12_132 rfl (Nat.le_of_ble_eq_true rfl) (Nat.le_of_ble_eq_true rfl) ?_
      rw [bI_cong (show ((0 : Int64) ≤ lN n ∧ lN n ≤ 1399) ↔ n < 1400 by
        rw [show (1399 : Int64) = lN 1399 from rfl, pk_lLE hn (by omega), show (0 : Int64) = lN 0 from rfl, pk_lLE (by omega) hn]; omega)]
      by_cases h14 : n < 1400
      · rw [bI_t h14]
        have e1 : lN n / 100 = lN (n / 100) := pk_lDiv (b := 100) (by omega) (by omega) (by omega)
        have e2 : lN n / 10 = lN (n / 10) := pk_lDiv (b := 10) (by omega) (by omega) (by omega)
        have e3 : lN (n / 10) - lN (n / 10) / 10 * 10 = lN (n / 10 % 10) := pk_lRem (b := 10) (by omega) (by omega) (by omega)
        refine v_if_eq 70 dX12_whyTold_33 (by decide) (fun h33 => ?_) (fun h33 => ?_)
        · exact absurd h33 (by decide)
        · refine v_aload_n dX12_whyTold_36 rfl ?_
          refine v_lload_n dX12_whyTold_37 rfl ?_
          refine v_ldc2 100 dX12_whyTold_38 K12_390 ?_
          -- at 41: .ldiv
          refine v_ldiv dX12_whyTold_41 (by decide) ?_
          rw [e1]
          refine v_cV [_] (c12_isChestL G M hS hP (by omega)) k12_isChest dX12_whyTold_42 l12_297 (by first | exact hS.1 _ _ rfl | exact hS'.1 _ _ rfl | assumption) (by decide) rfl (Nat.le_of_ble_eq_true rfl) (Nat.le_of_ble_eq_true rfl) ?_
          by_cases ha : n / 100 < kn (gI M 231) 2
          · rw [bI_t ha]
            refine v_if_eq 68 dX12_whyTold_45 (by decide) (fun h45 => ?_) (fun h45 => ?_)
            · exact absurd h45 (by decide)
            · refine v_aload_n dX12_whyTold_48 rfl ?_
              refine v_lload_n dX12_whyTold_49 rfl ?_
              refine v_ldc2 10 dX12_whyTold_50 K12_381 ?_
              -- at 53: .ldiv
              refine v_ldiv dX12_whyTold_53 (by decide) ?_
              rw [e2]
              refine v_ldc2 10 dX12_whyTold_54 K12_381 ?_
              -- at 57: .lrem
              refine v_lrem dX12_whyTold_57 (by decide) ?_
              rw [e3]
              refine v_cV [_] (c12_isMarkL G M hS hP (by omega)) k12_isMark dX12_whyTold_58 l12_301 (by first | exact hS.1 _ _ rfl | exact hS'.1 _ _ rfl | assumption) (by decide) rfl (Nat.le_of_ble_eq_true rfl) (Nat.le_of_ble_eq_true rfl) ?_
              by_cases hb : n / 10 % 10 < kn (gI M 231) 1
              · rw [bI_t hb]
                refine v_if_eq 68 dX12_whyTold_61 (by decide) (fun h61 => ?_) (fun h61 => ?_)
                · exact absurd h61 (by decide)
                · refine v_iconst 0 dX12_whyTold_64 (by decide) ?_
                  refine v_goto 69 dX12_whyTold_65 (by decide) ?_
                  -- at 69: .ireturn
                  refine v_iret dX12_whyTold_69 rfl ⟨by rw [if_pos (by simp [h14, ha, hb])], rfl⟩
              · rw [bI_f hb]
                refine v_if_eq 68 dX12_whyTold_61 (by decide) (fun h61 => ?_) (fun h61 => ?_)
                · refine v_iconst 1 dX12_whyTold_68 (by decide) ?_
                  -- at 69: .ireturn
                  refine v_iret dX12_whyTold_69 rfl ⟨by rw [if_neg (by simp [hb]; omega)], rfl⟩
                · exact absurd rfl h61
          · rw [bI_f ha]
            refine v_if_eq 68 dX12_whyTold_45 (by decide) (fun h45 => ?_) (fun h45 => ?_)
            · refine v_iconst 1 dX12_whyTold_68 (by decide) ?_
              -- at 69: .ireturn
              refine v_iret dX12_whyTold_69 rfl ⟨by rw [if_neg (by simp [ha]; omega)], rfl⟩
            · exact absurd rfl h45
      · rw [bI_f h14]
        refine v_if_eq 70 dX12_whyTold_33 (by decide) (fun h33 => ?_) (fun h33 => ?_)
        · refine v_lload_n dX12_whyTold_70 rfl ?_
          refine v_ldc2 3000 dX12_whyTold_71 K12_392 ?_
          refine v_lcmp dX12_whyTold_74 ?_
          -- at 75: .ifCond .eq 28
          refine v_if_eq 103 dX12_whyTold_75 (by decide) (fun h75 => ?_) (fun h75 => ?_)
          · have : n = 3000 := (pk_lEQ (b := 3000) hn (by omega)).mp (lg_eq.mp h75)
            refine v_iconst 0 dX12_whyTold_103 (by decide) ?_
            refine v_goto 108 dX12_whyTold_104 (by decide) ?_
            -- at 108: .ireturn
            refine v_iret dX12_whyTold_108 rfl ⟨by rw [if_pos (by simp [this])], rfl⟩
          · have h3 : n ≠ 3000 := fun z => h75 (lg_eq.mpr (by rw [z]; rfl))
            refine v_lload_n dX12_whyTold_78 rfl ?_
            refine v_ldc2 2000 dX12_whyTold_79 K12_394 ?_
            refine v_ldc2 2013 dX12_whyTold_82 K12_396 ?_
            -- at 85: .invokestatic 132
            refine v_cS [_, _, _] (c12_within _ _ _ _ _) k12_within dX12_whyTold_85 l12_132 rfl (Nat.le_of_ble_eq_true rfl) (Nat.le_of_ble_eq_true rfl) ?_
            rw [bI_cong (show ((2000 : Int64) ≤ lN n ∧ lN n ≤ 2013) ↔ (2000 ≤ n ∧ n < 2014) by
              rw [show (2013 : Int64) = lN 2013 from rfl, pk_lLE hn (by omega), show (2000 : Int64) = lN 2000 from rfl, pk_lLE (by omega) hn]; omega)]
            by_cases h2 : 2000 ≤ n ∧ n < 2014
            · rw [bI_t h2]
              refine v_if_eq 107 dX12_whyTold_88 (by decide) (fun h88 => ?_) (fun h88 => ?_)
              · exact absurd h88 (by decide)
              · refine v_aload_n dX12_whyTold_91 rfl ?_
                refine v_lload_n dX12_whyTold_92 rfl ?_
                refine v_ldc2 2000 dX12_whyTold_93 K12_394 ?_
                refine v_lsub dX12_whyTold_96 ?_
                -- at 97: .invokevirtual 297
                rw [show lN n - 2000 = lN (n - 2000) from lN_sub (b := 2000) h2.1]
                refine v_cV [_] (c12_isChestL G M hS hP (by omega)) k12_isChest dX12_whyTold_97 l12_297 (by first | exact hS.1 _ _ rfl | exact hS'.1 _ _ rfl | assumption) (by decide) rfl (Nat.le_of_ble_eq_true rfl) (Nat.le_of_ble_eq_true rfl) ?_
                by_cases hd : n - 2000 < kn (gI M 231) 2
                · rw [bI_t hd]
                  refine v_if_eq 107 dX12_whyTold_100 (by decide) (fun h100 => ?_) (fun h100 => ?_)
                  · exact absurd h100 (by decide)
                  · refine v_iconst 0 dX12_whyTold_103 (by decide) ?_
                    refine v_goto 108 dX12_whyTold_104 (by decide) ?_
                    -- at 108: .ireturn
                    refine v_iret dX12_whyTold_108 rfl ⟨by rw [if_pos (by simp [h2.1, h2.2, hd])], rfl⟩
                · rw [bI_f hd]
                  refine v_if_eq 107 dX12_whyTold_100 (by decide) (fun h100 => ?_) (fun h100 => ?_)
                  · refine v_iconst 1 dX12_whyTold_107 (by decide) ?_
                    -- at 108: .ireturn
                    refine v_iret dX12_whyTold_108 rfl ⟨by rw [if_neg (by simp only [Bool.or_eq_true, Bool.and_eq_true, decide_eq_true_eq]; omega)], rfl⟩
                  · exact absurd rfl h100
            · rw [bI_f h2]
              refine v_if_eq 107 dX12_whyTold_88 (by decide) (fun h88 => ?_) (fun h88 => ?_)
              · refine v_iconst 1 dX12_whyTold_107 (by decide) ?_
                -- at 108: .ireturn
                refine v_iret dX12_whyTold_108 rfl ⟨by rw [if_neg (by simp only [Bool.or_eq_true, Bool.and_eq_true, decide_eq_true_eq]; omega)], rfl⟩
              · exact absurd rfl h88
        · exact absurd rfl h33
  · have hv : v = -1 := lg_eq.mp (Decidable.not_not.mp h5)
    subst hv
    rw [show canB (gI M 231) (-1) = decide (gI M 231 96 ≠ -1) from if_pos rfl]
    refine v_aload_n dX12_whyTold_8 rfl ?_
    refine v_getR 12 0 _ dX12_whyTold_9 f12_9 (by first | exact hS.1 _ _ rfl | exact hS'.1 _ _ rfl | assumption) (by decide) (by first | exact hS.2 _ _ _ rfl | exact hS'.2 _ _ _ rfl | assumption) ?_
    refine v_bipush 96 dX12_whyTold_12 (by decide) ?_
    refine v_ialdN 96 dX12_whyTold_14 (by first | exact hS.1 _ _ rfl | exact hS'.1 _ _ rfl | assumption) rfl (by decide) ?_
    refine v_iconst (-1) dX12_whyTold_15 (by decide) ?_
    -- at 16: .if_icmp .ne 7
    refine v_icmp_ne 23 dX12_whyTold_16 (by decide) (fun h16 => ?_) (fun h16 => ?_)
    · refine v_iconst 0 dX12_whyTold_23 (by decide) ?_
      -- at 24: .ireturn
      refine v_iret dX12_whyTold_24 rfl ⟨by rw [if_pos (decide_eq_true h16)], rfl⟩
    · refine v_iconst 1 dX12_whyTold_19 (by decide) ?_
      refine v_goto 24 dX12_whyTold_20 (by decide) ?_
      -- at 24: .ireturn
      refine v_iret dX12_whyTold_24 rfl ⟨by rw [if_neg (by simp only [decide_eq_true_eq]; exact h16)], rfl⟩
theorem canB_ok {K : Nat → Int32} {v : Int64} (h : canB K v = true) : okT9 K v.toInt32 := by
  unfold canB at h
  split at h
  · rename_i hv
    subst hv
    exact Or.inl ⟨rfl, of_decide_eq_true h⟩
  · split at h
    · cases h
    · rename_i h1 h2
      obtain ⟨n, hn, rfl⟩ := pk_lOf h2
      rw [lN_clamp hn] at h
      simp only [Bool.or_eq_true, Bool.and_eq_true, decide_eq_true_eq] at h
      exact Or.inr ⟨n, lN_i n, by omega⟩
/-- TRAYS: sorts, places -/
def TW (M : mM) : Prop := ∀ t, t < 4 → (gI M 244 t = -1 ∨ ∃ s, s < 4 ∧ gI M 244 t = nI s) ∧ gI M 245 t = nI (kn (gI M 245) t) ∧ kn (gI M 245) t ≤ 30
def tFt (M : mM) (t : Int32) : Int32 := if inR 4 t = true then (if gI M 244 t.toNatClampNeg = -1 then 2 else 0) else 1
theorem c12_trayFault (hS : Sh M) (t : Int32) : Ct G Y12_trayFault 2 0 0 [.ref 230, .int t] M (Rv (some (.int (tFt M t))) M) NX := by
  refine Ct.of k12_trayFault.1 (Nat.le_of_ble_eq_true rfl) ?_
  refine v_iload_n dX12_trayFault_0 rfl ?_
  -- at 1: .invokestatic 383
  have hcon := c12_isTray G M t
  rw [bI_cong (within3 t)] at hcon
  refine v_cS [_] (hcon) k12_isTray dX12_trayFault_1 l12_383 rfl (Nat.le_of_ble_eq_true rfl) (Nat.le_of_ble_eq_true rfl) ?_
  by_cases h : inR 4 t = true
  · obtain ⟨j, hj, rfl, hj2⟩ := inR_of h
    rw [bI_t h]
    refine v_if_ne 11 dX12_trayFault_4 (by decide) (fun h4 => ?_) (fun h4 => ?_)
    · refine v_aload_n dX12_trayFault_11 rfl ?_
      refine v_getR 12 27 _ dX12_trayFault_12 f12_54 (by first | exact hS.1 _ _ rfl | exact hS'.1 _ _ rfl | assumption) (by decide) (by first | exact hS.2 _ _ _ rfl | exact hS'.2 _ _ _ rfl | assumption) ?_
      refine v_iload_n dX12_trayFault_15 rfl ?_
      refine v_ialdN (j) dX12_trayFault_16 (by first | exact hS.1 _ _ rfl | exact hS'.1 _ _ rfl | assumption) (by simp only [n_lit, pk_mul, nI_add]) ⟨by omega, by omega⟩ ?_
      -- at 17: .iconst (-1)
      refine v_iconst (-1) dX12_trayFault_17 (by decide) ?_
      -- at 18: .if_icmp .ne 7
      refine v_icmp_ne 25 dX12_trayFault_18 (by decide) (fun h18 => ?_) (fun h18 => ?_)
      · refine v_iconst 0 dX12_trayFault_25 (by decide) ?_
        -- at 26: .ireturn
        refine v_iret dX12_trayFault_26 rfl ⟨by rw [tFt, if_pos h, nI_clamp hj2, if_neg h18], rfl⟩
      · refine v_iconst 2 dX12_trayFault_21 (by decide) ?_
        refine v_goto 26 dX12_trayFault_22 (by decide) ?_
        -- at 26: .ireturn
        refine v_iret dX12_trayFault_26 rfl ⟨by rw [tFt, if_pos h, nI_clamp hj2, if_pos (Decidable.not_not.mp h18)], rfl⟩
    · exact absurd (by decide) h4
  · rw [bI_f h]
    refine v_if_ne 11 dX12_trayFault_4 (by decide) (fun h4 => ?_) (fun h4 => ?_)
    · exact absurd rfl h4
    · refine v_iconst 1 dX12_trayFault_7 (by decide) ?_
      refine v_goto 26 dX12_trayFault_8 (by decide) ?_
      -- at 26: .ireturn
      refine v_iret dX12_trayFault_26 rfl ⟨by rw [tFt, if_neg h], rfl⟩
end RJ
