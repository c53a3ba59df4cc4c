/-! ===== the reference: the hardest, the shorter, the book ===== -/
def prI (K : Nat → Int32) (c : Nat) : Int32 := if prcN K c = -1 then 536870912 else prcN K c
def hrF (K : Nat → Int32) : Nat → Int32 × Int32
  | 0 => (-1, 0)
  | c + 1 => if (kn K 93).testBit c = true then (if (hrF K c).1 = -1 ∨ (hrF K c).2 < prI K c then (nI c, prI K c) else hrF K c) else hrF K c
def shF (K : Nat → Int32) (S : Nat) : Nat → Nat → Nat
  | 0, D => D
  | k + 1, D => shF K S k (if (D.testBit k && decide (fitN (kn K 2) (kn K 93) (trH K) (dif D (2 ^ k)) = S)) = true then dif D (2 ^ k) else D)
section RP
variable (G : mG) (M : mM)
theorem l12_hardest (hS : Sh M) (hP : WP (gI M 231)) (hI : inOK (gI M 231)) (hU : usOK (gI M 231)) (hH : HH M (gI M 231)) : ∀ i c (o : Option Value), c + i = kn (gI M 231) 2 → V G Y12_hardest 7 0 0 (Rv (some (.int (hrF (gI M 231) (kn (gI M 231) 2)).1)) M) NX 15 [some (.ref 230), some (.int (hrF (gI M 231) c).1), some (.int (hrF (gI M 231) c).2), some (.int (nI c)), o] [] M := by
  have h14 := hP.2.1.2
  intro i
  induction i with
  | zero =>
    intro c o hc
    obtain rfl : c = kn (gI M 231) 2 := by omega
    refine v_iload_n dX12_hardest_15 rfl ?_
    refine v_aload_n dX12_hardest_16 rfl ?_
    -- at 17: .invokevirtual 245
    refine v_cV [] (c12_chests G M hS) k12_chests dX12_hardest_17 l12_245 (by first | exact hS.1 _ _ rfl | exact hS'.1 _ _ rfl | assumption) (by decide) rfl (Nat.le_of_ble_eq_true rfl) (Nat.le_of_ble_eq_true rfl) ?_
    rw [hP.2.1.1]
    refine v_icmp_ge 77 dX12_hardest_20 (by decide) (fun h9 => ?_) (fun h9 => ?_)
    · refine v_iload_n dX12_hardest_77 rfl ?_
      -- at 78: .ireturn
      refine v_iret dX12_hardest_78 rfl ⟨rfl, rfl⟩
    · exact absurd (nI_le (Nat.le_refl _) (by omega)) h9
  | succ i ih =>
    intro c o hc
    have hn := fun o => ih (c + 1) o (by omega)
    simp only [hrF] at hn
    refine v_iload_n dX12_hardest_15 rfl ?_
    refine v_aload_n dX12_hardest_16 rfl ?_
    -- at 17: .invokevirtual 245
    refine v_cV [] (c12_chests G M hS) k12_chests dX12_hardest_17 l12_245 (by first | exact hS.1 _ _ rfl | exact hS'.1 _ _ rfl | assumption) (by decide) rfl (Nat.le_of_ble_eq_true rfl) (Nat.le_of_ble_eq_true rfl) ?_
    rw [hP.2.1.1]
    refine v_icmp_ge 77 dX12_hardest_20 (by decide) (fun h9 => ?_) (fun h9 => ?_)
    · exact absurd ((nI_leI (by omega) (by omega)).mp h9) (by omega)
    refine v_aload_n dX12_hardest_23 rfl ?_
    refine v_iload_n dX12_hardest_24 rfl ?_
    -- at 25: .invokevirtual 250
    refine v_cV [_] (c12_isInN G M hS hP hI (c := c) (by omega)) k12_isIn dX12_hardest_25 l12_250 (by first | exact hS.1 _ _ rfl | exact hS'.1 _ _ rfl | assumption) (by decide) rfl (Nat.le_of_ble_eq_true rfl) (Nat.le_of_ble_eq_true rfl) ?_
    by_cases hin : (kn (gI M 231) 93).testBit c = true
    · rw [bI_t hin]
      simp only [if_pos hin] at hn
      refine v_if_ne 34 dX12_hardest_28 (by decide) (fun h28 => ?_) (fun h28 => ?_)
      · refine v_aload_n dX12_hardest_34 rfl ?_
        refine v_iload_n dX12_hardest_35 rfl ?_
        -- at 36: .invokevirtual 352
        refine v_cV [_] (c12_priceOf G M hS hP hI hU hH (c := c) (by omega)) k12_priceOf dX12_hardest_36 l12_352 (by first | exact hS.1 _ _ rfl | exact hS'.1 _ _ rfl | assumption) (by decide) rfl (Nat.le_of_ble_eq_true rfl) (Nat.le_of_ble_eq_true rfl) ?_
        have go : ∀ p, p = prI (gI M 231) c → V G Y12_hardest 7 0 0 (Rv (some (.int (hrF (gI M 231) (kn (gI M 231) 2)).1)) M) NX 52 [some (.ref 230), some (.int (hrF (gI M 231) c).1), some (.int (hrF (gI M 231) c).2), some (.int (nI c)), some (.int p)] [] M := by
          intro p hp
          subst hp
          have hn2 := hn (some (.int (prI (gI M 231) c)))
          refine v_iload_n dX12_hardest_52 rfl ?_
          refine v_iconst (-1) dX12_hardest_53 (by decide) ?_
          -- at 54: .if_icmp .eq 12
          refine v_icmp_eq 66 dX12_hardest_54 (by decide) (fun h54 => ?_) (fun h54 => ?_)
          · rw [if_pos (Or.inl h54)] at hn2
            refine v_iload_n dX12_hardest_66 rfl ?_
            refine v_istore_n dX12_hardest_67 rfl (by decide) ?_
            refine v_iload dX12_hardest_68 rfl ?_
            refine v_istore_n dX12_hardest_70 rfl (by decide) ?_
            refine v_iinc 1 dX12_hardest_71 rfl (by decide) rfl (by decide) ?_
            refine v_goto 15 dX12_hardest_74 (by decide) ?_
            -- at 15: .iload_n 3
            rw [nI_1]
            exact hn2
          · refine v_iload dX12_hardest_57 rfl ?_
            refine v_iload_n dX12_hardest_59 rfl ?_
            -- at 60: .if_icmp .gt 6
            refine v_icmp_gt 66 dX12_hardest_60 (by decide) (fun h60 => ?_) (fun h60 => ?_)
            · rw [if_pos (Or.inr h60)] at hn2
              refine v_iload_n dX12_hardest_66 rfl ?_
              refine v_istore_n dX12_hardest_67 rfl (by decide) ?_
              refine v_iload dX12_hardest_68 rfl ?_
              refine v_istore_n dX12_hardest_70 rfl (by decide) ?_
              refine v_iinc 1 dX12_hardest_71 rfl (by decide) rfl (by decide) ?_
              refine v_goto 15 dX12_hardest_74 (by decide) ?_
              -- at 15: .iload_n 3
              rw [nI_1]
              exact hn2
            · rw [if_neg (fun z => z.elim h54 h60)] at hn2
              refine v_goto 71 dX12_hardest_63 (by decide) ?_
              refine v_iinc 1 dX12_hardest_71 rfl (by decide) rfl (by decide) ?_
              refine v_goto 15 dX12_hardest_74 (by decide) ?_
              -- at 15: .iload_n 3
              rw [nI_1]
              exact hn2
        refine v_istore dX12_hardest_39 rfl (by decide) ?_
        refine v_iload dX12_hardest_41 rfl ?_
        refine v_iconst (-1) dX12_hardest_43 (by decide) ?_
        -- at 44: .if_icmp .ne 8
        by_cases hp : prcN (gI M 231) c = -1
        · rw [hp]
          refine v_icmp_ne 52 dX12_hardest_44 (by decide) (fun h44 => ?_) (fun h44 => ?_)
          · exact absurd rfl h44
          · refine v_ldcw 536870912 dX12_hardest_47 K12_342 ?_
            refine v_istore dX12_hardest_50 rfl (by decide) ?_
            -- at 52: .iload_n 1
            exact go 536870912 (by rw [prI, if_pos hp])
        · refine v_icmp_ne 52 dX12_hardest_44 (by decide) (fun h44 => ?_) (fun h44 => ?_)
          · exact go _ (by rw [prI, if_neg hp])
          · exact absurd (Decidable.not_not.mp h44) hp
      · exact absurd (by decide) h28
    · rw [bI_f hin]
      simp only [if_neg hin] at hn
      refine v_if_ne 34 dX12_hardest_28 (by decide) (fun h28 => ?_) (fun h28 => ?_)
      · exact absurd rfl h28
      · refine v_goto 71 dX12_hardest_31 (by decide) ?_
        refine v_iinc 1 dX12_hardest_71 rfl (by decide) rfl (by decide) ?_
        refine v_goto 15 dX12_hardest_74 (by decide) ?_
        -- at 15: .iload_n 3
        rw [nI_1]
        exact hn o
theorem c12_hardest (hS : Sh M) (hQ : WQ (gI M 231)) : Ct G Y12_hardest 7 0 0 [.ref 230] M (Rs (some (.int (hrF (gI M 231) (kn (gI M 231) 2)).1)) (Pq M 0)) NX := by
  obtain ⟨hP, hI, hU⟩ := hQ
  have e1 : gI (sI M 230 4 0) 231 = gI M 231 := gI_sr _ _ (by decide)
  refine Ct.of k12_hardest.1 (Nat.le_of_ble_eq_true rfl) ?_
  refine v_aload_n dX12_hardest_0 rfl ?_
  refine v_iconst 0 dX12_hardest_1 (by decide) ?_
  refine v_putI 12 4 dX12_hardest_2 f12_68 (by first | exact hS.1 _ _ rfl | exact hS'.1 _ _ rfl | assumption) (by decide) ?_
  refine v_aload_n dX12_hardest_5 rfl ?_
  -- at 6: .invokevirtual 306
  refine v_scVv [] (c12_laysHold G (sI M 230 4 0) hS (by rw [e1]; exact hP)) k12_laysHold dX12_hardest_6 l12_306 (hS.1 _ _ rfl) (by decide) rfl (Nat.le_of_ble_eq_true rfl) (Nat.le_of_ble_eq_true rfl) (fun M2 hM2 => ?_)
  have hS' := Sh.sm (M := sI M 230 4 0) hS hM2.1
  have e2 : gI M2 231 = gI M 231 := (hM2.1.K (fun _ => rfl)).trans e1
  have hH := hM2.2
  rw [e1, ← e2] at hH
  have hpq := Pq.of hM2.1
  rw [← e2] at hP hI hU ⊢
  refine v_iconst (-1) dX12_hardest_9 (by decide) ?_
  refine v_istore_n dX12_hardest_10 rfl (by decide) ?_
  refine v_iconst 0 dX12_hardest_11 (by decide) ?_
  refine v_istore_n dX12_hardest_12 rfl (by decide) ?_
  refine v_iconst 0 dX12_hardest_13 (by decide) ?_
  refine v_istore_n dX12_hardest_14 rfl (by decide) ?_
  -- at 15: .iload_n 3
  refine v_pad ?_
  refine V.post (l12_hardest G M2 hS' hP hI hU hH (kn (gI M2 231) 2) 0 none (by omega)) (fun v M3 h => ⟨h.1, by rw [h.2]; exact hpq⟩) (fun _ _ h => h)
theorem i_dec (a : Int32) : a + (-1) = a - 1 := (Int32.sub_eq_add_neg (a := a) (b := 1)).symm
theorem dif_ltD {D k : Nat} (h : D < 1048576) : dif D k < 1048576 := dif_le D k (n := 20) h
theorem l12_shorter (hS : Sh M) (hP : WP (gI M 231)) (hI : inOK (gI M 231)) (hH : HH M (gI M 231)) {S : Nat} (hS14 : S < 16384) (od : Option Value) (hod : isL od = false) : ∀ j D, j ≤ 20 → D < 1048576 → V G Y12_shorter 7 0 0 (Rv (some (.int (nI (shF (gI M 231) S j D)))) M) NX 39 [some (.ref 230), od, some (.int (nI S)), some (.int (nI D)), some (.int (nI j - 1))] [] M := by
  intro j
  induction j with
  | zero =>
    intro D hj hD
    refine v_iload dX12_shorter_39 rfl ?_
    -- at 41: .ifCond .lt 47
    refine v_if_lt 88 dX12_shorter_41 (by decide) (fun h41 => ?_) (fun h41 => ?_)
    · refine v_iload_n dX12_shorter_88 rfl ?_
      -- at 89: .ireturn
      refine v_iret dX12_shorter_89 rfl ⟨rfl, rfl⟩
    · exact absurd (by decide) h41
  | succ j ih =>
    intro D hj hD
    rw [show nI (j + 1) - 1 = nI j by rw [← nI_1]; exact Int32.add_sub_cancel _ _]
    have hF := fitN_lt (I := kn (gI M 231) 93) hP.2.1.2 (trH (gI M 231)) (dif D (2 ^ j))
    simp only [shF]
    have hn := ih (if (D.testBit j && decide (fitN (kn (gI M 231) 2) (kn (gI M 231) 93) (trH (gI M 231)) (dif D (2 ^ j)) = S)) = true then dif D (2 ^ j) else D) (by omega) (by split; exact dif_ltD hD; exact hD)
    refine v_iload dX12_shorter_39 rfl ?_
    -- at 41: .ifCond .lt 47
    refine v_if_lt 88 dX12_shorter_41 (by decide) (fun h41 => ?_) (fun h41 => ?_)
    · exact absurd h41 (nI_pos (by omega))
    refine v_iload_n dX12_shorter_44 rfl ?_
    refine v_iload dX12_shorter_45 rfl ?_
    -- at 47: .invokestatic 248
    refine v_cS [_, _] (c12_hasN G M (s := D) (k := j) (by omega) (by omega)) k12_has dX12_shorter_47 l12_248 rfl (Nat.le_of_ble_eq_true rfl) (Nat.le_of_ble_eq_true rfl) ?_
    by_cases hb : D.testBit j = true
    · rw [bI_t hb]
      refine v_if_eq 82 dX12_shorter_50 (by decide) (fun h50 => ?_) (fun h50 => ?_)
      · exact absurd h50 (by decide)
      refine v_aload_n dX12_shorter_53 rfl ?_
      refine v_iload_n dX12_shorter_54 rfl ?_
      refine v_iconst 1 dX12_shorter_55 (by decide) ?_
      refine v_iload dX12_shorter_56 rfl ?_
      refine v_ishl dX12_shorter_58 ?_
      refine v_iconst (-1) dX12_shorter_59 (by decide) ?_
      refine v_ixor dX12_shorter_60 ?_
      refine v_iand dX12_shorter_61 ?_
      refine v_aload_n dX12_shorter_62 rfl ?_
      refine v_getR 12 20 _ dX12_shorter_63 f12_36 (by first | exact hS.1 _ _ rfl | exact hS'.1 _ _ rfl | assumption) (by decide) (by first | exact hS.2 _ _ _ rfl | exact hS'.2 _ _ _ rfl | assumption) ?_
      -- at 66: .invokevirtual 326
      rw [shl1 (by omega), andnot]
      refine v_cV [_, _] (c12_fitsOf G M hS hP hI (hS.1 238 _ rfl) (hH.hold hP) (dif_ltD hD)) k12_fitsOf dX12_shorter_66 l12_326 (by first | exact hS.1 _ _ rfl | exact hS'.1 _ _ rfl | assumption) (by decide) rfl (Nat.le_of_ble_eq_true rfl) (Nat.le_of_ble_eq_true rfl) ?_
      refine v_iload_n dX12_shorter_69 rfl ?_
      -- at 70: .if_icmp .ne 12
      by_cases he : fitN (kn (gI M 231) 2) (kn (gI M 231) 93) (trH (gI M 231)) (dif D (2 ^ j)) = S
      · rw [if_pos (by simp [hb, he])] at hn ⊢
        refine v_icmp_ne 82 dX12_shorter_70 (by decide) (fun h70 => ?_) (fun h70 => ?_)
        · exact absurd (by rw [he]) h70
        · refine v_iload_n dX12_shorter_73 rfl ?_
          refine v_iconst 1 dX12_shorter_74 (by decide) ?_
          refine v_iload dX12_shorter_75 rfl ?_
          refine v_ishl dX12_shorter_77 ?_
          refine v_iconst (-1) dX12_shorter_78 (by decide) ?_
          refine v_ixor dX12_shorter_79 ?_
          refine v_iand dX12_shorter_80 ?_
          refine v_istore_n dX12_shorter_81 rfl (by decide) ?_
          refine v_iinc (-1) dX12_shorter_82 rfl (by decide) rfl (by decide) ?_
          refine v_goto 39 dX12_shorter_85 (by decide) ?_
          -- at 39: .iload 4
          rw [shl1 (by omega), andnot, i_dec]
          exact hn
      · rw [if_neg (by simp [he])] at hn ⊢
        refine v_icmp_ne 82 dX12_shorter_70 (by decide) (fun h70 => ?_) (fun h70 => ?_)
        · refine v_iinc (-1) dX12_shorter_82 rfl (by decide) rfl (by decide) ?_
          refine v_goto 39 dX12_shorter_85 (by decide) ?_
          -- at 39: .iload 4
          rw [i_dec]
          exact hn
        · exact absurd ((nI_eq (by omega) (by omega)).mp (Decidable.not_not.mp h70)) he
    · rw [bI_f hb]
      rw [if_neg (by simp [hb])] at hn ⊢
      refine v_if_eq 82 dX12_shorter_50 (by decide) (fun h50 => ?_) (fun h50 => ?_)
      · refine v_iinc (-1) dX12_shorter_82 rfl (by decide) rfl (by decide) ?_
        refine v_goto 39 dX12_shorter_85 (by decide) ?_
        -- at 39: .iload 4
        rw [i_dec]
        exact hn
      · exact absurd rfl h50
theorem c12_shorter (hS : Sh M) (hQ : WQ (gI M 231)) (d : Int32) : Ct G Y12_shorter 7 0 0 [.ref 230, .int d] M (Rs (some (.int (if isDI (kn (gI M 231) 3) d = true then nI (shF (gI M 231) (fitN (kn (gI M 231) 2) (kn (gI M 231) 93) (trH (gI M 231)) d.toNatClampNeg) 20 d.toNatClampNeg) else 0))) (Pq M (tD (gI M 231) d))) NX := by
  obtain ⟨hP, hI, hU⟩ := hQ
  have e1 : gI (sI M 230 4 0) 231 = gI M 231 := gI_sr _ _ (by decide)
  refine Ct.of k12_shorter.1 (Nat.le_of_ble_eq_true rfl) ?_
  refine v_aload_n dX12_shorter_0 rfl ?_
  refine v_iconst 0 dX12_shorter_1 (by decide) ?_
  refine v_putI 12 4 dX12_shorter_2 f12_68 (by first | exact hS.1 _ _ rfl | exact hS'.1 _ _ rfl | assumption) (by decide) ?_
  refine v_aload_n dX12_shorter_5 rfl ?_
  refine v_iload_n dX12_shorter_6 rfl ?_
  -- at 7: .invokevirtual 333
  have hcon := c12_isDescription G (sI M 230 4 0) hS (by rw [e1]; exact hP) d
  rw [e1] at hcon
  refine v_cV [_] (hcon) k12_isDescription dX12_shorter_7 l12_333 (by first | exact hS.1 _ _ rfl | exact hS'.1 _ _ rfl | assumption) (by decide) rfl (Nat.le_of_ble_eq_true rfl) (Nat.le_of_ble_eq_true rfl) ?_
  by_cases hd : isDI (kn (gI M 231) 3) d = true
  · rw [bI_t hd, if_pos hd, tD, if_pos hd]
    obtain ⟨D, rfl, hD, hD2, -⟩ := isDI_of hd
    rw [hD2]
    refine v_if_ne 19 dX12_shorter_10 (by decide) (fun h10 => ?_) (fun h10 => ?_)
    · refine v_aload_n dX12_shorter_19 rfl ?_
      -- at 20: .invokevirtual 306
      refine v_scVv [] (c12_laysHold G (sI M 230 4 0) hS (by rw [e1]; exact hP)) k12_laysHold dX12_shorter_20 l12_306 (hS.1 _ _ rfl) (by decide) rfl (Nat.le_of_ble_eq_true rfl) (Nat.le_of_ble_eq_true rfl) (fun M2 hM2 => ?_)
      have hS' := Sh.sm (M := sI M 230 4 0) hS hM2.1
      have e2 : gI M2 231 = gI M 231 := (hM2.1.K (fun _ => rfl)).trans e1
      have hH := hM2.2
      rw [e1, ← e2] at hH
      have hpq := Pq.of hM2.1
      rw [← e2] at hP hI ⊢
      refine v_aload_n dX12_shorter_23 rfl ?_
      refine v_iload_n dX12_shorter_24 rfl ?_
      refine v_aload_n dX12_shorter_25 rfl ?_
      refine v_getR 12 20 _ dX12_shorter_26 f12_36 (by first | exact hS.1 _ _ rfl | exact hS'.1 _ _ rfl | assumption) (by decide) (by first | exact hS.2 _ _ _ rfl | exact hS'.2 _ _ _ rfl | assumption) ?_
      -- at 29: .invokevirtual 326
      refine v_cV [_, _] (c12_fitsOf G M2 hS' hP hI (hS'.1 238 _ rfl) (hH.hold hP) hD) k12_fitsOf dX12_shorter_29 l12_326 (by first | exact hS.1 _ _ rfl | exact hS'.1 _ _ rfl | assumption) (by decide) rfl (Nat.le_of_ble_eq_true rfl) (Nat.le_of_ble_eq_true rfl) ?_
      refine v_istore_n dX12_shorter_32 rfl (by decide) ?_
      refine v_iload_n dX12_shorter_33 rfl ?_
      refine v_istore_n dX12_shorter_34 rfl (by decide) ?_
      refine v_bipush 19 dX12_shorter_35 (by decide) ?_
      refine v_istore dX12_shorter_37 rfl (by decide) ?_
      -- at 39: .iload 4
      refine V.post (l12_shorter G M2 hS' hP hI hH (fitN_lt hP.2.1.2 _ _) _ rfl 20 D (by omega) hD) (fun v M3 h => ⟨h.1, by rw [h.2]; exact hpq⟩) (fun _ _ h => h)
    · exact absurd (by decide) h10
  · rw [bI_f hd, if_neg hd]
    refine v_if_ne 19 dX12_shorter_10 (by decide) (fun h10 => ?_) (fun h10 => ?_)
    · exact absurd rfl h10
    · refine v_aload_n dX12_shorter_13 rfl ?_
      refine v_iconst 1 dX12_shorter_14 (by decide) ?_
      -- at 15: .invokevirtual 224
      refine v_cV [_] (c12_fails G (sI M 230 4 0) hS _) k12_fails dX12_shorter_15 l12_224 (by first | exact hS.1 _ _ rfl | exact hS'.1 _ _ rfl | assumption) (by decide) rfl (Nat.le_of_ble_eq_true rfl) (Nat.le_of_ble_eq_true rfl) ?_
      refine v_iret dX12_shorter_18 rfl ⟨rfl, by rw [tD, if_neg hd]; exact Pq.st2⟩
end RP
