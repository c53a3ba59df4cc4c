/-! ===== the reference's deeds, as they are called ===== -/
def Pd (M : mM) (t : Int32) (K' : Nat → Int32) (M' : mM) : Prop := Sm Wd M M' ∧ gI M' 230 4 = t ∧ gI M' 231 = K'
theorem Pd.q {M M' : mM} {t : Int32} (h : Pq M t M') : Pd M t (gI M 231) M' := ⟨h.1.d3, h.2, h.1.K (fun _ => rfl)⟩
theorem not_pos_neg {n : Nat} (hn : n < 2 ^ 31) : ¬ nI n = -1 := fun z => absurd (show (-1 : Int32) < 0 by decide) (by rw [← z]; exact nI_pos hn)
section RH
variable (G : mG) (M : mM)
/-- behind 'thrown = t; keeps()' -/
theorem keeps_at (hS : Sh M) (hW : WK (gI M 231)) (t : Int32) : Ct G Y12_keeps 0 0 0 [.ref 230] (sI M 230 4 t) (Rs none (fun M' => Pd M t (kepK (gI M 231)) M')) NX := by
  have e1 : gI (sI M 230 4 t) 231 = gI M 231 := gI_sr _ _ (by decide)
  refine (c12_keeps G (sI M 230 4 t) hS (by rw [e1]; exact hW.2.1.1) (by rw [e1]; exact hW.2.1.2)).post (fun v M' h => ⟨h.1, ?_, ?_, ?_⟩) (fun _ _ h => h)
  · exact (show Sm Wd M (sI M 230 4 t) from Sm.rf.st _ rfl).tr h.2.1.d2
  · exact (h.2.1.2.2.2.2 230 4 rfl).trans (gI_ss _ _ _ _)
  · rw [h.2.2, e1]
theorem Pd.sh {M M' : mM} {t : Int32} {K' : Nat → Int32} (hS : Sh M) (h : Pd M t K' M') : Sh M' := hS.sm h.1
theorem Pd.k {M M' M2 : mM} {t : Int32} {K' K2 : Nat → Int32} (h : Pd M t K' M') (hM : Sm Wd M' M2) (h4 : gI M2 230 4 = gI M' 230 4) (e : gI M2 231 = K2) : Pd M t K2 M2 := ⟨h.1.tr hM, h4.trans h.2.1, e⟩
theorem Sm.t4 {M M' : mM} (h : Sm W231 M M') : gI M' 230 4 = gI M 230 4 := h.2.2.2.2 230 4 rfl
theorem Sm.t4l {M M' : mM} (h : Sm Wlh M M') : gI M' 230 4 = gI M 230 4 := h.2.2.2.2 230 4 rfl
def lamK (K : Nat → Int32) : Nat → Int32 := uK (kepK K) 94 (1 - kepK K 94)
theorem c12_lamp (hS : Sh M) (hW : WK (gI M 231)) : Ct G Y12_lamp 1 0 0 [.ref 230] M (Rs (some (.int (lamK (gI M 231) 94))) (Pd M 0 (lamK (gI M 231)))) NX := by
  refine Ct.of k12_lamp.1 (Nat.le_of_ble_eq_true rfl) ?_
  refine v_aload_n dX12_lamp_0 rfl ?_
  refine v_iconst 0 dX12_lamp_1 (by decide) ?_
  refine v_putI 12 4 dX12_lamp_2 f12_68 (by first | exact hS.1 _ _ rfl | exact hS'.1 _ _ rfl | assumption) (by decide) ?_
  refine v_aload_n dX12_lamp_5 rfl ?_
  -- at 6: .invokevirtual 370
  refine v_scVv [] (keeps_at G M hS hW 0) k12_keeps dX12_lamp_6 l12_370 (hS.1 _ _ rfl) (by decide) rfl (Nat.le_of_ble_eq_true rfl) (Nat.le_of_ble_eq_true rfl) (fun M2 hM2 => ?_)
  have hS' := hM2.sh hS
  refine v_aload_n dX12_lamp_9 rfl ?_
  refine v_getR 12 0 _ dX12_lamp_10 f12_9 (by first | exact hS.1 _ _ rfl | exact hS'.1 _ _ rfl | assumption) (by decide) (by first | exact hS.2 _ _ _ rfl | exact hS'.2 _ _ _ rfl | assumption) ?_
  refine v_bipush 94 dX12_lamp_13 (by decide) ?_
  refine v_iconst 1 dX12_lamp_15 (by decide) ?_
  refine v_aload_n dX12_lamp_16 rfl ?_
  refine v_getR 12 0 _ dX12_lamp_17 f12_9 (by first | exact hS.1 _ _ rfl | exact hS'.1 _ _ rfl | assumption) (by decide) (by first | exact hS.2 _ _ _ rfl | exact hS'.2 _ _ _ rfl | assumption) ?_
  refine v_bipush 94 dX12_lamp_20 (by decide) ?_
  refine v_ialdN 94 dX12_lamp_22 (by first | exact hS.1 _ _ rfl | exact hS'.1 _ _ rfl | assumption) rfl (by decide) ?_
  refine v_isub dX12_lamp_23 ?_
  -- at 24: .iastore
  rw [hM2.2.2]
  refine v_iastN 94 dX12_lamp_24 (hS'.1 _ _ rfl) rfl (by decide) ?_
  have e : gI (sI M2 231 94 (1 - kepK (gI M 231) 94)) 231 = lamK (gI M 231) := by rw [gI_uK, hM2.2.2]; rfl
  refine v_aload_n dX12_lamp_25 rfl ?_
  refine v_getR 12 0 _ dX12_lamp_26 f12_9 (by first | exact hS.1 _ _ rfl | exact hS'.1 _ _ rfl | assumption) (by decide) (by first | exact hS.2 _ _ _ rfl | exact hS'.2 _ _ _ rfl | assumption) ?_
  refine v_bipush 94 dX12_lamp_29 (by decide) ?_
  refine v_ialdN 94 dX12_lamp_31 (by first | exact hS.1 _ _ rfl | exact hS'.1 _ _ rfl | assumption) rfl (by decide) ?_
  -- at 32: .ireturn
  rw [e]
  refine v_iret dX12_lamp_32 rfl ⟨rfl, hM2.k (Sm.rf.st _ rfl) (gI_sq _ _ (by decide)) e⟩
def tCar (K : Nat → Int32) (c : Int32) : Int32 := if inR (kn K 2) c = true then 0 else 1
def cryK (K : Nat → Int32) (c : Int32) : Nat → Int32 := if inR (kn K 2) c = true then carK (kepK K) c.toNatClampNeg else K
theorem kep2 {K : Nat → Int32} (hW : WK K) : kn (kepK K) 2 = kn K 2 ∧ kn (kepK K) 1 = kn K 1 ∧ kn (kepK K) 3 = kn K 3 ∧ kn (kepK K) 6 = kn K 6 := by
  unfold kn
  rw [kepK_o hW (by omega), kepK_o hW (by omega), kepK_o hW (by omega), kepK_o hW (by omega)]
  exact ⟨rfl, rfl, rfl, rfl⟩
theorem c12_carry (hS : Sh M) (hW : WK (gI M 231)) (c : Int32) : Ct G Y12_carry 4 0 0 [.ref 230, .int c] M (Rs (some (.int (if inR (kn (gI M 231) 2) c = true then bI ((kn (cryK (gI M 231) c) 93).testBit c.toNatClampNeg = true) else 0))) (Pd M (tCar (gI M 231) c) (cryK (gI M 231) c))) NX := by
  have e1 : gI (sI M 230 4 0) 231 = gI M 231 := gI_sr _ _ (by decide)
  have h14 := hW.p.2.1.2
  refine Ct.of k12_carry.1 (Nat.le_of_ble_eq_true rfl) ?_
  refine v_aload_n dX12_carry_0 rfl ?_
  refine v_iconst 0 dX12_carry_1 (by decide) ?_
  refine v_putI 12 4 dX12_carry_2 f12_68 (by first | exact hS.1 _ _ rfl | exact hS'.1 _ _ rfl | assumption) (by decide) ?_
  refine v_aload_n dX12_carry_5 rfl ?_
  refine v_iload_n dX12_carry_6 rfl ?_
  refine v_i2l dX12_carry_7 ?_
  -- at 8: .invokevirtual 297
  have hcon := c12_isChestN G (sI M 230 4 0) hS (by rw [e1]; exact hW.p) c
  rw [e1] at hcon
  refine v_cV [_] (hcon) k12_isChest dX12_carry_8 l12_297 (by first | exact hS.1 _ _ rfl | exact hS'.1 _ _ rfl | assumption) (by decide) rfl (Nat.le_of_ble_eq_true rfl) (Nat.le_of_ble_eq_true rfl) ?_
  by_cases h : inR (kn (gI M 231) 2) c = true
  · rw [bI_t h, if_pos h, show cryK (gI M 231) c = carK (kepK (gI M 231)) c.toNatClampNeg from if_pos h, show tCar (gI M 231) c = 0 from if_pos h]
    obtain ⟨j, hj, rfl, hj2⟩ := inR_of h
    rw [nI_clamp hj2]
    have hWk := hW.keeps
    have hj3 : j < kn (kepK (gI M 231)) 2 := by rw [(kep2 hW).1]; exact hj
    refine v_if_ne 20 dX12_carry_11 (by decide) (fun h11 => ?_) (fun h11 => ?_)
    · refine v_aload_n dX12_carry_20 rfl ?_
      -- at 21: .invokevirtual 370
      refine v_scVv [] (keeps_at G M hS hW 0) k12_keeps dX12_carry_21 l12_370 (hS.1 _ _ rfl) (by decide) rfl (Nat.le_of_ble_eq_true rfl) (Nat.le_of_ble_eq_true rfl) (fun M2 hM2 => ?_)
      have hS2 := hM2.sh hS
      have hcon := c12_carries G M2 hS2 (by rw [hM2.2.2]; exact hWk) (c := j) (by rw [hM2.2.2]; exact hj3)
      rw [hM2.2.2] at hcon
      refine v_aload_n dX12_carry_24 rfl ?_
      refine v_iload_n dX12_carry_25 rfl ?_
      -- at 26: .invokevirtual 376
      refine v_scVv [_] hcon k12_carries dX12_carry_26 l12_376 (hS2.1 _ _ rfl) (by decide) rfl (Nat.le_of_ble_eq_true rfl) (Nat.le_of_ble_eq_true rfl) (fun M3 hM3 => ?_)
      have hS' := hS2.sm hM3.1
      have hP3 := hM2.k hM3.1.d2 hM3.1.t4 hM3.2
      have hW3 := hWk.car hj3
      have hcon := c12_isInN G M3 hS' (by rw [hM3.2]; exact hW3.p) (by rw [hM3.2]; exact hW3.i) (c := j) (by omega)
      rw [hM3.2] at hcon
      refine v_aload_n dX12_carry_29 rfl ?_
      refine v_iload_n dX12_carry_30 rfl ?_
      -- at 31: .invokevirtual 250
      refine v_cV [_] (hcon) k12_isIn dX12_carry_31 l12_250 (by first | exact hS.1 _ _ rfl | exact hS'.1 _ _ rfl | assumption) (by decide) rfl (Nat.le_of_ble_eq_true rfl) (Nat.le_of_ble_eq_true rfl) ?_
      by_cases hb : (kn (carK (kepK (gI M 231)) j) 93).testBit j = true
      · rw [bI_t hb]
        refine v_if_eq 41 dX12_carry_34 (by decide) (fun h34 => ?_) (fun h34 => ?_)
        · exact absurd h34 (by decide)
        · refine v_iconst 1 dX12_carry_37 (by decide) ?_
          refine v_goto 42 dX12_carry_38 (by decide) ?_
          -- at 42: .ireturn
          refine v_iret dX12_carry_42 rfl ⟨rfl, hP3⟩
      · rw [bI_f hb]
        refine v_if_eq 41 dX12_carry_34 (by decide) (fun h34 => ?_) (fun h34 => ?_)
        · refine v_iconst 0 dX12_carry_41 (by decide) ?_
          -- at 42: .ireturn
          refine v_iret dX12_carry_42 rfl ⟨rfl, hP3⟩
        · exact absurd rfl h34
    · exact absurd (by decide) h11
  · rw [bI_f h, if_neg h, show cryK (gI M 231) c = gI M 231 from if_neg h, show tCar (gI M 231) c = 1 from if_neg h]
    refine v_if_ne 20 dX12_carry_11 (by decide) (fun h11 => ?_) (fun h11 => ?_)
    · exact absurd rfl h11
    · refine v_aload_n dX12_carry_14 rfl ?_
      refine v_iconst 1 dX12_carry_15 (by decide) ?_
      -- at 16: .invokevirtual 224
      refine v_cV [_] (c12_fails G (sI M 230 4 0) hS _) k12_fails dX12_carry_16 l12_224 (by first | exact hS.1 _ _ rfl | exact hS'.1 _ _ rfl | assumption) (by decide) rfl (Nat.le_of_ble_eq_true rfl) (Nat.le_of_ble_eq_true rfl) ?_
      refine v_iret dX12_carry_19 rfl ⟨rfl, Pd.q Pq.st2⟩
theorem c12_settle (hS : Sh M) (hW : WK (gI M 231)) : Ct G Y12_settle 9 0 0 [.ref 230] M (Rs (some (.int (if gI M 231 96 = -1 then 0 else encP (winO (kepK (gI M 231)))))) (Pd M (if gI M 231 96 = -1 then 1 else 0) (if gI M 231 96 = -1 then gI M 231 else setK (kepK (gI M 231))))) NX := by
  have e1 : gI (sI M 230 4 0) 231 = gI M 231 := gI_sr _ _ (by decide)
  refine Ct.of k12_settle.1 (Nat.le_of_ble_eq_true rfl) ?_
  refine v_aload_n dX12_settle_0 rfl ?_
  refine v_iconst 0 dX12_settle_1 (by decide) ?_
  refine v_putI 12 4 dX12_settle_2 f12_68 (by first | exact hS.1 _ _ rfl | exact hS'.1 _ _ rfl | assumption) (by decide) ?_
  refine v_aload_n dX12_settle_5 rfl ?_
  refine v_getR 12 0 _ dX12_settle_6 f12_9 (by first | exact hS.1 _ _ rfl | exact hS'.1 _ _ rfl | assumption) (by decide) (by first | exact hS.2 _ _ _ rfl | exact hS'.2 _ _ _ rfl | assumption) ?_
  refine v_bipush 96 dX12_settle_9 (by decide) ?_
  refine v_ialdN 96 dX12_settle_11 (by first | exact hS.1 _ _ rfl | exact hS'.1 _ _ rfl | assumption) rfl (by decide) ?_
  refine v_iconst (-1) dX12_settle_12 (by decide) ?_
  -- at 13: .if_icmp .ne 9
  rw [e1]
  refine v_icmp_ne 22 dX12_settle_13 (by decide) (fun h13 => ?_) (fun h13 => ?_)
  · rw [if_neg h13, if_neg h13, if_neg h13]
    have hWk := hW.keeps
    refine v_aload_n dX12_settle_22 rfl ?_
    -- at 23: .invokevirtual 370
    refine v_scVv [] (keeps_at G M hS hW 0) k12_keeps dX12_settle_23 l12_370 (hS.1 _ _ rfl) (by decide) rfl (Nat.le_of_ble_eq_true rfl) (Nat.le_of_ble_eq_true rfl) (fun M2 hM2 => ?_)
    have hS2 := hM2.sh hS
    have hcon := c12_settles G M2 hS2 (by rw [hM2.2.2]; exact hWk) (by rw [hM2.2.2, kepK_o hW (by omega)]; exact h13)
    rw [hM2.2.2] at hcon
    refine v_aload_n dX12_settle_26 rfl ?_
    -- at 27: .invokevirtual 373
    refine v_scV [] hcon k12_settles dX12_settle_27 l12_373 (hS2.1 _ _ rfl) (by decide) rfl (Nat.le_of_ble_eq_true rfl) (Nat.le_of_ble_eq_true rfl) (fun M3 hM3 => ?_)
    refine v_iret dX12_settle_30 rfl ⟨rfl, hM2.k hM3.1.sd hM3.1.t4s hM3.2⟩
  · rw [if_pos (Decidable.not_not.mp h13), if_pos (Decidable.not_not.mp h13), if_pos (Decidable.not_not.mp h13)]
    refine v_aload_n dX12_settle_16 rfl ?_
    refine v_iconst 1 dX12_settle_17 (by decide) ?_
    -- at 18: .invokevirtual 224
    refine v_cV [_] (c12_fails G (sI M 230 4 0) hS _) k12_fails dX12_settle_18 l12_224 (by first | exact hS.1 _ _ rfl | exact hS'.1 _ _ rfl | assumption) (by decide) rfl (Nat.le_of_ble_eq_true rfl) (Nat.le_of_ble_eq_true rfl) ?_
    refine v_iret dX12_settle_21 rfl ⟨rfl, Pd.q Pq.st2⟩
def tStk (K : Nat → Int32) (c : Int32) : Nat → Int32 := if chF K c = 0 then noCl (uK (kepK K) 96 c) else K
theorem c12_stake (hS : Sh M) (hW : WK (gI M 231)) (c : Int32) : Ct G Y12_stake 3 0 0 [.ref 230, .int c] M (Rs (some (.int (if chF (gI M 231) c = 0 then gI M 231 96 else 0))) (Pd M (chF (gI M 231) c) (tStk (gI M 231) c))) NX := by
  refine Ct.of k12_stake.1 (Nat.le_of_ble_eq_true rfl) ?_
  refine v_aload_n dX12_stake_0 rfl ?_
  refine v_aload_n dX12_stake_1 rfl ?_
  refine v_iload_n dX12_stake_2 rfl ?_
  -- at 3: .invokevirtual 346
  refine v_cV [_] (c12_chestFault G M hS hW.p hW.i c) k12_chestFault dX12_stake_3 l12_346 (by first | exact hS.1 _ _ rfl | exact hS'.1 _ _ rfl | assumption) (by decide) rfl (Nat.le_of_ble_eq_true rfl) (Nat.le_of_ble_eq_true rfl) ?_
  refine v_putI 12 4 dX12_stake_6 f12_68 (by first | exact hS.1 _ _ rfl | exact hS'.1 _ _ rfl | assumption) (by decide) ?_
  refine v_aload_n dX12_stake_9 rfl ?_
  refine v_getI 12 4 dX12_stake_10 f12_68 (by first | exact hS.1 _ _ rfl | exact hS'.1 _ _ rfl | assumption) (by decide) ?_
  -- at 13: .ifCond .le 5
  rw [gI_ss]
  refine v_if_le 18 dX12_stake_13 (by decide) (fun h13 => ?_) (fun h13 => ?_)
  · obtain ⟨j, hj, rfl, hb, h0⟩ := chF_ok (Int32.not_lt.mpr h13)
    rw [show tStk (gI M 231) (nI j) = noCl (uK (kepK (gI M 231)) 96 (nI j)) from if_pos h0, h0, if_pos rfl]
    refine v_aload_n dX12_stake_18 rfl ?_
    -- at 19: .invokevirtual 370
    refine v_scVv [] (keeps_at G M hS hW 0) k12_keeps dX12_stake_19 l12_370 (hS.1 _ _ rfl) (by decide) rfl (Nat.le_of_ble_eq_true rfl) (Nat.le_of_ble_eq_true rfl) (fun M2 hM2 => ?_)
    have hS' := hM2.sh hS
    refine v_aload_n dX12_stake_22 rfl ?_
    refine v_getR 12 0 _ dX12_stake_23 f12_9 (by first | exact hS.1 _ _ rfl | exact hS'.1 _ _ rfl | assumption) (by decide) (by first | exact hS.2 _ _ _ rfl | exact hS'.2 _ _ _ rfl | assumption) ?_
    refine v_bipush 96 dX12_stake_26 (by decide) ?_
    refine v_ialdN 96 dX12_stake_28 (by first | exact hS.1 _ _ rfl | exact hS'.1 _ _ rfl | assumption) rfl (by decide) ?_
    -- at 29: .istore_n 2
    rw [hM2.2.2, kepK_o hW (by omega)]
    refine v_istore_n dX12_stake_29 rfl (by decide) ?_
    refine v_aload_n dX12_stake_30 rfl ?_
    refine v_getR 12 0 _ dX12_stake_31 f12_9 (by first | exact hS.1 _ _ rfl | exact hS'.1 _ _ rfl | assumption) (by decide) (by first | exact hS.2 _ _ _ rfl | exact hS'.2 _ _ _ rfl | assumption) ?_
    refine v_bipush 96 dX12_stake_34 (by decide) ?_
    refine v_iload_n dX12_stake_36 rfl ?_
    -- at 37: .iastore
    refine v_iastN 96 dX12_stake_37 (hS'.1 _ _ rfl) rfl (by decide) ?_
    refine v_aload_n dX12_stake_38 rfl ?_
    -- at 39: .invokevirtual 361
    refine v_scVv [] (c12_noClaims G (sI M2 231 96 (nI j)) hS') k12_noClaims dX12_stake_39 l12_361 (hS'.1 _ _ rfl) (by decide) rfl (Nat.le_of_ble_eq_true rfl) (Nat.le_of_ble_eq_true rfl) (fun M3 hM3 => ?_)
    refine v_iload_n dX12_stake_42 rfl ?_
    -- at 43: .ireturn
    refine v_iret dX12_stake_43 rfl ⟨rfl, hM2.k ((show Sm Wd M2 (sI M2 231 96 (nI j)) from Sm.rf.st _ rfl).tr hM3.1.d2) (hM3.1.t4.trans (gI_sq _ _ (by decide))) (by rw [hM3.2, gI_uK, hM2.2.2])⟩
  · have hne : ¬ chF (gI M 231) c = 0 := fun z => h13 (by rw [z]; decide)
    rw [show tStk (gI M 231) c = gI M 231 from if_neg hne, if_neg hne]
    refine v_iconst 0 dX12_stake_16 (by decide) ?_
    -- at 17: .ireturn
    refine v_iret dX12_stake_17 rfl ⟨rfl, Pd.q Pq.st⟩
theorem c12_winner (hS : Sh M) (hW : WK (gI M 231)) : Ct G Y12_winner 8 0 0 [.ref 230] M (Rs (some (.int (encP (winO (gI M 231))))) (Pq M 0)) NX := by
  have e1 : gI (sI M 230 4 0) 231 = gI M 231 := gI_sr _ _ (by decide)
  refine Ct.of k12_winner.1 (Nat.le_of_ble_eq_true rfl) ?_
  refine v_aload_n dX12_winner_0 rfl ?_
  refine v_iconst 0 dX12_winner_1 (by decide) ?_
  refine v_putI 12 4 dX12_winner_2 f12_68 (by first | exact hS.1 _ _ rfl | exact hS'.1 _ _ rfl | assumption) (by decide) ?_
  refine v_aload_n dX12_winner_5 rfl ?_
  -- at 6: .invokevirtual 358
  have hcon := c12_winnerOf G (sI M 230 4 0) hS (by rw [e1]; exact hW.q) (by rw [e1]; exact hW.c)
  rw [e1] at hcon
  refine v_scV [] hcon k12_winnerOf dX12_winner_6 l12_358 (hS.1 _ _ rfl) (by decide) rfl (Nat.le_of_ble_eq_true rfl) (Nat.le_of_ble_eq_true rfl) (fun M2 hM2 => ?_)
  refine v_iret dX12_winner_9 rfl ⟨rfl, Pq.of hM2⟩
def tClm (K : Nat → Int32) (p d : Int32) : Int32 := if inR (kn K 6) p = true then (if K 96 = -1 then 2 else if isDI (kn K 3) d = true then 0 else 3) else 1
def clmK (K : Nat → Int32) (p d : Int32) : Nat → Int32 := if tClm K p d = 0 then uK (kepK K) (97 + p.toNatClampNeg) d else K
def telK (K : Nat → Int32) (d : Nat) : Int32 := oneOf (fitN (kn K 2) (kn K 93) (trH K) d)
theorem WK.clm {K : Nat → Int32} (h : WK K) {p : Nat} (hp : p < kn K 6) {d : Nat} (hd : isDN (kn K 3) d = true) : WK (uK K (97 + p) (nI d)) := by
  have h6 := h.p.2.2.2.2.2.1.2.2
  obtain ⟨b1, b2, b3, b4, b5, b6⟩ := h.2.2.1
  have o : ∀ i, i < 88 → cur (uK K (97 + p) (nI d)) i = cur K i := fun i hi => uK_n _ _ (by omega)
  have n : ∀ i, i < 88 → nb (cur (uK K (97 + p) (nI d))) i = nb (cur K) i := fun i hi => by unfold nb; rw [o i hi]
  refine h.deed (fun i hi => uK_n _ _ (by omega)) ⟨fun i hi => by rw [o i (by omega), n i (by omega)]; exact b1 i hi, by rw [o 84 (by omega), n 84 (by omega)]; exact b2, by rw [o 85 (by omega)]; exact b3, by rw [o 86 (by omega), n 86 (by omega)]; exact b4, by rw [o 87 (by omega), n 84 (by omega)]; exact b5, fun q hq => ?_⟩
  rw [cur_97]
  by_cases e : q = p
  · subst e; exact Or.inr ⟨hp, d, uK_s _ _ _, hd⟩
  · rw [uK_n _ _ (by omega), ← cur_97 K]; exact b6 q hq
theorem c12_claim (hS : Sh M) (hW : WK (gI M 231)) (p d : Int32) : Ct G Y12_claim 7 0 0 [.ref 230, .int p, .int d] M (Rs (some (.int (if tClm (gI M 231) p d = 0 then bI (telK (clmK (gI M 231) p d) d.toNatClampNeg = gI M 231 96) else 0))) (Pd M (tClm (gI M 231) p d) (clmK (gI M 231) p d))) NX := by
  have h6 := hW.p.2.2.2.2.2.1.2.2
  have fin : ∀ t, t = tClm (gI M 231) p d → V G Y12_claim 7 0 0 (Rs (some (.int (if tClm (gI M 231) p d = 0 then bI (telK (clmK (gI M 231) p d) d.toNatClampNeg = gI M 231 96) else 0))) (Pd M (tClm (gI M 231) p d) (clmK (gI M 231) p d))) NX 41 [some (.ref 230), some (.int p), some (.int d)] [.int t, .ref 230] M := by
    intro t ht
    refine v_putI 12 4 dX12_claim_41 f12_68 (by first | exact hS.1 _ _ rfl | exact hS'.1 _ _ rfl | assumption) (by decide) ?_
    refine v_aload_n dX12_claim_44 rfl ?_
    refine v_getI 12 4 dX12_claim_45 f12_68 (by first | exact hS.1 _ _ rfl | exact hS'.1 _ _ rfl | assumption) (by decide) ?_
    -- at 48: .ifCond .le 5
    rw [gI_ss]
    by_cases h0 : tClm (gI M 231) p d = 0
    · rw [ht, h0, if_pos rfl]
      refine v_if_le 53 dX12_claim_48 (by decide) (fun h48 => ?_) (fun h48 => ?_)
      · have hh := h0
        unfold tClm at hh
        split at hh
        · rename_i hp
          split at hh
          · cases hh
          · rename_i h96
            split at hh
            · rename_i hd
              obtain ⟨j, hj, rfl, hj2⟩ := inR_of hp
              obtain ⟨D, rfl, hD, hD2, hD3⟩ := isDI_of hd
              have hWk := hW.keeps
              have hW2 : WK (uK (kepK (gI M 231)) (97 + j) (nI D)) := hWk.clm (by rw [(kep2 hW).2.2.2]; exact hj) (by rw [(kep2 hW).2.2.1]; exact hD3)
              rw [hD2, show clmK (gI M 231) (nI j) (nI D) = uK (kepK (gI M 231)) (97 + j) (nI D) by rw [clmK, if_pos h0, nI_clamp hj2]]
              refine v_aload_n dX12_claim_53 rfl ?_
              -- at 54: .invokevirtual 370
              refine v_scVv [] (keeps_at G M hS hW 0) k12_keeps dX12_claim_54 l12_370 (hS.1 _ _ rfl) (by decide) rfl (Nat.le_of_ble_eq_true rfl) (Nat.le_of_ble_eq_true rfl) (fun M2 hM2 => ?_)
              have hS2 := hM2.sh hS
              refine v_aload_n dX12_claim_57 rfl ?_
              refine v_getR 12 0 _ dX12_claim_58 f12_9 (hS2.1 _ _ rfl) (by decide) (hS2.2 _ _ _ rfl) ?_
              refine v_bipush 97 dX12_claim_61 (by decide) ?_
              refine v_iload_n dX12_claim_63 rfl ?_
              refine v_iadd dX12_claim_64 ?_
              refine v_iload_n dX12_claim_65 rfl ?_
              -- at 66: .iastore
              refine v_iastN (97 + j) dX12_claim_66 (hS2.1 _ _ rfl) (by simp only [n_lit, nI_add]) ⟨by omega, by omega⟩ ?_
              have e3 : gI (sI M2 231 (97 + j) (nI D)) 231 = uK (kepK (gI M 231)) (97 + j) (nI D) := by rw [gI_uK, hM2.2.2]
              have hP3 : Pd M 0 (uK (kepK (gI M 231)) (97 + j) (nI D)) (sI M2 231 (97 + j) (nI D)) := hM2.k (Sm.rf.st _ rfl) (gI_sq _ _ (by decide)) e3
              refine v_aload_n dX12_claim_67 rfl ?_
              -- at 68: .invokevirtual 306
              refine v_scVv [] (c12_laysHold G (sI M2 231 (97 + j) (nI D)) hS2 (by rw [e3]; exact hW2.p)) k12_laysHold dX12_claim_68 l12_306 (hS2.1 _ _ rfl) (by decide) rfl (Nat.le_of_ble_eq_true rfl) (Nat.le_of_ble_eq_true rfl) (fun M4 hM4 => ?_)
              have hS' : Sh M4 := (hP3.sh hS).sm hM4.1
              have e4 : gI M4 231 = uK (kepK (gI M 231)) (97 + j) (nI D) := (hM4.1.K (fun _ => rfl)).trans e3
              have hH := hM4.2
              rw [e3, ← e4] at hH
              have hcon := c12_toldBy G M4 hS' (by rw [e4]; exact hW2.p) (by rw [e4]; exact hW2.i) hH hD
              rw [e4] at hcon
              have hP4 := hP3.k hM4.1.d1 hM4.1.t4l e4
              refine v_aload_n dX12_claim_71 rfl ?_
              refine v_iload_n dX12_claim_72 rfl ?_
              -- at 73: .invokevirtual 336
              refine v_cV [_] (hcon) k12_toldBy dX12_claim_73 l12_336 (by first | exact hS.1 _ _ rfl | exact hS'.1 _ _ rfl | assumption) (by decide) rfl (Nat.le_of_ble_eq_true rfl) (Nat.le_of_ble_eq_true rfl) ?_
              refine v_aload_n dX12_claim_76 rfl ?_
              refine v_getR 12 0 _ dX12_claim_77 f12_9 (by first | exact hS.1 _ _ rfl | exact hS'.1 _ _ rfl | assumption) (by decide) (by first | exact hS.2 _ _ _ rfl | exact hS'.2 _ _ _ rfl | assumption) ?_
              refine v_bipush 96 dX12_claim_80 (by decide) ?_
              refine v_ialdN 96 dX12_claim_82 (by first | exact hS.1 _ _ rfl | exact hS'.1 _ _ rfl | assumption) rfl (by decide) ?_
              -- at 83: .if_icmp .ne 7
              rw [e4, uK_n _ _ (by omega), kepK_o hW (by omega)]
              refine v_icmp_ne 90 dX12_claim_83 (by decide) (fun h83 => ?_) (fun h83 => ?_)
              · refine v_iconst 0 dX12_claim_90 (by decide) ?_
                -- at 91: .ireturn
                refine v_iret dX12_claim_91 rfl ⟨by rw [telK, bI_f h83], hP4⟩
              · refine v_iconst 1 dX12_claim_86 (by decide) ?_
                refine v_goto 91 dX12_claim_87 (by decide) ?_
                -- at 91: .ireturn
                refine v_iret dX12_claim_91 rfl ⟨by rw [telK, bI_t (Decidable.not_not.mp h83)], hP4⟩
            · cases hh
        · cases hh
      · exact absurd (by decide) h48
    · rw [if_neg h0, show clmK (gI M 231) p d = gI M 231 from if_neg h0]
      have hpos : ¬ t ≤ 0 := by
        rw [ht]
        unfold tClm at h0 ⊢
        split
        · split
          · decide
          · split
            · rename_i a b c; rw [if_pos a, if_neg b, if_pos c] at h0; exact absurd rfl h0
            · decide
        · decide
      refine v_if_le 53 dX12_claim_48 (by decide) (fun h48 => ?_) (fun h48 => ?_)
      · exact absurd h48 hpos
      · refine v_iconst 0 dX12_claim_51 (by decide) ?_
        -- at 52: .ireturn
        refine v_iret dX12_claim_52 rfl ⟨rfl, by rw [← ht]; exact Pd.q Pq.st⟩
  refine Ct.of k12_claim.1 (Nat.le_of_ble_eq_true rfl) ?_
  refine v_aload_n dX12_claim_0 rfl ?_
  refine v_aload_n dX12_claim_1 rfl ?_
  refine v_iload_n dX12_claim_2 rfl ?_
  -- at 3: .invokevirtual 367
  refine v_cV [_] (c12_isBody G M hS hW.p p) k12_isBody dX12_claim_3 l12_367 (by first | exact hS.1 _ _ rfl | exact hS'.1 _ _ rfl | assumption) (by decide) rfl (Nat.le_of_ble_eq_true rfl) (Nat.le_of_ble_eq_true rfl) ?_
  by_cases hp : inR (kn (gI M 231) 6) p = true
  · rw [bI_t hp]
    refine v_if_ne 13 dX12_claim_6 (by decide) (fun h6b => ?_) (fun h6b => ?_)
    · refine v_aload_n dX12_claim_13 rfl ?_
      refine v_getR 12 0 _ dX12_claim_14 f12_9 (by first | exact hS.1 _ _ rfl | exact hS'.1 _ _ rfl | assumption) (by decide) (by first | exact hS.2 _ _ _ rfl | exact hS'.2 _ _ _ rfl | assumption) ?_
      refine v_bipush 96 dX12_claim_17 (by decide) ?_
      refine v_ialdN 96 dX12_claim_19 (by first | exact hS.1 _ _ rfl | exact hS'.1 _ _ rfl | assumption) rfl (by decide) ?_
      refine v_iconst (-1) dX12_claim_20 (by decide) ?_
      -- at 21: .if_icmp .ne 7
      refine v_icmp_ne 28 dX12_claim_21 (by decide) (fun h21 => ?_) (fun h21 => ?_)
      · refine v_aload_n dX12_claim_28 rfl ?_
        refine v_iload_n dX12_claim_29 rfl ?_
        -- at 30: .invokevirtual 333
        refine v_cV [_] (c12_isDescription G M hS hW.p d) k12_isDescription dX12_claim_30 l12_333 (by first | exact hS.1 _ _ rfl | exact hS'.1 _ _ rfl | assumption) (by decide) rfl (Nat.le_of_ble_eq_true rfl) (Nat.le_of_ble_eq_true rfl) ?_
        by_cases hd : isDI (kn (gI M 231) 3) d = true
        · rw [bI_t hd]
          refine v_if_eq 40 dX12_claim_33 (by decide) (fun h33 => ?_) (fun h33 => ?_)
          · exact absurd h33 (by decide)
          · refine v_iconst 0 dX12_claim_36 (by decide) ?_
            refine v_goto 41 dX12_claim_37 (by decide) ?_
            -- at 41: .putfield 68
            exact fin 0 (by rw [tClm, if_pos hp, if_neg h21, if_pos hd])
        · rw [bI_f hd]
          refine v_if_eq 40 dX12_claim_33 (by decide) (fun h33 => ?_) (fun h33 => ?_)
          · refine v_iconst 3 dX12_claim_40 (by decide) ?_
            -- at 41: .putfield 68
            exact fin 3 (by rw [tClm, if_pos hp, if_neg h21, if_neg hd])
          · exact absurd rfl h33
      · refine v_iconst 2 dX12_claim_24 (by decide) ?_
        refine v_goto 41 dX12_claim_25 (by decide) ?_
        -- at 41: .putfield 68
        exact fin 2 (by rw [tClm, if_pos hp, if_pos (Decidable.not_not.mp h21)])
    · exact absurd (by decide) h6b
  · rw [bI_f hp]
    refine v_if_ne 13 dX12_claim_6 (by decide) (fun h6b => ?_) (fun h6b => ?_)
    · exact absurd rfl h6b
    · refine v_iconst 1 dX12_claim_9 (by decide) ?_
      refine v_goto 41 dX12_claim_10 (by decide) ?_
      -- at 41: .putfield 68
      exact fin 1 (by rw [tClm, if_neg hp])
end RH
