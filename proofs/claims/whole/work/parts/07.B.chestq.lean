/-! ===== the reference: questions of a chest ===== -/
section RB
variable (G : mG) (M : mM)
theorem c12_least (hS : Sh M) (hQ : WQ (gI M 231)) (c : Int32) : Ct G Y12_least 7 0 0 [.ref 230, .int c] M (Rs (some (.int (if chF (gI M 231) c = 0 then encD (lstN (gI M 231) c.toNatClampNeg (2 ^ kn (gI M 231) 3 - 1) false) else 0))) (Pq M (chF (gI M 231) c))) NX := by
  obtain ⟨hP, hI, hU⟩ := hQ
  have e1 : ∀ t, gI (sI M 230 4 t) 231 = gI M 231 := fun t => gI_sr _ _ (by decide)
  refine Ct.of k12_least.1 (Nat.le_of_ble_eq_true rfl) ?_
  refine v_aload_n dX12_least_0 rfl ?_
  refine v_aload_n dX12_least_1 rfl ?_
  refine v_iload_n dX12_least_2 rfl ?_
  -- at 3: .invokevirtual 346
  refine v_cV [_] (c12_chestFault G M hS hP hI c) k12_chestFault dX12_least_3 l12_346 (by first | exact hS.1 _ _ rfl | exact hS'.1 _ _ rfl | assumption) (by decide) rfl (Nat.le_of_ble_eq_true rfl) (Nat.le_of_ble_eq_true rfl) ?_
  refine v_putI 12 4 dX12_least_6 f12_68 (by first | exact hS.1 _ _ rfl | exact hS'.1 _ _ rfl | assumption) (by decide) ?_
  refine v_aload_n dX12_least_9 rfl ?_
  refine v_getI 12 4 dX12_least_10 f12_68 (by first | exact hS.1 _ _ rfl | exact hS'.1 _ _ rfl | assumption) (by decide) ?_
  -- at 13: .ifCond .le 5
  rw [gI_ss]
  refine v_if_le 18 dX12_least_13 (by decide) (fun h13 => ?_) (fun h13 => ?_)
  · obtain ⟨j, hj, rfl, hb, h0⟩ := chF_ok (Int32.not_lt.mpr h13)
    rw [h0, if_pos rfl, nI_clamp (by have := hP.2.1.2; omega)]
    refine v_aload_n dX12_least_18 rfl ?_
    -- at 19: .invokevirtual 306
    refine v_scVv [] (c12_laysHold G (sI M 230 4 0) hS (by rw [e1]; exact hP)) k12_laysHold dX12_least_19 l12_306 (hS.1 _ _ rfl) (by decide) rfl (Nat.le_of_ble_eq_true rfl) (Nat.le_of_ble_eq_true rfl) (fun M2 hM2 => ?_)
    have hS' := Sh.sm (M := sI M 230 4 0) hS hM2.1
    have e2 : gI M2 231 = gI M 231 := (hM2.1.K (fun _ => rfl)).trans (e1 0)
    have hH := hM2.2
    rw [e1, ← e2] at hH
    have hP2 : WP (gI M2 231) := by rw [e2]; exact hP
    have hI2 : inOK (gI M2 231) := by rw [e2]; exact hI
    have hU2 : usOK (gI M2 231) := by rw [e2]; exact hU
    have hj2 : j < kn (gI M2 231) 2 := by rw [e2]; exact hj
    refine v_aload_n dX12_least_22 rfl ?_
    refine v_iload_n dX12_least_23 rfl ?_
    refine v_aload_n dX12_least_24 rfl ?_
    -- at 25: .invokevirtual 320
    refine v_cV [] (c12_allWords G M2 hS' hP2) k12_allWords dX12_least_25 l12_320 (by first | exact hS.1 _ _ rfl | exact hS'.1 _ _ rfl | assumption) (by decide) rfl (Nat.le_of_ble_eq_true rfl) (Nat.le_of_ble_eq_true rfl) ?_
    refine v_iconst 0 dX12_least_28 (by decide) ?_
    -- at 29: .invokevirtual 349
    have hcon := c12_leastOf G M2 hS' hP2 hI2 hU2 hH hj2 (aw_lt hP2) false
    refine v_cV [_, _, _] (hcon) k12_leastOf dX12_least_29 l12_349 (by first | exact hS.1 _ _ rfl | exact hS'.1 _ _ rfl | assumption) (by decide) rfl (Nat.le_of_ble_eq_true rfl) (Nat.le_of_ble_eq_true rfl) ?_
    rw [e2]
    refine v_iret dX12_least_32 rfl ⟨rfl, Pq.of hM2.1⟩
  · have hne : ¬ chF (gI M 231) c = 0 := fun z => h13 (by rw [z]; decide)
    refine v_iconst 0 dX12_least_16 (by decide) ?_
    -- at 17: .ireturn
    refine v_iret dX12_least_17 rfl ⟨by rw [if_neg hne], Pq.st⟩
theorem c12_sure (hS : Sh M) (hQ : WQ (gI M 231)) (c : Int32) : Ct G Y12_sure 7 0 0 [.ref 230, .int c] M (Rs (some (.int (if chF (gI M 231) c = 0 then encD (lstN (gI M 231) c.toNatClampNeg (2 ^ kn (gI M 231) 3 - 1) true) else 0))) (Pq M (chF (gI M 231) c))) NX := by
  obtain ⟨hP, hI, hU⟩ := hQ
  have e1 : ∀ t, gI (sI M 230 4 t) 231 = gI M 231 := fun t => gI_sr _ _ (by decide)
  refine Ct.of k12_sure.1 (Nat.le_of_ble_eq_true rfl) ?_
  refine v_aload_n dX12_sure_0 rfl ?_
  refine v_aload_n dX12_sure_1 rfl ?_
  refine v_iload_n dX12_sure_2 rfl ?_
  -- at 3: .invokevirtual 346
  refine v_cV [_] (c12_chestFault G M hS hP hI c) k12_chestFault dX12_sure_3 l12_346 (by first | exact hS.1 _ _ rfl | exact hS'.1 _ _ rfl | assumption) (by decide) rfl (Nat.le_of_ble_eq_true rfl) (Nat.le_of_ble_eq_true rfl) ?_
  refine v_putI 12 4 dX12_sure_6 f12_68 (by first | exact hS.1 _ _ rfl | exact hS'.1 _ _ rfl | assumption) (by decide) ?_
  refine v_aload_n dX12_sure_9 rfl ?_
  refine v_getI 12 4 dX12_sure_10 f12_68 (by first | exact hS.1 _ _ rfl | exact hS'.1 _ _ rfl | assumption) (by decide) ?_
  -- at 13: .ifCond .le 5
  rw [gI_ss]
  refine v_if_le 18 dX12_sure_13 (by decide) (fun h13 => ?_) (fun h13 => ?_)
  · obtain ⟨j, hj, rfl, hb, h0⟩ := chF_ok (Int32.not_lt.mpr h13)
    rw [h0, if_pos rfl, nI_clamp (by have := hP.2.1.2; omega)]
    refine v_aload_n dX12_sure_18 rfl ?_
    -- at 19: .invokevirtual 306
    refine v_scVv [] (c12_laysHold G (sI M 230 4 0) hS (by rw [e1]; exact hP)) k12_laysHold dX12_sure_19 l12_306 (hS.1 _ _ rfl) (by decide) rfl (Nat.le_of_ble_eq_true rfl) (Nat.le_of_ble_eq_true rfl) (fun M2 hM2 => ?_)
    have hS' := Sh.sm (M := sI M 230 4 0) hS hM2.1
    have e2 : gI M2 231 = gI M 231 := (hM2.1.K (fun _ => rfl)).trans (e1 0)
    have hH := hM2.2
    rw [e1, ← e2] at hH
    have hP2 : WP (gI M2 231) := by rw [e2]; exact hP
    have hI2 : inOK (gI M2 231) := by rw [e2]; exact hI
    have hU2 : usOK (gI M2 231) := by rw [e2]; exact hU
    have hj2 : j < kn (gI M2 231) 2 := by rw [e2]; exact hj
    refine v_aload_n dX12_sure_22 rfl ?_
    refine v_iload_n dX12_sure_23 rfl ?_
    refine v_aload_n dX12_sure_24 rfl ?_
    -- at 25: .invokevirtual 320
    refine v_cV [] (c12_allWords G M2 hS' hP2) k12_allWords dX12_sure_25 l12_320 (by first | exact hS.1 _ _ rfl | exact hS'.1 _ _ rfl | assumption) (by decide) rfl (Nat.le_of_ble_eq_true rfl) (Nat.le_of_ble_eq_true rfl) ?_
    refine v_iconst 1 dX12_sure_28 (by decide) ?_
    -- at 29: .invokevirtual 349
    have hcon := c12_leastOf G M2 hS' hP2 hI2 hU2 hH hj2 (aw_lt hP2) true
    refine v_cV [_, _, _] (hcon) k12_leastOf dX12_sure_29 l12_349 (by first | exact hS.1 _ _ rfl | exact hS'.1 _ _ rfl | assumption) (by decide) rfl (Nat.le_of_ble_eq_true rfl) (Nat.le_of_ble_eq_true rfl) ?_
    rw [e2]
    refine v_iret dX12_sure_32 rfl ⟨rfl, Pq.of hM2.1⟩
  · have hne : ¬ chF (gI M 231) c = 0 := fun z => h13 (by rw [z]; decide)
    refine v_iconst 0 dX12_sure_16 (by decide) ?_
    -- at 17: .ireturn
    refine v_iret dX12_sure_17 rfl ⟨by rw [if_neg hne], Pq.st⟩
theorem c12_blind (hS : Sh M) (hQ : WQ (gI M 231)) (c : Int32) : Ct G Y12_blind 7 0 0 [.ref 230, .int c] M (Rs (some (.int (if chF (gI M 231) c = 0 then encD (lstN (gI M 231) c.toNatClampNeg (kn (gI M 231) 119 &&& (2 ^ kn (gI M 231) 3 - 1)) false) else 0))) (Pq M (chF (gI M 231) c))) NX := by
  obtain ⟨hP, hI, hU⟩ := hQ
  have e1 : ∀ t, gI (sI M 230 4 t) 231 = gI M 231 := fun t => gI_sr _ _ (by decide)
  refine Ct.of k12_blind.1 (Nat.le_of_ble_eq_true rfl) ?_
  refine v_aload_n dX12_blind_0 rfl ?_
  refine v_aload_n dX12_blind_1 rfl ?_
  refine v_iload_n dX12_blind_2 rfl ?_
  -- at 3: .invokevirtual 346
  refine v_cV [_] (c12_chestFault G M hS hP hI c) k12_chestFault dX12_blind_3 l12_346 (by first | exact hS.1 _ _ rfl | exact hS'.1 _ _ rfl | assumption) (by decide) rfl (Nat.le_of_ble_eq_true rfl) (Nat.le_of_ble_eq_true rfl) ?_
  refine v_putI 12 4 dX12_blind_6 f12_68 (by first | exact hS.1 _ _ rfl | exact hS'.1 _ _ rfl | assumption) (by decide) ?_
  refine v_aload_n dX12_blind_9 rfl ?_
  refine v_getI 12 4 dX12_blind_10 f12_68 (by first | exact hS.1 _ _ rfl | exact hS'.1 _ _ rfl | assumption) (by decide) ?_
  -- at 13: .ifCond .le 5
  rw [gI_ss]
  refine v_if_le 18 dX12_blind_13 (by decide) (fun h13 => ?_) (fun h13 => ?_)
  · obtain ⟨j, hj, rfl, hb, h0⟩ := chF_ok (Int32.not_lt.mpr h13)
    rw [h0, if_pos rfl, nI_clamp (by have := hP.2.1.2; omega)]
    refine v_aload_n dX12_blind_18 rfl ?_
    -- at 19: .invokevirtual 306
    refine v_scVv [] (c12_laysHold G (sI M 230 4 0) hS (by rw [e1]; exact hP)) k12_laysHold dX12_blind_19 l12_306 (hS.1 _ _ rfl) (by decide) rfl (Nat.le_of_ble_eq_true rfl) (Nat.le_of_ble_eq_true rfl) (fun M2 hM2 => ?_)
    have hS' := Sh.sm (M := sI M 230 4 0) hS hM2.1
    have e2 : gI M2 231 = gI M 231 := (hM2.1.K (fun _ => rfl)).trans (e1 0)
    have hH := hM2.2
    rw [e1, ← e2] at hH
    have hP2 : WP (gI M2 231) := by rw [e2]; exact hP
    have hI2 : inOK (gI M2 231) := by rw [e2]; exact hI
    have hU2 : usOK (gI M2 231) := by rw [e2]; exact hU
    have hj2 : j < kn (gI M2 231) 2 := by rw [e2]; exact hj
    refine v_aload_n dX12_blind_22 rfl ?_
    refine v_iload_n dX12_blind_23 rfl ?_
    refine v_aload_n dX12_blind_24 rfl ?_
    refine v_getR 12 0 _ dX12_blind_25 f12_9 (by first | exact hS.1 _ _ rfl | exact hS'.1 _ _ rfl | assumption) (by decide) (by first | exact hS.2 _ _ _ rfl | exact hS'.2 _ _ _ rfl | assumption) ?_
    refine v_bipush 119 dX12_blind_28 (by decide) ?_
    refine v_ialdN 119 dX12_blind_30 (by first | exact hS.1 _ _ rfl | exact hS'.1 _ _ rfl | assumption) rfl (by decide) ?_
    refine v_aload_n dX12_blind_31 rfl ?_
    -- at 32: .invokevirtual 320
    rw [hP2.2.2.2.2.2.2.2.2.2.1]
    refine v_cV [] (c12_allWords G M2 hS' hP2) k12_allWords dX12_blind_32 l12_320 (by first | exact hS.1 _ _ rfl | exact hS'.1 _ _ rfl | assumption) (by decide) rfl (Nat.le_of_ble_eq_true rfl) (Nat.le_of_ble_eq_true rfl) ?_
    refine v_iand dX12_blind_35 ?_
    refine v_iconst 0 dX12_blind_36 (by decide) ?_
    -- at 37: .invokevirtual 349
    rw [nIand]
    have hcon := c12_leastOf G M2 hS' hP2 hI2 hU2 hH hj2 (sm := kn (gI M2 231) 119 &&& (2 ^ kn (gI M2 231) 3 - 1)) (Nat.lt_of_le_of_lt Nat.and_le_right (aw_lt hP2)) false
    refine v_cV [_, _, _] (hcon) k12_leastOf dX12_blind_37 l12_349 (by first | exact hS.1 _ _ rfl | exact hS'.1 _ _ rfl | assumption) (by decide) rfl (Nat.le_of_ble_eq_true rfl) (Nat.le_of_ble_eq_true rfl) ?_
    rw [e2]
    refine v_iret dX12_blind_40 rfl ⟨rfl, Pq.of hM2.1⟩
  · have hne : ¬ chF (gI M 231) c = 0 := fun z => h13 (by rw [z]; decide)
    refine v_iconst 0 dX12_blind_16 (by decide) ?_
    -- at 17: .ireturn
    refine v_iret dX12_blind_17 rfl ⟨by rw [if_neg hne], Pq.st⟩
theorem c12_price (hS : Sh M) (hQ : WQ (gI M 231)) (c : Int32) : Ct G Y12_price 7 0 0 [.ref 230, .int c] M (Rs (some (.int (if chF (gI M 231) c = 0 then prcN (gI M 231) c.toNatClampNeg else 0))) (Pq M (chF (gI M 231) c))) NX := by
  obtain ⟨hP, hI, hU⟩ := hQ
  have e1 : ∀ t, gI (sI M 230 4 t) 231 = gI M 231 := fun t => gI_sr _ _ (by decide)
  refine Ct.of k12_price.1 (Nat.le_of_ble_eq_true rfl) ?_
  refine v_aload_n dX12_price_0 rfl ?_
  refine v_aload_n dX12_price_1 rfl ?_
  refine v_iload_n dX12_price_2 rfl ?_
  -- at 3: .invokevirtual 346
  refine v_cV [_] (c12_chestFault G M hS hP hI c) k12_chestFault dX12_price_3 l12_346 (by first | exact hS.1 _ _ rfl | exact hS'.1 _ _ rfl | assumption) (by decide) rfl (Nat.le_of_ble_eq_true rfl) (Nat.le_of_ble_eq_true rfl) ?_
  refine v_putI 12 4 dX12_price_6 f12_68 (by first | exact hS.1 _ _ rfl | exact hS'.1 _ _ rfl | assumption) (by decide) ?_
  refine v_aload_n dX12_price_9 rfl ?_
  refine v_getI 12 4 dX12_price_10 f12_68 (by first | exact hS.1 _ _ rfl | exact hS'.1 _ _ rfl | assumption) (by decide) ?_
  -- at 13: .ifCond .le 5
  rw [gI_ss]
  refine v_if_le 18 dX12_price_13 (by decide) (fun h13 => ?_) (fun h13 => ?_)
  · obtain ⟨j, hj, rfl, hb, h0⟩ := chF_ok (Int32.not_lt.mpr h13)
    rw [h0, if_pos rfl, nI_clamp (by have := hP.2.1.2; omega)]
    refine v_aload_n dX12_price_18 rfl ?_
    -- at 19: .invokevirtual 306
    refine v_scVv [] (c12_laysHold G (sI M 230 4 0) hS (by rw [e1]; exact hP)) k12_laysHold dX12_price_19 l12_306 (hS.1 _ _ rfl) (by decide) rfl (Nat.le_of_ble_eq_true rfl) (Nat.le_of_ble_eq_true rfl) (fun M2 hM2 => ?_)
    have hS' := Sh.sm (M := sI M 230 4 0) hS hM2.1
    have e2 : gI M2 231 = gI M 231 := (hM2.1.K (fun _ => rfl)).trans (e1 0)
    have hH := hM2.2
    rw [e1, ← e2] at hH
    have hP2 : WP (gI M2 231) := by rw [e2]; exact hP
    have hI2 : inOK (gI M2 231) := by rw [e2]; exact hI
    have hU2 : usOK (gI M2 231) := by rw [e2]; exact hU
    have hj2 : j < kn (gI M2 231) 2 := by rw [e2]; exact hj
    refine v_aload_n dX12_price_22 rfl ?_
    refine v_iload_n dX12_price_23 rfl ?_
    -- at 24: .invokevirtual 352
    have hcon := c12_priceOf G M2 hS' hP2 hI2 hU2 hH hj2
    refine v_cV [_] (hcon) k12_priceOf dX12_price_24 l12_352 (by first | exact hS.1 _ _ rfl | exact hS'.1 _ _ rfl | assumption) (by decide) rfl (Nat.le_of_ble_eq_true rfl) (Nat.le_of_ble_eq_true rfl) ?_
    rw [e2]
    refine v_iret dX12_price_27 rfl ⟨rfl, Pq.of hM2.1⟩
  · have hne : ¬ chF (gI M 231) c = 0 := fun z => h13 (by rw [z]; decide)
    refine v_iconst 0 dX12_price_16 (by decide) ?_
    -- at 17: .ireturn
    refine v_iret dX12_price_17 rfl ⟨by rw [if_neg hne], Pq.st⟩
theorem c12_ways (hS : Sh M) (hQ : WQ (gI M 231)) (c : Int32) : Ct G Y12_ways 7 0 0 [.ref 230, .int c] M (Rs (some (.int (if chF (gI M 231) c = 0 then nI (lessN (gI M 231) c.toNatClampNeg 536870912) else 0))) (Pq M (chF (gI M 231) c))) NX := by
  obtain ⟨hP, hI, hU⟩ := hQ
  have e1 : ∀ t, gI (sI M 230 4 t) 231 = gI M 231 := fun t => gI_sr _ _ (by decide)
  refine Ct.of k12_ways.1 (Nat.le_of_ble_eq_true rfl) ?_
  refine v_aload_n dX12_ways_0 rfl ?_
  refine v_aload_n dX12_ways_1 rfl ?_
  refine v_iload_n dX12_ways_2 rfl ?_
  -- at 3: .invokevirtual 346
  refine v_cV [_] (c12_chestFault G M hS hP hI c) k12_chestFault dX12_ways_3 l12_346 (by first | exact hS.1 _ _ rfl | exact hS'.1 _ _ rfl | assumption) (by decide) rfl (Nat.le_of_ble_eq_true rfl) (Nat.le_of_ble_eq_true rfl) ?_
  refine v_putI 12 4 dX12_ways_6 f12_68 (by first | exact hS.1 _ _ rfl | exact hS'.1 _ _ rfl | assumption) (by decide) ?_
  refine v_aload_n dX12_ways_9 rfl ?_
  refine v_getI 12 4 dX12_ways_10 f12_68 (by first | exact hS.1 _ _ rfl | exact hS'.1 _ _ rfl | assumption) (by decide) ?_
  -- at 13: .ifCond .le 5
  rw [gI_ss]
  refine v_if_le 18 dX12_ways_13 (by decide) (fun h13 => ?_) (fun h13 => ?_)
  · obtain ⟨j, hj, rfl, hb, h0⟩ := chF_ok (Int32.not_lt.mpr h13)
    rw [h0, if_pos rfl, nI_clamp (by have := hP.2.1.2; omega)]
    refine v_aload_n dX12_ways_18 rfl ?_
    -- at 19: .invokevirtual 306
    refine v_scVv [] (c12_laysHold G (sI M 230 4 0) hS (by rw [e1]; exact hP)) k12_laysHold dX12_ways_19 l12_306 (hS.1 _ _ rfl) (by decide) rfl (Nat.le_of_ble_eq_true rfl) (Nat.le_of_ble_eq_true rfl) (fun M2 hM2 => ?_)
    have hS' := Sh.sm (M := sI M 230 4 0) hS hM2.1
    have e2 : gI M2 231 = gI M 231 := (hM2.1.K (fun _ => rfl)).trans (e1 0)
    have hH := hM2.2
    rw [e1, ← e2] at hH
    have hP2 : WP (gI M2 231) := by rw [e2]; exact hP
    have hI2 : inOK (gI M2 231) := by rw [e2]; exact hI
    have hU2 : usOK (gI M2 231) := by rw [e2]; exact hU
    have hj2 : j < kn (gI M2 231) 2 := by rw [e2]; exact hj
    refine v_aload_n dX12_ways_22 rfl ?_
    refine v_iload_n dX12_ways_23 rfl ?_
    refine v_ldcw 536870912 dX12_ways_24 K12_342 ?_
    -- at 27: .invokevirtual 355
    have hcon := c12_cheaper G M2 hS' hP2 hI2 hU2 hH hj2 (x := 536870912) (by omega)
    refine v_cV [_, _] (hcon) k12_cheaper dX12_ways_27 l12_355 (by first | exact hS.1 _ _ rfl | exact hS'.1 _ _ rfl | assumption) (by decide) rfl (Nat.le_of_ble_eq_true rfl) (Nat.le_of_ble_eq_true rfl) ?_
    rw [e2]
    refine v_iret dX12_ways_30 rfl ⟨rfl, Pq.of hM2.1⟩
  · have hne : ¬ chF (gI M 231) c = 0 := fun z => h13 (by rw [z]; decide)
    refine v_iconst 0 dX12_ways_16 (by decide) ?_
    -- at 17: .ireturn
    refine v_iret dX12_ways_17 rfl ⟨by rw [if_neg hne], Pq.st⟩
end RB
