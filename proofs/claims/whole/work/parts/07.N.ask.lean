/-! ===== the reference: questions of marks and words ===== -/
section RN
variable (G : mG) (M : mM)
def okCM (K : Nat → Int32) (c m : Int32) : Bool := inR (kn K 2) c && inR (kn K 1) m
theorem c12_mark (hS : Sh M) (hP : WP (gI M 231)) (c m : Int32) (l : Bool) : Ct G Y12_mark 2 0 0 [.ref 230, .int c, .int m, .int (bI (l = true))] M (Rs (some (.int (if okCM (gI M 231) c m = true then lkv (gI M 231) (kn (gI M 231) 4) (l && litB (gI M 231)) c.toNatClampNeg m.toNatClampNeg else 0))) (Pq M (if okCM (gI M 231) c m = true then 0 else 1))) NX := by
  have e1 : gI (sI M 230 4 0) 231 = gI M 231 := gI_sr _ _ (by decide)
  have h14 := hP.2.1.2
  have h6 := hP.1.2.2
  have hP1 : WP (gI (sI M 230 4 0) 231) := by rw [e1]; exact hP
  have no : ¬ okCM (gI M 231) c m = true → V G Y12_mark 2 0 0 (Rs (some (.int (if okCM (gI M 231) c m = true then lkv (gI M 231) (kn (gI M 231) 4) (l && litB (gI M 231)) c.toNatClampNeg m.toNatClampNeg else 0))) (Pq M (if okCM (gI M 231) c m = true then 0 else 1))) NX 52 [some (.ref 230), some (.int c), some (.int m), some (.int (bI (l = true)))] [] (sI M 230 4 0) := by
    intro hno
    rw [if_neg hno, if_neg hno]
    refine v_aload_n dX12_mark_52 rfl ?_
    refine v_iconst 1 dX12_mark_53 (by decide) ?_
    -- at 54: .invokevirtual 224
    refine v_cV [_] (c12_fails G (sI M 230 4 0) hS _) k12_fails dX12_mark_54 l12_224 (by first | exact hS.1 _ _ rfl | exact hS'.1 _ _ rfl | assumption) (by decide) rfl (Nat.le_of_ble_eq_true rfl) (Nat.le_of_ble_eq_true rfl) ?_
    refine v_iret dX12_mark_57 rfl ⟨rfl, Pq.st2⟩
  refine Ct.of k12_mark.1 (Nat.le_of_ble_eq_true rfl) ?_
  refine v_aload_n dX12_mark_0 rfl ?_
  refine v_iconst 0 dX12_mark_1 (by decide) ?_
  refine v_putI 12 4 dX12_mark_2 f12_68 (by first | exact hS.1 _ _ rfl | exact hS'.1 _ _ rfl | assumption) (by decide) ?_
  refine v_aload_n dX12_mark_5 rfl ?_
  refine v_iload_n dX12_mark_6 rfl ?_
  refine v_i2l dX12_mark_7 ?_
  -- at 8: .invokevirtual 297
  have hcon := c12_isChestN G (sI M 230 4 0) hS hP1 c
  rw [e1] at hcon
  refine v_cV [_] (hcon) k12_isChest dX12_mark_8 l12_297 (by first | exact hS.1 _ _ rfl | exact hS'.1 _ _ rfl | assumption) (by decide) rfl (Nat.le_of_ble_eq_true rfl) (Nat.le_of_ble_eq_true rfl) ?_
  by_cases hc : inR (kn (gI M 231) 2) c = true
  · rw [bI_t hc]
    refine v_if_eq 52 dX12_mark_11 (by decide) (fun h11 => ?_) (fun h11 => ?_)
    · exact absurd h11 (by decide)
    refine v_aload_n dX12_mark_14 rfl ?_
    refine v_iload_n dX12_mark_15 rfl ?_
    refine v_i2l dX12_mark_16 ?_
    -- at 17: .invokevirtual 301
    have hcon := c12_isMark G (sI M 230 4 0) hS hP1 m
    rw [e1] at hcon
    refine v_cV [_] (hcon) k12_isMark dX12_mark_17 l12_301 (by first | exact hS.1 _ _ rfl | exact hS'.1 _ _ rfl | assumption) (by decide) rfl (Nat.le_of_ble_eq_true rfl) (Nat.le_of_ble_eq_true rfl) ?_
    by_cases hm : inR (kn (gI M 231) 1) m = true
    · rw [bI_t hm]
      have hok : okCM (gI M 231) c m = true := by rw [okCM, hc, hm]; rfl
      refine v_if_eq 52 dX12_mark_20 (by decide) (fun h20 => ?_) (fun h20 => ?_)
      · exact absurd h20 (by decide)
      rw [if_pos hok, if_pos hok]
      obtain ⟨C, hC, rfl, hC2⟩ := inR_of hc
      obtain ⟨Q, hQ, rfl, hQ2⟩ := inR_of hm
      rw [nI_clamp hC2, nI_clamp hQ2]
      have fin : ∀ b : Bool, b = (l && litB (gI M 231)) → V G Y12_mark 2 0 0 (Rs (some (.int (lkv (gI M 231) (kn (gI M 231) 4) (l && litB (gI M 231)) C Q))) (Pq M 0)) NX 46 [some (.ref 230), some (.int (nI C)), some (.int (nI Q)), some (.int (bI (l = true)))] [.int (bI (b = true)), .int (nI Q), .int (nI C), .ref 230] (sI M 230 4 0) := by
        intro b hb
        rw [← hb]
        have hcon := c12_look G (sI M 230 4 0) hS (nl := kn (gI M 231) 4) (by rw [e1]; exact hP.2.2.2.1.1) hP.2.2.2.1.2 (c := C) (m := Q) (by omega) (by omega) b
        rw [e1] at hcon
        refine v_cV [_, _, _] (hcon) k12_look dX12_mark_46 l12_286 (by first | exact hS.1 _ _ rfl | exact hS'.1 _ _ rfl | assumption) (by decide) rfl (Nat.le_of_ble_eq_true rfl) (Nat.le_of_ble_eq_true rfl) ?_
        refine v_goto 57 dX12_mark_49 (by decide) ?_
        -- at 57: .ireturn
        refine v_iret dX12_mark_57 rfl ⟨rfl, Pq.st⟩
      refine v_aload_n dX12_mark_23 rfl ?_
      refine v_iload_n dX12_mark_24 rfl ?_
      refine v_iload_n dX12_mark_25 rfl ?_
      refine v_iload_n dX12_mark_26 rfl ?_
      -- at 27: .ifCond .eq 18
      cases l with
      | false =>
        refine v_if_eq 45 dX12_mark_27 (by decide) (fun h27 => ?_) (fun h27 => ?_)
        · refine v_iconst 0 dX12_mark_45 (by decide) ?_
          -- at 46: .invokevirtual 286
          exact fin false rfl
        · exact absurd rfl h27
      | true =>
        refine v_if_eq 45 dX12_mark_27 (by decide) (fun h27 => ?_) (fun h27 => ?_)
        · exact absurd h27 (by decide)
        refine v_aload_n dX12_mark_30 rfl ?_
        refine v_getR 12 0 _ dX12_mark_31 f12_9 (by first | exact hS.1 _ _ rfl | exact hS'.1 _ _ rfl | assumption) (by decide) (by first | exact hS.2 _ _ _ rfl | exact hS'.2 _ _ _ rfl | assumption) ?_
        refine v_bipush 94 dX12_mark_34 (by decide) ?_
        refine v_ialdN 94 dX12_mark_36 (by first | exact hS.1 _ _ rfl | exact hS'.1 _ _ rfl | assumption) rfl (by decide) ?_
        refine v_iconst 1 dX12_mark_37 (by decide) ?_
        -- at 38: .if_icmp .ne 7
        rw [e1]
        by_cases hl : gI M 231 94 = 1
        · rw [hl]
          refine v_icmp_ne 45 dX12_mark_38 (by decide) (fun h38 => ?_) (fun h38 => ?_)
          · exact absurd rfl h38
          · refine v_iconst 1 dX12_mark_41 (by decide) ?_
            refine v_goto 46 dX12_mark_42 (by decide) ?_
            -- at 46: .invokevirtual 286
            exact fin true (by rw [litB, decide_eq_true hl]; rfl)
        · refine v_icmp_ne 45 dX12_mark_38 (by decide) (fun h38 => ?_) (fun h38 => ?_)
          · refine v_iconst 0 dX12_mark_45 (by decide) ?_
            -- at 46: .invokevirtual 286
            exact fin false (by rw [litB, decide_eq_false hl]; rfl)
          · exact absurd (Decidable.not_not.mp h38) hl
    · rw [bI_f hm]
      refine v_if_eq 52 dX12_mark_20 (by decide) (fun h20 => ?_) (fun h20 => ?_)
      · exact no (by rw [okCM, hc]; exact hm)
      · exact absurd rfl h20
  · rw [bI_f hc]
    refine v_if_eq 52 dX12_mark_11 (by decide) (fun h11 => ?_) (fun h11 => ?_)
    · exact no (by rw [okCM, Bool.and_eq_true]; exact fun z => hc z.1)
    · exact absurd rfl h11
theorem telK_of {K : Nat → Int32} (hP : WP K) (D : Nat) : telK K D = -1 ∨ ∃ c, c < kn K 2 ∧ telK K D = nI c := by
  unfold telK oneOf
  split
  · rename_i h1
    obtain ⟨a, b, c, e⟩ := frm_ok 14 0 (pcn_pos (fitN_lt hP.2.1.2 _ _) h1)
    refine Or.inr ⟨_, ?_, rfl⟩
    have c := c
    rw [show fitN (kn K 2) (kn K 93) (trH K) D = bset (kn K 2) (fun c => (kn K 93).testBit c && decide (dif (D % 1024) (trH K c) = 0 ∧ (D / 1024) &&& trH K c = 0)) from rfl, bset_bit, Bool.and_eq_true, decide_eq_true_eq] at c
    exact c.1
  · exact Or.inl rfl
def rkN (K : Nat → Int32) (D : Nat) : Int32 := if telK K D = -1 then -1 else nI (lessN K (telK K D).toNatClampNeg (costN K D))
theorem nI_m1 {a : Nat} (h : a < 2 ^ 31) : ¬ nI a = -1 := fun z => absurd (show (-1 : Int32) < 0 by decide) (by rw [← z]; exact nI_pos h)
theorem c12_rank (hS : Sh M) (hQ : WQ (gI M 231)) (d : Int32) : Ct G Y12_rank 7 0 0 [.ref 230, .int d] M (Rs (some (.int (if isDI (kn (gI M 231) 3) d = true then rkN (gI M 231) d.toNatClampNeg else 0))) (Pq M (tD (gI M 231) d))) NX := by
  obtain ⟨hP, hI, hU⟩ := hQ
  have h14 := hP.2.1.2
  have e1 : gI (sI M 230 4 0) 231 = gI M 231 := gI_sr _ _ (by decide)
  refine Ct.of k12_rank.1 (Nat.le_of_ble_eq_true rfl) ?_
  refine v_aload_n dX12_rank_0 rfl ?_
  refine v_iconst 0 dX12_rank_1 (by decide) ?_
  refine v_putI 12 4 dX12_rank_2 f12_68 (by first | exact hS.1 _ _ rfl | exact hS'.1 _ _ rfl | assumption) (by decide) ?_
  refine v_aload_n dX12_rank_5 rfl ?_
  refine v_iload_n dX12_rank_6 rfl ?_
  -- at 7: .invokevirtual 333
  have hcon := c12_isDescription G (sI M 230 4 0) hS (by rw [e1]; exact hP) d
  rw [e1] at hcon
  refine v_cV [_] (hcon) k12_isDescription dX12_rank_7 l12_333 (by first | exact hS.1 _ _ rfl | exact hS'.1 _ _ rfl | assumption) (by decide) rfl (Nat.le_of_ble_eq_true rfl) (Nat.le_of_ble_eq_true rfl) ?_
  by_cases hd : isDI (kn (gI M 231) 3) d = true
  · rw [bI_t hd, if_pos hd]
    obtain ⟨D, rfl, hD, hD2, -⟩ := isDI_of hd
    refine v_if_ne 19 dX12_rank_10 (by decide) (fun h10 => ?_) (fun h10 => ?_)
    · refine v_aload_n dX12_rank_19 rfl ?_
      -- at 20: .invokevirtual 306
      refine v_scVv [] (c12_laysHold G (sI M 230 4 0) hS (by rw [e1]; exact hP)) k12_laysHold dX12_rank_20 l12_306 (hS.1 _ _ rfl) (by decide) rfl (Nat.le_of_ble_eq_true rfl) (Nat.le_of_ble_eq_true rfl) (fun M2 hM2 => ?_)
      have hS' := Sh.sm (M := sI M 230 4 0) hS hM2.1
      have e2 : gI M2 231 = gI M 231 := (hM2.1.K (fun _ => rfl)).trans e1
      have hH := hM2.2
      rw [e1, ← e2] at hH
      have hcon := c12_toldBy G M2 hS' (by rw [e2]; exact hP) (by rw [e2]; exact hI) hH hD
      rw [e2] at hcon
      refine v_aload_n dX12_rank_23 rfl ?_
      refine v_iload_n dX12_rank_24 rfl ?_
      -- at 25: .invokevirtual 336
      refine v_cV [_] (hcon) k12_toldBy dX12_rank_25 l12_336 (by first | exact hS.1 _ _ rfl | exact hS'.1 _ _ rfl | assumption) (by decide) rfl (Nat.le_of_ble_eq_true rfl) (Nat.le_of_ble_eq_true rfl) ?_
      rw [show oneOf (fitN (kn (gI M 231) 2) (kn (gI M 231) 93) (trH (gI M 231)) D) = telK (gI M 231) D from rfl, hD2, rkN, tD, if_pos hd]
      refine v_istore_n dX12_rank_28 rfl (by decide) ?_
      refine v_iload_n dX12_rank_29 rfl ?_
      refine v_iconst (-1) dX12_rank_30 (by decide) ?_
      -- at 31: .if_icmp .ne 7
      rcases telK_of hP D with ht | ⟨c, hc, ht⟩
      · rw [ht]
        refine v_icmp_ne 38 dX12_rank_31 (by decide) (fun h31 => ?_) (fun h31 => ?_)
        · exact absurd rfl h31
        · refine v_iconst (-1) dX12_rank_34 (by decide) ?_
          refine v_goto 48 dX12_rank_35 (by decide) ?_
          -- at 48: .ireturn
          refine v_iret dX12_rank_48 rfl ⟨by rw [if_pos rfl], Pq.of hM2.1⟩
      · rw [ht, if_neg (nI_m1 (by omega)), nI_clamp (by omega)]
        refine v_icmp_ne 38 dX12_rank_31 (by decide) (fun h31 => ?_) (fun h31 => ?_)
        · have hcn := costN_le hP D
          refine v_aload_n dX12_rank_38 rfl ?_
          refine v_iload_n dX12_rank_39 rfl ?_
          refine v_aload_n dX12_rank_40 rfl ?_
          refine v_iload_n dX12_rank_41 rfl ?_
          -- at 42: .invokevirtual 339
          have hcon := c12_costOf G M2 hS' (by rw [e2]; exact hP) (by rw [e2]; exact hU) hD
          rw [e2] at hcon
          refine v_cV [_] (hcon) k12_costOf dX12_rank_42 l12_339 (by first | exact hS.1 _ _ rfl | exact hS'.1 _ _ rfl | assumption) (by decide) rfl (Nat.le_of_ble_eq_true rfl) (Nat.le_of_ble_eq_true rfl) ?_
          have hcon := c12_cheaper G M2 hS' (by rw [e2]; exact hP) (by rw [e2]; exact hI) (by rw [e2]; exact hU) hH (c := c) (x := costN (gI M 231) D) (by rw [e2]; exact hc) (by omega)
          rw [e2] at hcon
          refine v_cV [_, _] (hcon) k12_cheaper dX12_rank_45 l12_355 (by first | exact hS.1 _ _ rfl | exact hS'.1 _ _ rfl | assumption) (by decide) rfl (Nat.le_of_ble_eq_true rfl) (Nat.le_of_ble_eq_true rfl) ?_
          refine v_iret dX12_rank_48 rfl ⟨rfl, Pq.of hM2.1⟩
        · exact absurd (Decidable.not_not.mp h31) (nI_m1 (by omega))
    · exact absurd (by decide) h10
  · rw [bI_f hd, if_neg hd]
    refine v_if_ne 19 dX12_rank_10 (by decide) (fun h10 => ?_) (fun h10 => ?_)
    · exact absurd rfl h10
    · refine v_aload_n dX12_rank_13 rfl ?_
      refine v_iconst 1 dX12_rank_14 (by decide) ?_
      -- at 15: .invokevirtual 224
      refine v_cV [_] (c12_fails G (sI M 230 4 0) hS _) k12_fails dX12_rank_15 l12_224 (by first | exact hS.1 _ _ rfl | exact hS'.1 _ _ rfl | assumption) (by decide) rfl (Nat.le_of_ble_eq_true rfl) (Nat.le_of_ble_eq_true rfl) ?_
      refine v_iret dX12_rank_18 rfl ⟨rfl, by rw [tD, if_neg hd]; exact Pq.st2⟩
def okWC (K : Nat → Int32) (w c : Int32) : Bool := inR (kn K 3) w && inR (kn K 2) c
theorem Pq.ev {M M2 : mM} {t : Int32} (h : Sm Wev (sI M 230 4 t) M2) : Pq M t M2 := Pq.of (h.wk (fun q k z => by simp only [Wev, Wlh, Bool.or_eq_false_iff] at z ⊢; exact ⟨⟨z.1.1.1.1.1, z.1.1.1.1.2⟩, z.2⟩))
theorem c12_holds (hS : Sh M) (hP : WP (gI M 231)) (w c : Int32) (l : Bool) : Ct G Y12_holds 6 0 0 [.ref 230, .int w, .int c, .int (bI (l = true))] M (Rs (some (.int (bI ((okWC (gI M 231) w c && (trN (gI M 231) l c.toNatClampNeg).testBit w.toNatClampNeg) = true)))) (Pq M (if okWC (gI M 231) w c = true then 0 else 1))) NX := by
  have e1 : ∀ t, gI (sI M 230 4 t) 231 = gI M 231 := fun t => gI_sr _ _ (by decide)
  have h14 := hP.2.1.2
  have h10 := hP.2.2.1.2
  have no : ¬ okWC (gI M 231) w c = true → V G Y12_holds 6 0 0 (Rs (some (.int (bI ((okWC (gI M 231) w c && (trN (gI M 231) l c.toNatClampNeg).testBit w.toNatClampNeg) = true)))) (Pq M (if okWC (gI M 231) w c = true then 0 else 1))) NX 22 [some (.ref 230), some (.int w), some (.int c), some (.int (bI (l = true)))] [.ref 230] M := by
    intro hno
    rw [if_neg hno, bI_f (by rw [Bool.and_eq_true]; exact fun z => hno z.1)]
    refine v_iconst 1 dX12_holds_22 (by decide) ?_
    refine v_putI 12 4 dX12_holds_23 f12_68 (by first | exact hS.1 _ _ rfl | exact hS'.1 _ _ rfl | assumption) (by decide) ?_
    refine v_aload_n dX12_holds_26 rfl ?_
    refine v_getI 12 4 dX12_holds_27 f12_68 (by first | exact hS.1 _ _ rfl | exact hS'.1 _ _ rfl | assumption) (by decide) ?_
    -- at 30: .ifCond .ne 20
    rw [gI_ss]
    refine v_if_ne 50 dX12_holds_30 (by decide) (fun h30 => ?_) (fun h30 => ?_)
    · refine v_iconst 0 dX12_holds_50 (by decide) ?_
      -- at 51: .ireturn
      refine v_zret dX12_holds_51 rfl (by first | rfl | exact bI_nb _ | assumption) ⟨rfl, Pq.st⟩
    · exact absurd (by decide) h30
  refine Ct.of k12_holds.1 (Nat.le_of_ble_eq_true rfl) ?_
  refine v_aload_n dX12_holds_0 rfl ?_
  refine v_aload_n dX12_holds_1 rfl ?_
  refine v_iload_n dX12_holds_2 rfl ?_
  -- at 3: .invokevirtual 312
  refine v_cV [_] (c12_isHallWord G M hS hP w) k12_isHallWord dX12_holds_3 l12_312 (by first | exact hS.1 _ _ rfl | exact hS'.1 _ _ rfl | assumption) (by decide) rfl (Nat.le_of_ble_eq_true rfl) (Nat.le_of_ble_eq_true rfl) ?_
  by_cases hw : inR (kn (gI M 231) 3) w = true
  · rw [bI_t hw]
    refine v_if_eq 22 dX12_holds_6 (by decide) (fun h6 => ?_) (fun h6 => ?_)
    · exact absurd h6 (by decide)
    refine v_aload_n dX12_holds_9 rfl ?_
    refine v_iload_n dX12_holds_10 rfl ?_
    refine v_i2l dX12_holds_11 ?_
    -- at 12: .invokevirtual 297
    refine v_cV [_] (c12_isChestN G M hS hP c) k12_isChest dX12_holds_12 l12_297 (by first | exact hS.1 _ _ rfl | exact hS'.1 _ _ rfl | assumption) (by decide) rfl (Nat.le_of_ble_eq_true rfl) (Nat.le_of_ble_eq_true rfl) ?_
    by_cases hc : inR (kn (gI M 231) 2) c = true
    · rw [bI_t hc]
      refine v_if_eq 22 dX12_holds_15 (by decide) (fun h15 => ?_) (fun h15 => ?_)
      · exact absurd h15 (by decide)
      have hok : okWC (gI M 231) w c = true := by rw [okWC, hw, hc]; rfl
      obtain ⟨W, hW, rfl, hW2⟩ := inR_of hw
      obtain ⟨C, hC, rfl, hC2⟩ := inR_of hc
      rw [if_pos hok, hok, Bool.true_and, nI_clamp hC2, nI_clamp hW2]
      refine v_iconst 0 dX12_holds_18 (by decide) ?_
      refine v_goto 23 dX12_holds_19 (by decide) ?_
      refine v_putI 12 4 dX12_holds_23 f12_68 (by first | exact hS.1 _ _ rfl | exact hS'.1 _ _ rfl | assumption) (by decide) ?_
      refine v_aload_n dX12_holds_26 rfl ?_
      refine v_getI 12 4 dX12_holds_27 f12_68 (by first | exact hS.1 _ _ rfl | exact hS'.1 _ _ rfl | assumption) (by decide) ?_
      -- at 30: .ifCond .ne 20
      rw [gI_ss]
      refine v_if_ne 50 dX12_holds_30 (by decide) (fun h30 => ?_) (fun h30 => ?_)
      · exact absurd h30 (by decide)
      refine v_aload_n dX12_holds_33 rfl ?_
      refine v_iload_n dX12_holds_34 rfl ?_
      refine v_iload_n dX12_holds_35 rfl ?_
      -- at 36: .invokevirtual 293
      refine v_scV [_, _] (c12_wordsOf G (sI M 230 4 0) hS (by rw [e1]; exact hP) (c := C) (by omega) l) k12_wordsOf dX12_holds_36 l12_293 (hS.1 _ _ rfl) (by decide) rfl (Nat.le_of_ble_eq_true rfl) (Nat.le_of_ble_eq_true rfl) (fun M2 hM2 => ?_)
      rw [e1]
      have hlt := trN_lt hP l C
      have hS' := Sh.sm (M := sI M 230 4 0) hS hM2
      refine v_iload_n dX12_holds_39 rfl ?_
      -- at 40: .invokestatic 248
      refine v_cS [_, _] (c12_hasN G M2 (s := trN (gI M 231) l C) (k := W) (by omega) (by omega)) k12_has dX12_holds_40 l12_248 rfl (Nat.le_of_ble_eq_true rfl) (Nat.le_of_ble_eq_true rfl) ?_
      by_cases hb : (trN (gI M 231) l C).testBit W = true
      · rw [bI_t hb]
        refine v_if_eq 50 dX12_holds_43 (by decide) (fun h43 => ?_) (fun h43 => ?_)
        · exact absurd h43 (by decide)
        · refine v_iconst 1 dX12_holds_46 (by decide) ?_
          refine v_goto 51 dX12_holds_47 (by decide) ?_
          -- at 51: .ireturn
          refine v_zret dX12_holds_51 rfl (by first | rfl | exact bI_nb _ | assumption) ⟨rfl, Pq.ev hM2⟩
      · rw [bI_f hb]
        refine v_if_eq 50 dX12_holds_43 (by decide) (fun h43 => ?_) (fun h43 => ?_)
        · refine v_iconst 0 dX12_holds_50 (by decide) ?_
          -- at 51: .ireturn
          refine v_zret dX12_holds_51 rfl (by first | rfl | exact bI_nb _ | assumption) ⟨rfl, Pq.ev hM2⟩
        · exact absurd rfl h43
    · rw [bI_f hc]
      refine v_if_eq 22 dX12_holds_15 (by decide) (fun h15 => ?_) (fun h15 => ?_)
      · exact no (by rw [okWC, hw]; exact hc)
      · exact absurd rfl h15
  · rw [bI_f hw]
    refine v_if_eq 22 dX12_holds_6 (by decide) (fun h6 => ?_) (fun h6 => ?_)
    · exact no (by rw [okWC, Bool.and_eq_true]; exact fun z => hw z.1)
    · exact absurd rfl h6
end RN
