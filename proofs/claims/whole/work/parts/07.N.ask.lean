/-! ===== the reference: questions of marks and words ===== -/
section RN
variable (G : mG) (M : mM)
def okCM (K : Nat → Int32) (c m : Int32) : Bool := inR (kn K 2) c && inR (kn K 1) m
theorem c12_mark (hS : Sh M) (hP : WP (gI M 231)) (c m : Int32) (l : Bool) : Ct G Y12_mark 2 0 0 [.ref 230, .int c, .int m, .int (bI (l = true))] M (Rs (some (.int (if okCM (gI M 231) c m = true then lkv (gI M 231) (kn (gI M 231) 4) (l && litB (gI M 231)) c.toNatClampNeg m.toNatClampNeg else 0))) (Pq M (if okCM (gI M 231) c m = true then 0 else 1))) NX := by
  have e1 : gI (sI M 230 4 0) 231 = gI M 231 := gI_sr _ _ (by decide)
  have h14 := hP.2.1.2
  have h6 := hP.1.2.2
  have hP1 : WP (gI (sI M 230 4 0) 231) := by rw [e1]; exact hP
  have no : ¬ okCM (gI M 231) c m = true → V G Y12_mark 2 0 0 (Rs (some (.int (if okCM (gI M 231) c m = true then lkv (gI M 231) (kn (gI M 231) 4) (l && litB (gI M 231)) c.toNatClampNeg m.toNatClampNeg else 0))) (Pq M (if okCM (gI M 231) c m = true then 0 else 1))) NX 52 [some (.ref 230), some (.int c), some (.int m), some (.int (bI (l = true)))] [] (sI M 230 4 0) := by
    intro hno
    rw [if_neg hno, if_neg hno]
    refine v_aload_n dX12_mark_52 rfl ?_
    refine v_iconst 1 dX12_mark_53 (by decide) ?_
    -- at 54: .invokevirtual 224
    refine v_cV [_] (c12_fails G (sI M 230 4 0) hS _) k12_fails dX12_mark_54 l12_224 (by first | exact hS.1 _ _ rfl | exact hS'.1 _ _ rfl | assumption) (by decide) rfl (Nat.le_of_ble_eq_true rfl) (Nat.le_of_ble_eq_true rfl) ?_
    refine v_iret dX12_mark_57 rfl ⟨rfl, Pq.st2⟩
  refine Ct.of k12_mark.1 (Nat.le_of_ble_eq_true rfl) ?_
  refine v_aload_n dX12_mark_0 rfl ?_
  refine v_iconst 0 dX12_mark_1 (by decide) ?_
  refine v_putI 12 4 dX12_mark_2 f12_68 (by first | exact hS.1 _ _ rfl | exact hS'.1 _ _ rfl | assumption) (by decide) ?_
  refine v_aload_n dX12_mark_5 rfl ?_
  refine v_iload_n dX12_mark_6 rfl ?_
  refine v_i2l dX12_mark_7 ?_
  -- at 8: .invokevirtual 297
  have hcon := c12_isChestN G (sI M 230 4 0) hS hP1 c
  rw [e1] at hcon
  refine v_cV [_] (hcon) k12_isChest dX12_mark_8 l12_297 (by first | exact hS.1 _ _ rfl | exact hS'.1 _ _ rfl | assumption) (by decide) rfl (Nat.le_of_ble_eq_true rfl) (Nat.le_of_ble_eq_true rfl) ?_
  by_cases hc : inR (kn (gI M 231) 2) c = true
  · rw [bI_t hc]
    refine v_if_eq 52 dX12_mark_11 (by decide) (fun h11 => ?_) (fun h11 => ?_)
    · exact absurd h11 (by decide)
    refine v_aload_n dX12_mark_14 rfl ?_
    refine v_iload_n dX12_mark_15 rfl ?_
    refine v_i2l dX12_mark_16 ?_
    -- at 17: .invokevirtual 301
    have hcon := c12_isMark G (sI M 230 4 0) hS hP1 m
    rw [e1] at hcon
    refine v_cV [_] (hcon) k12_isMark dX12_mark_17 l12_301 (by first | exact hS.1 _ _ rfl | exact hS'.1 _ _ rfl | assumption) (by decide) rfl (Nat.le_of_ble_eq_true rfl) (Nat.le_of_ble_eq_true rfl) ?_
    by_cases hm : inR (kn (gI M 231) 1) m = true
    · rw [bI_t hm]
      have hok : okCM (gI M 231) c m = true := by rw [okCM, hc, hm]; rfl
      refine v_if_eq 52 dX12_mark_20 (by decide) (fun h20 => ?_) (fun h20 => ?_)
      · exact absurd h20 (by decide)
      rw [if_pos hok, if_pos hok]
      obtain ⟨C, hC, rfl, hC2⟩ := inR_of hc
      obtain ⟨Q, hQ, rfl, hQ2⟩ := inR_of hm
      rw [nI_clamp hC2, nI_clamp hQ2]
      have fin : ∀ b : Bool, b = (l && litB (gI M 231)) → V G Y12_mark 2 0 0 (Rs (some (.int (lkv (gI M 231) (kn (gI M 231) 4) (l && litB (gI M 231)) C Q))) (Pq M 0)) NX 46 [some (.ref 230), some (.int (nI C)), some (.int (nI Q)), some (.int (bI (l = true)))] [.int (bI (b = true)), .int (nI Q), .int (nI C), .ref 230] (sI M 230 4 0) := by
        intro b hb
        rw [← hb]
        have hcon := c12_look G (sI M 230 4 0) hS (nl := kn (gI M 231) 4) (by rw [e1]; exact hP.2.2.2.1.1) hP.2.2.2.1.2 (c := C) (m := Q) (by omega) (by omega) b
        rw [e1] at hcon
        refine v_cV [_, _, _] (hcon) k12_look dX12_mark_46 l12_286 (by first | exact hS.1 _ _ rfl | exact hS'.1 _ _ rfl | assumption) (by decide) rfl (Nat.le_of_ble_eq_true rfl) (Nat.le_of_ble_eq_true rfl) ?_
        refine v_goto 57 dX12_mark_49 (by decide) ?_
        -- at 57: .ireturn
        refine v_iret dX12_mark_57 rfl ⟨rfl, Pq.st⟩
      refine v_aload_n dX12_mark_23 rfl ?_
      refine v_iload_n dX12_mark_24 rfl ?_
      refine v_iload_n dX12_mark_25 rfl ?_
      refine v_iload_n dX12_mark_26 rfl ?_
      -- at 27: .ifCond .eq 18
      cases l with
      | false =>
        refine v_if_eq 45 dX12_mark_27 (by decide) (fun h27 => ?_) (fun h27 => ?_)
        · refine v_iconst 0 dX12_mark_45 (by decide) ?_
          -- at 46: .invokevirtual 286
          exact fin false rfl
        · exact absurd rfl h27
      | true =>
        refine v_if_eq 45 dX12_mark_27 (by decide) (fun h27 => ?_) (fun h27 => ?_)
        · exact absurd h27 (by decide)
        refine v_aload_n dX12_mark_30 rfl ?_
        refine v_getR 12 0 _ dX12_mark_31 f12_9 (by first | exact hS.1 _ _ rfl | exact hS'.1 _ _ rfl | assumption) (by decide) (by first | exact hS.2 _ _ _ rfl | exact hS'.2 _ _ _ rfl | assumption) ?_
        refine v_bipush 94 dX12_mark_34 (by decide) ?_
        refine v_ialdN 94 dX12_mark_36 (by first | exact hS.1 _ _ rfl | exact hS'.1 _ _ rfl | assumption) rfl (by decide) ?_
        refine v_iconst 1 dX12_mark_37 (by decide) ?_
        -- at 38: .if_icmp .ne 7
        rw [e1]
        by_cases hl : gI M 231 94 = 1
        · rw [hl]
          refine v_icmp_ne 45 dX12_mark_38 (by decide) (fun h38 => ?_) (fun h38 => ?_)
          · exact absurd rfl h38
          · refine v_iconst 1 dX12_mark_41 (by decide) ?_
            refine v_goto 46 dX12_mark_42 (by decide) ?_
            -- at 46: .invokevirtual 286
            exact fin true (by rw [litB, decide_eq_true hl]; rfl)
        · refine v_icmp_ne 45 dX12_mark_38 (by decide) (fun h38 => ?_) (fun h38 => ?_)
          · refine v_iconst 0 dX12_mark_45 (by decide) ?_
            -- at 46: .invokevirtual 286
            exact fin false (by rw [litB, decide_eq_false hl]; rfl)
          · exact absurd (Decidable.not_not.mp h38) hl
    · rw [bI_f hm]
      refine v_if_eq 52 dX12_mark_20 (by decide) (fun h20 => ?_) (fun h20 => ?_)
      · exact no (by rw [okCM, hc]; exact hm)
      · exact absurd rfl h20
  · rw [bI_f hc]
    refine v_if_eq 52 dX12_mark_11 (by decide) (fun h11 => ?_) (fun h11 => ?_)
    · exact no (by rw [okCM, Bool.and_eq_true]; exact fun z => hc z.1)
    · exact absurd rfl h11
def rkN (K : Nat → Int32) (D : Nat) : Int32 := if oneOf (fitN (kn K 2) (kn K 93) (trH K) D) = -1 then -1 else nI (lessN K (oneOf (fitN (kn K 2) (kn K 93) (trH K) D)).toNatClampNeg (costN K D))
end RN
