/-! ===== the class LeastWords: marks, chests, words, descriptions ===== -/
theorem shb {s k : Nat} (hs : s < 2 ^ 31) (hk : k < 32) : (nI s >>> (nI k &&& 31)) &&& 1 = bI (s.testBit k = true) := by
  rw [← bI_has hs hk]
  generalize nI s >>> (nI k &&& 31) = x
  have e : x &&& 1 = nI (x.toBitVec.toNat % 2) := pk_and x 1 (by decide)
  rw [e]
  have := Nat.mod_lt x.toBitVec.toNat (show 0 < 2 by decide)
  generalize x.toBitVec.toNat % 2 = m at *
  obtain rfl | rfl : m = 0 ∨ m = 1 := by omega
  · decide
  · decide
section O2
variable (G : mG) (M : mM)
theorem c11_mark {K : Nat → Int32} (h : MR M K) (c : Int32) (m : Int32) (l : Bool) : Ct G Y11_mark 40 1 6 [.ref 100, .int c, .int m, .int (bI (l = true))] M (Qt (if okCM K c m = true then 0 else 1) (some (.int (lkv K (kn K 4) (l && litB K) c.toNatClampNeg m.toNatClampNeg))) M (K)) (Xt [(1, nsE)] (if okCM K c m = true then 0 else 1) M) := by
  have h0 := h
  have hs := h.sd
  obtain ⟨hS, hW, hz, hsc, p, cd, n, rd, l1, hp0, hp, hrd, hpa⟩ := h
  obtain ⟨ap1, ap2, ap3, ap4, ap5, ap6, ap7, ap8⟩ := hpa.ap hz
  have h14 := hW.p.2.1.2
  have h6 := hW.p.1.2.2
  have h10 := hW.p.2.2.1.2
  refine Ct.of k11_mark.1 (Nat.le_of_ble_eq_true rfl) ?_
  by_cases hc : inR (kn K 2) c = true
  · have q1 := c11_needChest G M h0 hc
    by_cases hm : inR (kn K 1) m = true
    · have q2 := c11_needMark G M h0 hm
      rw [show okCM K c m = true by unfold okCM; rw [hc, hm]; rfl, if_pos rfl]
      obtain ⟨j, hj, rfl, hj2⟩ := inR_of hc
      obtain ⟨k, hk, rfl, hk2⟩ := inR_of hm
      have q3 := c7_markOf G M hs hW hj hk
      have q4 : K (9 + 6 * j + k) = nI (nb (cur K) (6 * j + k)) ∧ nb (cur K) (6 * j + k) ≤ 9 := by
        have := hW.2.2.1.1 (6 * j + k) (by omega)
        unfold cur at this
        rw [← Nat.add_assoc] at this
        exact this
      have q5 := c4_byLamp G M hp h6 hk q4.2
      rw [← q4.1] at q5
      have hl := hs.2.2.2.2.2.2
      rw [nI_clamp hj2, nI_clamp hk2]
      cases l
      · rw [Bool.false_and]
        refine v_aload_n dX11_mark_0 rfl ?_
        refine v_iload_n dX11_mark_1 rfl ?_
        refine v_cVv [_] (q1) k11_needChest dX11_mark_2 l11_113 (by first | exact hS.1 _ _ rfl | assumption) (by decide) rfl (Nat.le_of_ble_eq_true rfl) (Nat.le_of_ble_eq_true rfl) ?_
        refine v_aload_n dX11_mark_5 rfl ?_
        refine v_iload_n dX11_mark_6 rfl ?_
        refine v_cVv [_] (q2) k11_needMark dX11_mark_7 l11_116 (by first | exact hS.1 _ _ rfl | assumption) (by decide) rfl (Nat.le_of_ble_eq_true rfl) (Nat.le_of_ble_eq_true rfl) ?_
        refine v_aload_n dX11_mark_10 rfl ?_
        refine v_getR 11 6 _ dX11_mark_11 f11_34 (by first | exact hS.1 _ _ rfl | assumption) (by decide) (by first | exact hS.2 _ _ _ rfl | assumption) ?_
        refine v_getR 6 1 _ dX11_mark_14 f11_119 (by first | exact hS.1 _ _ rfl | assumption) (by decide) (by first | exact hS.2 _ _ _ rfl | assumption) ?_
        refine v_iload_n dX11_mark_17 rfl ?_
        refine v_iload_n dX11_mark_18 rfl ?_
        refine v_cV [_, _] (q3) k7_markOf dX11_mark_19 l11_122 (by first | exact hS.1 _ _ rfl | assumption) (by decide) rfl (Nat.le_of_ble_eq_true rfl) (Nat.le_of_ble_eq_true rfl) ?_
        refine v_istore dX11_mark_22 rfl (by decide) ?_
        refine v_iload_n dX11_mark_24 rfl ?_
        refine v_if_eq 57 dX11_mark_25 (by decide) (fun h25 => ?_) (fun h25 => absurd (bI_f (by decide)) h25)
        refine v_iload dX11_mark_57 rfl ?_
        refine v_iret dX11_mark_59 rfl ?_
        exact ⟨rfl, rfl, Kp.rf, h0⟩
      · rw [Bool.true_and]
        rcases hW.l with e | e
        · rw [show litB K = false by unfold litB; rw [e]; rfl]
          refine v_aload_n dX11_mark_0 rfl ?_
          refine v_iload_n dX11_mark_1 rfl ?_
          refine v_cVv [_] (q1) k11_needChest dX11_mark_2 l11_113 (by first | exact hS.1 _ _ rfl | assumption) (by decide) rfl (Nat.le_of_ble_eq_true rfl) (Nat.le_of_ble_eq_true rfl) ?_
          refine v_aload_n dX11_mark_5 rfl ?_
          refine v_iload_n dX11_mark_6 rfl ?_
          refine v_cVv [_] (q2) k11_needMark dX11_mark_7 l11_116 (by first | exact hS.1 _ _ rfl | assumption) (by decide) rfl (Nat.le_of_ble_eq_true rfl) (Nat.le_of_ble_eq_true rfl) ?_
          refine v_aload_n dX11_mark_10 rfl ?_
          refine v_getR 11 6 _ dX11_mark_11 f11_34 (by first | exact hS.1 _ _ rfl | assumption) (by decide) (by first | exact hS.2 _ _ _ rfl | assumption) ?_
          refine v_getR 6 1 _ dX11_mark_14 f11_119 (by first | exact hS.1 _ _ rfl | assumption) (by decide) (by first | exact hS.2 _ _ _ rfl | assumption) ?_
          refine v_iload_n dX11_mark_17 rfl ?_
          refine v_iload_n dX11_mark_18 rfl ?_
          refine v_cV [_, _] (q3) k7_markOf dX11_mark_19 l11_122 (by first | exact hS.1 _ _ rfl | assumption) (by decide) rfl (Nat.le_of_ble_eq_true rfl) (Nat.le_of_ble_eq_true rfl) ?_
          refine v_istore dX11_mark_22 rfl (by decide) ?_
          refine v_iload_n dX11_mark_24 rfl ?_
          refine v_if_eq 57 dX11_mark_25 (by decide) (fun h25 => absurd h25 (by decide)) (fun h25 => ?_)
          refine v_aload_n dX11_mark_28 rfl ?_
          refine v_getR 11 6 _ dX11_mark_29 f11_34 (by first | exact hS.1 _ _ rfl | assumption) (by decide) (by first | exact hS.2 _ _ _ rfl | assumption) ?_
          refine v_getR 6 1 _ dX11_mark_32 f11_119 (by first | exact hS.1 _ _ rfl | assumption) (by decide) (by first | exact hS.2 _ _ _ rfl | assumption) ?_
          refine v_getI 7 8 dX11_mark_35 f11_126 (by first | exact hS.1 _ _ rfl | assumption) (by decide) ?_
          rw [hl, e]
          refine v_if_eq 57 dX11_mark_38 (by decide) (fun h38 => ?_) (fun h38 => absurd rfl h38)
          refine v_iload dX11_mark_57 rfl ?_
          refine v_iret dX11_mark_59 rfl ?_
          exact ⟨rfl, rfl, Kp.rf, h0⟩
        · rw [show litB K = true by unfold litB; rw [e]; rfl]
          refine v_aload_n dX11_mark_0 rfl ?_
          refine v_iload_n dX11_mark_1 rfl ?_
          refine v_cVv [_] (q1) k11_needChest dX11_mark_2 l11_113 (by first | exact hS.1 _ _ rfl | assumption) (by decide) rfl (Nat.le_of_ble_eq_true rfl) (Nat.le_of_ble_eq_true rfl) ?_
          refine v_aload_n dX11_mark_5 rfl ?_
          refine v_iload_n dX11_mark_6 rfl ?_
          refine v_cVv [_] (q2) k11_needMark dX11_mark_7 l11_116 (by first | exact hS.1 _ _ rfl | assumption) (by decide) rfl (Nat.le_of_ble_eq_true rfl) (Nat.le_of_ble_eq_true rfl) ?_
          refine v_aload_n dX11_mark_10 rfl ?_
          refine v_getR 11 6 _ dX11_mark_11 f11_34 (by first | exact hS.1 _ _ rfl | assumption) (by decide) (by first | exact hS.2 _ _ _ rfl | assumption) ?_
          refine v_getR 6 1 _ dX11_mark_14 f11_119 (by first | exact hS.1 _ _ rfl | assumption) (by decide) (by first | exact hS.2 _ _ _ rfl | assumption) ?_
          refine v_iload_n dX11_mark_17 rfl ?_
          refine v_iload_n dX11_mark_18 rfl ?_
          refine v_cV [_, _] (q3) k7_markOf dX11_mark_19 l11_122 (by first | exact hS.1 _ _ rfl | assumption) (by decide) rfl (Nat.le_of_ble_eq_true rfl) (Nat.le_of_ble_eq_true rfl) ?_
          refine v_istore dX11_mark_22 rfl (by decide) ?_
          refine v_iload_n dX11_mark_24 rfl ?_
          refine v_if_eq 57 dX11_mark_25 (by decide) (fun h25 => absurd h25 (by decide)) (fun h25 => ?_)
          refine v_aload_n dX11_mark_28 rfl ?_
          refine v_getR 11 6 _ dX11_mark_29 f11_34 (by first | exact hS.1 _ _ rfl | assumption) (by decide) (by first | exact hS.2 _ _ _ rfl | assumption) ?_
          refine v_getR 6 1 _ dX11_mark_32 f11_119 (by first | exact hS.1 _ _ rfl | assumption) (by decide) (by first | exact hS.2 _ _ _ rfl | assumption) ?_
          refine v_getI 7 8 dX11_mark_35 f11_126 (by first | exact hS.1 _ _ rfl | assumption) (by decide) ?_
          rw [hl, e]
          refine v_if_eq 57 dX11_mark_38 (by decide) (fun h38 => absurd h38 (by decide)) (fun h38 => ?_)
          refine v_aload_n dX11_mark_41 rfl ?_
          refine v_getR 11 6 _ dX11_mark_42 f11_34 (by first | exact hS.1 _ _ rfl | assumption) (by decide) (by first | exact hS.2 _ _ _ rfl | assumption) ?_
          refine v_getR 6 0 _ dX11_mark_45 f11_130 (by first | exact hS.1 _ _ rfl | assumption) (by decide) (by first | exact hS.2 _ _ _ rfl | assumption) ?_
          refine v_iload_n dX11_mark_48 rfl ?_
          refine v_iload dX11_mark_49 rfl ?_
          refine v_cV [_, _] (q5) k4_bLamp dX11_mark_51 l11_134 hp.1.1 (by decide) rfl (Nat.le_of_ble_eq_true rfl) (Nat.le_of_ble_eq_true rfl) ?_
          refine v_goto 59 dX11_mark_54 (by decide) ?_
          refine v_iret dX11_mark_59 rfl ?_
          exact ⟨rfl, rfl, Kp.rf, h0⟩
    · have ht : (if okCM K c m = true then (0 : Int32) else 1) = 1 := if_neg (by unfold okCM; simp [hm])
      rw [ht]
      refine v_aload_n dX11_mark_0 rfl ?_
      refine v_iload_n dX11_mark_1 rfl ?_
      refine v_cVv [_] (q1) k11_needChest dX11_mark_2 l11_113 (by first | exact hS.1 _ _ rfl | assumption) (by decide) rfl (Nat.le_of_ble_eq_true rfl) (Nat.le_of_ble_eq_true rfl) ?_
      refine v_aload_n dX11_mark_5 rfl ?_
      refine v_iload_n dX11_mark_6 rfl ?_
      refine v_callV [_] (c11_needMarkF G M h0 hm) k11_needMark dX11_mark_7 l11_116 (by first | exact hS.1 _ _ rfl | assumption) (by decide) rfl (Nat.le_of_ble_eq_true rfl) (Nat.le_of_ble_eq_true rfl) (fun _ _ h => h.elim) (fun E M9 he => ?_)
      exact Xt.of he (by simp)
  · have ht : (if okCM K c m = true then (0 : Int32) else 1) = 1 := if_neg (by unfold okCM; simp [hc])
    rw [ht]
    refine v_aload_n dX11_mark_0 rfl ?_
    refine v_iload_n dX11_mark_1 rfl ?_
    refine v_callV [_] (c11_needChestF G M h0 hc) k11_needChest dX11_mark_2 l11_113 (by first | exact hS.1 _ _ rfl | assumption) (by decide) rfl (Nat.le_of_ble_eq_true rfl) (Nat.le_of_ble_eq_true rfl) (fun _ _ h => h.elim) (fun E M9 he => ?_)
    exact Xt.of he (by simp)
theorem c11_chest {K : Nat → Int32} (h : MR M K) (c : Int32) (w : Int32) : Ct G Y11_chest 40 1 6 [.ref 100, .int c, .int w] M (Qt (tCh K c w) (some (.int (rCh K c.toNatClampNeg w))) M (K)) (Xt [(1, nsE), (2, iaE)] (tCh K c w) M) := by
  have h0 := h
  have hs := h.sd
  obtain ⟨hS, hW, hz, hsc, p, cd, n, rd, l1, hp0, hp, hrd, hpa⟩ := h
  obtain ⟨ap1, ap2, ap3, ap4, ap5, ap6, ap7, ap8⟩ := hpa.ap hz
  have h14 := hW.p.2.1.2
  have h6 := hW.p.1.2.2
  have h10 := hW.p.2.2.1.2
  refine Ct.of k11_chest.1 (Nat.le_of_ble_eq_true rfl) ?_
  by_cases hc : inR (kn K 2) c = true
  · have q1 := c11_needChest G M h0 hc
    by_cases hw : inR 3 w = true
    · have q2 := c11_needWhat G M (n := 2) (by decide) hw
      rw [show tCh K c w = 0 by unfold tCh; rw [if_pos hc, if_pos hw]]
      obtain ⟨j, hj, rfl, hj2⟩ := inR_of hc
      obtain ⟨k, hk, rfl, hk2⟩ := inR_of hw
      rw [nI_clamp hj2]
      obtain rfl | rfl | rfl : k = 0 ∨ k = 1 ∨ k = 2 := by omega
      · by_cases hb : (kn K 93).testBit j = true
        · have q3 := c7_isIn G M hs hW (c := j) (by omega)
          rw [bI_t hb] at q3
          refine v_aload_n dX11_chest_0 rfl ?_
          refine v_iload_n dX11_chest_1 rfl ?_
          refine v_cVv [_] (q1) k11_needChest dX11_chest_2 l11_113 (by first | exact hS.1 _ _ rfl | assumption) (by decide) rfl (Nat.le_of_ble_eq_true rfl) (Nat.le_of_ble_eq_true rfl) ?_
          refine v_aload_n dX11_chest_5 rfl ?_
          refine v_iload_n dX11_chest_6 rfl ?_
          refine v_iconst 2 dX11_chest_7 (by decide) ?_
          refine v_cVv [_, _] (q2) k11_needWhat dX11_chest_8 l11_137 (by first | exact hS.1 _ _ rfl | assumption) (by decide) rfl (Nat.le_of_ble_eq_true rfl) (Nat.le_of_ble_eq_true rfl) ?_
          refine v_iload_n dX11_chest_11 rfl ?_
          refine v_if_ne 35 dX11_chest_12 (by decide) (fun h12 => absurd (by decide) h12) (fun h12 => ?_)
          refine v_aload_n dX11_chest_15 rfl ?_
          refine v_getR 11 6 _ dX11_chest_16 f11_34 (by first | exact hS.1 _ _ rfl | assumption) (by decide) (by first | exact hS.2 _ _ _ rfl | assumption) ?_
          refine v_getR 6 1 _ dX11_chest_19 f11_119 (by first | exact hS.1 _ _ rfl | assumption) (by decide) (by first | exact hS.2 _ _ _ rfl | assumption) ?_
          refine v_iload_n dX11_chest_22 rfl ?_
          refine v_cV [_] (q3) k7_isIn dX11_chest_23 l11_141 (by first | exact hS.1 _ _ rfl | assumption) (by decide) rfl (Nat.le_of_ble_eq_true rfl) (Nat.le_of_ble_eq_true rfl) ?_
          refine v_if_eq 33 dX11_chest_26 (by decide) (fun h26 => absurd h26 (by decide)) (fun h26 => ?_)
          refine v_iconst 1 dX11_chest_29 (by decide) ?_
          refine v_goto 34 dX11_chest_30 (by decide) ?_
          refine v_iret dX11_chest_34 rfl ?_
          exact ⟨rfl, by rw [rCh, if_pos (by decide), bI_t hb], Kp.rf, h0⟩
        · have q3 := c7_isIn G M hs hW (c := j) (by omega)
          rw [bI_f hb] at q3
          refine v_aload_n dX11_chest_0 rfl ?_
          refine v_iload_n dX11_chest_1 rfl ?_
          refine v_cVv [_] (q1) k11_needChest dX11_chest_2 l11_113 (by first | exact hS.1 _ _ rfl | assumption) (by decide) rfl (Nat.le_of_ble_eq_true rfl) (Nat.le_of_ble_eq_true rfl) ?_
          refine v_aload_n dX11_chest_5 rfl ?_
          refine v_iload_n dX11_chest_6 rfl ?_
          refine v_iconst 2 dX11_chest_7 (by decide) ?_
          refine v_cVv [_, _] (q2) k11_needWhat dX11_chest_8 l11_137 (by first | exact hS.1 _ _ rfl | assumption) (by decide) rfl (Nat.le_of_ble_eq_true rfl) (Nat.le_of_ble_eq_true rfl) ?_
          refine v_iload_n dX11_chest_11 rfl ?_
          refine v_if_ne 35 dX11_chest_12 (by decide) (fun h12 => absurd (by decide) h12) (fun h12 => ?_)
          refine v_aload_n dX11_chest_15 rfl ?_
          refine v_getR 11 6 _ dX11_chest_16 f11_34 (by first | exact hS.1 _ _ rfl | assumption) (by decide) (by first | exact hS.2 _ _ _ rfl | assumption) ?_
          refine v_getR 6 1 _ dX11_chest_19 f11_119 (by first | exact hS.1 _ _ rfl | assumption) (by decide) (by first | exact hS.2 _ _ _ rfl | assumption) ?_
          refine v_iload_n dX11_chest_22 rfl ?_
          refine v_cV [_] (q3) k7_isIn dX11_chest_23 l11_141 (by first | exact hS.1 _ _ rfl | assumption) (by decide) rfl (Nat.le_of_ble_eq_true rfl) (Nat.le_of_ble_eq_true rfl) ?_
          refine v_if_eq 33 dX11_chest_26 (by decide) (fun h26 => ?_) (fun h26 => absurd rfl h26)
          refine v_iconst 0 dX11_chest_33 (by decide) ?_
          refine v_iret dX11_chest_34 rfl ?_
          exact ⟨rfl, by rw [rCh, if_pos (by decide), bI_f hb], Kp.rf, h0⟩
      · refine v_aload_n dX11_chest_0 rfl ?_
        refine v_iload_n dX11_chest_1 rfl ?_
        refine v_cVv [_] (q1) k11_needChest dX11_chest_2 l11_113 (by first | exact hS.1 _ _ rfl | assumption) (by decide) rfl (Nat.le_of_ble_eq_true rfl) (Nat.le_of_ble_eq_true rfl) ?_
        refine v_aload_n dX11_chest_5 rfl ?_
        refine v_iload_n dX11_chest_6 rfl ?_
        refine v_iconst 2 dX11_chest_7 (by decide) ?_
        refine v_cVv [_, _] (q2) k11_needWhat dX11_chest_8 l11_137 (by first | exact hS.1 _ _ rfl | assumption) (by decide) rfl (Nat.le_of_ble_eq_true rfl) (Nat.le_of_ble_eq_true rfl) ?_
        refine v_iload_n dX11_chest_11 rfl ?_
        refine v_if_ne 35 dX11_chest_12 (by decide) (fun h12 => ?_) (fun h12 => absurd (by decide) h12)
        refine v_iload_n dX11_chest_35 rfl ?_
        refine v_iconst 1 dX11_chest_36 (by decide) ?_
        refine v_icmp_ne 54 dX11_chest_37 (by decide) (fun h37 => absurd (by decide) h37) (fun h37 => ?_)
        refine v_aload_n dX11_chest_40 rfl ?_
        refine v_getR 11 6 _ dX11_chest_41 f11_34 (by first | exact hS.1 _ _ rfl | assumption) (by decide) (by first | exact hS.2 _ _ _ rfl | assumption) ?_
        refine v_getR 6 1 _ dX11_chest_44 f11_119 (by first | exact hS.1 _ _ rfl | assumption) (by decide) (by first | exact hS.2 _ _ _ rfl | assumption) ?_
        refine v_iload_n dX11_chest_47 rfl ?_
        refine v_cV [_] (c7_truthN G M hs hW hj) k7_truth dX11_chest_48 l11_145 (by first | exact hS.1 _ _ rfl | assumption) (by decide) rfl (Nat.le_of_ble_eq_true rfl) (Nat.le_of_ble_eq_true rfl) ?_
        refine v_goto 68 dX11_chest_51 (by decide) ?_
        refine v_iret dX11_chest_68 rfl ?_
        exact ⟨rfl, by rw [rCh, if_neg (by decide), if_pos (by decide)], Kp.rf, h0⟩
      · have q4 : bset (kn K 2) (likP K j) < 16384 := Nat.lt_of_lt_of_le (bset_lt _ _) (show 2 ^ kn K 2 ≤ 2 ^ 14 from Nat.pow_le_pow_right (by omega) h14)
        refine v_aload_n dX11_chest_0 rfl ?_
        refine v_iload_n dX11_chest_1 rfl ?_
        refine v_cVv [_] (q1) k11_needChest dX11_chest_2 l11_113 (by first | exact hS.1 _ _ rfl | assumption) (by decide) rfl (Nat.le_of_ble_eq_true rfl) (Nat.le_of_ble_eq_true rfl) ?_
        refine v_aload_n dX11_chest_5 rfl ?_
        refine v_iload_n dX11_chest_6 rfl ?_
        refine v_iconst 2 dX11_chest_7 (by decide) ?_
        refine v_cVv [_, _] (q2) k11_needWhat dX11_chest_8 l11_137 (by first | exact hS.1 _ _ rfl | assumption) (by decide) rfl (Nat.le_of_ble_eq_true rfl) (Nat.le_of_ble_eq_true rfl) ?_
        refine v_iload_n dX11_chest_11 rfl ?_
        refine v_if_ne 35 dX11_chest_12 (by decide) (fun h12 => ?_) (fun h12 => absurd (by decide) h12)
        refine v_iload_n dX11_chest_35 rfl ?_
        refine v_iconst 1 dX11_chest_36 (by decide) ?_
        refine v_icmp_ne 54 dX11_chest_37 (by decide) (fun h37 => ?_) (fun h37 => absurd (by decide) h37)
        refine v_aload_n dX11_chest_54 rfl ?_
        refine v_getR 11 6 _ dX11_chest_55 f11_34 (by first | exact hS.1 _ _ rfl | assumption) (by decide) (by first | exact hS.2 _ _ _ rfl | assumption) ?_
        refine v_getR 6 1 _ dX11_chest_58 f11_119 (by first | exact hS.1 _ _ rfl | assumption) (by decide) (by first | exact hS.2 _ _ _ rfl | assumption) ?_
        refine v_iload_n dX11_chest_61 rfl ?_
        refine v_cV [_] (c7_alikeTo G M hs hW hj) k7_alikeTo dX11_chest_62 l11_149 (by first | exact hS.1 _ _ rfl | assumption) (by decide) rfl (Nat.le_of_ble_eq_true rfl) (Nat.le_of_ble_eq_true rfl) ?_
        refine v_cS [_] (cJ_bitCount G M _) kJ_bitCount dX11_chest_65 l11_152 rfl (Nat.le_of_ble_eq_true rfl) (Nat.le_of_ble_eq_true rfl) ?_
        rw [bcI_n q4, pcn_bset h14]
        refine v_iret dX11_chest_68 rfl ?_
        exact ⟨rfl, by rw [rCh, if_neg (by decide), if_neg (by decide)]; rfl, Kp.rf, h0⟩
    · have ht : tCh K c w = 2 := by unfold tCh; rw [if_pos hc, if_neg hw]
      rw [ht]
      refine v_aload_n dX11_chest_0 rfl ?_
      refine v_iload_n dX11_chest_1 rfl ?_
      refine v_cVv [_] (q1) k11_needChest dX11_chest_2 l11_113 (by first | exact hS.1 _ _ rfl | assumption) (by decide) rfl (Nat.le_of_ble_eq_true rfl) (Nat.le_of_ble_eq_true rfl) ?_
      refine v_aload_n dX11_chest_5 rfl ?_
      refine v_iload_n dX11_chest_6 rfl ?_
      refine v_iconst 2 dX11_chest_7 (by decide) ?_
      refine v_callV [_, _] (c11_needWhatF G M (n := 2) (by decide) hw) k11_needWhat dX11_chest_8 l11_137 (by first | exact hS.1 _ _ rfl | assumption) (by decide) rfl (Nat.le_of_ble_eq_true rfl) (Nat.le_of_ble_eq_true rfl) (fun _ _ h => h.elim) (fun E M9 he => ?_)
      exact Xt.of he (by simp)
  · have ht : tCh K c w = 1 := by unfold tCh; rw [if_neg hc]
    rw [ht]
    refine v_aload_n dX11_chest_0 rfl ?_
    refine v_iload_n dX11_chest_1 rfl ?_
    refine v_callV [_] (c11_needChestF G M h0 hc) k11_needChest dX11_chest_2 l11_113 (by first | exact hS.1 _ _ rfl | assumption) (by decide) rfl (Nat.le_of_ble_eq_true rfl) (Nat.le_of_ble_eq_true rfl) (fun _ _ h => h.elim) (fun E M9 he => ?_)
    exact Xt.of he (by simp)
theorem c11_word {K : Nat → Int32} (h : MR M K) (w : Int32) (k : Int32) : Ct G Y11_word 40 1 6 [.ref 100, .int w, .int k] M (Qt (tWd K w k) (some (.int (rWd K w.toNatClampNeg k))) M (K)) (Xt [(1, nsE), (2, iaE)] (tWd K w k) M) := by
  have h0 := h
  have hs := h.sd
  obtain ⟨hS, hW, hz, hsc, p, cd, n, rd, l1, hp0, hp, hrd, hpa⟩ := h
  obtain ⟨ap1, ap2, ap3, ap4, ap5, ap6, ap7, ap8⟩ := hpa.ap hz
  have h14 := hW.p.2.1.2
  have h6 := hW.p.1.2.2
  have h10 := hW.p.2.2.1.2
  refine Ct.of k11_word.1 (Nat.le_of_ble_eq_true rfl) ?_
  by_cases hc : inR (kn K 3) w = true
  · have q1 := c11_needWord G M h0 hc
    by_cases hw : inR 4 k = true
    · have q2 := c11_needWhat G M (n := 3) (by decide) hw
      rw [show tWd K w k = 0 by unfold tWd; rw [if_pos hc, if_pos hw]]
      obtain ⟨j, hj, rfl, hj2⟩ := inR_of hc
      obtain ⟨k, hk, rfl, hk2⟩ := inR_of hw
      obtain ⟨⟨p1, p2, p3, p4, p5, p6, p7, p8, p9, p10, p11, p12, p13, p14⟩, ⟨e1, e2, e3, e4, e5, e6, e7⟩, g2, g3, g4, g5, g6, g7⟩ := hp
      rw [nI_clamp hj2]
      have hu := hW.u.2
      have hsd := hW.p.2.2.2.2.2.2.2.2.2
      have hp3 : 2 ^ kn K 3 ≤ 1024 := Nat.pow_le_pow_right (n := 2) (by decide) h10
      obtain rfl | rfl | rfl | rfl : k = 0 ∨ k = 1 ∨ k = 2 ∨ k = 3 := by omega
      · refine v_aload_n dX11_word_0 rfl ?_
        refine v_iload_n dX11_word_1 rfl ?_
        refine v_cVv [_] (q1) k11_needWord dX11_word_2 l11_157 (by first | exact hS.1 _ _ rfl | assumption) (by decide) rfl (Nat.le_of_ble_eq_true rfl) (Nat.le_of_ble_eq_true rfl) ?_
        refine v_aload_n dX11_word_5 rfl ?_
        refine v_iload_n dX11_word_6 rfl ?_
        refine v_iconst 3 dX11_word_7 (by decide) ?_
        refine v_cVv [_, _] (q2) k11_needWhat dX11_word_8 l11_137 (by first | exact hS.1 _ _ rfl | assumption) (by decide) rfl (Nat.le_of_ble_eq_true rfl) (Nat.le_of_ble_eq_true rfl) ?_
        refine v_iload_n dX11_word_11 rfl ?_
        refine v_if_ne 28 dX11_word_12 (by decide) (fun h12 => absurd (by decide) h12) (fun h12 => ?_)
        refine v_aload_n dX11_word_15 rfl ?_
        refine v_getR 11 6 _ dX11_word_16 f11_34 (by first | exact hS.1 _ _ rfl | assumption) (by decide) (by first | exact hS.2 _ _ _ rfl | assumption) ?_
        refine v_getR 6 0 _ dX11_word_19 f11_130 (by first | exact hS.1 _ _ rfl | assumption) (by decide) (by first | exact hS.2 _ _ _ rfl | assumption) ?_
        refine v_getR 4 11 _ dX11_word_22 f11_160 p1 (by decide) p8 ?_
        refine v_iload_n dX11_word_25 rfl ?_
        refine v_ialdN (j) dX11_word_26 p3 (by simp only [n_lit, pk_mul, nI_add]) ⟨by omega, by omega⟩ ?_
        rw [g2 j hj]
        refine v_iret dX11_word_27 rfl ?_
        exact ⟨rfl, by rw [rWd, if_pos (by decide)], Kp.rf, h0⟩
      · refine v_aload_n dX11_word_0 rfl ?_
        refine v_iload_n dX11_word_1 rfl ?_
        refine v_cVv [_] (q1) k11_needWord dX11_word_2 l11_157 (by first | exact hS.1 _ _ rfl | assumption) (by decide) rfl (Nat.le_of_ble_eq_true rfl) (Nat.le_of_ble_eq_true rfl) ?_
        refine v_aload_n dX11_word_5 rfl ?_
        refine v_iload_n dX11_word_6 rfl ?_
        refine v_iconst 3 dX11_word_7 (by decide) ?_
        refine v_cVv [_, _] (q2) k11_needWhat dX11_word_8 l11_137 (by first | exact hS.1 _ _ rfl | assumption) (by decide) rfl (Nat.le_of_ble_eq_true rfl) (Nat.le_of_ble_eq_true rfl) ?_
        refine v_iload_n dX11_word_11 rfl ?_
        refine v_if_ne 28 dX11_word_12 (by decide) (fun h12 => ?_) (fun h12 => absurd (by decide) h12)
        refine v_iload_n dX11_word_28 rfl ?_
        refine v_iconst 3 dX11_word_29 (by decide) ?_
        refine v_icmp_ne 45 dX11_word_30 (by decide) (fun h30 => ?_) (fun h30 => absurd (by decide) h30)
        refine v_iload_n dX11_word_45 rfl ?_
        refine v_iconst 1 dX11_word_46 (by decide) ?_
        refine v_icmp_ne 63 dX11_word_47 (by decide) (fun h47 => absurd (by decide) h47) (fun h47 => ?_)
        refine v_aload_n dX11_word_50 rfl ?_
        refine v_getR 11 6 _ dX11_word_51 f11_34 (by first | exact hS.1 _ _ rfl | assumption) (by decide) (by first | exact hS.2 _ _ _ rfl | assumption) ?_
        refine v_getR 6 0 _ dX11_word_54 f11_130 (by first | exact hS.1 _ _ rfl | assumption) (by decide) (by first | exact hS.2 _ _ _ rfl | assumption) ?_
        refine v_getI 4 5 dX11_word_57 f11_167 p1 (by decide) ?_
        rw [e5, hsd.1]
        refine v_goto 73 dX11_word_60 (by decide) ?_
        refine v_iload_n dX11_word_73 rfl ?_
        refine v_ishr dX11_word_74 ?_
        refine v_iconst 1 dX11_word_75 (by decide) ?_
        refine v_iand dX11_word_76 ?_
        rw [shb (by omega) (by omega)]
        refine v_iret dX11_word_77 rfl ?_
        exact ⟨rfl, by rw [rWd, if_neg (by decide), if_pos (by decide)], Kp.rf, h0⟩
      · refine v_aload_n dX11_word_0 rfl ?_
        refine v_iload_n dX11_word_1 rfl ?_
        refine v_cVv [_] (q1) k11_needWord dX11_word_2 l11_157 (by first | exact hS.1 _ _ rfl | assumption) (by decide) rfl (Nat.le_of_ble_eq_true rfl) (Nat.le_of_ble_eq_true rfl) ?_
        refine v_aload_n dX11_word_5 rfl ?_
        refine v_iload_n dX11_word_6 rfl ?_
        refine v_iconst 3 dX11_word_7 (by decide) ?_
        refine v_cVv [_, _] (q2) k11_needWhat dX11_word_8 l11_137 (by first | exact hS.1 _ _ rfl | assumption) (by decide) rfl (Nat.le_of_ble_eq_true rfl) (Nat.le_of_ble_eq_true rfl) ?_
        refine v_iload_n dX11_word_11 rfl ?_
        refine v_if_ne 28 dX11_word_12 (by decide) (fun h12 => ?_) (fun h12 => absurd (by decide) h12)
        refine v_iload_n dX11_word_28 rfl ?_
        refine v_iconst 3 dX11_word_29 (by decide) ?_
        refine v_icmp_ne 45 dX11_word_30 (by decide) (fun h30 => ?_) (fun h30 => absurd (by decide) h30)
        refine v_iload_n dX11_word_45 rfl ?_
        refine v_iconst 1 dX11_word_46 (by decide) ?_
        refine v_icmp_ne 63 dX11_word_47 (by decide) (fun h47 => ?_) (fun h47 => absurd (by decide) h47)
        refine v_aload_n dX11_word_63 rfl ?_
        refine v_getR 11 6 _ dX11_word_64 f11_34 (by first | exact hS.1 _ _ rfl | assumption) (by decide) (by first | exact hS.2 _ _ _ rfl | assumption) ?_
        refine v_getR 6 1 _ dX11_word_67 f11_119 (by first | exact hS.1 _ _ rfl | assumption) (by decide) (by first | exact hS.2 _ _ _ rfl | assumption) ?_
        refine v_getI 7 7 dX11_word_70 f11_170 (by first | exact hS.1 _ _ rfl | assumption) (by decide) ?_
        rw [hs.2.2.2.2.2.1, hW.u.1]
        refine v_iload_n dX11_word_73 rfl ?_
        refine v_ishr dX11_word_74 ?_
        refine v_iconst 1 dX11_word_75 (by decide) ?_
        refine v_iand dX11_word_76 ?_
        rw [shb (by omega) (by omega)]
        refine v_iret dX11_word_77 rfl ?_
        exact ⟨rfl, by rw [rWd, if_neg (by decide), if_neg (by decide), if_pos (by decide)], Kp.rf, h0⟩
      · refine v_aload_n dX11_word_0 rfl ?_
        refine v_iload_n dX11_word_1 rfl ?_
        refine v_cVv [_] (q1) k11_needWord dX11_word_2 l11_157 (by first | exact hS.1 _ _ rfl | assumption) (by decide) rfl (Nat.le_of_ble_eq_true rfl) (Nat.le_of_ble_eq_true rfl) ?_
        refine v_aload_n dX11_word_5 rfl ?_
        refine v_iload_n dX11_word_6 rfl ?_
        refine v_iconst 3 dX11_word_7 (by decide) ?_
        refine v_cVv [_, _] (q2) k11_needWhat dX11_word_8 l11_137 (by first | exact hS.1 _ _ rfl | assumption) (by decide) rfl (Nat.le_of_ble_eq_true rfl) (Nat.le_of_ble_eq_true rfl) ?_
        refine v_iload_n dX11_word_11 rfl ?_
        refine v_if_ne 28 dX11_word_12 (by decide) (fun h12 => ?_) (fun h12 => absurd (by decide) h12)
        refine v_iload_n dX11_word_28 rfl ?_
        refine v_iconst 3 dX11_word_29 (by decide) ?_
        refine v_icmp_ne 45 dX11_word_30 (by decide) (fun h30 => absurd (by decide) h30) (fun h30 => ?_)
        refine v_aload_n dX11_word_33 rfl ?_
        refine v_getR 11 6 _ dX11_word_34 f11_34 (by first | exact hS.1 _ _ rfl | assumption) (by decide) (by first | exact hS.2 _ _ _ rfl | assumption) ?_
        refine v_getR 6 1 _ dX11_word_37 f11_119 (by first | exact hS.1 _ _ rfl | assumption) (by decide) (by first | exact hS.2 _ _ _ rfl | assumption) ?_
        refine v_iload_n dX11_word_40 rfl ?_
        refine v_cV [_] (c7_holders G M hs hW (w := j) (by omega)) k7_holders dX11_word_41 l11_164 (by first | exact hS.1 _ _ rfl | assumption) (by decide) rfl (Nat.le_of_ble_eq_true rfl) (Nat.le_of_ble_eq_true rfl) ?_
        refine v_iret dX11_word_44 rfl ?_
        exact ⟨rfl, by rw [rWd, if_neg (by decide), if_neg (by decide), if_neg (by decide)], Kp.rf, h0⟩
    · have ht : tWd K w k = 2 := by unfold tWd; rw [if_pos hc, if_neg hw]
      rw [ht]
      refine v_aload_n dX11_word_0 rfl ?_
      refine v_iload_n dX11_word_1 rfl ?_
      refine v_cVv [_] (q1) k11_needWord dX11_word_2 l11_157 (by first | exact hS.1 _ _ rfl | assumption) (by decide) rfl (Nat.le_of_ble_eq_true rfl) (Nat.le_of_ble_eq_true rfl) ?_
      refine v_aload_n dX11_word_5 rfl ?_
      refine v_iload_n dX11_word_6 rfl ?_
      refine v_iconst 3 dX11_word_7 (by decide) ?_
      refine v_callV [_, _] (c11_needWhatF G M (n := 3) (by decide) hw) k11_needWhat dX11_word_8 l11_137 (by first | exact hS.1 _ _ rfl | assumption) (by decide) rfl (Nat.le_of_ble_eq_true rfl) (Nat.le_of_ble_eq_true rfl) (fun _ _ h => h.elim) (fun E M9 he => ?_)
      exact Xt.of he (by simp)
  · have ht : tWd K w k = 1 := by unfold tWd; rw [if_neg hc]
    rw [ht]
    refine v_aload_n dX11_word_0 rfl ?_
    refine v_iload_n dX11_word_1 rfl ?_
    refine v_callV [_] (c11_needWordF G M h0 hc) k11_needWord dX11_word_2 l11_157 (by first | exact hS.1 _ _ rfl | assumption) (by decide) rfl (Nat.le_of_ble_eq_true rfl) (Nat.le_of_ble_eq_true rfl) (fun _ _ h => h.elim) (fun E M9 he => ?_)
    exact Xt.of he (by simp)
theorem c11_holds {K : Nat → Int32} (h : MR M K) (w : Int32) (c : Int32) (l : Bool) : Ct G Y11_holds 40 1 6 [.ref 100, .int w, .int c, .int (bI (l = true))] M (Qt (if okWC K w c = true then 0 else 1) (some (.int (bI ((trN K l c.toNatClampNeg).testBit w.toNatClampNeg = true)))) M (K)) (Xt [(1, nsE)] (if okWC K w c = true then 0 else 1) M) := by
  have h0 := h
  have hs := h.sd
  obtain ⟨hS, hW, hz, hsc, p, cd, n, rd, l1, hp0, hp, hrd, hpa⟩ := h
  obtain ⟨ap1, ap2, ap3, ap4, ap5, ap6, ap7, ap8⟩ := hpa.ap hz
  have h14 := hW.p.2.1.2
  have h6 := hW.p.1.2.2
  have h10 := hW.p.2.2.1.2
  refine Ct.of k11_holds.1 (Nat.le_of_ble_eq_true rfl) ?_
  by_cases hw : inR (kn K 3) w = true
  · have q1 := c11_needWord G M h0 hw
    by_cases hc : inR (kn K 2) c = true
    · have q2 := c11_needChest G M h0 hc
      rw [show okWC K w c = true by unfold okWC; rw [hc, hw]; rfl, if_pos rfl]
      obtain ⟨j, hj, rfl, hj2⟩ := inR_of hw
      obtain ⟨k, hk, rfl, hk2⟩ := inR_of hc
      rw [nI_clamp hj2, nI_clamp hk2]
      have q3 := c7_truthBy G M hs (c := k) (by omega) l
      rw [tvI_n hs.2 l hk] at q3
      have q4 := trN_lt hW.p l k
      by_cases hb : (trN K l k).testBit j = true
      · rw [bI_t hb]
        refine v_aload_n dX11_holds_0 rfl ?_
        refine v_iload_n dX11_holds_1 rfl ?_
        refine v_cVv [_] (q1) k11_needWord dX11_holds_2 l11_157 (by first | exact hS.1 _ _ rfl | assumption) (by decide) rfl (Nat.le_of_ble_eq_true rfl) (Nat.le_of_ble_eq_true rfl) ?_
        refine v_aload_n dX11_holds_5 rfl ?_
        refine v_iload_n dX11_holds_6 rfl ?_
        refine v_cVv [_] (q2) k11_needChest dX11_holds_7 l11_113 (by first | exact hS.1 _ _ rfl | assumption) (by decide) rfl (Nat.le_of_ble_eq_true rfl) (Nat.le_of_ble_eq_true rfl) ?_
        refine v_aload_n dX11_holds_10 rfl ?_
        refine v_getR 11 6 _ dX11_holds_11 f11_34 (by first | exact hS.1 _ _ rfl | assumption) (by decide) (by first | exact hS.2 _ _ _ rfl | assumption) ?_
        refine v_getR 6 1 _ dX11_holds_14 f11_119 (by first | exact hS.1 _ _ rfl | assumption) (by decide) (by first | exact hS.2 _ _ _ rfl | assumption) ?_
        refine v_iload_n dX11_holds_17 rfl ?_
        refine v_iload_n dX11_holds_18 rfl ?_
        refine v_cV [_, _] (q3) k7_truthBy dX11_holds_19 l11_173 (by first | exact hS.1 _ _ rfl | assumption) (by decide) rfl (Nat.le_of_ble_eq_true rfl) (Nat.le_of_ble_eq_true rfl) ?_
        refine v_iload_n dX11_holds_22 rfl ?_
        refine v_ishr dX11_holds_23 ?_
        refine v_iconst 1 dX11_holds_24 (by decide) ?_
        refine v_iand dX11_holds_25 ?_
        rw [shb (by omega) (by omega), bI_t hb]
        refine v_iconst 1 dX11_holds_26 (by decide) ?_
        refine v_icmp_ne 34 dX11_holds_27 (by decide) (fun h27 => absurd rfl h27) (fun h27 => ?_)
        refine v_iconst 1 dX11_holds_30 (by decide) ?_
        refine v_goto 35 dX11_holds_31 (by decide) ?_
        refine v_zret dX11_holds_35 rfl (by first | rfl | exact bI_nb _ | assumption) ?_
        exact ⟨rfl, rfl, Kp.rf, h0⟩
      · rw [bI_f hb]
        refine v_aload_n dX11_holds_0 rfl ?_
        refine v_iload_n dX11_holds_1 rfl ?_
        refine v_cVv [_] (q1) k11_needWord dX11_holds_2 l11_157 (by first | exact hS.1 _ _ rfl | assumption) (by decide) rfl (Nat.le_of_ble_eq_true rfl) (Nat.le_of_ble_eq_true rfl) ?_
        refine v_aload_n dX11_holds_5 rfl ?_
        refine v_iload_n dX11_holds_6 rfl ?_
        refine v_cVv [_] (q2) k11_needChest dX11_holds_7 l11_113 (by first | exact hS.1 _ _ rfl | assumption) (by decide) rfl (Nat.le_of_ble_eq_true rfl) (Nat.le_of_ble_eq_true rfl) ?_
        refine v_aload_n dX11_holds_10 rfl ?_
        refine v_getR 11 6 _ dX11_holds_11 f11_34 (by first | exact hS.1 _ _ rfl | assumption) (by decide) (by first | exact hS.2 _ _ _ rfl | assumption) ?_
        refine v_getR 6 1 _ dX11_holds_14 f11_119 (by first | exact hS.1 _ _ rfl | assumption) (by decide) (by first | exact hS.2 _ _ _ rfl | assumption) ?_
        refine v_iload_n dX11_holds_17 rfl ?_
        refine v_iload_n dX11_holds_18 rfl ?_
        refine v_cV [_, _] (q3) k7_truthBy dX11_holds_19 l11_173 (by first | exact hS.1 _ _ rfl | assumption) (by decide) rfl (Nat.le_of_ble_eq_true rfl) (Nat.le_of_ble_eq_true rfl) ?_
        refine v_iload_n dX11_holds_22 rfl ?_
        refine v_ishr dX11_holds_23 ?_
        refine v_iconst 1 dX11_holds_24 (by decide) ?_
        refine v_iand dX11_holds_25 ?_
        rw [shb (by omega) (by omega), bI_f hb]
        refine v_iconst 1 dX11_holds_26 (by decide) ?_
        refine v_icmp_ne 34 dX11_holds_27 (by decide) (fun h27 => ?_) (fun h27 => absurd (by decide) h27)
        refine v_iconst 0 dX11_holds_34 (by decide) ?_
        refine v_zret dX11_holds_35 rfl (by first | rfl | exact bI_nb _ | assumption) ?_
        exact ⟨rfl, rfl, Kp.rf, h0⟩
    · have ht : (if okWC K w c = true then (0 : Int32) else 1) = 1 := if_neg (by unfold okWC; simp [hc])
      rw [ht]
      refine v_aload_n dX11_holds_0 rfl ?_
      refine v_iload_n dX11_holds_1 rfl ?_
      refine v_cVv [_] (q1) k11_needWord dX11_holds_2 l11_157 (by first | exact hS.1 _ _ rfl | assumption) (by decide) rfl (Nat.le_of_ble_eq_true rfl) (Nat.le_of_ble_eq_true rfl) ?_
      refine v_aload_n dX11_holds_5 rfl ?_
      refine v_iload_n dX11_holds_6 rfl ?_
      refine v_callV [_] (c11_needChestF G M h0 hc) k11_needChest dX11_holds_7 l11_113 (by first | exact hS.1 _ _ rfl | assumption) (by decide) rfl (Nat.le_of_ble_eq_true rfl) (Nat.le_of_ble_eq_true rfl) (fun _ _ h => h.elim) (fun E M9 he => ?_)
      exact Xt.of he (by simp)
  · have ht : (if okWC K w c = true then (0 : Int32) else 1) = 1 := if_neg (by unfold okWC; simp [hw])
    rw [ht]
    refine v_aload_n dX11_holds_0 rfl ?_
    refine v_iload_n dX11_holds_1 rfl ?_
    refine v_callV [_] (c11_needWordF G M h0 hw) k11_needWord dX11_holds_2 l11_157 (by first | exact hS.1 _ _ rfl | assumption) (by decide) rfl (Nat.le_of_ble_eq_true rfl) (Nat.le_of_ble_eq_true rfl) (fun _ _ h => h.elim) (fun E M9 he => ?_)
    exact Xt.of he (by simp)
theorem c11_fits {K : Nat → Int32} (h : MR M K) (d : Int32) : Ct G Y11_fits 40 1 6 [.ref 100, .int d] M (Qt (tD K d) (some (.int (nI (fitN (kn K 2) (kn K 93) (trH K) d.toNatClampNeg)))) M (K)) (Xt [(1, iaE)] (tD K d) M) := by
  have h0 := h
  have hs := h.sd
  obtain ⟨hS, hW, hz, hsc, p, cd, n, rd, l1, hp0, hp, hrd, hpa⟩ := h
  obtain ⟨ap1, ap2, ap3, ap4, ap5, ap6, ap7, ap8⟩ := hpa.ap hz
  have h14 := hW.p.2.1.2
  have h6 := hW.p.1.2.2
  have h10 := hW.p.2.2.1.2
  refine Ct.of k11_fits.1 (Nat.le_of_ble_eq_true rfl) ?_
  by_cases hd : isDI (kn K 3) d = true
  · have q1 := c11_needDescription G M h0 hd
    rw [show tD K d = 0 from if_pos hd]
    obtain ⟨D, rfl, hD, hD2, hD3⟩ := isDI_of hd
    obtain ⟨hD4, hD5⟩ := isDN_dj hD3
    rw [hD2]
    refine v_aload_n dX11_fits_0 rfl ?_
    refine v_iload_n dX11_fits_1 rfl ?_
    refine v_cVv [_] (q1) k11_needDescription dX11_fits_2 l11_177 (by first | exact hS.1 _ _ rfl | assumption) (by decide) rfl (Nat.le_of_ble_eq_true rfl) (Nat.le_of_ble_eq_true rfl) ?_
    refine v_aload_n dX11_fits_5 rfl ?_
    refine v_getR 11 6 _ dX11_fits_6 f11_34 (by first | exact hS.1 _ _ rfl | assumption) (by decide) (by first | exact hS.2 _ _ _ rfl | assumption) ?_
    refine v_getR 6 1 _ dX11_fits_9 f11_119 (by first | exact hS.1 _ _ rfl | assumption) (by decide) (by first | exact hS.2 _ _ _ rfl | assumption) ?_
    refine v_iload_n dX11_fits_12 rfl ?_
    refine v_cV [_] (c7_fitted G M hs hW hD4 hD5) k7_fitted dX11_fits_13 l11_180 (by first | exact hS.1 _ _ rfl | assumption) (by decide) rfl (Nat.le_of_ble_eq_true rfl) (Nat.le_of_ble_eq_true rfl) ?_
    refine v_iret dX11_fits_16 rfl ?_
    exact ⟨rfl, rfl, Kp.rf, h0⟩
  · have ht : tD K d = 1 := if_neg hd
    rw [ht]
    refine v_aload_n dX11_fits_0 rfl ?_
    refine v_iload_n dX11_fits_1 rfl ?_
    refine v_callV [_] (c11_needDescriptionF G M h0 hd) k11_needDescription dX11_fits_2 l11_177 (by first | exact hS.1 _ _ rfl | assumption) (by decide) rfl (Nat.le_of_ble_eq_true rfl) (Nat.le_of_ble_eq_true rfl) (fun _ _ h => h.elim) (fun E M9 he => ?_)
    exact Xt.of he (by simp)
theorem c11_tells {K : Nat → Int32} (h : MR M K) (d : Int32) : Ct G Y11_tells 40 1 6 [.ref 100, .int d] M (Qt (tD K d) (some (.int (telK K d.toNatClampNeg))) M (K)) (Xt [(1, iaE)] (tD K d) M) := by
  have h0 := h
  have hs := h.sd
  obtain ⟨hS, hW, hz, hsc, p, cd, n, rd, l1, hp0, hp, hrd, hpa⟩ := h
  obtain ⟨ap1, ap2, ap3, ap4, ap5, ap6, ap7, ap8⟩ := hpa.ap hz
  have h14 := hW.p.2.1.2
  have h6 := hW.p.1.2.2
  have h10 := hW.p.2.2.1.2
  refine Ct.of k11_tells.1 (Nat.le_of_ble_eq_true rfl) ?_
  by_cases hd : isDI (kn K 3) d = true
  · have q1 := c11_needDescription G M h0 hd
    rw [show tD K d = 0 from if_pos hd]
    obtain ⟨D, rfl, hD, hD2, hD3⟩ := isDI_of hd
    obtain ⟨hD4, hD5⟩ := isDN_dj hD3
    rw [hD2]
    refine v_aload_n dX11_tells_0 rfl ?_
    refine v_iload_n dX11_tells_1 rfl ?_
    refine v_cVv [_] (q1) k11_needDescription dX11_tells_2 l11_177 (by first | exact hS.1 _ _ rfl | assumption) (by decide) rfl (Nat.le_of_ble_eq_true rfl) (Nat.le_of_ble_eq_true rfl) ?_
    refine v_aload_n dX11_tells_5 rfl ?_
    refine v_getR 11 6 _ dX11_tells_6 f11_34 (by first | exact hS.1 _ _ rfl | assumption) (by decide) (by first | exact hS.2 _ _ _ rfl | assumption) ?_
    refine v_getR 6 1 _ dX11_tells_9 f11_119 (by first | exact hS.1 _ _ rfl | assumption) (by decide) (by first | exact hS.2 _ _ _ rfl | assumption) ?_
    refine v_iload_n dX11_tells_12 rfl ?_
    refine v_cV [_] (c7_toldBy G M hs hW hD4 hD5) k7_toldBy dX11_tells_13 l11_183 (by first | exact hS.1 _ _ rfl | assumption) (by decide) rfl (Nat.le_of_ble_eq_true rfl) (Nat.le_of_ble_eq_true rfl) ?_
    refine v_iret dX11_tells_16 rfl ?_
    exact ⟨rfl, rfl, Kp.rf, h0⟩
  · have ht : tD K d = 1 := if_neg hd
    rw [ht]
    refine v_aload_n dX11_tells_0 rfl ?_
    refine v_iload_n dX11_tells_1 rfl ?_
    refine v_callV [_] (c11_needDescriptionF G M h0 hd) k11_needDescription dX11_tells_2 l11_177 (by first | exact hS.1 _ _ rfl | assumption) (by decide) rfl (Nat.le_of_ble_eq_true rfl) (Nat.le_of_ble_eq_true rfl) (fun _ _ h => h.elim) (fun E M9 he => ?_)
    exact Xt.of he (by simp)
theorem c11_cost {K : Nat → Int32} (h : MR M K) (d : Int32) : Ct G Y11_cost 40 1 6 [.ref 100, .int d] M (Qt (tD K d) (some (.int (nI (costN K d.toNatClampNeg)))) M (K)) (Xt [(1, iaE)] (tD K d) M) := by
  have h0 := h
  have hs := h.sd
  obtain ⟨hS, hW, hz, hsc, p, cd, n, rd, l1, hp0, hp, hrd, hpa⟩ := h
  obtain ⟨ap1, ap2, ap3, ap4, ap5, ap6, ap7, ap8⟩ := hpa.ap hz
  have h14 := hW.p.2.1.2
  have h6 := hW.p.1.2.2
  have h10 := hW.p.2.2.1.2
  refine Ct.of k11_cost.1 (Nat.le_of_ble_eq_true rfl) ?_
  by_cases hd : isDI (kn K 3) d = true
  · have q1 := c11_needDescription G M h0 hd
    rw [show tD K d = 0 from if_pos hd]
    obtain ⟨D, rfl, hD, hD2, hD3⟩ := isDI_of hd
    obtain ⟨hD4, hD5⟩ := isDN_dj hD3
    rw [hD2]
    refine v_aload_n dX11_cost_0 rfl ?_
    refine v_iload_n dX11_cost_1 rfl ?_
    refine v_cVv [_] (q1) k11_needDescription dX11_cost_2 l11_177 (by first | exact hS.1 _ _ rfl | assumption) (by decide) rfl (Nat.le_of_ble_eq_true rfl) (Nat.le_of_ble_eq_true rfl) ?_
    refine v_aload_n dX11_cost_5 rfl ?_
    refine v_getR 11 6 _ dX11_cost_6 f11_34 (by first | exact hS.1 _ _ rfl | assumption) (by decide) (by first | exact hS.2 _ _ _ rfl | assumption) ?_
    refine v_getR 6 1 _ dX11_cost_9 f11_119 (by first | exact hS.1 _ _ rfl | assumption) (by decide) (by first | exact hS.2 _ _ _ rfl | assumption) ?_
    refine v_aload_n dX11_cost_12 rfl ?_
    refine v_getR 11 6 _ dX11_cost_13 f11_34 (by first | exact hS.1 _ _ rfl | assumption) (by decide) (by first | exact hS.2 _ _ _ rfl | assumption) ?_
    refine v_getR 6 0 _ dX11_cost_16 f11_130 (by first | exact hS.1 _ _ rfl | assumption) (by decide) (by first | exact hS.2 _ _ _ rfl | assumption) ?_
    refine v_iload_n dX11_cost_19 rfl ?_
    refine v_cV [_, _] (c7_costOf G M hs hp hW hD4) k7_costOf dX11_cost_20 l11_186 (by first | exact hS.1 _ _ rfl | assumption) (by decide) rfl (Nat.le_of_ble_eq_true rfl) (Nat.le_of_ble_eq_true rfl) ?_
    refine v_iret dX11_cost_23 rfl ?_
    exact ⟨rfl, rfl, Kp.rf, h0⟩
  · have ht : tD K d = 1 := if_neg hd
    rw [ht]
    refine v_aload_n dX11_cost_0 rfl ?_
    refine v_iload_n dX11_cost_1 rfl ?_
    refine v_callV [_] (c11_needDescriptionF G M h0 hd) k11_needDescription dX11_cost_2 l11_177 (by first | exact hS.1 _ _ rfl | assumption) (by decide) rfl (Nat.le_of_ble_eq_true rfl) (Nat.le_of_ble_eq_true rfl) (fun _ _ h => h.elim) (fun E M9 he => ?_)
    exact Xt.of he (by simp)
end O2
