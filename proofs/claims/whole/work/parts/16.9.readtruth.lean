/-! ===== the reference's parser: readUnit, readBoth, readTruth ===== -/
section PE
variable (G : mG) (M0 : mM)
theorem c12_unB (M : mM) {D0 : Nat} {Z : (Nat → Nat) × Nat} {d : Nat} {R : RSt} (hS : Sh M0) (h : PS M0 Z d R M) (hb : R.1 ≠ 0) : Ct G Y12_readUnit D0 0 0 [.ref 230] M (Rv none M) NX := by
  have hS' := hS.sm h.1
  refine Ct.of k12_readUnit.1 (Nat.le_of_ble_eq_true rfl) ?_
  refine v_aload_n dX12_readUnit_0 rfl ?_
  refine v_getI 12 12 dX12_readUnit_1 f12_103 (by first | exact hS'.1 _ _ rfl | assumption) (by decide) ?_
  refine v_if_eq 8 dX12_readUnit_4 (by decide) (fun h4 => absurd h4 (h.bad.2 hb)) (fun h4 => ?_)
  refine v_vret dX12_readUnit_7 rfl ?_
  exact ⟨rfl, rfl⟩
theorem c12_boB (M : mM) {D0 : Nat} {Z : (Nat → Nat) × Nat} {d : Nat} {R : RSt} (hS : Sh M0) (hT : Tp M0 Z) (h : PS M0 Z d R M) (hb : R.1 ≠ 0) : Ct G Y12_readBoth (D0 + 6) 0 0 [.ref 230] M (Rv none M) NX := by
  have hS' := hS.sm h.1
  refine Ct.of k12_readBoth.1 (Nat.le_of_ble_eq_true rfl) ?_
  refine v_aload_n dX12_readBoth_0 rfl ?_
  refine v_cVv [] (c12_unB (D0 := D0) G M0 M hS h hb) k12_readUnit dX12_readBoth_1 l12_147 (by first | exact hS'.1 _ _ rfl | assumption) (by decide) rfl (by omega) (Nat.le_of_ble_eq_true rfl) ?_
  refine v_aload_n dX12_readBoth_4 rfl ?_
  refine v_ldcS (k := 10) (tx := "and") dX12_readBoth_5 rfl (List.mem_of_getElem? (i := 12) rfl) (by decide) ?_
  refine v_cV [_] (c12_tookF G M0 M hS hT h (t := 10) (by decide) (fun z => hb z.1)) k12_took dX12_readBoth_7 l12_125 (by first | exact hS'.1 _ _ rfl | assumption) (by decide) rfl (by omega) (Nat.le_of_ble_eq_true rfl) ?_
  refine v_if_eq 26 dX12_readBoth_10 (by decide) (fun h10 => ?_) (fun h10 => absurd rfl h10)
  refine v_vret dX12_readBoth_26 rfl ?_
  exact ⟨rfl, rfl⟩
theorem c12_trB (M : mM) {D0 : Nat} {Z : (Nat → Nat) × Nat} {d : Nat} {R : RSt} (hS : Sh M0) (hT : Tp M0 Z) (h : PS M0 Z d R M) (hb : R.1 ≠ 0) : Ct G Y12_readTruth (D0 + 7) 0 0 [.ref 230] M (Rv none M) NX := by
  have hS' := hS.sm h.1
  refine Ct.of k12_readTruth.1 (Nat.le_of_ble_eq_true rfl) ?_
  refine v_aload_n dX12_readTruth_0 rfl ?_
  refine v_cVv [] (c12_boB (D0 := D0) G M0 M hS hT h hb) k12_readBoth dX12_readTruth_1 l12_139 (by first | exact hS'.1 _ _ rfl | assumption) (by decide) rfl (by omega) (Nat.le_of_ble_eq_true rfl) ?_
  refine v_aload_n dX12_readTruth_4 rfl ?_
  refine v_ldcS (k := 9) (tx := "or") dX12_readTruth_5 rfl (List.mem_of_getElem? (i := 13) rfl) (by decide) ?_
  refine v_cV [_] (c12_tookF G M0 M hS hT h (t := 9) (by decide) (fun z => hb z.1)) k12_took dX12_readTruth_7 l12_125 (by first | exact hS'.1 _ _ rfl | assumption) (by decide) rfl (by omega) (Nat.le_of_ble_eq_true rfl) ?_
  refine v_if_eq 26 dX12_readTruth_10 (by decide) (fun h10 => ?_) (fun h10 => absurd rfl h10)
  refine v_vret dX12_readTruth_26 rfl ?_
  exact ⟨rfl, rfl⟩
theorem c12_both {Z : (Nat → Nat) × Nat} {d D0 : Nat} {u : RSt → RSt} (hS : Sh M0) (hT : Tp M0 Z) (hD : 5 ≤ D0) (hg : gok Z u) (ha : ∀ R M, PS M0 Z d R M → IV Z R → Ct G Y12_readUnit D0 0 0 [.ref 230] M (Rs none (PS M0 Z d (u R))) NX) : ∀ R M, PS M0 Z d R M → IV Z R → Ct G Y12_readBoth (D0 + 1) 0 0 [.ref 230] M (Rs none (PS M0 Z d (bth Z u R))) NX := by
  have loop : ∀ n R M, Z.2 + 1 ≤ R.2.2.1 + n → IV Z R → PS M0 Z d R M → V G Y12_readBoth (D0 + 1) 0 0 (Rs none (PS M0 Z d (itr (fun R => decide (rIs Z 10 R)) (fun R => rly (nI 16) (u (rnx R))) 901 R))) NX 4 [some (.ref 230)] [] M := by
    intro n
    induction n with
    | zero => intro R M hn hI h; have := hI.2.1; omega
    | succ n ih =>
      intro R M hn hI h
      have hS' := hS.sm h.1
      rw [bth_un hg hI]
      by_cases hc : rIs Z 10 R
      · rw [if_pos hc]
        have hk : kd Z R.2.2.1 ≠ 32 := by have := hc.2; omega
        have g1 := (gs.nx hI hk).1
        have g2 := (hg _ g1).1.1
        have g3 := op_ok hg hI hk (nI 16)
        refine v_aload_n dX12_readBoth_4 rfl ?_
        refine v_ldcS (k := 10) (tx := "and") dX12_readBoth_5 rfl (List.mem_of_getElem? (i := 12) rfl) (by decide) ?_
        refine v_scV [_] (c12_tookT G M0 M hS hT h (t := 10) (by decide) hc) k12_took dX12_readBoth_7 l12_125 (by first | exact hS'.1 _ _ rfl | assumption) (by decide) rfl (by omega) (Nat.le_of_ble_eq_true rfl) ?_
        intro M2 hM2; have hS' := hS.sm hM2.1
        refine v_if_eq 26 dX12_readBoth_10 (by decide) (fun h10 => absurd h10 (by decide)) (fun h10 => ?_)
        refine v_aload_n dX12_readBoth_13 rfl ?_
        refine v_scVv [] (ha _ M2 hM2 g1) k12_readUnit dX12_readBoth_14 l12_147 (by first | exact hS'.1 _ _ rfl | assumption) (by decide) rfl (by omega) (Nat.le_of_ble_eq_true rfl) ?_
        intro M3 hM3; have hS' := hS.sm hM3.1
        refine v_aload_n dX12_readBoth_17 rfl ?_
        refine v_bipush 16 dX12_readBoth_18 (by decide) ?_
        refine v_scVv [_] (c12_laysStep G M0 M3 hS hM3 (nI 16) g2.lay) k12_laysStep dX12_readBoth_20 l12_144 (by first | exact hS'.1 _ _ rfl | assumption) (by decide) rfl (by omega) (Nat.le_of_ble_eq_true rfl) ?_
        intro M4 hM4
        refine v_goto 4 dX12_readBoth_23 (by decide) ?_
        exact ih _ M4 (by omega) g3.1.1 hM4
      · rw [if_neg hc]
        refine v_aload_n dX12_readBoth_4 rfl ?_
        refine v_ldcS (k := 10) (tx := "and") dX12_readBoth_5 rfl (List.mem_of_getElem? (i := 12) rfl) (by decide) ?_
        refine v_cV [_] (c12_tookF G M0 M hS hT h (t := 10) (by decide) hc) k12_took dX12_readBoth_7 l12_125 (by first | exact hS'.1 _ _ rfl | assumption) (by decide) rfl (by omega) (Nat.le_of_ble_eq_true rfl) ?_
        refine v_if_eq 26 dX12_readBoth_10 (by decide) (fun h10 => ?_) (fun h10 => absurd rfl h10)
        refine v_vret dX12_readBoth_26 rfl ?_
        exact ⟨rfl, h⟩
  intro R M h hI
  have hS' := hS.sm h.1
  refine Ct.of k12_readBoth.1 (Nat.le_of_ble_eq_true rfl) ?_
  refine v_aload_n dX12_readBoth_0 rfl ?_
  refine v_scVv [] (ha R M h hI) k12_readUnit dX12_readBoth_1 l12_147 (by first | exact hS'.1 _ _ rfl | assumption) (by decide) rfl (by omega) (Nat.le_of_ble_eq_true rfl) ?_
  intro M2 hM2
  exact loop (Z.2 + 1) _ M2 (by omega) (hg R hI).1.1 hM2
theorem c12_truth {Z : (Nat → Nat) × Nat} {d D0 : Nat} {u : RSt → RSt} (hS : Sh M0) (hT : Tp M0 Z) (hD : 5 ≤ D0) (hg : gok Z u) (ha : ∀ R M, PS M0 Z d R M → IV Z R → Ct G Y12_readUnit D0 0 0 [.ref 230] M (Rs none (PS M0 Z d (u R))) NX) : ∀ R M, PS M0 Z d R M → IV Z R → Ct G Y12_readTruth (D0 + 2) 0 0 [.ref 230] M (Rs none (PS M0 Z d (tru Z u R))) NX := by
  have hb := c12_both G M0 hS hT hD hg ha
  have hgb := bth_ok hg
  have loop : ∀ n R M, Z.2 + 1 ≤ R.2.2.1 + n → IV Z R → PS M0 Z d R M → V G Y12_readTruth (D0 + 2) 0 0 (Rs none (PS M0 Z d (itr (fun R => decide (rIs Z 9 R)) (fun R => rly (nI 17) (bth Z u (rnx R))) 901 R))) NX 4 [some (.ref 230)] [] M := by
    intro n
    induction n with
    | zero => intro R M hn hI h; have := hI.2.1; omega
    | succ n ih =>
      intro R M hn hI h
      have hS' := hS.sm h.1
      rw [tru_un hg hI]
      by_cases hc : rIs Z 9 R
      · rw [if_pos hc]
        have hk : kd Z R.2.2.1 ≠ 32 := by have := hc.2; omega
        have g1 := (gs.nx hI hk).1
        have g2 := (hgb _ g1).1.1
        have g3 := op_ok hgb hI hk (nI 17)
        refine v_aload_n dX12_readTruth_4 rfl ?_
        refine v_ldcS (k := 9) (tx := "or") dX12_readTruth_5 rfl (List.mem_of_getElem? (i := 13) rfl) (by decide) ?_
        refine v_scV [_] (c12_tookT G M0 M hS hT h (t := 9) (by decide) hc) k12_took dX12_readTruth_7 l12_125 (by first | exact hS'.1 _ _ rfl | assumption) (by decide) rfl (by omega) (Nat.le_of_ble_eq_true rfl) ?_
        intro M2 hM2; have hS' := hS.sm hM2.1
        refine v_if_eq 26 dX12_readTruth_10 (by decide) (fun h10 => absurd h10 (by decide)) (fun h10 => ?_)
        refine v_aload_n dX12_readTruth_13 rfl ?_
        refine v_scVv [] (hb _ M2 hM2 g1) k12_readBoth dX12_readTruth_14 l12_139 (by first | exact hS'.1 _ _ rfl | assumption) (by decide) rfl (by omega) (Nat.le_of_ble_eq_true rfl) ?_
        intro M3 hM3; have hS' := hS.sm hM3.1
        refine v_aload_n dX12_readTruth_17 rfl ?_
        refine v_bipush 17 dX12_readTruth_18 (by decide) ?_
        refine v_scVv [_] (c12_laysStep G M0 M3 hS hM3 (nI 17) g2.lay) k12_laysStep dX12_readTruth_20 l12_144 (by first | exact hS'.1 _ _ rfl | assumption) (by decide) rfl (by omega) (Nat.le_of_ble_eq_true rfl) ?_
        intro M4 hM4
        refine v_goto 4 dX12_readTruth_23 (by decide) ?_
        exact ih _ M4 (by omega) g3.1.1 hM4
      · rw [if_neg hc]
        refine v_aload_n dX12_readTruth_4 rfl ?_
        refine v_ldcS (k := 9) (tx := "or") dX12_readTruth_5 rfl (List.mem_of_getElem? (i := 13) rfl) (by decide) ?_
        refine v_cV [_] (c12_tookF G M0 M hS hT h (t := 9) (by decide) hc) k12_took dX12_readTruth_7 l12_125 (by first | exact hS'.1 _ _ rfl | assumption) (by decide) rfl (by omega) (Nat.le_of_ble_eq_true rfl) ?_
        refine v_if_eq 26 dX12_readTruth_10 (by decide) (fun h10 => ?_) (fun h10 => absurd rfl h10)
        refine v_vret dX12_readTruth_26 rfl ?_
        exact ⟨rfl, h⟩
  intro R M h hI
  have hS' := hS.sm h.1
  refine Ct.of k12_readTruth.1 (Nat.le_of_ble_eq_true rfl) ?_
  refine v_aload_n dX12_readTruth_0 rfl ?_
  refine v_scVv [] (hb R M h hI) k12_readBoth dX12_readTruth_1 l12_139 (by first | exact hS'.1 _ _ rfl | assumption) (by decide) rfl (by omega) (Nat.le_of_ble_eq_true rfl) ?_
  intro M2 hM2
  exact loop (Z.2 + 1) _ M2 (by omega) (hgb R hI).1.1 hM2
/-- a unit, by what stands behind not, within [ ] -/
theorem c12_unG {Z : (Nat → Nat) × Nat} {d D0 : Nat} {s nt br : RSt → RSt} (hS : Sh M0) (hT : Tp M0 Z) (hD : 7 ≤ D0) (hg : gok Z s) (hs : ∀ R M, PS M0 Z d R M → IV Z R → Ct G Y12_readSum D0 0 0 [.ref 230] M (Rs none (PS M0 Z d (s R))) NX)
    (hn : ∀ R M, PS M0 Z d R M → IV Z R → rIs Z 11 R → V G Y12_readUnit (D0 + 1) 0 0 (Rs none (PS M0 Z d (nt R))) NX 17 [some (.ref 230)] [] M) (hr : ∀ R M, PS M0 Z d R M → IV Z R → rIs Z 24 R → V G Y12_readUnit (D0 + 1) 0 0 (Rs none (PS M0 Z d (br R))) NX 53 [some (.ref 230)] [] M) : ∀ R M, PS M0 Z d R M → IV Z R → Ct G Y12_readUnit (D0 + 1) 0 0 [.ref 230] M (Rs none (PS M0 Z d (uns Z s nt br R))) NX := by
  intro R M h hI
  have hS' := hS.sm h.1
  unfold uns
  by_cases h0 : R.1 = 0
  · rw [if_neg (Decidable.not_not.mpr h0)]
    by_cases k11 : kd Z R.2.2.1 = 11
    · rw [if_pos k11]
      refine Ct.of k12_readUnit.1 (Nat.le_of_ble_eq_true rfl) ?_
      have hw := c12_isWord G M0 M hS hT h (t := 11) (by decide)
      rw [bI_t (⟨h0, k11⟩ : rIs Z 11 R)] at hw
      refine v_aload_n dX12_readUnit_0 rfl ?_
      refine v_getI 12 12 dX12_readUnit_1 f12_103 (by first | exact hS'.1 _ _ rfl | assumption) (by decide) ?_
      rw [h.bad.1 h0]
      refine v_if_eq 8 dX12_readUnit_4 (by decide) (fun h4 => ?_) (fun h4 => absurd rfl h4)
      refine v_aload_n dX12_readUnit_8 rfl ?_
      refine v_ldcS (k := 11) (tx := "not") dX12_readUnit_9 rfl (List.mem_of_getElem? (i := 6) rfl) (by decide) ?_
      refine v_cV [_] (hw) k12_isWord dX12_readUnit_11 l12_118 (by first | exact hS'.1 _ _ rfl | assumption) (by decide) rfl (by omega) (Nat.le_of_ble_eq_true rfl) ?_
      refine v_if_eq 44 dX12_readUnit_14 (by decide) (fun h14 => absurd h14 (by decide)) (fun h14 => ?_)
      exact hn R M h hI ⟨h0, k11⟩
    · rw [if_neg k11]
      have hw := c12_isWord G M0 M hS hT h (t := 11) (by decide)
      rw [bI_f (fun z => k11 z.2)] at hw
      by_cases k24 : kd Z R.2.2.1 = 24
      · rw [if_pos k24]
        refine Ct.of k12_readUnit.1 (Nat.le_of_ble_eq_true rfl) ?_
        refine v_aload_n dX12_readUnit_0 rfl ?_
        refine v_getI 12 12 dX12_readUnit_1 f12_103 (by first | exact hS'.1 _ _ rfl | assumption) (by decide) ?_
        rw [h.bad.1 h0]
        refine v_if_eq 8 dX12_readUnit_4 (by decide) (fun h4 => ?_) (fun h4 => absurd rfl h4)
        refine v_aload_n dX12_readUnit_8 rfl ?_
        refine v_ldcS (k := 11) (tx := "not") dX12_readUnit_9 rfl (List.mem_of_getElem? (i := 6) rfl) (by decide) ?_
        refine v_cV [_] (hw) k12_isWord dX12_readUnit_11 l12_118 (by first | exact hS'.1 _ _ rfl | assumption) (by decide) rfl (by omega) (Nat.le_of_ble_eq_true rfl) ?_
        refine v_if_eq 44 dX12_readUnit_14 (by decide) (fun h14 => ?_) (fun h14 => absurd rfl h14)
        refine v_aload_n dX12_readUnit_44 rfl ?_
        refine v_bipush 91 dX12_readUnit_45 (by decide) ?_
        refine v_cV [_] (c12_sgT G M0 M hS h (k := 24) (by decide) (by decide) ⟨h0, k24⟩) k12_isSign dX12_readUnit_47 l12_157 (by first | exact hS'.1 _ _ rfl | assumption) (by decide) rfl (by omega) (Nat.le_of_ble_eq_true rfl) ?_
        refine v_if_eq 80 dX12_readUnit_50 (by decide) (fun h50 => absurd h50 (by decide)) (fun h50 => ?_)
        exact hr R M h hI ⟨h0, k24⟩
      · rw [if_neg k24]
        have gS := (hg R hI).1.1
        have hsR := hs R M h hI
        generalize s R = S at gS hsR ⊢
        have hkl := kd_le Z S.2.2.1
        have hcn := rc_sn (kd Z S.2.2.1) (by omega)
        have r26 := rc_eq 26 (by decide) (by decide) (kd Z S.2.2.1) (by omega)
        have r27 := rc_eq 27 (by decide) (by decide) (kd Z S.2.2.1) (by omega)
        have r28 := rc_eq 28 (by decide) (by decide) (kd Z S.2.2.1) (by omega)
        rw [show rc 26 = 61 by decide] at r26
        rw [show rc 27 = 60 by decide] at r27
        rw [show rc 28 = 62 by decide] at r28
        have t123 : ∀ S3 M3, PS M0 Z d S3 M3 → IV Z S3 → V G Y12_readUnit (D0 + 1) 0 0 (Rs none (PS M0 Z d (rly (cmpV Z S) (s S3)))) NX 123 [some (.ref 230), some (.int (nI (rc (kd Z S.2.2.1))))] [] M3 := by
          intro S3 M3 h3 hI3
          have hS' := hS.sm h3.1
          have g3 := (hg S3 hI3).1.1
          unfold cmpV
          by_cases q26 : kd Z S.2.2.1 = 26
          · rw [if_pos q26]
            refine v_aload_n dX12_readUnit_123 rfl ?_
            refine v_scVv [] (hs S3 M3 h3 hI3) k12_readSum dX12_readUnit_124 l12_166 (by first | exact hS'.1 _ _ rfl | assumption) (by decide) rfl (by omega) (Nat.le_of_ble_eq_true rfl) ?_
            intro M4 hM4; have hS' := hS.sm hM4.1
            refine v_aload_n dX12_readUnit_127 rfl ?_
            refine v_iload_n dX12_readUnit_128 rfl ?_
            refine v_bipush 61 dX12_readUnit_129 (by decide) ?_
            rw [r26.mpr q26]
            refine v_icmp_ne 139 dX12_readUnit_131 (by decide) (fun h131 => absurd rfl h131) (fun h131 => ?_)
            refine v_bipush 13 dX12_readUnit_134 (by decide) ?_
            refine v_goto 152 dX12_readUnit_136 (by decide) ?_
            refine v_scVv [_] (c12_laysStep G M0 M4 hS hM4 (nI 13) g3.lay) k12_laysStep dX12_readUnit_152 l12_144 (by first | exact hS'.1 _ _ rfl | assumption) (by decide) rfl (by omega) (Nat.le_of_ble_eq_true rfl) ?_
            intro M5 hM5
            refine v_vret dX12_readUnit_155 rfl ?_
            exact ⟨rfl, hM5⟩
          · rw [if_neg q26]
            by_cases q27 : kd Z S.2.2.1 = 27
            · rw [if_pos q27]
              refine v_aload_n dX12_readUnit_123 rfl ?_
              refine v_scVv [] (hs S3 M3 h3 hI3) k12_readSum dX12_readUnit_124 l12_166 (by first | exact hS'.1 _ _ rfl | assumption) (by decide) rfl (by omega) (Nat.le_of_ble_eq_true rfl) ?_
              intro M4 hM4; have hS' := hS.sm hM4.1
              refine v_aload_n dX12_readUnit_127 rfl ?_
              refine v_iload_n dX12_readUnit_128 rfl ?_
              refine v_bipush 61 dX12_readUnit_129 (by decide) ?_
              rw [r27.mpr q27]
              refine v_icmp_ne 139 dX12_readUnit_131 (by decide) (fun h131 => ?_) (fun h131 => absurd (show ¬ nI 60 = 61 by decide) h131)
              refine v_iload_n dX12_readUnit_139 rfl ?_
              refine v_bipush 60 dX12_readUnit_140 (by decide) ?_
              refine v_icmp_ne 150 dX12_readUnit_142 (by decide) (fun h142 => absurd rfl h142) (fun h142 => ?_)
              refine v_bipush 14 dX12_readUnit_145 (by decide) ?_
              refine v_goto 152 dX12_readUnit_147 (by decide) ?_
              refine v_scVv [_] (c12_laysStep G M0 M4 hS hM4 (nI 14) g3.lay) k12_laysStep dX12_readUnit_152 l12_144 (by first | exact hS'.1 _ _ rfl | assumption) (by decide) rfl (by omega) (Nat.le_of_ble_eq_true rfl) ?_
              intro M5 hM5
              refine v_vret dX12_readUnit_155 rfl ?_
              exact ⟨rfl, hM5⟩
            · rw [if_neg q27]
              refine v_aload_n dX12_readUnit_123 rfl ?_
              refine v_scVv [] (hs S3 M3 h3 hI3) k12_readSum dX12_readUnit_124 l12_166 (by first | exact hS'.1 _ _ rfl | assumption) (by decide) rfl (by omega) (Nat.le_of_ble_eq_true rfl) ?_
              intro M4 hM4; have hS' := hS.sm hM4.1
              refine v_aload_n dX12_readUnit_127 rfl ?_
              refine v_iload_n dX12_readUnit_128 rfl ?_
              refine v_bipush 61 dX12_readUnit_129 (by decide) ?_
              refine v_icmp_ne 139 dX12_readUnit_131 (by decide) (fun h131 => ?_) (fun h131 => absurd (fun z => q26 (r26.mp ((nI_eq (b := 61) (by omega) (by omega)).mp z))) h131)
              refine v_iload_n dX12_readUnit_139 rfl ?_
              refine v_bipush 60 dX12_readUnit_140 (by decide) ?_
              refine v_icmp_ne 150 dX12_readUnit_142 (by decide) (fun h142 => ?_) (fun h142 => absurd (fun z => q27 (r27.mp ((nI_eq (b := 60) (by omega) (by omega)).mp z))) h142)
              refine v_bipush 15 dX12_readUnit_150 (by decide) ?_
              refine v_scVv [_] (c12_laysStep G M0 M4 hS hM4 (nI 15) g3.lay) k12_laysStep dX12_readUnit_152 l12_144 (by first | exact hS'.1 _ _ rfl | assumption) (by decide) rfl (by omega) (Nat.le_of_ble_eq_true rfl) ?_
              intro M5 hM5
              refine v_vret dX12_readUnit_155 rfl ?_
              exact ⟨rfl, hM5⟩
        have t112 : ∀ S2 M2, PS M0 Z d S2 M2 → IV Z (rgo S2) → V G Y12_readUnit (D0 + 1) 0 0 (Rs none (PS M0 Z d (rly (cmpV Z S) (s (rgo S2))))) NX 112 [some (.ref 230), some (.int (nI (rc (kd Z S.2.2.1))))] [] M2 := by
          intro S2 M2 h2 hI2
          have hS' := hS.sm h2.1
          by_cases hb : S2.1 = 0
          · rw [rgo_z hb] at hI2 ⊢
            refine v_aload_n dX12_readUnit_112 rfl ?_
            refine v_getI 12 12 dX12_readUnit_113 f12_103 (by first | exact hS'.1 _ _ rfl | assumption) (by decide) ?_
            rw [h2.bad.1 hb]
            refine v_if_ne 123 dX12_readUnit_116 (by decide) (fun h116 => absurd rfl h116) (fun h116 => ?_)
            refine v_aload_n dX12_readUnit_119 rfl ?_
            refine v_scVv [] (c12_ron G M0 M2 hS hT h2) k12_readsOn dX12_readUnit_120 l12_122 (by first | exact hS'.1 _ _ rfl | assumption) (by decide) rfl (by omega) (Nat.le_of_ble_eq_true rfl) ?_
            intro M3 hM3
            exact t123 _ M3 hM3 hI2
          · rw [rgo_b hb] at hI2 ⊢
            refine v_aload_n dX12_readUnit_112 rfl ?_
            refine v_getI 12 12 dX12_readUnit_113 f12_103 (by first | exact hS'.1 _ _ rfl | assumption) (by decide) ?_
            refine v_if_ne 123 dX12_readUnit_116 (by decide) (fun h116 => ?_) (fun h116 => absurd (h2.bad.2 hb) h116)
            exact t123 _ M2 h2 hI2
        have gc := (cmpS_ok gS).1.1
        unfold cmpS at gc ⊢
        refine Ct.of k12_readUnit.1 (Nat.le_of_ble_eq_true rfl) ?_
        by_cases q26 : kd Z S.2.2.1 = 26
        · rw [if_pos (Or.inl q26)] at gc ⊢
          have t112' := t112 S
          refine v_aload_n dX12_readUnit_0 rfl ?_
          refine v_getI 12 12 dX12_readUnit_1 f12_103 (by first | exact hS'.1 _ _ rfl | assumption) (by decide) ?_
          rw [h.bad.1 h0]
          refine v_if_eq 8 dX12_readUnit_4 (by decide) (fun h4 => ?_) (fun h4 => absurd rfl h4)
          refine v_aload_n dX12_readUnit_8 rfl ?_
          refine v_ldcS (k := 11) (tx := "not") dX12_readUnit_9 rfl (List.mem_of_getElem? (i := 6) rfl) (by decide) ?_
          refine v_cV [_] (hw) k12_isWord dX12_readUnit_11 l12_118 (by first | exact hS'.1 _ _ rfl | assumption) (by decide) rfl (by omega) (Nat.le_of_ble_eq_true rfl) ?_
          refine v_if_eq 44 dX12_readUnit_14 (by decide) (fun h14 => ?_) (fun h14 => absurd rfl h14)
          refine v_aload_n dX12_readUnit_44 rfl ?_
          refine v_bipush 91 dX12_readUnit_45 (by decide) ?_
          refine v_cV [_] (c12_sgF G M0 M hS h (k := 24) (by decide) (by decide) (fun z => k24 z.2)) k12_isSign dX12_readUnit_47 l12_157 (by first | exact hS'.1 _ _ rfl | assumption) (by decide) rfl (by omega) (Nat.le_of_ble_eq_true rfl) ?_
          refine v_if_eq 80 dX12_readUnit_50 (by decide) (fun h50 => ?_) (fun h50 => absurd rfl h50)
          refine v_aload_n dX12_readUnit_80 rfl ?_
          refine v_scVv [] (hsR) k12_readSum dX12_readUnit_81 l12_166 (by first | exact hS'.1 _ _ rfl | assumption) (by decide) rfl (by omega) (Nat.le_of_ble_eq_true rfl) ?_
          intro M2 hM2; have hS' := hS.sm hM2.1; obtain ⟨h1, h2, h3, hp4, h5, h6, h7, h8, h9⟩ := id hM2
          refine v_aload_n dX12_readUnit_84 rfl ?_
          refine v_getI 12 10 dX12_readUnit_85 f12_83 (by first | exact hS'.1 _ _ rfl | assumption) (by decide) ?_
          rw [h8]
          refine v_istore_n dX12_readUnit_88 rfl (by decide) ?_
          refine v_iload_n dX12_readUnit_89 rfl ?_
          refine v_bipush 61 dX12_readUnit_90 (by decide) ?_
          rw [r26.mpr q26]
          refine v_icmp_eq 112 dX12_readUnit_92 (by decide) (fun h92 => ?_) (fun h92 => absurd rfl h92)
          rw [← r26.mpr q26]; exact t112' M2 hM2 gc
        · by_cases q27 : kd Z S.2.2.1 = 27
          · rw [if_pos (Or.inr (Or.inl q27))] at gc ⊢
            have t112' := t112 S
            refine v_aload_n dX12_readUnit_0 rfl ?_
            refine v_getI 12 12 dX12_readUnit_1 f12_103 (by first | exact hS'.1 _ _ rfl | assumption) (by decide) ?_
            rw [h.bad.1 h0]
            refine v_if_eq 8 dX12_readUnit_4 (by decide) (fun h4 => ?_) (fun h4 => absurd rfl h4)
            refine v_aload_n dX12_readUnit_8 rfl ?_
            refine v_ldcS (k := 11) (tx := "not") dX12_readUnit_9 rfl (List.mem_of_getElem? (i := 6) rfl) (by decide) ?_
            refine v_cV [_] (hw) k12_isWord dX12_readUnit_11 l12_118 (by first | exact hS'.1 _ _ rfl | assumption) (by decide) rfl (by omega) (Nat.le_of_ble_eq_true rfl) ?_
            refine v_if_eq 44 dX12_readUnit_14 (by decide) (fun h14 => ?_) (fun h14 => absurd rfl h14)
            refine v_aload_n dX12_readUnit_44 rfl ?_
            refine v_bipush 91 dX12_readUnit_45 (by decide) ?_
            refine v_cV [_] (c12_sgF G M0 M hS h (k := 24) (by decide) (by decide) (fun z => k24 z.2)) k12_isSign dX12_readUnit_47 l12_157 (by first | exact hS'.1 _ _ rfl | assumption) (by decide) rfl (by omega) (Nat.le_of_ble_eq_true rfl) ?_
            refine v_if_eq 80 dX12_readUnit_50 (by decide) (fun h50 => ?_) (fun h50 => absurd rfl h50)
            refine v_aload_n dX12_readUnit_80 rfl ?_
            refine v_scVv [] (hsR) k12_readSum dX12_readUnit_81 l12_166 (by first | exact hS'.1 _ _ rfl | assumption) (by decide) rfl (by omega) (Nat.le_of_ble_eq_true rfl) ?_
            intro M2 hM2; have hS' := hS.sm hM2.1; obtain ⟨h1, h2, h3, hp4, h5, h6, h7, h8, h9⟩ := id hM2
            refine v_aload_n dX12_readUnit_84 rfl ?_
            refine v_getI 12 10 dX12_readUnit_85 f12_83 (by first | exact hS'.1 _ _ rfl | assumption) (by decide) ?_
            rw [h8]
            refine v_istore_n dX12_readUnit_88 rfl (by decide) ?_
            refine v_iload_n dX12_readUnit_89 rfl ?_
            refine v_bipush 61 dX12_readUnit_90 (by decide) ?_
            refine v_icmp_eq 112 dX12_readUnit_92 (by decide) (fun h92 => absurd (r26.mp ((nI_eq (b := 61) (by omega) (by omega)).mp h92)) q26) (fun h92 => ?_)
            refine v_iload_n dX12_readUnit_95 rfl ?_
            refine v_bipush 60 dX12_readUnit_96 (by decide) ?_
            rw [r27.mpr q27]
            refine v_icmp_eq 112 dX12_readUnit_98 (by decide) (fun h98 => ?_) (fun h98 => absurd rfl h98)
            rw [← r27.mpr q27]; exact t112' M2 hM2 gc
          · by_cases q28 : kd Z S.2.2.1 = 28
            · rw [if_pos (Or.inr (Or.inr q28))] at gc ⊢
              have t112' := t112 S
              refine v_aload_n dX12_readUnit_0 rfl ?_
              refine v_getI 12 12 dX12_readUnit_1 f12_103 (by first | exact hS'.1 _ _ rfl | assumption) (by decide) ?_
              rw [h.bad.1 h0]
              refine v_if_eq 8 dX12_readUnit_4 (by decide) (fun h4 => ?_) (fun h4 => absurd rfl h4)
              refine v_aload_n dX12_readUnit_8 rfl ?_
              refine v_ldcS (k := 11) (tx := "not") dX12_readUnit_9 rfl (List.mem_of_getElem? (i := 6) rfl) (by decide) ?_
              refine v_cV [_] (hw) k12_isWord dX12_readUnit_11 l12_118 (by first | exact hS'.1 _ _ rfl | assumption) (by decide) rfl (by omega) (Nat.le_of_ble_eq_true rfl) ?_
              refine v_if_eq 44 dX12_readUnit_14 (by decide) (fun h14 => ?_) (fun h14 => absurd rfl h14)
              refine v_aload_n dX12_readUnit_44 rfl ?_
              refine v_bipush 91 dX12_readUnit_45 (by decide) ?_
              refine v_cV [_] (c12_sgF G M0 M hS h (k := 24) (by decide) (by decide) (fun z => k24 z.2)) k12_isSign dX12_readUnit_47 l12_157 (by first | exact hS'.1 _ _ rfl | assumption) (by decide) rfl (by omega) (Nat.le_of_ble_eq_true rfl) ?_
              refine v_if_eq 80 dX12_readUnit_50 (by decide) (fun h50 => ?_) (fun h50 => absurd rfl h50)
              refine v_aload_n dX12_readUnit_80 rfl ?_
              refine v_scVv [] (hsR) k12_readSum dX12_readUnit_81 l12_166 (by first | exact hS'.1 _ _ rfl | assumption) (by decide) rfl (by omega) (Nat.le_of_ble_eq_true rfl) ?_
              intro M2 hM2; have hS' := hS.sm hM2.1; obtain ⟨h1, h2, h3, hp4, h5, h6, h7, h8, h9⟩ := id hM2
              refine v_aload_n dX12_readUnit_84 rfl ?_
              refine v_getI 12 10 dX12_readUnit_85 f12_83 (by first | exact hS'.1 _ _ rfl | assumption) (by decide) ?_
              rw [h8]
              refine v_istore_n dX12_readUnit_88 rfl (by decide) ?_
              refine v_iload_n dX12_readUnit_89 rfl ?_
              refine v_bipush 61 dX12_readUnit_90 (by decide) ?_
              refine v_icmp_eq 112 dX12_readUnit_92 (by decide) (fun h92 => absurd (r26.mp ((nI_eq (b := 61) (by omega) (by omega)).mp h92)) q26) (fun h92 => ?_)
              refine v_iload_n dX12_readUnit_95 rfl ?_
              refine v_bipush 60 dX12_readUnit_96 (by decide) ?_
              refine v_icmp_eq 112 dX12_readUnit_98 (by decide) (fun h98 => absurd (r27.mp ((nI_eq (b := 60) (by omega) (by omega)).mp h98)) q27) (fun h98 => ?_)
              refine v_iload_n dX12_readUnit_101 rfl ?_
              refine v_bipush 62 dX12_readUnit_102 (by decide) ?_
              rw [r28.mpr q28]
              refine v_icmp_eq 112 dX12_readUnit_104 (by decide) (fun h104 => ?_) (fun h104 => absurd rfl h104)
              rw [← r28.mpr q28]; exact t112' M2 hM2 gc
            · have hno : ¬ (kd Z S.2.2.1 = 26 ∨ kd Z S.2.2.1 = 27 ∨ kd Z S.2.2.1 = 28) := by omega
              rw [if_neg hno] at gc ⊢
              have t112' := t112 (rbl Z 2 S)
              refine v_aload_n dX12_readUnit_0 rfl ?_
              refine v_getI 12 12 dX12_readUnit_1 f12_103 (by first | exact hS'.1 _ _ rfl | assumption) (by decide) ?_
              rw [h.bad.1 h0]
              refine v_if_eq 8 dX12_readUnit_4 (by decide) (fun h4 => ?_) (fun h4 => absurd rfl h4)
              refine v_aload_n dX12_readUnit_8 rfl ?_
              refine v_ldcS (k := 11) (tx := "not") dX12_readUnit_9 rfl (List.mem_of_getElem? (i := 6) rfl) (by decide) ?_
              refine v_cV [_] (hw) k12_isWord dX12_readUnit_11 l12_118 (by first | exact hS'.1 _ _ rfl | assumption) (by decide) rfl (by omega) (Nat.le_of_ble_eq_true rfl) ?_
              refine v_if_eq 44 dX12_readUnit_14 (by decide) (fun h14 => ?_) (fun h14 => absurd rfl h14)
              refine v_aload_n dX12_readUnit_44 rfl ?_
              refine v_bipush 91 dX12_readUnit_45 (by decide) ?_
              refine v_cV [_] (c12_sgF G M0 M hS h (k := 24) (by decide) (by decide) (fun z => k24 z.2)) k12_isSign dX12_readUnit_47 l12_157 (by first | exact hS'.1 _ _ rfl | assumption) (by decide) rfl (by omega) (Nat.le_of_ble_eq_true rfl) ?_
              refine v_if_eq 80 dX12_readUnit_50 (by decide) (fun h50 => ?_) (fun h50 => absurd rfl h50)
              refine v_aload_n dX12_readUnit_80 rfl ?_
              refine v_scVv [] (hsR) k12_readSum dX12_readUnit_81 l12_166 (by first | exact hS'.1 _ _ rfl | assumption) (by decide) rfl (by omega) (Nat.le_of_ble_eq_true rfl) ?_
              intro M2 hM2; have hS' := hS.sm hM2.1; obtain ⟨h1, h2, h3, hp4, h5, h6, h7, h8, h9⟩ := id hM2
              refine v_aload_n dX12_readUnit_84 rfl ?_
              refine v_getI 12 10 dX12_readUnit_85 f12_83 (by first | exact hS'.1 _ _ rfl | assumption) (by decide) ?_
              rw [h8]
              refine v_istore_n dX12_readUnit_88 rfl (by decide) ?_
              refine v_iload_n dX12_readUnit_89 rfl ?_
              refine v_bipush 61 dX12_readUnit_90 (by decide) ?_
              refine v_icmp_eq 112 dX12_readUnit_92 (by decide) (fun h92 => absurd (r26.mp ((nI_eq (b := 61) (by omega) (by omega)).mp h92)) q26) (fun h92 => ?_)
              refine v_iload_n dX12_readUnit_95 rfl ?_
              refine v_bipush 60 dX12_readUnit_96 (by decide) ?_
              refine v_icmp_eq 112 dX12_readUnit_98 (by decide) (fun h98 => absurd (r27.mp ((nI_eq (b := 60) (by omega) (by omega)).mp h98)) q27) (fun h98 => ?_)
              refine v_iload_n dX12_readUnit_101 rfl ?_
              refine v_bipush 62 dX12_readUnit_102 (by decide) ?_
              refine v_icmp_eq 112 dX12_readUnit_104 (by decide) (fun h104 => absurd (r28.mp ((nI_eq (b := 62) (by omega) (by omega)).mp h104)) q28) (fun h104 => ?_)
              refine v_aload_n dX12_readUnit_107 rfl ?_
              refine v_iconst 2 dX12_readUnit_108 (by decide) ?_
              refine v_scVv [_] (c12_blames G M0 M2 hS hM2 (k := 2) rfl (by omega)) k12_blames dX12_readUnit_109 l12_128 (by first | exact hS'.1 _ _ rfl | assumption) (by decide) rfl (by omega) (Nat.le_of_ble_eq_true rfl) ?_
              intro M3 hM3
              exact t112' M3 hM3 gc
  · rw [if_pos h0]
    exact (c12_unB G M0 M hS h h0).post (fun _ _ q => ⟨q.1, by rw [q.2]; exact h⟩) (fun _ _ z => z)
theorem c12_unt {Z : (Nat → Nat) × Nat} (hS : Sh M0) (hT : Tp M0 Z) : ∀ L d, d + L = 6 → ∀ R M, PS M0 Z d R M → IV Z R → Ct G Y12_readUnit (10 + 3 * L) 0 0 [.ref 230] M (Rs none (PS M0 Z d (unt Z L R))) NX := by
  intro L
  induction L with
  | zero =>
    intro d hd
    have hd6 : d = 6 := by omega
    refine c12_unG G M0 (D0 := 9) (nt := rbl Z 4) (br := rbl Z 4) hS hT (by omega) (sms_ok (atm_ok Z 0)) (c12_sumL G M0 (L := 0) hS hT hd) (fun R M h hI hk => ?_) (fun R M h hI hk => ?_)
    · have hS' := hS.sm h.1
      have hgo := c12_goesIn G M0 M hS hT h (by omega)
      rw [if_pos hd6, rgo_b (rbl_p (by omega) R)] at hgo
      have hb := rbl_p (Z := Z) (k := 4) (by omega) R
      refine v_aload_n dX12_readUnit_17 rfl ?_
      refine v_scVv [] (hgo) k12_goesIn dX12_readUnit_18 l12_154 (by first | exact hS'.1 _ _ rfl | assumption) (by decide) rfl (by omega) (Nat.le_of_ble_eq_true rfl) ?_
      intro M2 hM2; have hS' := hS.sm hM2.1
      refine v_aload_n dX12_readUnit_21 rfl ?_
      refine v_cVv [] (c12_unB (D0 := 0) G M0 M2 hS hM2 hb) k12_readUnit dX12_readUnit_22 l12_147 (by first | exact hS'.1 _ _ rfl | assumption) (by decide) rfl (by omega) (Nat.le_of_ble_eq_true rfl) ?_
      refine v_aload_n dX12_readUnit_25 rfl ?_
      refine v_bipush 18 dX12_readUnit_26 (by decide) ?_
      refine v_scVv [_] (c12_laysStep G M0 M2 hS hM2 18 (fun z => absurd z hb)) k12_laysStep dX12_readUnit_28 l12_144 (by first | exact hS'.1 _ _ rfl | assumption) (by decide) rfl (by omega) (Nat.le_of_ble_eq_true rfl) ?_
      intro M3 hM3; rw [rly, if_neg hb] at hM3; have hS' := hS.sm hM3.1
      refine v_aload_n dX12_readUnit_31 rfl ?_
      refine v_dup dX12_readUnit_32 rfl ?_
      refine v_getI 12 16 dX12_readUnit_33 f12_136 (by first | exact hS'.1 _ _ rfl | assumption) (by decide) ?_
      rw [hM3.dp.1]
      refine v_iconst 1 dX12_readUnit_36 (by decide) ?_
      refine v_isub dX12_readUnit_37 ?_
      rw [hM3.dp.2.1]
      refine v_putI 12 16 dX12_readUnit_38 f12_136 (by first | exact hS'.1 _ _ rfl | assumption) (by decide) ?_
      refine v_goto 155 dX12_readUnit_41 (by decide) ?_
      refine v_vret dX12_readUnit_155 rfl ?_
      exact ⟨rfl, hM3.dp.2.2⟩
    · have hS' := hS.sm h.1
      have hgo := c12_goesIn G M0 M hS hT h (by omega)
      rw [if_pos hd6, rgo_b (rbl_p (by omega) R)] at hgo
      have hb := rbl_p (Z := Z) (k := 4) (by omega) R
      refine v_aload_n dX12_readUnit_53 rfl ?_
      refine v_scVv [] (hgo) k12_goesIn dX12_readUnit_54 l12_154 (by first | exact hS'.1 _ _ rfl | assumption) (by decide) rfl (by omega) (Nat.le_of_ble_eq_true rfl) ?_
      intro M2 hM2; have hS' := hS.sm hM2.1
      refine v_aload_n dX12_readUnit_57 rfl ?_
      refine v_cVv [] (c12_trB (D0 := 0) G M0 M2 hS hT hM2 hb) k12_readTruth dX12_readUnit_58 l12_160 (by first | exact hS'.1 _ _ rfl | assumption) (by decide) rfl (by omega) (Nat.le_of_ble_eq_true rfl) ?_
      refine v_aload_n dX12_readUnit_61 rfl ?_
      refine v_bipush 93 dX12_readUnit_62 (by decide) ?_
      refine v_scVv [_] (c12_mustSign G M0 M2 hS hT hM2 (k := 25) (by decide) (by decide)) k12_mustSign dX12_readUnit_64 l12_163 (by first | exact hS'.1 _ _ rfl | assumption) (by decide) rfl (by omega) (Nat.le_of_ble_eq_true rfl) ?_
      intro M3 hM3; rw [rmu_b hb] at hM3; have hS' := hS.sm hM3.1
      refine v_aload_n dX12_readUnit_67 rfl ?_
      refine v_dup dX12_readUnit_68 rfl ?_
      refine v_getI 12 16 dX12_readUnit_69 f12_136 (by first | exact hS'.1 _ _ rfl | assumption) (by decide) ?_
      rw [hM3.dp.1]
      refine v_iconst 1 dX12_readUnit_72 (by decide) ?_
      refine v_isub dX12_readUnit_73 ?_
      rw [hM3.dp.2.1]
      refine v_putI 12 16 dX12_readUnit_74 f12_136 (by first | exact hS'.1 _ _ rfl | assumption) (by decide) ?_
      refine v_goto 155 dX12_readUnit_77 (by decide) ?_
      refine v_vret dX12_readUnit_155 rfl ?_
      exact ⟨rfl, hM3.dp.2.2⟩
  | succ L ih =>
    intro d hd
    have e : 10 + 3 * (L + 1) = (9 + 3 * (L + 1)) + 1 := by omega
    rw [e]
    have hu := ih (d + 1) (by omega)
    have htr := c12_truth G M0 (d := d + 1) (D0 := 10 + 3 * L) hS hT (by omega) (unt_ok Z L) hu
    refine c12_unG G M0 (nt := fun R => rly (nI 18) (unt Z L (rnx R))) (br := fun R => rmu Z 25 (tru Z (unt Z L) (rnx R))) hS hT (by omega) (sms_ok (atm_ok Z (L + 1))) (c12_sumL G M0 (L := L + 1) hS hT hd) (fun R M h hI hk => ?_) (fun R M h hI hk => ?_)
    · have hS' := hS.sm h.1
      have hgo := c12_goesIn G M0 M hS hT h (by omega)
      rw [if_neg (by omega), rgo_z hk.1] at hgo
      have g1 := (gs.nx hI (by have := hk.2; omega)).1
      have g2 := (unt_ok Z L _ g1).1.1
      refine v_aload_n dX12_readUnit_17 rfl ?_
      refine v_scVv [] (hgo) k12_goesIn dX12_readUnit_18 l12_154 (by first | exact hS'.1 _ _ rfl | assumption) (by decide) rfl (by omega) (Nat.le_of_ble_eq_true rfl) ?_
      intro M2 hM2; have hS' := hS.sm hM2.1
      refine v_aload_n dX12_readUnit_21 rfl ?_
      refine v_scVv [] (hu _ M2 hM2 g1) k12_readUnit dX12_readUnit_22 l12_147 (by first | exact hS'.1 _ _ rfl | assumption) (by decide) rfl (by omega) (Nat.le_of_ble_eq_true rfl) ?_
      intro M3 hM3; have hS' := hS.sm hM3.1
      refine v_aload_n dX12_readUnit_25 rfl ?_
      refine v_bipush 18 dX12_readUnit_26 (by decide) ?_
      refine v_scVv [_] (c12_laysStep G M0 M3 hS hM3 (nI 18) g2.lay) k12_laysStep dX12_readUnit_28 l12_144 (by first | exact hS'.1 _ _ rfl | assumption) (by decide) rfl (by omega) (Nat.le_of_ble_eq_true rfl) ?_
      intro M4 hM4; have hS' := hS.sm hM4.1
      refine v_aload_n dX12_readUnit_31 rfl ?_
      refine v_dup dX12_readUnit_32 rfl ?_
      refine v_getI 12 16 dX12_readUnit_33 f12_136 (by first | exact hS'.1 _ _ rfl | assumption) (by decide) ?_
      rw [hM4.dp.1]
      refine v_iconst 1 dX12_readUnit_36 (by decide) ?_
      refine v_isub dX12_readUnit_37 ?_
      rw [hM4.dp.2.1]
      refine v_putI 12 16 dX12_readUnit_38 f12_136 (by first | exact hS'.1 _ _ rfl | assumption) (by decide) ?_
      refine v_goto 155 dX12_readUnit_41 (by decide) ?_
      refine v_vret dX12_readUnit_155 rfl ?_
      exact ⟨rfl, hM4.dp.2.2⟩
    · have hS' := hS.sm h.1
      have hgo := c12_goesIn G M0 M hS hT h (by omega)
      rw [if_neg (by omega), rgo_z hk.1] at hgo
      have g1 := (gs.nx hI (by have := hk.2; omega)).1
      refine v_aload_n dX12_readUnit_53 rfl ?_
      refine v_scVv [] (hgo) k12_goesIn dX12_readUnit_54 l12_154 (by first | exact hS'.1 _ _ rfl | assumption) (by decide) rfl (by omega) (Nat.le_of_ble_eq_true rfl) ?_
      intro M2 hM2; have hS' := hS.sm hM2.1
      refine v_aload_n dX12_readUnit_57 rfl ?_
      refine v_scVv [] (htr _ M2 hM2 g1) k12_readTruth dX12_readUnit_58 l12_160 (by first | exact hS'.1 _ _ rfl | assumption) (by decide) rfl (by omega) (Nat.le_of_ble_eq_true rfl) ?_
      intro M3 hM3; have hS' := hS.sm hM3.1
      refine v_aload_n dX12_readUnit_61 rfl ?_
      refine v_bipush 93 dX12_readUnit_62 (by decide) ?_
      refine v_scVv [_] (c12_mustSign G M0 M3 hS hT hM3 (k := 25) (by decide) (by decide)) k12_mustSign dX12_readUnit_64 l12_163 (by first | exact hS'.1 _ _ rfl | assumption) (by decide) rfl (by omega) (Nat.le_of_ble_eq_true rfl) ?_
      intro M4 hM4; have hS' := hS.sm hM4.1
      refine v_aload_n dX12_readUnit_67 rfl ?_
      refine v_dup dX12_readUnit_68 rfl ?_
      refine v_getI 12 16 dX12_readUnit_69 f12_136 (by first | exact hS'.1 _ _ rfl | assumption) (by decide) ?_
      rw [hM4.dp.1]
      refine v_iconst 1 dX12_readUnit_72 (by decide) ?_
      refine v_isub dX12_readUnit_73 ?_
      rw [hM4.dp.2.1]
      refine v_putI 12 16 dX12_readUnit_74 f12_136 (by first | exact hS'.1 _ _ rfl | assumption) (by decide) ?_
      refine v_goto 155 dX12_readUnit_77 (by decide) ?_
      refine v_vret dX12_readUnit_155 rfl ?_
      exact ⟨rfl, hM4.dp.2.2⟩
theorem c12_readTruth {Z : (Nat → Nat) × Nat} (hS : Sh M0) (hT : Tp M0 Z) : ∀ R M, PS M0 Z 0 R M → IV Z R → Ct G Y12_readTruth 30 0 0 [.ref 230] M (Rs none (PS M0 Z 0 (tru Z (unt Z 6) R))) NX :=
  c12_truth G M0 (D0 := 28) hS hT (by omega) (unt_ok Z 6) (c12_unt G M0 hS hT 6 0 rfl)
end PE
