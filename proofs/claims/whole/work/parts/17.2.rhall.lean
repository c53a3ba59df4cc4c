/-! ===== the reference's parser: word, line, hall ===== -/
section PG
variable (G : mG) (M0 : mM)
theorem c12_readHallWord (M : mM) {Z : (Nat → Nat) × Nat} {R : RSt} (hS : Sh M0) (hT : Tp M0 Z) (h : PS M0 Z 0 R M) (hL : LV Z R) (hk : kd Z R.2.2.1 ≠ 32) : Ct G Y12_readHallWord 31 0 0 [.ref 230] M (Rs none (PS M0 Z 0 (woR Z R))) NX := by
  have hS' := hS.sm h.1
  have hgb := bgn_gs (i := 3) (most := 10) hL.1 hk
  have hg := lr.gs hL hgb.1
  have hlt := hL.2.2.1.2
  have hcb := c12_begins G M0 M (i := 3) (most := 10) (xi := 3) (xm := 10) hS hT h (by decide) (by decide) rfl rfl ⟨hL.2.2.1.1, by omega⟩
  unfold woR
  refine Ct.of k12_readHallWord.1 (Nat.le_of_ble_eq_true rfl) ?_
  by_cases h0 : (bgn Z 3 10 R).1 = 0
  · have h2lt := (hgb.2 h0).2
    have e2 := hgb.1.k (j := 3) (by decide) (by decide)
    rw [if_neg (Decidable.not_not.mpr h0)]
    rw [bI_t h0] at hcb
    generalize bgn Z 3 10 R = S at hcb hg h0 e2 ⊢
    have hS3 := hg.1.2.2.1.1
    have a3 := woH_3 hg.1
    have aH := woH_lr hg.1
    unfold woH at a3 aH ⊢
    have hw10 : kn S.2.2.2 3 < 10 := by omega
    have aS := woS_lr (w := kn S.2.2.2 3) hg.1
    have aC := woC_lr (w := kn S.2.2.2 3) aS.1
    generalize hcc : kn S.2.2.2 3 = w at hS3 hw10 a3 aH aS aC ⊢
    have fin : ∀ T M3, PS M0 Z 0 T M3 → LV Z T → kn T.2.2.2 3 = w → V G Y12_readHallWord 31 0 0 (Rs none (PS M0 Z 0 (woE (tru Z (unt Z 6) T)))) NX 75 [some (.ref 230), some (.int (nI w))] [] M3 := by
      intro T M3 hp hLT hT3
      have hS' := hS.sm hp.1
      have tg := (tru_ok (unt_ok Z 6) _ hLT.1).1
      have t3 := tg.k (j := 3) (by decide) (by decide)
      have tl := (lr.gs hLT tg).1.2.2.1.1
      have ht := c12_readTruth G M0 hS hT T M3 hp hLT.1
      generalize tru Z (unt Z 6) T = U at tg t3 tl ht ⊢
      unfold woE
      by_cases hb : U.1 = 0
      · rw [if_neg (Decidable.not_not.mpr hb), t3, hT3]
        rw [t3, hT3] at tl
        refine v_aload_n dX12_readHallWord_75 rfl ?_
        refine v_scVv [] (ht) k12_readTruth dX12_readHallWord_76 l12_160 (by first | exact hS'.1 _ _ rfl | assumption) (by decide) rfl (Nat.le_of_ble_eq_true rfl) (Nat.le_of_ble_eq_true rfl) ?_
        intro M4 hM4; have hS' := hS.sm hM4.1; have w1 := hM4.wr 3 (U.2.2.2 3 + 1); have w2 := w1.wr (144 + (w + 1)) (U.2.2.2 7); have e3 : gI M4 232 3 = U.2.2.2 3 := congrFun hM4.2.1 3; have e3' : gI (sI M4 232 3 (U.2.2.2 3 + 1)) 232 3 = nI (w + 1) := (gI_ss _ _ _ _).trans (by rw [tl, nI_1]); have e7 : gI (sI M4 232 3 (U.2.2.2 3 + 1)) 232 7 = U.2.2.2 7 := (gI_sk _ _ (by decide)).trans (congrFun hM4.2.1 7)
        refine v_aload_n dX12_readHallWord_79 rfl ?_
        refine v_getI 12 12 dX12_readHallWord_80 f12_103 (by first | exact hS'.1 _ _ rfl | assumption) (by decide) ?_
        rw [hM4.bad.1 hb]
        refine v_if_eq 87 dX12_readHallWord_83 (by decide) (fun h83 => ?_) (fun h83 => absurd rfl h83)
        refine v_aload_n dX12_readHallWord_87 rfl ?_
        refine v_getR 12 1 _ dX12_readHallWord_88 f12_13 (by first | exact hS'.1 _ _ rfl | assumption) (by decide) (by first | exact hS'.2 _ _ _ rfl | assumption) ?_
        refine v_iconst 3 dX12_readHallWord_91 (by decide) ?_
        refine v_dup2 dX12_readHallWord_92 rfl rfl ?_
        refine v_iald dX12_readHallWord_93 (by first | exact hS'.1 _ _ rfl | assumption) (vp_in_iff.mpr (by decide)) ?_
        rw [show (3 : Int32).toNatClampNeg = 3 from rfl, e3]
        refine v_iconst 1 dX12_readHallWord_94 (by decide) ?_
        refine v_iadd dX12_readHallWord_95 ?_
        refine v_iastN (3) dX12_readHallWord_96 (by first | exact hS'.1 _ _ rfl | assumption) (by simp only [n_lit, pk_mul, nI_add]) ⟨by omega, by omega⟩ ?_
        refine v_aload_n dX12_readHallWord_97 rfl ?_
        refine v_getR 12 1 _ dX12_readHallWord_98 f12_13 (by first | exact hS'.1 _ _ rfl | assumption) (by decide) (by first | exact hS'.2 _ _ _ rfl | assumption) ?_
        refine v_sipush 144 dX12_readHallWord_101 (by decide) ?_
        refine v_aload_n dX12_readHallWord_104 rfl ?_
        refine v_getR 12 1 _ dX12_readHallWord_105 f12_13 (by first | exact hS'.1 _ _ rfl | assumption) (by decide) (by first | exact hS'.2 _ _ _ rfl | assumption) ?_
        refine v_iconst 3 dX12_readHallWord_108 (by decide) ?_
        refine v_ialdN 3 dX12_readHallWord_109 (by first | exact hS'.1 _ _ rfl | assumption) rfl (by decide) ?_
        rw [e3']
        refine v_iadd dX12_readHallWord_110 ?_
        refine v_aload_n dX12_readHallWord_111 rfl ?_
        refine v_getR 12 1 _ dX12_readHallWord_112 f12_13 (by first | exact hS'.1 _ _ rfl | assumption) (by decide) (by first | exact hS'.2 _ _ _ rfl | assumption) ?_
        refine v_bipush 7 dX12_readHallWord_115 (by decide) ?_
        refine v_ialdN 7 dX12_readHallWord_117 (by first | exact hS'.1 _ _ rfl | assumption) rfl (by decide) ?_
        rw [e7]
        refine v_iastN (144 + (w + 1)) dX12_readHallWord_118 (by first | exact hS'.1 _ _ rfl | assumption) (by simp only [n_lit, pk_mul, nI_add]) ⟨by omega, by omega⟩ ?_
        refine v_vret dX12_readHallWord_119 rfl ?_
        exact ⟨rfl, w2⟩
      · rw [if_pos hb]
        refine v_aload_n dX12_readHallWord_75 rfl ?_
        refine v_scVv [] (ht) k12_readTruth dX12_readHallWord_76 l12_160 (by first | exact hS'.1 _ _ rfl | assumption) (by decide) rfl (Nat.le_of_ble_eq_true rfl) (Nat.le_of_ble_eq_true rfl) ?_
        intro M4 hM4; have hS' := hS.sm hM4.1
        refine v_aload_n dX12_readHallWord_79 rfl ?_
        refine v_getI 12 12 dX12_readHallWord_80 f12_103 (by first | exact hS'.1 _ _ rfl | assumption) (by decide) ?_
        refine v_if_eq 87 dX12_readHallWord_83 (by decide) (fun h83 => absurd h83 (hM4.bad.2 hb)) (fun h83 => ?_)
        refine v_vret dX12_readHallWord_86 rfl ?_
        exact ⟨rfl, hM4⟩
    have colon : ∀ T M3, PS M0 Z 0 T M3 → LV Z (rmu Z 18 T) → kn (rmu Z 18 T).2.2.2 3 = w → V G Y12_readHallWord 31 0 0 (Rs none (PS M0 Z 0 (woE (tru Z (unt Z 6) (rmu Z 18 T))))) NX 69 [some (.ref 230), some (.int (nI w))] [] M3 := by
      intro T M3 hp hLT hT3
      have hS' := hS.sm hp.1
      refine v_aload_n dX12_readHallWord_69 rfl ?_
      refine v_bipush 58 dX12_readHallWord_70 (by decide) ?_
      refine v_scVv [_] (c12_mustSign G M0 M3 hS hT hp (k := 18) (by decide) (by decide)) k12_mustSign dX12_readHallWord_72 l12_163 (by first | exact hS'.1 _ _ rfl | assumption) (by decide) rfl (Nat.le_of_ble_eq_true rfl) (Nat.le_of_ble_eq_true rfl) ?_
      intro M4 hM4
      exact fin _ M4 hM4 hLT hT3
    have cost : ∀ T M3, PS M0 Z 0 T M3 → LV Z (rmu Z 18 (woC Z w T)) → kn (rmu Z 18 (woC Z w T)).2.2.2 3 = w → V G Y12_readHallWord 31 0 0 (Rs none (PS M0 Z 0 (woE (tru Z (unt Z 6) (rmu Z 18 (woC Z w T)))))) NX 40 [some (.ref 230), some (.int (nI w))] [] M3 := by
      intro T M3 hp hLT hT3
      have hS' := hS.sm hp.1
      unfold woC at hLT hT3 ⊢
      by_cases hc : rIs Z 5 T
      · rw [if_pos hc] at hLT hT3 ⊢
        refine v_aload_n dX12_readHallWord_40 rfl ?_
        refine v_getR 12 1 _ dX12_readHallWord_41 f12_13 (by first | exact hS'.1 _ _ rfl | assumption) (by decide) (by first | exact hS'.2 _ _ _ rfl | assumption) ?_
        refine v_bipush 109 dX12_readHallWord_44 (by decide) ?_
        refine v_iload_n dX12_readHallWord_46 rfl ?_
        refine v_iadd dX12_readHallWord_47 ?_
        refine v_aload_n dX12_readHallWord_48 rfl ?_
        refine v_ldcS (k := 5) (tx := "cost") dX12_readHallWord_49 rfl (List.mem_of_getElem? (i := 5) rfl) (by decide) ?_
        refine v_scV [_] (c12_tookT G M0 M3 hS hT hp (t := 5) (by decide) hc) k12_took dX12_readHallWord_51 l12_125 (by first | exact hS'.1 _ _ rfl | assumption) (by decide) rfl (Nat.le_of_ble_eq_true rfl) (Nat.le_of_ble_eq_true rfl) ?_
        intro M4 hM4; have hS' := hS.sm hM4.1
        refine v_if_eq 67 dX12_readHallWord_54 (by decide) (fun h54 => absurd h54 (by decide)) (fun h54 => ?_)
        refine v_aload_n dX12_readHallWord_57 rfl ?_
        refine v_iconst 1 dX12_readHallWord_58 (by decide) ?_
        refine v_bipush 9 dX12_readHallWord_59 (by decide) ?_
        refine v_scV [_, _] (c12_number G M0 M4 (lo := 1) (hi := 9) hS hT hM4 (by decide) (by decide)) k12_number dX12_readHallWord_61 l12_177 (by first | exact hS'.1 _ _ rfl | assumption) (by decide) rfl (Nat.le_of_ble_eq_true rfl) (Nat.le_of_ble_eq_true rfl) ?_
        intro M5 hM5; have hS' := hS.sm hM5.1
        refine v_goto 68 dX12_readHallWord_64 (by decide) ?_
        refine v_iastN (109 + w) dX12_readHallWord_68 (by first | exact hS'.1 _ _ rfl | assumption) (by simp only [n_lit, pk_mul, nI_add]) ⟨by omega, by omega⟩ ?_
        exact colon _ _ (hM5.wr _ _) hLT hT3
      · rw [if_neg hc] at hLT hT3 ⊢
        refine v_aload_n dX12_readHallWord_40 rfl ?_
        refine v_getR 12 1 _ dX12_readHallWord_41 f12_13 (by first | exact hS'.1 _ _ rfl | assumption) (by decide) (by first | exact hS'.2 _ _ _ rfl | assumption) ?_
        refine v_bipush 109 dX12_readHallWord_44 (by decide) ?_
        refine v_iload_n dX12_readHallWord_46 rfl ?_
        refine v_iadd dX12_readHallWord_47 ?_
        refine v_aload_n dX12_readHallWord_48 rfl ?_
        refine v_ldcS (k := 5) (tx := "cost") dX12_readHallWord_49 rfl (List.mem_of_getElem? (i := 5) rfl) (by decide) ?_
        refine v_cV [_] (c12_tookF G M0 M3 hS hT hp (t := 5) (by decide) hc) k12_took dX12_readHallWord_51 l12_125 (by first | exact hS'.1 _ _ rfl | assumption) (by decide) rfl (Nat.le_of_ble_eq_true rfl) (Nat.le_of_ble_eq_true rfl) ?_
        refine v_if_eq 67 dX12_readHallWord_54 (by decide) (fun h54 => ?_) (fun h54 => absurd rfl h54)
        refine v_iconst 1 dX12_readHallWord_67 (by decide) ?_
        refine v_iastN (109 + w) dX12_readHallWord_68 (by first | exact hS'.1 _ _ rfl | assumption) (by simp only [n_lit, pk_mul, nI_add]) ⟨by omega, by omega⟩ ?_
        exact colon _ _ (hp.wr _ _) hLT hT3
    unfold woS at a3 aH ⊢
    by_cases hc : rIs Z 4 S
    · rw [if_pos hc] at a3 aH ⊢
      refine v_aload_n dX12_readHallWord_0 rfl ?_
      refine v_iconst 3 dX12_readHallWord_1 (by decide) ?_
      refine v_bipush 10 dX12_readHallWord_2 (by decide) ?_
      refine v_scV [_, _] (hcb) k12_begins dX12_readHallWord_4 l12_191 (by first | exact hS'.1 _ _ rfl | assumption) (by decide) rfl (Nat.le_of_ble_eq_true rfl) (Nat.le_of_ble_eq_true rfl) ?_
      intro M2 hM2; have hS' := hS.sm hM2.1
      refine v_if_ne 11 dX12_readHallWord_7 (by decide) (fun h7 => ?_) (fun h7 => absurd (show ¬ (1 : Int32) = 0 by decide) h7)
      refine v_aload_n dX12_readHallWord_11 rfl ?_
      refine v_getR 12 1 _ dX12_readHallWord_12 f12_13 (by first | exact hS'.1 _ _ rfl | assumption) (by decide) (by first | exact hS'.2 _ _ _ rfl | assumption) ?_
      refine v_iconst 3 dX12_readHallWord_15 (by decide) ?_
      refine v_ialdN 3 dX12_readHallWord_16 (by first | exact hS'.1 _ _ rfl | assumption) rfl (by decide) ?_
      rw [hM2.2.1, hS3]
      refine v_istore_n dX12_readHallWord_17 rfl (by decide) ?_
      refine v_aload_n dX12_readHallWord_18 rfl ?_
      refine v_ldcS (k := 4) (tx := "sound") dX12_readHallWord_19 rfl (List.mem_of_getElem? (i := 4) rfl) (by decide) ?_
      refine v_scV [_] (c12_tookT G M0 M2 hS hT hM2 (t := 4) (by decide) hc) k12_took dX12_readHallWord_21 l12_125 (by first | exact hS'.1 _ _ rfl | assumption) (by decide) rfl (Nat.le_of_ble_eq_true rfl) (Nat.le_of_ble_eq_true rfl) ?_
      intro M3 hM3; have hS' := hS.sm hM3.1; have e9 : gI M3 232 119 = S.2.2.2 119 := congrFun hM3.2.1 119
      refine v_if_eq 40 dX12_readHallWord_24 (by decide) (fun h24 => absurd h24 (by decide)) (fun h24 => ?_)
      refine v_aload_n dX12_readHallWord_27 rfl ?_
      refine v_getR 12 1 _ dX12_readHallWord_28 f12_13 (by first | exact hS'.1 _ _ rfl | assumption) (by decide) (by first | exact hS'.2 _ _ _ rfl | assumption) ?_
      refine v_bipush 119 dX12_readHallWord_31 (by decide) ?_
      refine v_dup2 dX12_readHallWord_33 rfl rfl ?_
      refine v_iald dX12_readHallWord_34 (by first | exact hS'.1 _ _ rfl | assumption) (vp_in_iff.mpr (by decide)) ?_
      rw [show (119 : Int32).toNatClampNeg = 119 from rfl, e9]
      refine v_iconst 1 dX12_readHallWord_35 (by decide) ?_
      refine v_iload_n dX12_readHallWord_36 rfl ?_
      refine v_ishl dX12_readHallWord_37 ?_
      rw [shl1 (by omega)]
      refine v_ior dX12_readHallWord_38 ?_
      refine v_iastN (119) dX12_readHallWord_39 (by first | exact hS'.1 _ _ rfl | assumption) (by simp only [n_lit, pk_mul, nI_add]) ⟨by omega, by omega⟩ ?_
      exact cost _ _ (hM3.wr 119 _) aH.1 a3
    · rw [if_neg hc] at a3 aH ⊢
      refine v_aload_n dX12_readHallWord_0 rfl ?_
      refine v_iconst 3 dX12_readHallWord_1 (by decide) ?_
      refine v_bipush 10 dX12_readHallWord_2 (by decide) ?_
      refine v_scV [_, _] (hcb) k12_begins dX12_readHallWord_4 l12_191 (by first | exact hS'.1 _ _ rfl | assumption) (by decide) rfl (Nat.le_of_ble_eq_true rfl) (Nat.le_of_ble_eq_true rfl) ?_
      intro M2 hM2; have hS' := hS.sm hM2.1
      refine v_if_ne 11 dX12_readHallWord_7 (by decide) (fun h7 => ?_) (fun h7 => absurd (show ¬ (1 : Int32) = 0 by decide) h7)
      refine v_aload_n dX12_readHallWord_11 rfl ?_
      refine v_getR 12 1 _ dX12_readHallWord_12 f12_13 (by first | exact hS'.1 _ _ rfl | assumption) (by decide) (by first | exact hS'.2 _ _ _ rfl | assumption) ?_
      refine v_iconst 3 dX12_readHallWord_15 (by decide) ?_
      refine v_ialdN 3 dX12_readHallWord_16 (by first | exact hS'.1 _ _ rfl | assumption) rfl (by decide) ?_
      rw [hM2.2.1, hS3]
      refine v_istore_n dX12_readHallWord_17 rfl (by decide) ?_
      refine v_aload_n dX12_readHallWord_18 rfl ?_
      refine v_ldcS (k := 4) (tx := "sound") dX12_readHallWord_19 rfl (List.mem_of_getElem? (i := 4) rfl) (by decide) ?_
      refine v_cV [_] (c12_tookF G M0 M2 hS hT hM2 (t := 4) (by decide) hc) k12_took dX12_readHallWord_21 l12_125 (by first | exact hS'.1 _ _ rfl | assumption) (by decide) rfl (Nat.le_of_ble_eq_true rfl) (Nat.le_of_ble_eq_true rfl) ?_
      refine v_if_eq 40 dX12_readHallWord_24 (by decide) (fun h24 => ?_) (fun h24 => absurd rfl h24)
      exact cost _ _ hM2 aH.1 a3
  · rw [if_pos h0]
    rw [bI_f h0] at hcb
    refine v_aload_n dX12_readHallWord_0 rfl ?_
    refine v_iconst 3 dX12_readHallWord_1 (by decide) ?_
    refine v_bipush 10 dX12_readHallWord_2 (by decide) ?_
    refine v_scV [_, _] (hcb) k12_begins dX12_readHallWord_4 l12_191 (by first | exact hS'.1 _ _ rfl | assumption) (by decide) rfl (Nat.le_of_ble_eq_true rfl) (Nat.le_of_ble_eq_true rfl) ?_
    intro M2 hM2
    refine v_if_ne 11 dX12_readHallWord_7 (by decide) (fun h7 => absurd rfl h7) (fun h7 => ?_)
    refine v_vret dX12_readHallWord_10 rfl ?_
    exact ⟨rfl, hM2⟩
theorem c12_wordT (M : mM) {Z : (Nat → Nat) × Nat} {d t : Nat} {R : RSt} (hS : Sh M0) (hT : Tp M0 Z) (h : PS M0 Z d R M) (ht : t < 17) (hn : rIs Z t R) : Ct G Y12_isWord 4 0 0 [.ref 230, .ref (40 + t)] M (Rv (some (.int 1)) M) NX := by
  have hc := c12_isWord G M0 M hS hT h ht
  rw [bI_t hn] at hc
  exact hc
theorem c12_wordF (M : mM) {Z : (Nat → Nat) × Nat} {d t : Nat} {R : RSt} (hS : Sh M0) (hT : Tp M0 Z) (h : PS M0 Z d R M) (ht : t < 17) (hn : ¬ kd Z R.2.2.1 = t) : Ct G Y12_isWord 4 0 0 [.ref 230, .ref (40 + t)] M (Rv (some (.int 0)) M) NX := by
  have hc := c12_isWord G M0 M hS hT h ht
  rw [bI_f (fun z => hn z.2)] at hc
  exact hc
theorem c12_readLine (M : mM) {Z : (Nat → Nat) × Nat} {R : RSt} (hS : Sh M0) (hT : Tp M0 Z) (h : PS M0 Z 0 R M) (hL : LV Z R) (h0 : R.1 = 0) : Ct G Y12_readLine 32 0 0 [.ref 230] M (Rs none (PS M0 Z 0 (lin Z R))) NX := by
  have hS' := hS.sm h.1
  have tail : ∀ T M3, PS M0 Z 0 T M3 → V G Y12_readLine 32 0 0 (Rs none (PS M0 Z 0 (sto Z T))) NX 122 [some (.ref 230)] [] M3 := by
    intro T M3 hp
    have hS' := hS.sm hp.1
    refine v_aload_n dX12_readLine_122 rfl ?_
    refine v_scVv [] (c12_readStop G M0 M3 hS hT hp) k12_readStop dX12_readLine_123 l12_221 (by first | exact hS'.1 _ _ rfl | assumption) (by decide) rfl (Nat.le_of_ble_eq_true rfl) (Nat.le_of_ble_eq_true rfl) ?_
    intro M4 hM4
    refine v_vret dX12_readLine_126 rfl ?_
    exact ⟨rfl, hM4⟩
  unfold lin lnB
  refine Ct.of k12_readLine.1 (Nat.le_of_ble_eq_true rfl) ?_
  by_cases k1 : kd Z R.2.2.1 = 1
  · rw [if_pos k1]
    refine v_aload_n dX12_readLine_0 rfl ?_
    refine v_ldcS (k := 1) (tx := "chest") dX12_readLine_1 rfl (List.mem_of_getElem? (i := 1) rfl) (by decide) ?_
    refine v_cV [_] (c12_wordT G M0 M hS hT h (t := 1) (by decide) ⟨h0, k1⟩) k12_isWord dX12_readLine_3 l12_118 (by first | exact hS'.1 _ _ rfl | assumption) (by decide) rfl (Nat.le_of_ble_eq_true rfl) (Nat.le_of_ble_eq_true rfl) ?_
    refine v_if_eq 17 dX12_readLine_6 (by decide) (fun h6 => absurd h6 (by decide)) (fun h6 => ?_)
    refine v_aload_n dX12_readLine_9 rfl ?_
    refine v_iconst 0 dX12_readLine_10 (by decide) ?_
    refine v_scVv [_] (c12_readChest G M0 M (spare := false) hS hT h hL (by omega) rfl) k12_readChest dX12_readLine_11 l12_201 (by first | exact hS'.1 _ _ rfl | assumption) (by decide) rfl (Nat.le_of_ble_eq_true rfl) (Nat.le_of_ble_eq_true rfl) ?_
    intro M2 hM2
    refine v_goto 122 dX12_readLine_14 (by decide) ?_
    exact tail _ M2 hM2
  · rw [if_neg k1]
    by_cases k2 : kd Z R.2.2.1 = 2
    · rw [if_pos k2]
      refine v_aload_n dX12_readLine_0 rfl ?_
      refine v_ldcS (k := 1) (tx := "chest") dX12_readLine_1 rfl (List.mem_of_getElem? (i := 1) rfl) (by decide) ?_
      refine v_cV [_] (c12_wordF G M0 M hS hT h (t := 1) (by decide) k1) k12_isWord dX12_readLine_3 l12_118 (by first | exact hS'.1 _ _ rfl | assumption) (by decide) rfl (Nat.le_of_ble_eq_true rfl) (Nat.le_of_ble_eq_true rfl) ?_
      refine v_if_eq 17 dX12_readLine_6 (by decide) (fun h6 => ?_) (fun h6 => absurd rfl h6)
      refine v_aload_n dX12_readLine_17 rfl ?_
      refine v_ldcS (k := 2) (tx := "spare") dX12_readLine_18 rfl (List.mem_of_getElem? (i := 2) rfl) (by decide) ?_
      refine v_cV [_] (c12_wordT G M0 M hS hT h (t := 2) (by decide) ⟨h0, k2⟩) k12_isWord dX12_readLine_20 l12_118 (by first | exact hS'.1 _ _ rfl | assumption) (by decide) rfl (Nat.le_of_ble_eq_true rfl) (Nat.le_of_ble_eq_true rfl) ?_
      refine v_if_eq 34 dX12_readLine_23 (by decide) (fun h23 => absurd h23 (by decide)) (fun h23 => ?_)
      refine v_aload_n dX12_readLine_26 rfl ?_
      refine v_iconst 1 dX12_readLine_27 (by decide) ?_
      refine v_scVv [_] (c12_readChest G M0 M (spare := true) hS hT h hL (by omega) rfl) k12_readChest dX12_readLine_28 l12_201 (by first | exact hS'.1 _ _ rfl | assumption) (by decide) rfl (Nat.le_of_ble_eq_true rfl) (Nat.le_of_ble_eq_true rfl) ?_
      intro M2 hM2
      refine v_goto 122 dX12_readLine_31 (by decide) ?_
      exact tail _ M2 hM2
    · rw [if_neg k2]
      by_cases k3 : kd Z R.2.2.1 = 3
      · rw [if_pos k3]
        refine v_aload_n dX12_readLine_0 rfl ?_
        refine v_ldcS (k := 1) (tx := "chest") dX12_readLine_1 rfl (List.mem_of_getElem? (i := 1) rfl) (by decide) ?_
        refine v_cV [_] (c12_wordF G M0 M hS hT h (t := 1) (by decide) k1) k12_isWord dX12_readLine_3 l12_118 (by first | exact hS'.1 _ _ rfl | assumption) (by decide) rfl (Nat.le_of_ble_eq_true rfl) (Nat.le_of_ble_eq_true rfl) ?_
        refine v_if_eq 17 dX12_readLine_6 (by decide) (fun h6 => ?_) (fun h6 => absurd rfl h6)
        refine v_aload_n dX12_readLine_17 rfl ?_
        refine v_ldcS (k := 2) (tx := "spare") dX12_readLine_18 rfl (List.mem_of_getElem? (i := 2) rfl) (by decide) ?_
        refine v_cV [_] (c12_wordF G M0 M hS hT h (t := 2) (by decide) k2) k12_isWord dX12_readLine_20 l12_118 (by first | exact hS'.1 _ _ rfl | assumption) (by decide) rfl (Nat.le_of_ble_eq_true rfl) (Nat.le_of_ble_eq_true rfl) ?_
        refine v_if_eq 34 dX12_readLine_23 (by decide) (fun h23 => ?_) (fun h23 => absurd rfl h23)
        refine v_aload_n dX12_readLine_34 rfl ?_
        refine v_ldcS (k := 3) (tx := "word") dX12_readLine_35 rfl (List.mem_of_getElem? (i := 3) rfl) (by decide) ?_
        refine v_cV [_] (c12_wordT G M0 M hS hT h (t := 3) (by decide) ⟨h0, k3⟩) k12_isWord dX12_readLine_37 l12_118 (by first | exact hS'.1 _ _ rfl | assumption) (by decide) rfl (Nat.le_of_ble_eq_true rfl) (Nat.le_of_ble_eq_true rfl) ?_
        refine v_if_eq 50 dX12_readLine_40 (by decide) (fun h40 => absurd h40 (by decide)) (fun h40 => ?_)
        refine v_aload_n dX12_readLine_43 rfl ?_
        refine v_scVv [] (c12_readHallWord G M0 M hS hT h hL (by omega)) k12_readHallWord dX12_readLine_44 l12_209 (by first | exact hS'.1 _ _ rfl | assumption) (by decide) rfl (Nat.le_of_ble_eq_true rfl) (Nat.le_of_ble_eq_true rfl) ?_
        intro M2 hM2
        refine v_goto 122 dX12_readLine_47 (by decide) ?_
        exact tail _ M2 hM2
      · rw [if_neg k3]
        by_cases k6 : kd Z R.2.2.1 = 6
        · rw [if_pos k6]
          refine v_aload_n dX12_readLine_0 rfl ?_
          refine v_ldcS (k := 1) (tx := "chest") dX12_readLine_1 rfl (List.mem_of_getElem? (i := 1) rfl) (by decide) ?_
          refine v_cV [_] (c12_wordF G M0 M hS hT h (t := 1) (by decide) k1) k12_isWord dX12_readLine_3 l12_118 (by first | exact hS'.1 _ _ rfl | assumption) (by decide) rfl (Nat.le_of_ble_eq_true rfl) (Nat.le_of_ble_eq_true rfl) ?_
          refine v_if_eq 17 dX12_readLine_6 (by decide) (fun h6 => ?_) (fun h6 => absurd rfl h6)
          refine v_aload_n dX12_readLine_17 rfl ?_
          refine v_ldcS (k := 2) (tx := "spare") dX12_readLine_18 rfl (List.mem_of_getElem? (i := 2) rfl) (by decide) ?_
          refine v_cV [_] (c12_wordF G M0 M hS hT h (t := 2) (by decide) k2) k12_isWord dX12_readLine_20 l12_118 (by first | exact hS'.1 _ _ rfl | assumption) (by decide) rfl (Nat.le_of_ble_eq_true rfl) (Nat.le_of_ble_eq_true rfl) ?_
          refine v_if_eq 34 dX12_readLine_23 (by decide) (fun h23 => ?_) (fun h23 => absurd rfl h23)
          refine v_aload_n dX12_readLine_34 rfl ?_
          refine v_ldcS (k := 3) (tx := "word") dX12_readLine_35 rfl (List.mem_of_getElem? (i := 3) rfl) (by decide) ?_
          refine v_cV [_] (c12_wordF G M0 M hS hT h (t := 3) (by decide) k3) k12_isWord dX12_readLine_37 l12_118 (by first | exact hS'.1 _ _ rfl | assumption) (by decide) rfl (Nat.le_of_ble_eq_true rfl) (Nat.le_of_ble_eq_true rfl) ?_
          refine v_if_eq 50 dX12_readLine_40 (by decide) (fun h40 => ?_) (fun h40 => absurd rfl h40)
          refine v_aload_n dX12_readLine_50 rfl ?_
          refine v_ldcS (k := 6) (tx := "lamp") dX12_readLine_51 rfl (List.mem_of_getElem? (i := 14) rfl) (by decide) ?_
          refine v_cV [_] (c12_wordT G M0 M hS hT h (t := 6) (by decide) ⟨h0, k6⟩) k12_isWord dX12_readLine_53 l12_118 (by first | exact hS'.1 _ _ rfl | assumption) (by decide) rfl (Nat.le_of_ble_eq_true rfl) (Nat.le_of_ble_eq_true rfl) ?_
          refine v_if_eq 66 dX12_readLine_56 (by decide) (fun h56 => absurd h56 (by decide)) (fun h56 => ?_)
          refine v_aload_n dX12_readLine_59 rfl ?_
          refine v_scVv [] (c12_readLamp G M0 M hS hT h hL (by omega)) k12_readLamp dX12_readLine_60 l12_214 (by first | exact hS'.1 _ _ rfl | assumption) (by decide) rfl (Nat.le_of_ble_eq_true rfl) (Nat.le_of_ble_eq_true rfl) ?_
          intro M2 hM2
          refine v_goto 122 dX12_readLine_63 (by decide) ?_
          exact tail _ M2 hM2
        · rw [if_neg k6]
          by_cases k7 : kd Z R.2.2.1 = 7
          · rw [if_pos k7]
            refine v_aload_n dX12_readLine_0 rfl ?_
            refine v_ldcS (k := 1) (tx := "chest") dX12_readLine_1 rfl (List.mem_of_getElem? (i := 1) rfl) (by decide) ?_
            refine v_cV [_] (c12_wordF G M0 M hS hT h (t := 1) (by decide) k1) k12_isWord dX12_readLine_3 l12_118 (by first | exact hS'.1 _ _ rfl | assumption) (by decide) rfl (Nat.le_of_ble_eq_true rfl) (Nat.le_of_ble_eq_true rfl) ?_
            refine v_if_eq 17 dX12_readLine_6 (by decide) (fun h6 => ?_) (fun h6 => absurd rfl h6)
            refine v_aload_n dX12_readLine_17 rfl ?_
            refine v_ldcS (k := 2) (tx := "spare") dX12_readLine_18 rfl (List.mem_of_getElem? (i := 2) rfl) (by decide) ?_
            refine v_cV [_] (c12_wordF G M0 M hS hT h (t := 2) (by decide) k2) k12_isWord dX12_readLine_20 l12_118 (by first | exact hS'.1 _ _ rfl | assumption) (by decide) rfl (Nat.le_of_ble_eq_true rfl) (Nat.le_of_ble_eq_true rfl) ?_
            refine v_if_eq 34 dX12_readLine_23 (by decide) (fun h23 => ?_) (fun h23 => absurd rfl h23)
            refine v_aload_n dX12_readLine_34 rfl ?_
            refine v_ldcS (k := 3) (tx := "word") dX12_readLine_35 rfl (List.mem_of_getElem? (i := 3) rfl) (by decide) ?_
            refine v_cV [_] (c12_wordF G M0 M hS hT h (t := 3) (by decide) k3) k12_isWord dX12_readLine_37 l12_118 (by first | exact hS'.1 _ _ rfl | assumption) (by decide) rfl (Nat.le_of_ble_eq_true rfl) (Nat.le_of_ble_eq_true rfl) ?_
            refine v_if_eq 50 dX12_readLine_40 (by decide) (fun h40 => ?_) (fun h40 => absurd rfl h40)
            refine v_aload_n dX12_readLine_50 rfl ?_
            refine v_ldcS (k := 6) (tx := "lamp") dX12_readLine_51 rfl (List.mem_of_getElem? (i := 14) rfl) (by decide) ?_
            refine v_cV [_] (c12_wordF G M0 M hS hT h (t := 6) (by decide) k6) k12_isWord dX12_readLine_53 l12_118 (by first | exact hS'.1 _ _ rfl | assumption) (by decide) rfl (Nat.le_of_ble_eq_true rfl) (Nat.le_of_ble_eq_true rfl) ?_
            refine v_if_eq 66 dX12_readLine_56 (by decide) (fun h56 => ?_) (fun h56 => absurd rfl h56)
            refine v_aload_n dX12_readLine_66 rfl ?_
            refine v_ldcS (k := 7) (tx := "hire") dX12_readLine_67 rfl (List.mem_of_getElem? (i := 15) rfl) (by decide) ?_
            refine v_scV [_] (c12_tookT G M0 M hS hT h (t := 7) (by decide) ⟨h0, k7⟩) k12_took dX12_readLine_69 l12_125 (by first | exact hS'.1 _ _ rfl | assumption) (by decide) rfl (Nat.le_of_ble_eq_true rfl) (Nat.le_of_ble_eq_true rfl) ?_
            intro M2 hM2; have hS' := hS.sm hM2.1
            refine v_if_eq 91 dX12_readLine_72 (by decide) (fun h72 => absurd h72 (by decide)) (fun h72 => ?_)
            refine v_aload_n dX12_readLine_75 rfl ?_
            refine v_getR 12 1 _ dX12_readLine_76 f12_13 (by first | exact hS'.1 _ _ rfl | assumption) (by decide) (by first | exact hS'.2 _ _ _ rfl | assumption) ?_
            refine v_iconst 5 dX12_readLine_79 (by decide) ?_
            refine v_aload_n dX12_readLine_80 rfl ?_
            refine v_iconst 0 dX12_readLine_81 (by decide) ?_
            refine v_bipush 9 dX12_readLine_82 (by decide) ?_
            refine v_scV [_, _] (c12_number G M0 M2 (lo := 0) (hi := 9) hS hT hM2 (by decide) (by decide)) k12_number dX12_readLine_84 l12_177 (by first | exact hS'.1 _ _ rfl | assumption) (by decide) rfl (Nat.le_of_ble_eq_true rfl) (Nat.le_of_ble_eq_true rfl) ?_
            intro M3 hM3; have hS' := hS.sm hM3.1
            refine v_iastN (5) dX12_readLine_87 (by first | exact hS'.1 _ _ rfl | assumption) (by simp only [n_lit, pk_mul, nI_add]) ⟨by omega, by omega⟩ ?_
            refine v_goto 122 dX12_readLine_88 (by decide) ?_
            exact tail _ _ (hM3.wr 5 _)
          · rw [if_neg k7]
            by_cases k8 : kd Z R.2.2.1 = 8
            · rw [if_pos k8]
              refine v_aload_n dX12_readLine_0 rfl ?_
              refine v_ldcS (k := 1) (tx := "chest") dX12_readLine_1 rfl (List.mem_of_getElem? (i := 1) rfl) (by decide) ?_
              refine v_cV [_] (c12_wordF G M0 M hS hT h (t := 1) (by decide) k1) k12_isWord dX12_readLine_3 l12_118 (by first | exact hS'.1 _ _ rfl | assumption) (by decide) rfl (Nat.le_of_ble_eq_true rfl) (Nat.le_of_ble_eq_true rfl) ?_
              refine v_if_eq 17 dX12_readLine_6 (by decide) (fun h6 => ?_) (fun h6 => absurd rfl h6)
              refine v_aload_n dX12_readLine_17 rfl ?_
              refine v_ldcS (k := 2) (tx := "spare") dX12_readLine_18 rfl (List.mem_of_getElem? (i := 2) rfl) (by decide) ?_
              refine v_cV [_] (c12_wordF G M0 M hS hT h (t := 2) (by decide) k2) k12_isWord dX12_readLine_20 l12_118 (by first | exact hS'.1 _ _ rfl | assumption) (by decide) rfl (Nat.le_of_ble_eq_true rfl) (Nat.le_of_ble_eq_true rfl) ?_
              refine v_if_eq 34 dX12_readLine_23 (by decide) (fun h23 => ?_) (fun h23 => absurd rfl h23)
              refine v_aload_n dX12_readLine_34 rfl ?_
              refine v_ldcS (k := 3) (tx := "word") dX12_readLine_35 rfl (List.mem_of_getElem? (i := 3) rfl) (by decide) ?_
              refine v_cV [_] (c12_wordF G M0 M hS hT h (t := 3) (by decide) k3) k12_isWord dX12_readLine_37 l12_118 (by first | exact hS'.1 _ _ rfl | assumption) (by decide) rfl (Nat.le_of_ble_eq_true rfl) (Nat.le_of_ble_eq_true rfl) ?_
              refine v_if_eq 50 dX12_readLine_40 (by decide) (fun h40 => ?_) (fun h40 => absurd rfl h40)
              refine v_aload_n dX12_readLine_50 rfl ?_
              refine v_ldcS (k := 6) (tx := "lamp") dX12_readLine_51 rfl (List.mem_of_getElem? (i := 14) rfl) (by decide) ?_
              refine v_cV [_] (c12_wordF G M0 M hS hT h (t := 6) (by decide) k6) k12_isWord dX12_readLine_53 l12_118 (by first | exact hS'.1 _ _ rfl | assumption) (by decide) rfl (Nat.le_of_ble_eq_true rfl) (Nat.le_of_ble_eq_true rfl) ?_
              refine v_if_eq 66 dX12_readLine_56 (by decide) (fun h56 => ?_) (fun h56 => absurd rfl h56)
              refine v_aload_n dX12_readLine_66 rfl ?_
              refine v_ldcS (k := 7) (tx := "hire") dX12_readLine_67 rfl (List.mem_of_getElem? (i := 15) rfl) (by decide) ?_
              refine v_cV [_] (c12_tookF G M0 M hS hT h (t := 7) (by decide) (fun z => k7 z.2)) k12_took dX12_readLine_69 l12_125 (by first | exact hS'.1 _ _ rfl | assumption) (by decide) rfl (Nat.le_of_ble_eq_true rfl) (Nat.le_of_ble_eq_true rfl) ?_
              refine v_if_eq 91 dX12_readLine_72 (by decide) (fun h72 => ?_) (fun h72 => absurd rfl h72)
              refine v_aload_n dX12_readLine_91 rfl ?_
              refine v_ldcS (k := 8) (tx := "people") dX12_readLine_92 rfl (List.mem_of_getElem? (i := 16) rfl) (by decide) ?_
              refine v_scV [_] (c12_tookT G M0 M hS hT h (t := 8) (by decide) ⟨h0, k8⟩) k12_took dX12_readLine_94 l12_125 (by first | exact hS'.1 _ _ rfl | assumption) (by decide) rfl (Nat.le_of_ble_eq_true rfl) (Nat.le_of_ble_eq_true rfl) ?_
              intro M2 hM2; have hS' := hS.sm hM2.1
              refine v_if_eq 117 dX12_readLine_97 (by decide) (fun h97 => absurd h97 (by decide)) (fun h97 => ?_)
              refine v_aload_n dX12_readLine_100 rfl ?_
              refine v_getR 12 1 _ dX12_readLine_101 f12_13 (by first | exact hS'.1 _ _ rfl | assumption) (by decide) (by first | exact hS'.2 _ _ _ rfl | assumption) ?_
              refine v_bipush 6 dX12_readLine_104 (by decide) ?_
              refine v_aload_n dX12_readLine_106 rfl ?_
              refine v_iconst 1 dX12_readLine_107 (by decide) ?_
              refine v_bipush 6 dX12_readLine_108 (by decide) ?_
              refine v_scV [_, _] (c12_number G M0 M2 (lo := 1) (hi := 6) hS hT hM2 (by decide) (by decide)) k12_number dX12_readLine_110 l12_177 (by first | exact hS'.1 _ _ rfl | assumption) (by decide) rfl (Nat.le_of_ble_eq_true rfl) (Nat.le_of_ble_eq_true rfl) ?_
              intro M3 hM3; have hS' := hS.sm hM3.1
              refine v_iastN (6) dX12_readLine_113 (by first | exact hS'.1 _ _ rfl | assumption) (by simp only [n_lit, pk_mul, nI_add]) ⟨by omega, by omega⟩ ?_
              refine v_goto 122 dX12_readLine_114 (by decide) ?_
              exact tail _ _ (hM3.wr 6 _)
            · rw [if_neg k8]
              refine v_aload_n dX12_readLine_0 rfl ?_
              refine v_ldcS (k := 1) (tx := "chest") dX12_readLine_1 rfl (List.mem_of_getElem? (i := 1) rfl) (by decide) ?_
              refine v_cV [_] (c12_wordF G M0 M hS hT h (t := 1) (by decide) k1) k12_isWord dX12_readLine_3 l12_118 (by first | exact hS'.1 _ _ rfl | assumption) (by decide) rfl (Nat.le_of_ble_eq_true rfl) (Nat.le_of_ble_eq_true rfl) ?_
              refine v_if_eq 17 dX12_readLine_6 (by decide) (fun h6 => ?_) (fun h6 => absurd rfl h6)
              refine v_aload_n dX12_readLine_17 rfl ?_
              refine v_ldcS (k := 2) (tx := "spare") dX12_readLine_18 rfl (List.mem_of_getElem? (i := 2) rfl) (by decide) ?_
              refine v_cV [_] (c12_wordF G M0 M hS hT h (t := 2) (by decide) k2) k12_isWord dX12_readLine_20 l12_118 (by first | exact hS'.1 _ _ rfl | assumption) (by decide) rfl (Nat.le_of_ble_eq_true rfl) (Nat.le_of_ble_eq_true rfl) ?_
              refine v_if_eq 34 dX12_readLine_23 (by decide) (fun h23 => ?_) (fun h23 => absurd rfl h23)
              refine v_aload_n dX12_readLine_34 rfl ?_
              refine v_ldcS (k := 3) (tx := "word") dX12_readLine_35 rfl (List.mem_of_getElem? (i := 3) rfl) (by decide) ?_
              refine v_cV [_] (c12_wordF G M0 M hS hT h (t := 3) (by decide) k3) k12_isWord dX12_readLine_37 l12_118 (by first | exact hS'.1 _ _ rfl | assumption) (by decide) rfl (Nat.le_of_ble_eq_true rfl) (Nat.le_of_ble_eq_true rfl) ?_
              refine v_if_eq 50 dX12_readLine_40 (by decide) (fun h40 => ?_) (fun h40 => absurd rfl h40)
              refine v_aload_n dX12_readLine_50 rfl ?_
              refine v_ldcS (k := 6) (tx := "lamp") dX12_readLine_51 rfl (List.mem_of_getElem? (i := 14) rfl) (by decide) ?_
              refine v_cV [_] (c12_wordF G M0 M hS hT h (t := 6) (by decide) k6) k12_isWord dX12_readLine_53 l12_118 (by first | exact hS'.1 _ _ rfl | assumption) (by decide) rfl (Nat.le_of_ble_eq_true rfl) (Nat.le_of_ble_eq_true rfl) ?_
              refine v_if_eq 66 dX12_readLine_56 (by decide) (fun h56 => ?_) (fun h56 => absurd rfl h56)
              refine v_aload_n dX12_readLine_66 rfl ?_
              refine v_ldcS (k := 7) (tx := "hire") dX12_readLine_67 rfl (List.mem_of_getElem? (i := 15) rfl) (by decide) ?_
              refine v_cV [_] (c12_tookF G M0 M hS hT h (t := 7) (by decide) (fun z => k7 z.2)) k12_took dX12_readLine_69 l12_125 (by first | exact hS'.1 _ _ rfl | assumption) (by decide) rfl (Nat.le_of_ble_eq_true rfl) (Nat.le_of_ble_eq_true rfl) ?_
              refine v_if_eq 91 dX12_readLine_72 (by decide) (fun h72 => ?_) (fun h72 => absurd rfl h72)
              refine v_aload_n dX12_readLine_91 rfl ?_
              refine v_ldcS (k := 8) (tx := "people") dX12_readLine_92 rfl (List.mem_of_getElem? (i := 16) rfl) (by decide) ?_
              refine v_cV [_] (c12_tookF G M0 M hS hT h (t := 8) (by decide) (fun z => k8 z.2)) k12_took dX12_readLine_94 l12_125 (by first | exact hS'.1 _ _ rfl | assumption) (by decide) rfl (Nat.le_of_ble_eq_true rfl) (Nat.le_of_ble_eq_true rfl) ?_
              refine v_if_eq 117 dX12_readLine_97 (by decide) (fun h97 => ?_) (fun h97 => absurd rfl h97)
              refine v_aload_n dX12_readLine_117 rfl ?_
              refine v_iconst 2 dX12_readLine_118 (by decide) ?_
              refine v_scVv [_] (c12_blames G M0 M hS h (k := 2) (x := 2) rfl (by omega)) k12_blames dX12_readLine_119 l12_128 (by first | exact hS'.1 _ _ rfl | assumption) (by decide) rfl (Nat.le_of_ble_eq_true rfl) (Nat.le_of_ble_eq_true rfl) ?_
              intro M2 hM2
              exact tail _ M2 hM2
end PG
