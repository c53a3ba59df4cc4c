/-! ===== the reference's parser: lines ===== -/
theorem PS.wr {M0 M : mM} {Z : (Nat → Nat) × Nat} {d : Nat} {R : RSt} (h : PS M0 Z d R M) (j : Nat) (v : Int32) : PS M0 Z d (rst R j v) (sI M 232 j v) := by
  obtain ⟨h1, h2, h3, h4, h5, h6, h7, h8, h9⟩ := h
  exact ⟨h1.st _ rfl, by rw [gI_uK, h2]; rfl, ⟨(gI_sq _ _ (by decide)).trans h3.1, h3.2⟩, fun z => (gI_sq _ _ (by decide)).trans (h4 z), (gI_sq _ _ (by decide)).trans h5, (gI_sq _ _ (by decide)).trans h6, (gI_sq _ _ (by decide)).trans h7, (gI_sq _ _ (by decide)).trans h8, fun z => (gI_sq _ _ (by decide)).trans (h9 z)⟩
section PF
variable (G : mG) (M0 : mM)
theorem c12_begins (M : mM) {Z : (Nat → Nat) × Nat} {d i most : Nat} {R : RSt} {xi xm : Int32} (hS : Sh M0) (hT : Tp M0 Z) (h : PS M0 Z d R M) (hi : i < 100) (hm : most < 100) (e1 : xi = nI i) (e2 : xm = nI most) (hK : R.2.2.2 i = nI (kn R.2.2.2 i) ∧ kn R.2.2.2 i < 100) : Ct G Y12_begins 3 0 0 [.ref 230, .int xi, .int xm] M (Rs (some (.int (bI ((bgn Z i most R).1 = 0)))) (PS M0 Z d (bgn Z i most R))) NX := by
  subst e1 e2
  have hS' := hS.sm h.1
  unfold bgn
  have tail : ∀ M2 R2, PS M0 Z d R2 M2 → V G Y12_begins 3 0 0 (Rs (some (.int (bI ((rgo R2).1 = 0)))) (PS M0 Z d (rgo R2))) NX 15 [some (.ref 230), some (.int (nI i)), some (.int (nI most))] [] M2 := by
    intro M2 R2 hp
    have hS' := hS.sm hp.1
    by_cases hb : R2.1 = 0
    · rw [rgo_z hb, bI_t (show (rnx R2).1 = 0 from hb)]
      refine v_aload_n dX12_begins_15 rfl ?_
      refine v_getI 12 12 dX12_begins_16 f12_103 (by first | exact hS'.1 _ _ rfl | assumption) (by decide) ?_
      rw [hp.bad.1 hb]
      refine v_if_ne 26 dX12_begins_19 (by decide) (fun h19 => absurd rfl h19) (fun h19 => ?_)
      refine v_aload_n dX12_begins_22 rfl ?_
      refine v_scVv [] (c12_ron G M0 M2 hS hT hp) k12_readsOn dX12_begins_23 l12_122 (by first | exact hS'.1 _ _ rfl | assumption) (by decide) rfl (Nat.le_of_ble_eq_true rfl) (Nat.le_of_ble_eq_true rfl) ?_
      intro M3 hM3; have hS' := hS.sm hM3.1
      refine v_aload_n dX12_begins_26 rfl ?_
      refine v_getI 12 12 dX12_begins_27 f12_103 (by first | exact hS'.1 _ _ rfl | assumption) (by decide) ?_
      rw [hM3.bad.1 hb]
      refine v_if_ne 37 dX12_begins_30 (by decide) (fun h30 => absurd rfl h30) (fun h30 => ?_)
      refine v_iconst 1 dX12_begins_33 (by decide) ?_
      refine v_goto 38 dX12_begins_34 (by decide) ?_
      refine v_zret dX12_begins_38 rfl (by first | rfl | exact bI_nb _ | assumption) ?_
      exact ⟨rfl, hM3⟩
    · rw [rgo_b hb, bI_f hb]
      refine v_aload_n dX12_begins_15 rfl ?_
      refine v_getI 12 12 dX12_begins_16 f12_103 (by first | exact hS'.1 _ _ rfl | assumption) (by decide) ?_
      refine v_if_ne 26 dX12_begins_19 (by decide) (fun h19 => ?_) (fun h19 => absurd (hp.bad.2 hb) h19)
      refine v_aload_n dX12_begins_26 rfl ?_
      refine v_getI 12 12 dX12_begins_27 f12_103 (by first | exact hS'.1 _ _ rfl | assumption) (by decide) ?_
      refine v_if_ne 37 dX12_begins_30 (by decide) (fun h30 => ?_) (fun h30 => absurd (hp.bad.2 hb) h30)
      refine v_iconst 0 dX12_begins_37 (by decide) ?_
      refine v_zret dX12_begins_38 rfl (by first | rfl | exact bI_nb _ | assumption) ?_
      exact ⟨rfl, hp⟩
  have ek : gI M 232 i = nI (kn R.2.2.2 i) := by rw [h.2.1]; exact hK.1
  refine Ct.of k12_begins.1 (Nat.le_of_ble_eq_true rfl) ?_
  by_cases h0 : kn R.2.2.2 i = most
  · rw [if_pos h0]
    refine v_aload_n dX12_begins_0 rfl ?_
    refine v_getR 12 1 _ dX12_begins_1 f12_13 (by first | exact hS'.1 _ _ rfl | assumption) (by decide) (by first | exact hS'.2 _ _ _ rfl | assumption) ?_
    refine v_iload_n dX12_begins_4 rfl ?_
    refine v_ialdN (i) dX12_begins_5 (by first | exact hS'.1 _ _ rfl | assumption) (by simp only [n_lit, pk_mul, nI_add]) ⟨by omega, by omega⟩ ?_
    rw [ek]
    refine v_iload_n dX12_begins_6 rfl ?_
    refine v_icmp_ne 15 dX12_begins_7 (by decide) (fun h7 => absurd (congrArg nI h0) h7) (fun h7 => ?_)
    refine v_aload_n dX12_begins_10 rfl ?_
    refine v_iconst 4 dX12_begins_11 (by decide) ?_
    refine v_scVv [_] (c12_blames G M0 M hS h (k := 4) (x := 4) rfl (by omega)) k12_blames dX12_begins_12 l12_128 (by first | exact hS'.1 _ _ rfl | assumption) (by decide) rfl (Nat.le_of_ble_eq_true rfl) (Nat.le_of_ble_eq_true rfl) ?_
    intro M2 hM2
    exact tail M2 _ hM2
  · rw [if_neg h0]
    refine v_aload_n dX12_begins_0 rfl ?_
    refine v_getR 12 1 _ dX12_begins_1 f12_13 (by first | exact hS'.1 _ _ rfl | assumption) (by decide) (by first | exact hS'.2 _ _ _ rfl | assumption) ?_
    refine v_iload_n dX12_begins_4 rfl ?_
    refine v_ialdN (i) dX12_begins_5 (by first | exact hS'.1 _ _ rfl | assumption) (by simp only [n_lit, pk_mul, nI_add]) ⟨by omega, by omega⟩ ?_
    rw [ek]
    refine v_iload_n dX12_begins_6 rfl ?_
    refine v_icmp_ne 15 dX12_begins_7 (by decide) (fun h7 => ?_) (fun h7 => absurd (fun z => h0 ((nI_eq (by omega) (by omega)).mp z)) h7)
    exact tail M _ h
theorem chS_ok (R : RSt) (c : Nat) (spare : Bool) (hb : R.1 = 0) : chE spare c R = rst (if spare = true then R else rst R 93 (R.2.2.2 93 ||| nI (2 ^ c))) 2 (R.2.2.2 2 + 1) := if_neg (Decidable.not_not.mpr hb)
theorem c12_readChest (M : mM) {Z : (Nat → Nat) × Nat} {R : RSt} {spare : Bool} {x : Int32} (hS : Sh M0) (hT : Tp M0 Z) (h : PS M0 Z 0 R M) (hL : LV Z R) (hk : kd Z R.2.2.1 ≠ 32) (hx : x = if spare = true then 1 else 0) : Ct G Y12_readChest 4 0 0 [.ref 230, .int x] M (Rs none (PS M0 Z 0 (chC Z spare R))) NX := by
  have hS' := hS.sm h.1
  have hgb := bgn_gs (i := 2) (most := 14) hL.1 hk
  have hg := lr.gs hL hgb.1
  have hlt := hL.2.1.2
  have hcb := c12_begins G M0 M (i := 2) (most := 14) (xi := 2) (xm := 14) hS hT h (by decide) (by decide) rfl rfl ⟨hL.2.1.1, by omega⟩
  unfold chC
  refine Ct.of k12_readChest.1 (Nat.le_of_ble_eq_true rfl) ?_
  by_cases h0 : (bgn Z 2 14 R).1 = 0
  · have h2lt := (hgb.2 h0).2
    have e2 := hgb.1.k (j := 2) (by decide) (by decide)
    rw [if_neg (Decidable.not_not.mpr h0)]
    rw [bI_t h0] at hcb
    generalize bgn Z 2 14 R = S at hcb hg h0 e2 ⊢
    have hS6 := hg.1.1.2.2.2.2.1
    generalize hmk : kn S.2.2.2 1 = mk at hS6 ⊢
    have hc14 : kn S.2.2.2 2 < 14 := by omega
    have hS2 := hg.1.2.1.1
    generalize hcc : kn S.2.2.2 2 = c at hS2 hc14 ⊢
    have loop : ∀ r m T Q2 M2, m + r = mk → PS M0 Z 0 T M2 → LV Z T → kn T.2.2.2 1 = mk → kn T.2.2.2 2 = c → (∀ T2 M3, PS M0 Z 0 T2 M3 → LV Z T2 → kn T2.2.2.2 2 = c → T2 = chL Z c r m T → V G Y12_readChest 4 0 0 Q2 NX 57 [some (.ref 230), some (.int x), some (.int (nI c)), some (.int (nI mk))] [] M3) → V G Y12_readChest 4 0 0 Q2 NX 20 [some (.ref 230), some (.int x), some (.int (nI c)), some (.int (nI m))] [] M2 := by
      intro r
      induction r with
      | zero =>
        intro m T Q2 M2 hm hp hLT hT1 hT2 kk
        have hS' := hS.sm hp.1
        have e1 : gI M2 232 1 = nI mk := by rw [hp.2.1, hLT.1.2.2.2.2.1.1, hT1]
        have em : m = mk := by omega
        subst em
        refine v_iload_n dX12_readChest_20 rfl ?_
        refine v_aload_n dX12_readChest_21 rfl ?_
        refine v_getR 12 1 _ dX12_readChest_22 f12_13 (by first | exact hS'.1 _ _ rfl | assumption) (by decide) (by first | exact hS'.2 _ _ _ rfl | assumption) ?_
        refine v_iconst 1 dX12_readChest_25 (by decide) ?_
        refine v_ialdN 1 dX12_readChest_26 (by first | exact hS'.1 _ _ rfl | assumption) rfl (by decide) ?_
        rw [e1]
        refine v_icmp_ge 57 dX12_readChest_27 (by decide) (fun h27 => ?_) (fun h27 => absurd (nI_le (Nat.le_refl _) (by omega)) h27)
        exact kk T M2 hp hLT hT2 rfl
      | succ r ih =>
        intro m T Q2 M2 hm hp hLT hT1 hT2 kk
        have hS' := hS.sm hp.1
        have e1 : gI M2 232 1 = nI mk := by rw [hp.2.1, hLT.1.2.2.2.2.1.1, hT1]
        have nl := nst_lr (lo := 0) (hi := 9) (j := 9 + 6 * c + m) hLT (by omega)
        have g := fun M3 hM3 => ih (m + 1) (nst Z 0 9 (9 + 6 * c + m) T) Q2 M3 (by omega) hM3 nl.1 ((nst_k hLT.1 (by omega)).trans hT1) ((nst_k hLT.1 (by omega)).trans hT2) kk
        refine v_iload_n dX12_readChest_20 rfl ?_
        refine v_aload_n dX12_readChest_21 rfl ?_
        refine v_getR 12 1 _ dX12_readChest_22 f12_13 (by first | exact hS'.1 _ _ rfl | assumption) (by decide) (by first | exact hS'.2 _ _ _ rfl | assumption) ?_
        refine v_iconst 1 dX12_readChest_25 (by decide) ?_
        refine v_ialdN 1 dX12_readChest_26 (by first | exact hS'.1 _ _ rfl | assumption) rfl (by decide) ?_
        rw [e1]
        refine v_icmp_ge 57 dX12_readChest_27 (by decide) (fun h27 => absurd ((nI_leI (by omega) (by omega)).mp h27) (by omega)) (fun h27 => ?_)
        refine v_aload_n dX12_readChest_30 rfl ?_
        refine v_getR 12 1 _ dX12_readChest_31 f12_13 (by first | exact hS'.1 _ _ rfl | assumption) (by decide) (by first | exact hS'.2 _ _ _ rfl | assumption) ?_
        refine v_bipush 9 dX12_readChest_34 (by decide) ?_
        refine v_bipush 6 dX12_readChest_36 (by decide) ?_
        refine v_iload_n dX12_readChest_38 rfl ?_
        refine v_imul dX12_readChest_39 ?_
        refine v_iadd dX12_readChest_40 ?_
        refine v_iload_n dX12_readChest_41 rfl ?_
        refine v_iadd dX12_readChest_42 ?_
        refine v_aload_n dX12_readChest_43 rfl ?_
        refine v_iconst 0 dX12_readChest_44 (by decide) ?_
        refine v_bipush 9 dX12_readChest_45 (by decide) ?_
        refine v_scV [_, _] (c12_number G M0 M2 (lo := 0) (hi := 9) hS hT hp (by decide) (by decide)) k12_number dX12_readChest_47 l12_177 (by first | exact hS'.1 _ _ rfl | assumption) (by decide) rfl (Nat.le_of_ble_eq_true rfl) (Nat.le_of_ble_eq_true rfl) ?_
        intro M3 hM3; have hS' := hS.sm hM3.1
        refine v_iastN (9 + 6 * c + m) dX12_readChest_50 (by first | exact hS'.1 _ _ rfl | assumption) (by simp only [n_lit, pk_mul, nI_add]) ⟨by omega, by omega⟩ ?_
        refine v_iinc 1 dX12_readChest_51 rfl (by decide) rfl (by decide) ?_
        refine v_goto 20 dX12_readChest_54 (by decide) ?_
        (rw [nI_1]; exact g _ (hM3.wr _ _))
    have fin : ∀ T2 M3, PS M0 Z 0 T2 M3 → LV Z T2 → kn T2.2.2.2 2 = c → T2 = chL Z c mk 0 S → V G Y12_readChest 4 0 0 (Rs none (PS M0 Z 0 (chE spare c (chL Z c mk 0 S)))) NX 57 [some (.ref 230), some (.int x), some (.int (nI c)), some (.int (nI mk))] [] M3 := by
      intro T2 M3 hp hLT hT2 eT
      rw [← eT]
      have hS' := hS.sm hp.1
      by_cases hb : T2.1 = 0
      · rw [chS_ok _ _ _ hb]
        have e93 : gI M3 232 93 = T2.2.2.2 93 := congrFun hp.2.1 93
        cases spare
        · rw [hx, if_neg (by decide), if_neg (by decide)]
          have w1 := hp.wr 93 (T2.2.2.2 93 ||| nI (2 ^ c))
          have w2 := w1.wr 2 (T2.2.2.2 2 + 1)
          have e2' : gI (sI M3 232 93 (T2.2.2.2 93 ||| nI (2 ^ c))) 232 2 = T2.2.2.2 2 := (gI_sk _ _ (by decide)).trans (congrFun hp.2.1 2)
          refine v_aload_n dX12_readChest_57 rfl ?_
          refine v_getI 12 12 dX12_readChest_58 f12_103 (by first | exact hS'.1 _ _ rfl | assumption) (by decide) ?_
          rw [hp.bad.1 hb]
          refine v_if_eq 65 dX12_readChest_61 (by decide) (fun h61 => ?_) (fun h61 => absurd rfl h61)
          refine v_iload_n dX12_readChest_65 rfl ?_
          refine v_if_ne 82 dX12_readChest_66 (by decide) (fun h66 => absurd rfl h66) (fun h66 => ?_)
          refine v_aload_n dX12_readChest_69 rfl ?_
          refine v_getR 12 1 _ dX12_readChest_70 f12_13 (by first | exact hS'.1 _ _ rfl | assumption) (by decide) (by first | exact hS'.2 _ _ _ rfl | assumption) ?_
          refine v_bipush 93 dX12_readChest_73 (by decide) ?_
          refine v_dup2 dX12_readChest_75 rfl rfl ?_
          refine v_iald dX12_readChest_76 (by first | exact hS'.1 _ _ rfl | assumption) (vp_in_iff.mpr (by decide)) ?_
          rw [show (93 : Int32).toNatClampNeg = 93 from rfl, e93]
          refine v_iconst 1 dX12_readChest_77 (by decide) ?_
          refine v_iload_n dX12_readChest_78 rfl ?_
          refine v_ishl dX12_readChest_79 ?_
          rw [shl1 (by omega)]
          refine v_ior dX12_readChest_80 ?_
          refine v_iastN (93) dX12_readChest_81 (by first | exact hS'.1 _ _ rfl | assumption) (by simp only [n_lit, pk_mul, nI_add]) ⟨by omega, by omega⟩ ?_
          refine v_aload_n dX12_readChest_82 rfl ?_
          refine v_getR 12 1 _ dX12_readChest_83 f12_13 (by first | exact hS'.1 _ _ rfl | assumption) (by decide) (by first | exact hS'.2 _ _ _ rfl | assumption) ?_
          refine v_iconst 2 dX12_readChest_86 (by decide) ?_
          refine v_dup2 dX12_readChest_87 rfl rfl ?_
          refine v_iald dX12_readChest_88 (by first | exact hS'.1 _ _ rfl | assumption) (vp_in_iff.mpr (by decide)) ?_
          rw [show (2 : Int32).toNatClampNeg = 2 from rfl, e2']
          refine v_iconst 1 dX12_readChest_89 (by decide) ?_
          refine v_iadd dX12_readChest_90 ?_
          refine v_iastN (2) dX12_readChest_91 (by first | exact hS'.1 _ _ rfl | assumption) (by simp only [n_lit, pk_mul, nI_add]) ⟨by omega, by omega⟩ ?_
          refine v_vret dX12_readChest_92 rfl ?_
          exact ⟨rfl, w2⟩
        · rw [hx, if_pos rfl, if_pos rfl]
          have w2 := hp.wr 2 (T2.2.2.2 2 + 1)
          have e2' : gI M3 232 2 = T2.2.2.2 2 := congrFun hp.2.1 2
          refine v_aload_n dX12_readChest_57 rfl ?_
          refine v_getI 12 12 dX12_readChest_58 f12_103 (by first | exact hS'.1 _ _ rfl | assumption) (by decide) ?_
          rw [hp.bad.1 hb]
          refine v_if_eq 65 dX12_readChest_61 (by decide) (fun h61 => ?_) (fun h61 => absurd rfl h61)
          refine v_iload_n dX12_readChest_65 rfl ?_
          refine v_if_ne 82 dX12_readChest_66 (by decide) (fun h66 => ?_) (fun h66 => absurd (show ¬ (1 : Int32) = 0 by decide) h66)
          refine v_aload_n dX12_readChest_82 rfl ?_
          refine v_getR 12 1 _ dX12_readChest_83 f12_13 (by first | exact hS'.1 _ _ rfl | assumption) (by decide) (by first | exact hS'.2 _ _ _ rfl | assumption) ?_
          refine v_iconst 2 dX12_readChest_86 (by decide) ?_
          refine v_dup2 dX12_readChest_87 rfl rfl ?_
          refine v_iald dX12_readChest_88 (by first | exact hS'.1 _ _ rfl | assumption) (vp_in_iff.mpr (by decide)) ?_
          rw [show (2 : Int32).toNatClampNeg = 2 from rfl, e2']
          refine v_iconst 1 dX12_readChest_89 (by decide) ?_
          refine v_iadd dX12_readChest_90 ?_
          refine v_iastN (2) dX12_readChest_91 (by first | exact hS'.1 _ _ rfl | assumption) (by simp only [n_lit, pk_mul, nI_add]) ⟨by omega, by omega⟩ ?_
          refine v_vret dX12_readChest_92 rfl ?_
          exact ⟨rfl, w2⟩
      · rw [chE, if_pos hb]
        refine v_aload_n dX12_readChest_57 rfl ?_
        refine v_getI 12 12 dX12_readChest_58 f12_103 (by first | exact hS'.1 _ _ rfl | assumption) (by decide) ?_
        refine v_if_eq 65 dX12_readChest_61 (by decide) (fun h61 => absurd h61 (hp.bad.2 hb)) (fun h61 => ?_)
        refine v_vret dX12_readChest_64 rfl ?_
        exact ⟨rfl, hp⟩
    refine v_aload_n dX12_readChest_0 rfl ?_
    refine v_iconst 2 dX12_readChest_1 (by decide) ?_
    refine v_bipush 14 dX12_readChest_2 (by decide) ?_
    refine v_scV [_, _] (hcb) k12_begins dX12_readChest_4 l12_191 (by first | exact hS'.1 _ _ rfl | assumption) (by decide) rfl (Nat.le_of_ble_eq_true rfl) (Nat.le_of_ble_eq_true rfl) ?_
    intro M2 hM2; have hS' := hS.sm hM2.1
    refine v_if_ne 11 dX12_readChest_7 (by decide) (fun h7 => ?_) (fun h7 => absurd (show ¬ (1 : Int32) = 0 by decide) h7)
    refine v_aload_n dX12_readChest_11 rfl ?_
    refine v_getR 12 1 _ dX12_readChest_12 f12_13 (by first | exact hS'.1 _ _ rfl | assumption) (by decide) (by first | exact hS'.2 _ _ _ rfl | assumption) ?_
    refine v_iconst 2 dX12_readChest_15 (by decide) ?_
    refine v_ialdN 2 dX12_readChest_16 (by first | exact hS'.1 _ _ rfl | assumption) rfl (by decide) ?_
    rw [hM2.2.1, hS2]
    refine v_istore_n dX12_readChest_17 rfl (by decide) ?_
    refine v_iconst 0 dX12_readChest_18 (by decide) ?_
    refine v_istore_n dX12_readChest_19 rfl (by decide) ?_
    exact loop mk 0 S _ M2 (Nat.zero_add _) hM2 hg.1 hmk hcc (fun T2 M3 a b c' e => fin T2 M3 a b c' e)
  · rw [if_pos h0]
    rw [bI_f h0] at hcb
    refine v_aload_n dX12_readChest_0 rfl ?_
    refine v_iconst 2 dX12_readChest_1 (by decide) ?_
    refine v_bipush 14 dX12_readChest_2 (by decide) ?_
    refine v_scV [_, _] (hcb) k12_begins dX12_readChest_4 l12_191 (by first | exact hS'.1 _ _ rfl | assumption) (by decide) rfl (Nat.le_of_ble_eq_true rfl) (Nat.le_of_ble_eq_true rfl) ?_
    intro M2 hM2
    refine v_if_ne 11 dX12_readChest_7 (by decide) (fun h7 => absurd rfl h7) (fun h7 => ?_)
    refine v_vret dX12_readChest_10 rfl ?_
    exact ⟨rfl, hM2⟩
theorem c12_readStop (M : mM) {Z : (Nat → Nat) × Nat} {R : RSt} (hS : Sh M0) (hT : Tp M0 Z) (h : PS M0 Z 0 R M) : Ct G Y12_readStop 4 0 0 [.ref 230] M (Rs none (PS M0 Z 0 (sto Z R))) NX := by
  have hS' := hS.sm h.1
  unfold sto stE
  refine Ct.of k12_readStop.1 (Nat.le_of_ble_eq_true rfl) ?_
  by_cases hb : (rmu Z 17 R).1 = 0
  · rw [if_neg (Decidable.not_not.mpr hb)]
    refine v_aload_n dX12_readStop_0 rfl ?_
    refine v_bipush 59 dX12_readStop_1 (by decide) ?_
    refine v_scVv [_] (c12_mustSign G M0 M hS hT h (k := 17) (by decide) (by decide)) k12_mustSign dX12_readStop_3 l12_163 (by first | exact hS'.1 _ _ rfl | assumption) (by decide) rfl (Nat.le_of_ble_eq_true rfl) (Nat.le_of_ble_eq_true rfl) ?_
    intro M2 hM2; have hS' := hS.sm hM2.1; have w2 := hM2.wr 0 ((rmu Z 17 R).2.2.2 0 + 1); have e0 : gI M2 232 0 = (rmu Z 17 R).2.2.2 0 := congrFun hM2.2.1 0
    refine v_aload_n dX12_readStop_6 rfl ?_
    refine v_getI 12 12 dX12_readStop_7 f12_103 (by first | exact hS'.1 _ _ rfl | assumption) (by decide) ?_
    rw [hM2.bad.1 hb]
    refine v_if_ne 23 dX12_readStop_10 (by decide) (fun h10 => absurd rfl h10) (fun h10 => ?_)
    refine v_aload_n dX12_readStop_13 rfl ?_
    refine v_getR 12 1 _ dX12_readStop_14 f12_13 (by first | exact hS'.1 _ _ rfl | assumption) (by decide) (by first | exact hS'.2 _ _ _ rfl | assumption) ?_
    refine v_iconst 0 dX12_readStop_17 (by decide) ?_
    refine v_dup2 dX12_readStop_18 rfl rfl ?_
    refine v_iald dX12_readStop_19 (by first | exact hS'.1 _ _ rfl | assumption) (vp_in_iff.mpr (by decide)) ?_
    rw [show (0 : Int32).toNatClampNeg = 0 from rfl, e0]
    refine v_iconst 1 dX12_readStop_20 (by decide) ?_
    refine v_iadd dX12_readStop_21 ?_
    refine v_iastN (0) dX12_readStop_22 (by first | exact hS'.1 _ _ rfl | assumption) (by simp only [n_lit, pk_mul, nI_add]) ⟨by omega, by omega⟩ ?_
    refine v_vret dX12_readStop_23 rfl ?_
    exact ⟨rfl, w2⟩
  · rw [if_pos hb]
    refine v_aload_n dX12_readStop_0 rfl ?_
    refine v_bipush 59 dX12_readStop_1 (by decide) ?_
    refine v_scVv [_] (c12_mustSign G M0 M hS hT h (k := 17) (by decide) (by decide)) k12_mustSign dX12_readStop_3 l12_163 (by first | exact hS'.1 _ _ rfl | assumption) (by decide) rfl (Nat.le_of_ble_eq_true rfl) (Nat.le_of_ble_eq_true rfl) ?_
    intro M2 hM2; have hS' := hS.sm hM2.1
    refine v_aload_n dX12_readStop_6 rfl ?_
    refine v_getI 12 12 dX12_readStop_7 f12_103 (by first | exact hS'.1 _ _ rfl | assumption) (by decide) ?_
    refine v_if_ne 23 dX12_readStop_10 (by decide) (fun h10 => ?_) (fun h10 => absurd (hM2.bad.2 hb) h10)
    refine v_vret dX12_readStop_23 rfl ?_
    exact ⟨rfl, hM2⟩
theorem c12_readLamp (M : mM) {Z : (Nat → Nat) × Nat} {R : RSt} (hS : Sh M0) (hT : Tp M0 Z) (h : PS M0 Z 0 R M) (hL : LV Z R) (hk : kd Z R.2.2.1 ≠ 32) : Ct G Y12_readLamp 4 0 0 [.ref 230] M (Rs none (PS M0 Z 0 (laR Z R))) NX := by
  have hS' := hS.sm h.1
  have hgb := bgn_gs (i := 4) (most := 8) hL.1 hk
  have hg := lr.gs hL hgb.1
  have hlt := hL.2.2.2.2
  have hcb := c12_begins G M0 M (i := 4) (most := 8) (xi := 4) (xm := 8) hS hT h (by decide) (by decide) rfl rfl ⟨hL.2.2.2.1, by omega⟩
  unfold laR
  refine Ct.of k12_readLamp.1 (Nat.le_of_ble_eq_true rfl) ?_
  by_cases h0 : (bgn Z 4 8 R).1 = 0
  · have h2lt := (hgb.2 h0).2
    have e2 := hgb.1.k (j := 4) (by decide) (by decide)
    rw [if_neg (Decidable.not_not.mpr h0)]
    rw [bI_t h0] at hcb
    generalize bgn Z 4 8 R = S at hcb hg h0 e2 ⊢
    have hS4 := hg.1.2.2.2.1
    have h6 := hg.1.1.2.2.2.2.1.2.2
    unfold laB
    generalize hcc : kn S.2.2.2 4 = c at hS4 e2 ⊢
    have fin : ∀ T M3, PS M0 Z 0 T M3 → V G Y12_readLamp 4 0 0 (Rs none (PS M0 Z 0 (laE T))) NX 72 [some (.ref 230), some (.int (nI (120 + 3 * c)))] [] M3 := by
      intro T M3 hp
      have hS' := hS.sm hp.1
      unfold laE
      by_cases hb : T.1 = 0
      · rw [if_neg (Decidable.not_not.mpr hb)]
        have w2 := hp.wr 4 (T.2.2.2 4 + 1)
        have e4 : gI M3 232 4 = T.2.2.2 4 := congrFun hp.2.1 4
        refine v_aload_n dX12_readLamp_72 rfl ?_
        refine v_getI 12 12 dX12_readLamp_73 f12_103 (by first | exact hS'.1 _ _ rfl | assumption) (by decide) ?_
        rw [hp.bad.1 hb]
        refine v_if_ne 89 dX12_readLamp_76 (by decide) (fun h76 => absurd rfl h76) (fun h76 => ?_)
        refine v_aload_n dX12_readLamp_79 rfl ?_
        refine v_getR 12 1 _ dX12_readLamp_80 f12_13 (by first | exact hS'.1 _ _ rfl | assumption) (by decide) (by first | exact hS'.2 _ _ _ rfl | assumption) ?_
        refine v_iconst 4 dX12_readLamp_83 (by decide) ?_
        refine v_dup2 dX12_readLamp_84 rfl rfl ?_
        refine v_iald dX12_readLamp_85 (by first | exact hS'.1 _ _ rfl | assumption) (vp_in_iff.mpr (by decide)) ?_
        rw [show (4 : Int32).toNatClampNeg = 4 from rfl, e4]
        refine v_iconst 1 dX12_readLamp_86 (by decide) ?_
        refine v_iadd dX12_readLamp_87 ?_
        refine v_iastN (4) dX12_readLamp_88 (by first | exact hS'.1 _ _ rfl | assumption) (by simp only [n_lit, pk_mul, nI_add]) ⟨by omega, by omega⟩ ?_
        refine v_vret dX12_readLamp_89 rfl ?_
        exact ⟨rfl, w2⟩
      · rw [if_pos hb]
        refine v_aload_n dX12_readLamp_72 rfl ?_
        refine v_getI 12 12 dX12_readLamp_73 f12_103 (by first | exact hS'.1 _ _ rfl | assumption) (by decide) ?_
        refine v_if_ne 89 dX12_readLamp_76 (by decide) (fun h76 => ?_) (fun h76 => absurd (hp.bad.2 hb) h76)
        refine v_vret dX12_readLamp_89 rfl ?_
        exact ⟨rfl, hp⟩
    refine v_aload_n dX12_readLamp_0 rfl ?_
    refine v_iconst 4 dX12_readLamp_1 (by decide) ?_
    refine v_bipush 8 dX12_readLamp_2 (by decide) ?_
    refine v_scV [_, _] (hcb) k12_begins dX12_readLamp_4 l12_191 (by first | exact hS'.1 _ _ rfl | assumption) (by decide) rfl (Nat.le_of_ble_eq_true rfl) (Nat.le_of_ble_eq_true rfl) ?_
    intro M2 hM2; have hS' := hS.sm hM2.1
    refine v_if_ne 11 dX12_readLamp_7 (by decide) (fun h7 => ?_) (fun h7 => absurd (show ¬ (1 : Int32) = 0 by decide) h7)
    refine v_bipush 120 dX12_readLamp_11 (by decide) ?_
    refine v_iconst 3 dX12_readLamp_13 (by decide) ?_
    refine v_aload_n dX12_readLamp_14 rfl ?_
    refine v_getR 12 1 _ dX12_readLamp_15 f12_13 (by first | exact hS'.1 _ _ rfl | assumption) (by decide) (by first | exact hS'.2 _ _ _ rfl | assumption) ?_
    refine v_iconst 4 dX12_readLamp_18 (by decide) ?_
    refine v_ialdN 4 dX12_readLamp_19 (by first | exact hS'.1 _ _ rfl | assumption) rfl (by decide) ?_
    rw [hM2.2.1, hS4]
    refine v_imul dX12_readLamp_20 ?_
    refine v_iadd dX12_readLamp_21 ?_
    rw [show (120 : Int32) + 3 * nI c = nI (120 + 3 * c) by simp only [n_lit, pk_mul, nI_add]]
    refine v_istore_n dX12_readLamp_22 rfl (by decide) ?_
    refine v_aload_n dX12_readLamp_23 rfl ?_
    refine v_getR 12 1 _ dX12_readLamp_24 f12_13 (by first | exact hS'.1 _ _ rfl | assumption) (by decide) (by first | exact hS'.2 _ _ _ rfl | assumption) ?_
    refine v_iload_n dX12_readLamp_27 rfl ?_
    refine v_aload_n dX12_readLamp_28 rfl ?_
    refine v_iconst 0 dX12_readLamp_29 (by decide) ?_
    refine v_aload_n dX12_readLamp_30 rfl ?_
    refine v_getR 12 1 _ dX12_readLamp_31 f12_13 (by first | exact hS'.1 _ _ rfl | assumption) (by decide) (by first | exact hS'.2 _ _ _ rfl | assumption) ?_
    refine v_iconst 1 dX12_readLamp_34 (by decide) ?_
    refine v_ialdN 1 dX12_readLamp_35 (by first | exact hS'.1 _ _ rfl | assumption) rfl (by decide) ?_
    refine v_iconst 1 dX12_readLamp_36 (by decide) ?_
    refine v_isub dX12_readLamp_37 ?_
    rw [hM2.k1 hg.1.1]
    refine v_scV [_, _] (c12_number G M0 M2 (lo := 0) hS hT hM2 (by decide) (by omega)) k12_number dX12_readLamp_38 l12_177 (by first | exact hS'.1 _ _ rfl | assumption) (by decide) rfl (Nat.le_of_ble_eq_true rfl) (Nat.le_of_ble_eq_true rfl) ?_
    intro M3 hM3; have hS' := hS.sm hM3.1
    refine v_iastN (120 + 3 * c) dX12_readLamp_41 (by first | exact hS'.1 _ _ rfl | assumption) (by simp only [n_lit, pk_mul, nI_add]) ⟨by omega, by omega⟩ ?_
    refine v_aload_n dX12_readLamp_42 rfl ?_
    refine v_getR 12 1 _ dX12_readLamp_43 f12_13 (by first | exact hS'.1 _ _ rfl | assumption) (by decide) (by first | exact hS'.2 _ _ _ rfl | assumption) ?_
    refine v_iload_n dX12_readLamp_46 rfl ?_
    refine v_iconst 1 dX12_readLamp_47 (by decide) ?_
    refine v_iadd dX12_readLamp_48 ?_
    refine v_aload_n dX12_readLamp_49 rfl ?_
    refine v_iconst 0 dX12_readLamp_50 (by decide) ?_
    refine v_bipush 9 dX12_readLamp_51 (by decide) ?_
    refine v_scV [_, _] (c12_number G M0 _ (lo := 0) (hi := 9) hS hT (hM3.wr (120 + 3 * c) _) (by decide) (by decide)) k12_number dX12_readLamp_53 l12_177 (by first | exact hS'.1 _ _ rfl | assumption) (by decide) rfl (Nat.le_of_ble_eq_true rfl) (Nat.le_of_ble_eq_true rfl) ?_
    intro M4 hM4; have hS' := hS.sm hM4.1
    refine v_iastN (120 + 3 * c + 1) dX12_readLamp_56 (by first | exact hS'.1 _ _ rfl | assumption) (by simp only [n_lit, pk_mul, nI_add]) ⟨by omega, by omega⟩ ?_
    refine v_aload_n dX12_readLamp_57 rfl ?_
    refine v_getR 12 1 _ dX12_readLamp_58 f12_13 (by first | exact hS'.1 _ _ rfl | assumption) (by decide) (by first | exact hS'.2 _ _ _ rfl | assumption) ?_
    refine v_iload_n dX12_readLamp_61 rfl ?_
    refine v_iconst 2 dX12_readLamp_62 (by decide) ?_
    refine v_iadd dX12_readLamp_63 ?_
    refine v_aload_n dX12_readLamp_64 rfl ?_
    refine v_iconst 0 dX12_readLamp_65 (by decide) ?_
    refine v_bipush 9 dX12_readLamp_66 (by decide) ?_
    refine v_scV [_, _] (c12_number G M0 _ (lo := 0) (hi := 9) hS hT (hM4.wr (120 + 3 * c + 1) _) (by decide) (by decide)) k12_number dX12_readLamp_68 l12_177 (by first | exact hS'.1 _ _ rfl | assumption) (by decide) rfl (Nat.le_of_ble_eq_true rfl) (Nat.le_of_ble_eq_true rfl) ?_
    intro M5 hM5; have hS' := hS.sm hM5.1
    refine v_iastN (120 + 3 * c + 2) dX12_readLamp_71 (by first | exact hS'.1 _ _ rfl | assumption) (by simp only [n_lit, pk_mul, nI_add]) ⟨by omega, by omega⟩ ?_
    exact fin _ _ (hM5.wr _ _)
  · rw [if_pos h0]
    rw [bI_f h0] at hcb
    refine v_aload_n dX12_readLamp_0 rfl ?_
    refine v_iconst 4 dX12_readLamp_1 (by decide) ?_
    refine v_bipush 8 dX12_readLamp_2 (by decide) ?_
    refine v_scV [_, _] (hcb) k12_begins dX12_readLamp_4 l12_191 (by first | exact hS'.1 _ _ rfl | assumption) (by decide) rfl (Nat.le_of_ble_eq_true rfl) (Nat.le_of_ble_eq_true rfl) ?_
    intro M2 hM2
    refine v_if_ne 11 dX12_readLamp_7 (by decide) (fun h7 => absurd rfl h7) (fun h7 => ?_)
    refine v_vret dX12_readLamp_10 rfl ?_
    exact ⟨rfl, hM2⟩
end PF
