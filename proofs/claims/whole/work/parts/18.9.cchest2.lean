theorem pkR_cg2 {b b' : Nat → Int32} {c : Nat} : ∀ m, (∀ j, j < m → b' (6 * c + j) = b (6 * c + j)) → pkR b' c m = pkR b c m
  | 0, _ => rfl
  | m + 1, h => by
    rw [pkR, pkR, pkR_cg2 m (fun j hj => h j (by omega))]
    unfold nb
    rw [h m (by omega)]
theorem row_or {row v m : Nat} (hm : m < 6) (hv : v ≤ 9) (hr : row < 16 ^ m) : nI row ||| nI v <<< ((4 : Int32) * nI m &&& 31) = nI (row + v * 16 ^ m) ∧ row + v * 16 ^ m < 16 ^ (m + 1) := by
  have e : (2 : Nat) ^ (4 * m) = 16 ^ m := by rw [Nat.pow_mul]
  have hb : (16 : Nat) ^ m ≤ 16 ^ 5 := Nat.pow_le_pow_right (by omega) (by omega)
  have hvm : v * 16 ^ m ≤ 9 * 16 ^ m := Nat.mul_le_mul_right _ hv
  refine ⟨?_, by rw [Nat.pow_succ]; omega⟩
  rw [show (4 : Int32) * nI m = nI (4 * m) from pk_mul 4 m, shlN (by omega) (by rw [e]; omega), nIor, Nat.or_comm, e, Nat.mul_comm v]
  have := Nat.two_pow_add_eq_or_of_lt (i := 4 * m) (by rw [e]; exact hr) v
  rw [e] at this
  rw [← this, Nat.add_comm]
theorem rst_n (S : RSt) {i j : Nat} (v : Int32) (h : i ≠ j) : (rst S j v).2.2.2 i = S.2.2.2 i := uK_n _ _ h
section CC2
variable (G : mG)
theorem c3_readChest (M : mM) {p N : Nat} {Z : (Nat → Nat) × Nat} {M0 : mM} {R : RSt} (hM : PM M0 p N) (h : CS p N Z M0 false 0 0 R M) (hL : LV Z R) (hK : KI R.2.2.2) (h0 : R.1 = 0) (hk : kd Z R.2.2.1 = 1 ∨ kd Z R.2.2.1 = 2) : Ct G Y3_readChest 2 0 0 [.ref 102] M (Rs none (CS p N Z M0 false 0 0 (chC Z (decide (kd Z R.2.2.1 = 2)) R))) NX := by
  have hPM := hM.sq h.1
  have hS' := hPM.1
  have hp := hM.2.2.1
  have hp2 := hPM.2.2.2.1
  have hp0 := hPM.2.1.1
  have h2 := hL.2.1
  have e2 : gI M p 2 = nI (kn R.2.2.2 2) := by rw [(h.2.2.2.2.2 h0).2.1.1.2.1]; exact h2.1
  have e3 : gI M p 3 = R.2.2.2 93 := (h.2.2.2.2.2 h0).2.1.1.2.2.1
  have hm := hL.1.2.2.2.2.1
  have hk32 : kd Z R.2.2.1 ≠ 32 := by omega
  unfold chC bgn
  refine Ct.of k3_readChest.1 (Nat.le_of_ble_eq_true rfl) ?_
  by_cases h14 : kn R.2.2.2 2 = 14
  · rw [if_pos h14, rgo_b (rbl_p (by omega) R), if_pos (rbl_p (by omega) R)]
    refine v_aload_n dX3_readChest_0 rfl ?_
    refine v_getR 3 2 _ dX3_readChest_1 f3_21 (by first | exact hS'.1 _ _ rfl | assumption) (by decide) hp2 ?_
    refine v_getI 4 2 dX3_readChest_4 f3_144 hp0 (by decide) ?_
    rw [e2]
    refine v_istore_n dX3_readChest_7 rfl (by decide) ?_
    refine v_iload_n dX3_readChest_8 rfl ?_
    refine v_bipush 14 dX3_readChest_9 (by decide) ?_
    refine v_icmp_lt 20 dX3_readChest_11 (by decide) (fun h11 => absurd ((nI_ltI (b := 14) (by omega) (by omega)).mp h11) (by omega)) (fun h11 => ?_)
    refine v_aload_n dX3_readChest_14 rfl ?_
    refine v_iconst 4 dX3_readChest_15 (by decide) ?_
    refine v_scVv [_] (c3_fail G M (k := 4) hM h rfl (by omega) (by omega)) k3_fail dX3_readChest_16 l3_99 (by first | exact hS'.1 _ _ rfl | assumption) (by decide) rfl (Nat.le_of_ble_eq_true rfl) (Nat.le_of_ble_eq_true rfl) ?_
    intro M2 hM2
    refine v_vret dX3_readChest_19 rfl ?_
    exact ⟨rfl, hM2⟩
  · rw [if_neg h14, rgo_z h0, if_neg (show ¬ (rnx R).1 ≠ 0 from Decidable.not_not.mpr h0)]
    have hc14 : kn R.2.2.2 2 < 14 := by omega
    have g1 := gs.nx hL.1 hk32
    have hL1 := (lr.gs hL g1).1
    show V _ _ _ _ _ (Rs none (CS p N Z M0 false 0 0 (chE (decide (kd Z R.2.2.1 = 2)) (kn R.2.2.2 2) (chL Z (kn R.2.2.2 2) (kn R.2.2.2 1) 0 (rnx R))))) _ _ _ _ _
    have hc2 : R.2.2.2 2 = nI (kn R.2.2.2 2) := h2.1
    generalize hcc : kn R.2.2.2 2 = c at hc14 hc2 e2 ⊢
    generalize hmk : kn R.2.2.2 1 = mk at hm ⊢
    have loop : ∀ r m S row M2 (Q2 : Option Value → mM → Prop), m + r = mk → CS p N Z M0 false 0 0 S M2 → LV Z S → KI S.2.2.2 → kn S.2.2.2 2 = c → kn S.2.2.2 1 = mk → row = pkR (cur S.2.2.2) c m → row < 16 ^ m → (∀ M3, CS p N Z M0 false 0 0 (chL Z c r m S) M3 → LV Z (chL Z c r m S) → KI (chL Z c r m S).2.2.2 → V G Y3_readChest 2 0 0 Q2 NX 87 [some (.ref 102), some (.int (nI c)), some (.int (nI (pkR (cur (chL Z c r m S).2.2.2) c mk))), some (.int (nI mk))] [] M3) → V G Y3_readChest 2 0 0 Q2 NX 56 [some (.ref 102), some (.int (nI c)), some (.int (nI row)), some (.int (nI m))] [] M2 := by
      intro r
      induction r with
      | zero =>
        intro m S row M2 Q2 hmr hs hLS hKS hS2 hS1 hrow hlt kk
        have hPM2 := hM.sq hs.1
        have hS' := hPM2.1
        have em : m = mk := by omega
        subst em
        subst hrow
        have e1 : gI M2 p 1 = nI m := by rw [hs.2.2.2.1, hS1]
        refine v_iload_n dX3_readChest_56 rfl ?_
        refine v_aload_n dX3_readChest_57 rfl ?_
        refine v_getR 3 2 _ dX3_readChest_58 f3_21 (by first | exact hS'.1 _ _ rfl | assumption) (by decide) hPM2.2.2.2.1 ?_
        refine v_getI 4 1 dX3_readChest_61 f3_60 hPM2.2.1.1 (by decide) ?_
        rw [e1]
        refine v_icmp_ge 87 dX3_readChest_64 (by decide) (fun h64 => ?_) (fun h64 => absurd (nI_le (Nat.le_refl _) (by omega)) h64)
        exact kk M2 hs hLS hKS
      | succ r ih =>
        intro m S row M2 Q2 hmr hs hLS hKS hS2 hS1 hrow hlt kk
        have hPM2 := hM.sq hs.1
        have hS' := hPM2.1
        have e1 : gI M2 p 1 = nI mk := by rw [hs.2.2.2.1, hS1]
        have gn := (gs.nu (lo := 0) (hi := 9) hLS.1).1
        have hr := rnv_rng (Z := Z) (lo := 0) (hi := 9) (R := S) (by omega)
        obtain ⟨o1, o2⟩ := row_or (row := row) (v := rnv Z 0 9 S) (m := m) (by omega) hr.2 hlt
        have nl := nst_lr (lo := 0) (hi := 9) (j := 9 + 6 * c + m) hLS (by omega)
        have hnew : row + rnv Z 0 9 S * 16 ^ m = pkR (cur (nst Z 0 9 (9 + 6 * c + m) S).2.2.2) c (m + 1) := by
          rw [pkR, pkR_cg2 (b := cur S.2.2.2) m (fun j hj => by
            show uK (rnu Z 0 9 S).2.2.2 (9 + 6 * c + m) _ (9 + (6 * c + j)) = S.2.2.2 (9 + (6 * c + j))
            rw [uK_n _ _ (by omega), rnu_K]), ← hrow]
          have : nb (cur (nst Z 0 9 (9 + 6 * c + m) S).2.2.2) (6 * c + m) = rnv Z 0 9 S := by
            show (uK (rnu Z 0 9 S).2.2.2 (9 + 6 * c + m) (nI (rnv Z 0 9 S)) (9 + (6 * c + m))).toNatClampNeg = _
            rw [show 9 + (6 * c + m) = 9 + 6 * c + m by omega, uK_s, nI_clamp (by omega)]
          rw [this]
        have next := fun M3 (h3 : CS p N Z M0 false 0 0 (rnu Z 0 9 S) M3) => ih (m + 1) (nst Z 0 9 (9 + 6 * c + m) S) (row + rnv Z 0 9 S * 16 ^ m) M3 Q2 (by omega) (CS.kw hp h3 gn.1 (hKS.gs gn) (Or.inl ⟨by rw [gn.k (by decide) (by decide), hS2]; omega, by omega⟩)) nl.1 (KI.st (hKS.gs gn) _ (by omega)) ((nst_k hLS.1 (by omega)).trans hS2) ((nst_k hLS.1 (by omega)).trans hS1) hnew o2 kk
        refine v_iload_n dX3_readChest_56 rfl ?_
        refine v_aload_n dX3_readChest_57 rfl ?_
        refine v_getR 3 2 _ dX3_readChest_58 f3_21 (by first | exact hS'.1 _ _ rfl | assumption) (by decide) hPM2.2.2.2.1 ?_
        refine v_getI 4 1 dX3_readChest_61 f3_60 hPM2.2.1.1 (by decide) ?_
        rw [e1]
        refine v_icmp_ge 87 dX3_readChest_64 (by decide) (fun h64 => absurd ((nI_leI (by omega) (by omega)).mp h64) (by omega)) (fun h64 => ?_)
        refine v_iload_n dX3_readChest_67 rfl ?_
        refine v_aload_n dX3_readChest_68 rfl ?_
        refine v_iconst 0 dX3_readChest_69 (by decide) ?_
        refine v_bipush 9 dX3_readChest_70 (by decide) ?_
        refine v_scV [_, _] (c3_takeNumber G M2 (lo := 0) (hi := 9) hM hs (by decide) (by decide)) k3_takeNumber dX3_readChest_72 l3_56 (by first | exact hS'.1 _ _ rfl | assumption) (by decide) rfl (Nat.le_of_ble_eq_true rfl) (Nat.le_of_ble_eq_true rfl) ?_
        intro M3 hM3; have hS' := (hM.sq hM3.1).1
        refine v_iconst 4 dX3_readChest_75 (by decide) ?_
        refine v_iload_n dX3_readChest_76 rfl ?_
        refine v_imul dX3_readChest_77 ?_
        refine v_ishl dX3_readChest_78 ?_
        refine v_ior dX3_readChest_79 ?_
        rw [o1]
        refine v_istore_n dX3_readChest_80 rfl (by decide) ?_
        refine v_iinc 1 dX3_readChest_81 rfl (by decide) rfl (by decide) ?_
        refine v_goto 56 dX3_readChest_84 (by decide) ?_
        (rw [nI_1]; exact next M3 hM3)
    -- from the numbers on, in a state B that stands at the first of them
    have go : ∀ (B : RSt) M2, CS p N Z M0 false 0 0 B M2 → LV Z B → KI B.2.2.2 → kn B.2.2.2 2 = c → kn B.2.2.2 1 = mk → B.2.2.2 2 = nI c → (∀ M4 M5, CS p N Z M0 false 0 0 (chL Z c mk 0 B) M4 → LV Z (chL Z c mk 0 B) → KI (chL Z c mk 0 B).2.2.2 → ((chL Z c mk 0 B).1 = 0 → M5 = sI (sI M4 (p + 1) c (nI (pkR (cur (chL Z c mk 0 B).2.2.2) c (kn (chL Z c mk 0 B).2.2.2 1)))) p 2 ((chL Z c mk 0 B).2.2.2 2 + 1)) → Sq p M4 M5 → (∀ q, q < p ∨ p + 7 < q → gI M5 q = gI M4 q) → gR M5 = gR M4 → gI M5 p 1 = gI M4 p 1 → gI M5 p 4 = gI M4 p 4 → CS p N Z M0 false 0 0 (chE (decide (kd Z R.2.2.1 = 2)) c (chL Z c mk 0 (rnx R))) M5) → V G Y3_readChest 2 0 0 (Rs none (CS p N Z M0 false 0 0 (chE (decide (kd Z R.2.2.1 = 2)) c (chL Z c mk 0 (rnx R))))) NX 52 [some (.ref 102), some (.int (nI c))] [] M2 := by
      intro B M2 hB hLB hKB hB2 hB1 hBc fin
      have g := loop mk 0 B 0 M2 (Rs none (CS p N Z M0 false 0 0 (chE (decide (kd Z R.2.2.1 = 2)) c (chL Z c mk 0 (rnx R))))) (Nat.zero_add _) hB hLB hKB hB2 hB1 rfl (by decide) (fun M4 h4 hL4 hK4 => by
        have hPM4 := hM.sq h4.1
        have hS' := hPM4.1
        have r10 := hPM4.2.1.2.2.2.2.2.2.1
        have t1 := hPM4.2.1.2.1
        have fin2 := fin M4 (sI (sI M4 (p + 1) c (nI (pkR (cur (chL Z c mk 0 B).2.2.2) c mk))) p 2 (gI M4 p 2 + 1)) h4 hL4 hK4 (fun z => by
          rw [(h4.2.2.2.2.2 z).2.1.1.2.1]
          have : kn (chL Z c mk 0 B).2.2.2 1 = mk := (kn_cg (chL_o mk 0 B (by omega))).trans hB1
          rw [this]) ((Sq.rf.st _ (Wcs_p _ ⟨by omega, by omega⟩)).st _ (Wcs_p _ ⟨by omega, by omega⟩)) (fun q hq => by rw [gI_sr _ _ (by omega), gI_sr _ _ (by omega)]) rfl (by rw [gI_sk _ _ (by decide), gI_sq _ _ (by omega)]) (by rw [gI_sk _ _ (by decide), gI_sq _ _ (by omega)])
        refine v_aload_n dX3_readChest_87 rfl ?_
        refine v_getR 3 2 _ dX3_readChest_88 f3_21 (by first | exact hS'.1 _ _ rfl | assumption) (by decide) hPM4.2.2.2.1 ?_
        refine v_getR 4 10 _ dX3_readChest_91 f3_150 hPM4.2.1.1 (by decide) r10 ?_
        refine v_iload_n dX3_readChest_94 rfl ?_
        refine v_iload_n dX3_readChest_95 rfl ?_
        refine v_iastN (c) dX3_readChest_96 t1 (by simp only [n_lit, pk_mul, nI_add]) ⟨by omega, by omega⟩ ?_
        refine v_aload_n dX3_readChest_97 rfl ?_
        refine v_getR 3 2 _ dX3_readChest_98 f3_21 (by first | exact hS'.1 _ _ rfl | assumption) (by decide) hPM4.2.2.2.1 ?_
        refine v_dup dX3_readChest_101 rfl ?_
        refine v_getI 4 2 dX3_readChest_102 f3_144 hPM4.2.1.1 (by decide) ?_
        rw [gI_sq _ _ (by omega)]
        refine v_iconst 1 dX3_readChest_105 (by decide) ?_
        refine v_iadd dX3_readChest_106 ?_
        refine v_putI 4 2 dX3_readChest_107 f3_144 hPM4.2.1.1 (by decide) ?_
        refine v_vret dX3_readChest_110 rfl ?_
        exact ⟨rfl, fin2⟩
        )
      have hS' := (hM.sq hB.1).1
      refine v_iconst 0 dX3_readChest_52 (by decide) ?_
      refine v_istore_n dX3_readChest_53 rfl (by decide) ?_
      refine v_iconst 0 dX3_readChest_54 (by decide) ?_
      refine v_istore_n dX3_readChest_55 rfl (by decide) ?_
      exact g
    have bad : ∀ (B : RSt) M4 M5, CS p N Z M0 false 0 0 B M4 → (B.1 ≠ 0) → ∀ T : RSt, T.1 = B.1 → T.2.1 = B.2.1 → T.2.2.1 = B.2.2.1 → kn T.2.2.2 1 = kn B.2.2.2 1 → Sq p M4 M5 → (∀ q, q < p ∨ p + 7 < q → gI M5 q = gI M4 q) → gR M5 = gR M4 → gI M5 p 1 = gI M4 p 1 → gI M5 p 4 = gI M4 p 4 → CS p N Z M0 false 0 0 T M5 := fun B M4 M5 h4 hb T t1 t2 t3 t4 sq o hR p1 p4 =>
      CS.to hp h4 t1 t2 t3 sq o hR (by rw [p1, t4]; exact h4.2.2.2.1) (by rw [p4]; exact h4.2.2.2.2.1) (fun z _ _ => absurd z hb)
    by_cases k2 : kd Z R.2.2.1 = 2
    · rw [decide_eq_true k2] at go ⊢
      have hgo := fun M2 h2 => go (rnx R) M2 h2 hL1 hK hcc hmk hc2 (fun M4 M5 h4 hL4 hK4 hM5 sq o hR p1 p4 => by
        unfold chE
        by_cases hb : (chL Z c mk 0 (rnx R)).1 = 0
        · rw [if_neg (Decidable.not_not.mpr hb), if_pos rfl, hM5 hb]
          exact chE_st hp h4 hL4.1 hK4 hb ((chL_o mk 0 (rnx R) (by omega)).trans hc2) hc14
        · rw [if_pos hb]
          exact bad _ M4 M5 h4 hb _ rfl rfl rfl rfl sq o hR p1 p4)
      refine v_aload_n dX3_readChest_0 rfl ?_
      refine v_getR 3 2 _ dX3_readChest_1 f3_21 (by first | exact hS'.1 _ _ rfl | assumption) (by decide) hp2 ?_
      refine v_getI 4 2 dX3_readChest_4 f3_144 hp0 (by decide) ?_
      rw [e2]
      refine v_istore_n dX3_readChest_7 rfl (by decide) ?_
      refine v_iload_n dX3_readChest_8 rfl ?_
      refine v_bipush 14 dX3_readChest_9 (by decide) ?_
      refine v_icmp_lt 20 dX3_readChest_11 (by decide) (fun h11 => ?_) (fun h11 => absurd ((nI_ltI (b := 14) (by omega) (by omega)).mpr hc14) h11)
      refine v_aload_n dX3_readChest_20 rfl ?_
      refine v_gets (v := .ref 1) dX3_readChest_21 g3_114 (kT_z G (i := 1) (by decide) rfl) ?_
      refine v_cV [_] (c3_stF G M (k := 1) hM h (by decide) (fun z => by have := z.2; omega)) k3_stands dX3_readChest_24 l3_72 (by first | exact hS'.1 _ _ rfl | assumption) (by decide) rfl (Nat.le_of_ble_eq_true rfl) (Nat.le_of_ble_eq_true rfl) ?_
      refine v_if_eq 45 dX3_readChest_27 (by decide) (fun h27 => ?_) (fun h27 => absurd rfl h27)
      refine v_aload_n dX3_readChest_45 rfl ?_
      refine v_getR 3 0 _ dX3_readChest_46 f3_12 (by first | exact hS'.1 _ _ rfl | assumption) (by decide) (by first | exact hS'.2 _ _ _ rfl | assumption) ?_
      refine v_scVv [] (c3_nx G M hM h h0 hk32) k9_next dX3_readChest_49 l3_96 (by first | exact hS'.1 _ _ rfl | assumption) (by decide) rfl (Nat.le_of_ble_eq_true rfl) (Nat.le_of_ble_eq_true rfl) ?_
      intro M2 hM2
      exact hgo M2 hM2
    · have k1 : kd Z R.2.2.1 = 1 := hk.resolve_right k2
      rw [decide_eq_false k2] at go ⊢
      have hsc := h.sc (k := 3) (j := 93) (v := R.2.2.2 93 ||| nI (2 ^ c)) hp hL.1 hK (by omega)
      have eB : rnx (rst R 93 (R.2.2.2 93 ||| nI (2 ^ c))) = rst (rnx R) 93 (R.2.2.2 93 ||| nI (2 ^ c)) := rfl
      have hL2 := (lr.st (j := 93) hL1 (R.2.2.2 93 ||| nI (2 ^ c)) (by decide)).1
      have hcl := chL_rst (Z := Z) hc14 (R.2.2.2 93 ||| nI (2 ^ c)) mk 0 (rnx R) (by omega)
      have hgo := fun M2 h2 => go (rst (rnx R) 93 (R.2.2.2 93 ||| nI (2 ^ c))) M2 h2 hL2 (KI.st (R := rnx R) hK _ (by omega)) ((kn_cg (uK_n R.2.2.2 _ (by decide))).trans hcc) ((kn_cg (uK_n R.2.2.2 _ (by decide))).trans hmk) ((rst_n (rnx R) _ (by decide)).trans hc2) (fun M4 M5 h4 hL4 hK4 hM5 sq o hR p1 p4 => by
        rw [hcl] at h4 hL4 hK4 hM5
        unfold chE
        by_cases hb : (chL Z c mk 0 (rnx R)).1 = 0
        · rw [if_neg (Decidable.not_not.mpr hb), if_neg (by decide)]
          have e93 : (chL Z c mk 0 (rnx R)).2.2.2 93 = R.2.2.2 93 := chL_o mk 0 (rnx R) (by omega)
          have ec2 : (chL Z c mk 0 (rnx R)).2.2.2 2 = R.2.2.2 2 := chL_o mk 0 (rnx R) (by omega)
          rw [hM5 hb, e93]
          have := chE_st hp h4 hL4.1 hK4 hb ((rst_n _ _ (by decide)).trans (ec2.trans hc2)) hc14
          rw [show (rst (chL Z c mk 0 (rnx R)) 93 (R.2.2.2 93 ||| nI (2 ^ c))).2.2.2 2 = (chL Z c mk 0 (rnx R)).2.2.2 2 from rst_n _ _ (by decide)] at this ⊢
          exact this
        · rw [if_pos hb]
          exact bad _ M4 M5 h4 hb _ rfl rfl rfl (kn_cg (uK_n _ _ (by decide))).symm sq o hR p1 p4)
      have hq0 : gT (sI M p 3 (R.2.2.2 93 ||| nI (2 ^ c))) p = .inl 4 := hp0
      refine v_aload_n dX3_readChest_0 rfl ?_
      refine v_getR 3 2 _ dX3_readChest_1 f3_21 (by first | exact hS'.1 _ _ rfl | assumption) (by decide) hp2 ?_
      refine v_getI 4 2 dX3_readChest_4 f3_144 hp0 (by decide) ?_
      rw [e2]
      refine v_istore_n dX3_readChest_7 rfl (by decide) ?_
      refine v_iload_n dX3_readChest_8 rfl ?_
      refine v_bipush 14 dX3_readChest_9 (by decide) ?_
      refine v_icmp_lt 20 dX3_readChest_11 (by decide) (fun h11 => ?_) (fun h11 => absurd ((nI_ltI (b := 14) (by omega) (by omega)).mpr hc14) h11)
      refine v_aload_n dX3_readChest_20 rfl ?_
      refine v_gets (v := .ref 1) dX3_readChest_21 g3_114 (kT_z G (i := 1) (by decide) rfl) ?_
      refine v_cV [_] (c3_stT G M (k := 1) hM h (by decide) ⟨h0, k1⟩) k3_stands dX3_readChest_24 l3_72 (by first | exact hS'.1 _ _ rfl | assumption) (by decide) rfl (Nat.le_of_ble_eq_true rfl) (Nat.le_of_ble_eq_true rfl) ?_
      refine v_if_eq 45 dX3_readChest_27 (by decide) (fun h27 => absurd h27 (by decide)) (fun h27 => ?_)
      refine v_aload_n dX3_readChest_30 rfl ?_
      refine v_getR 3 2 _ dX3_readChest_31 f3_21 (by first | exact hS'.1 _ _ rfl | assumption) (by decide) hp2 ?_
      refine v_dup dX3_readChest_34 rfl ?_
      refine v_getI 4 3 dX3_readChest_35 f3_147 hp0 (by decide) ?_
      rw [e3]
      refine v_iconst 1 dX3_readChest_38 (by decide) ?_
      refine v_iload_n dX3_readChest_39 rfl ?_
      refine v_ishl dX3_readChest_40 ?_
      rw [shl1 (by omega)]
      refine v_ior dX3_readChest_41 ?_
      refine v_putI 4 3 dX3_readChest_42 f3_147 hp0 (by decide) ?_
      refine v_aload_n dX3_readChest_45 rfl ?_
      refine v_getR 3 0 _ dX3_readChest_46 f3_12 (by first | exact hS'.1 _ _ rfl | assumption) (by decide) (by first | exact hS'.2 _ _ _ rfl | assumption) ?_
      refine v_scVv [] (c3_nx G _ hM hsc h0 hk32) k9_next dX3_readChest_49 l3_96 (by first | exact hS'.1 _ _ rfl | assumption) (by decide) rfl (Nat.le_of_ble_eq_true rfl) (Nat.le_of_ble_eq_true rfl) ?_
      intro M2 hM2
      exact hgo M2 hM2
end CC2
