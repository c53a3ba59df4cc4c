section CM2
variable (G : mG)
theorem laE_st {p N c m0 v0 : Nat} {lk : Int32} {Z : (Nat → Nat) × Nat} {M0 M M' : mM} {T : RSt} (hp : 248 ≤ p) (h : CS p N Z M0 false 0 0 T M) (hI : IV Z T) (hK : KI T.2.2.2) (hc : kn T.2.2.2 4 = c) (hc4 : T.2.2.2 4 = nI c) (hc8 : c < 8) (hm0 : m0 < 6) (hv0 : v0 ≤ 9)
    (k0 : T.2.2.2 (120 + 3 * c) = nI m0) (k1 : T.2.2.2 (120 + 3 * c + 1) = nI v0) (k2 : T.2.2.2 (120 + 3 * c + 2) = lk) (hM' : M' = if ltB M p (10 * m0 + v0) = true then sI M p 6 (gI M p 6 + 1) else sI (sI (sJ M p 16 (gJ M p 16 ||| (1 : Int64) <<< ((nI (10 * m0 + v0)).toInt64 &&& 63))) (p + 6) (10 * m0 + v0) lk) p 6 (gI M p 6 + 1)) : CS p N Z M0 false 0 0 (laE T) M' := by
  have hm := hI.2.2.2.2.1
  have base : (∀ q k, q ≠ p + 6 → (q ≠ p ∨ k ≠ 6) → gI M' q k = gI M q k) ∧ gI M' p 6 = gI M p 6 + 1 ∧ gR M' = gR M ∧ Sq p M M' := by
    rw [hM']
    split
    · refine ⟨fun q k a b => ?_, gI_ss _ _ _ _, rfl, Sq.rf.st _ (Wcs_p _ ⟨by omega, by omega⟩)⟩
      by_cases hq : q = p
      · subst hq; exact gI_sk _ _ (b.resolve_left (fun z => z rfl))
      · exact gI_sq _ _ hq
    · refine ⟨fun q k a b => ?_, gI_ss _ _ _ _, rfl, ?_⟩
      · by_cases hq : q = p
        · subst hq; rw [gI_sk _ _ (b.resolve_left (fun z => z rfl)), gI_sq _ _ a]; rfl
        · rw [gI_sq _ _ hq, gI_sq _ _ a]; rfl
      · have s1 : Sq p M (sJ M p 16 (gJ M p 16 ||| (1 : Int64) <<< ((nI (10 * m0 + v0)).toInt64 &&& 63))) := ⟨rfl, rfl, fun _ _ _ => rfl, fun _ _ _ => rfl, fun q k z => by
          rw [gJ_sJ]
          simp only [up2]
          rw [if_neg z]⟩
        exact (s1.st _ (Wcs_p _ ⟨by omega, by omega⟩)).st _ (Wcs_p _ ⟨by omega, by omega⟩)
  have told : ∀ x, x < 60 → ltB M' p x = (ltB M p x || decide (x = 10 * m0 + v0)) := by
    intro x hx
    rw [hM']
    split
    · rename_i q
      show ltB M p x = _
      by_cases he : x = 10 * m0 + v0
      · rw [he, q]; rfl
      · rw [decide_eq_false he, Bool.or_false]
    · rw [ltB_bit hx, ltB_bit hx]
      show (gJ (sJ M p 16 _) p 16).toBitVec.getLsbD x = _
      rw [gJ_ss, or_bit (by omega) hx]
  have look : ∀ x, x < 60 → gI M' (p + 6) x = if x = 10 * m0 + v0 ∧ ¬ ltB M p x = true then lk else gI M (p + 6) x := by
    intro x hx
    rw [hM']
    split
    · rename_i q
      rw [gI_sq _ _ (by omega), if_neg (fun z => z.2 (by rw [z.1]; exact q))]
    · rename_i q
      rw [gI_sq _ _ (by omega)]
      by_cases he : x = 10 * m0 + v0
      · subst he; rw [gI_ss, if_pos ⟨rfl, q⟩]
      · rw [gI_sk _ _ he, if_neg (fun z => he z.1)]; rfl
  obtain ⟨mo, m6, mR, msq⟩ := base
  have mq : ∀ q, q ≠ p → q ≠ p + 6 → gI M' q = gI M q := fun q a b => funext (fun k => mo q k b (Or.inl a))
  unfold laE
  by_cases hb : T.1 = 0
  · rw [if_neg (Decidable.not_not.mpr hb)]
    have eo : ∀ i, i ≠ 4 → uK T.2.2.2 4 (T.2.2.2 4 + 1) i = T.2.2.2 i := fun i hi => uK_n _ _ hi
    have e4 : uK T.2.2.2 4 (T.2.2.2 4 + 1) 4 = nI (c + 1) := by rw [uK_s, hc4, nI_1]
    have ko : ∀ i, i ≠ 4 → kn (uK T.2.2.2 4 (T.2.2.2 4 + 1)) i = kn T.2.2.2 i := fun i hi => kn_cg (eo i hi)
    have k4 : kn (uK T.2.2.2 4 (T.2.2.2 4 + 1)) 4 = c + 1 := by rw [kn, e4, nI_clamp (by omega)]
    refine CS.to hp h rfl rfl rfl msq (fun q hq => mq q (by omega) (by omega)) mR ?_ (by rw [mo p 4 (by omega) (Or.inr (by decide))]; exact h.2.2.2.2.1) (fun _ g r => ⟨?_, ?_⟩)
    · rw [mo p 1 (by omega) (Or.inr (by decide))]
      show _ = nI (kn (uK T.2.2.2 4 (T.2.2.2 4 + 1)) 1)
      rw [ko 1 (by decide)]; exact h.2.2.2.1
    · show CG _ p (uK T.2.2.2 4 (T.2.2.2 4 + 1))
      generalize uK T.2.2.2 4 (T.2.2.2 4 + 1) = K' at eo e4 ko k4
      obtain ⟨⟨g0, g2, g3, g4, g5, g6, g7, g8⟩, gc, grow, gcost, gst, gcode, glamp⟩ := g
      have pf : ∀ k, k ≠ 6 → gI M' p k = gI M p k := fun k hk => mo p k (by omega) (Or.inr hk)
      unfold CG
      rw [ko 1 (by decide), ko 2 (by decide), k4, ko 7 (by decide), eo 0 (by decide), eo 2 (by decide), eo 93 (by decide), eo 3 (by decide), eo 119 (by decide), e4, eo 5 (by decide), eo 6 (by decide), eo 7 (by decide), pf 0 (by decide), pf 2 (by decide), pf 3 (by decide), pf 4 (by decide), pf 5 (by decide), m6, pf 7 (by decide), pf 8 (by decide), mq 102 (by omega) (by omega), mq (p + 1) (by omega) (by omega), mq (p + 2) (by omega) (by omega), mq (p + 3) (by omega) (by omega), mq (p + 7) (by omega) (by omega)]
      refine ⟨⟨g0, g2, g3, g4, g5, by rw [g6, hc4, nI_1], g7, g8⟩, gc, fun d hd => ?_, fun w hw => ?_, fun w hw => ?_, fun k hk => ?_, ?_⟩
      · rw [grow d hd]
        exact congrArg nI (pkR_cg (b := cur T.2.2.2) (b' := cur K') (fun m hm => eo (9 + (6 * d + m)) (by omega)) _ hm.2.2).symm
      · rw [eo (109 + w) (by omega)]; exact gcost w hw
      · rw [eo (144 + w) (by omega)]; exact gst w hw
      · rw [ko (1155 + k) (by omega)]; exact gcode k hk
      · rw [hc] at glamp
        exact lamp_fin hm0 hv0 glamp (fun i a b => eo i (by omega)) hc8 k0 k1 k2 told look
    · show RB _ p false 0 0 (uK T.2.2.2 4 (T.2.2.2 4 + 1))
      obtain ⟨⟨q2, q3, q4⟩, qw⟩ := hK
      unfold RB at r ⊢
      rw [ko 1 (by decide), ko 3 (by decide), ko 7 (by decide), ko (144 + kn T.2.2.2 3) (by omega), mo p 9 (by omega) (Or.inr (by decide)), mq (p + 4) (by omega) (by omega), rdS_cg (K := T.2.2.2) _ (fun j hj => eo _ (by omega))]
      refine ⟨r.1, fun w hw => ?_, fun z => by cases z⟩
      rw [ko (144 + w) (by omega), ko (144 + w + 1) (by omega), lwS_cg (K := T.2.2.2) _ (fun j hj => eo _ (by omega))]
      exact r.2.1 w hw
  · rw [if_pos hb]
    exact CS.to hp h rfl rfl rfl msq (fun q hq => mq q (by omega) (by omega)) mR (by rw [mo p 1 (by omega) (Or.inr (by decide))]; exact h.2.2.2.1) (by rw [mo p 4 (by omega) (Or.inr (by decide))]; exact h.2.2.2.2.1) (fun z _ _ => absurd z hb)
theorem c3_readLamp (M : mM) {p N : Nat} {Z : (Nat → Nat) × Nat} {M0 : mM} {R : RSt} (hM : PM M0 p N) (h : CS p N Z M0 false 0 0 R M) (hL : LV Z R) (hK : KI R.2.2.2) (hk : rIs Z 6 R) : Ct G Y3_readLamp 2 0 0 [.ref 102] M (Rs none (CS p N Z M0 false 0 0 (laR Z R))) NX := by
  have hPM := hM.sq h.1
  have hS' := hPM.1
  have hp := hM.2.2.1
  have hp2 := hPM.2.2.2.1
  have hp0 := hPM.2.1.1
  have h4 := hL.2.2.2
  have e6 : gI M p 6 = nI (kn R.2.2.2 4) := by rw [(h.2.2.2.2.2 hk.1).2.1.1.2.2.2.2.2.1]; exact h4.1
  have hm := hL.1.2.2.2.2.1
  unfold laR bgn
  refine Ct.of k3_readLamp.1 (Nat.le_of_ble_eq_true rfl) ?_
  by_cases h8 : kn R.2.2.2 4 = 8
  · rw [if_pos h8, rgo_b (rbl_p (by omega) R), if_pos (rbl_p (by omega) R)]
    refine v_aload_n dX3_readLamp_0 rfl ?_
    refine v_getR 3 2 _ dX3_readLamp_1 f3_21 (by first | exact hS'.1 _ _ rfl | assumption) (by decide) hp2 ?_
    refine v_getI 4 6 dX3_readLamp_4 f3_153 hp0 (by decide) ?_
    rw [e6]
    refine v_bipush 8 dX3_readLamp_7 (by decide) ?_
    refine v_icmp_lt 18 dX3_readLamp_9 (by decide) (fun h9 => absurd ((nI_ltI (b := 8) (by omega) (by omega)).mp h9) (by omega)) (fun h9 => ?_)
    refine v_aload_n dX3_readLamp_12 rfl ?_
    refine v_iconst 4 dX3_readLamp_13 (by decide) ?_
    refine v_scVv [_] (c3_fail G M (k := 4) hM h rfl (by omega) (by omega)) k3_fail dX3_readLamp_14 l3_99 (by first | exact hS'.1 _ _ rfl | assumption) (by decide) rfl (Nat.le_of_ble_eq_true rfl) (Nat.le_of_ble_eq_true rfl) ?_
    intro M2 hM2
    refine v_vret dX3_readLamp_17 rfl ?_
    exact ⟨rfl, hM2⟩
  · rw [if_neg h8, rgo_z hk.1, if_neg (show ¬ (rnx R).1 ≠ 0 from Decidable.not_not.mpr hk.1)]
    have hc8 : kn R.2.2.2 4 < 8 := by omega
    have g1 := gs.nx hL.1 (show kd Z R.2.2.1 ≠ 32 by have := hk.2; omega)
    have hnx := c3_nx G M hM h hk.1 (by have := hk.2; omega)
    show V _ _ _ _ _ (Rs none (CS p N Z M0 false 0 0 (laE (laB Z (120 + 3 * kn R.2.2.2 4) (rnx R))))) _ _ _ _ _
    have hc4 : R.2.2.2 4 = nI (kn R.2.2.2 4) := h4.1
    generalize hcc : kn R.2.2.2 4 = c at hc8 hc4 e6 ⊢
    have hK1 : KI (rnx R).2.2.2 := hK
    have kc1 : kn (rnx R).2.2.2 4 = c := hcc
    -- the three numbers
    have st : ∀ (lo hi j : Nat) (S : RSt) M2, IV Z S → KI S.2.2.2 → kn S.2.2.2 4 = c → 120 + 3 * c ≤ j → j < 144 → hi < 2 ^ 31 → lo < 2 ^ 31 → CS p N Z M0 false 0 0 S M2 → Ct G Y3_takeNumber 1 0 0 [.ref 102, .int (nI lo), .int (nI hi)] M2 (Rs (some (.int (nI (rnv Z lo hi S)))) (CS p N Z M0 false 0 0 (nst Z lo hi j S))) NX := by
      intro lo hi j S M2 hI hKS h4' hj1 hj2 hh hl h2
      have gn := (gs.nu (lo := lo) (hi := hi) hI).1
      refine (c3_takeNumber G M2 (lo := lo) (hi := hi) hM h2 hl hh).post (fun _ _ q => ⟨q.1, ?_⟩) (fun _ _ z => z)
      exact CS.kw hp q.2 gn.1 (hKS.gs gn) (Or.inr ⟨by rw [gn.k (by decide) (by decide), h4']; exact hj1, hj2⟩)
    have inv : ∀ (lo hi j : Nat) (S : RSt), LV Z S → KI S.2.2.2 → kn S.2.2.2 4 = c → 120 + 3 * c ≤ j → j < 144 → LV Z (nst Z lo hi j S) ∧ KI (nst Z lo hi j S).2.2.2 ∧ kn (nst Z lo hi j S).2.2.2 4 = c ∧ kn (nst Z lo hi j S).2.2.2 1 = kn S.2.2.2 1 := by
      intro lo hi j S hLS hKS h4' hj1 hj2
      have gn := (gs.nu (lo := lo) (hi := hi) hLS.1).1
      exact ⟨(nst_lr hLS (by omega)).1, KI.st (hKS.gs gn) _ (by omega), (nst_k hLS.1 (by omega)).trans h4', nst_k hLS.1 (by omega)⟩
    have hL1 := (lr.gs hL g1).1
    have i1 := inv 0 (kn R.2.2.2 1 - 1) (120 + 3 * c) (rnx R) hL1 hK1 kc1 (by omega) (by omega)
    have i2 := inv 0 9 (120 + 3 * c + 1) _ i1.1 i1.2.1 i1.2.2.1 (by omega) (by omega)
    have i3 := inv 0 9 (120 + 3 * c + 2) _ i2.1 i2.2.1 i2.2.2.1 (by omega) (by omega)
    have s1 := fun M2 => st 0 (kn R.2.2.2 1 - 1) (120 + 3 * c) (rnx R) M2 hL1.1 hK1 kc1 (by omega) (by omega) (by omega) (by decide)
    have s2 := fun M2 => st 0 9 (120 + 3 * c + 1) _ M2 i1.1.1 i1.2.1 i1.2.2.1 (by omega) (by omega) (by decide) (by decide)
    have s3 := fun M2 => st 0 9 (120 + 3 * c + 2) _ M2 i2.1.1 i2.2.1 i2.2.2.1 (by omega) (by omega) (by decide) (by decide)
    have v1 := rnv_rng (Z := Z) (lo := 0) (hi := kn R.2.2.2 1 - 1) (R := rnx R) (by omega)
    have v2 := rnv_rng (Z := Z) (lo := 0) (hi := 9) (R := nst Z 0 (kn R.2.2.2 1 - 1) (120 + 3 * c) (rnx R)) (by omega)
    have w1 : (nst Z 0 (kn R.2.2.2 1 - 1) (120 + 3 * c) (rnx R)).2.2.2 (120 + 3 * c) = nI (rnv Z 0 (kn R.2.2.2 1 - 1) (rnx R)) := uK_s _ _ _
    have nK : ∀ lo hi j i S, i ≠ j → (nst Z lo hi j S).2.2.2 i = S.2.2.2 i := fun lo hi j i S hi' => (uK_n _ _ hi').trans (congrFun (rnu_K Z lo hi S) i)
    have ws : ∀ lo hi j S, (nst Z lo hi j S).2.2.2 j = nI (rnv Z lo hi S) := fun lo hi j S => uK_s _ _ _
    have fin : ∀ M5 M6, CS p N Z M0 false 0 0 (laB Z (120 + 3 * c) (rnx R)) M5 → M6 = _ → CS p N Z M0 false 0 0 (laE (laB Z (120 + 3 * c) (rnx R))) M6 := fun M5 M6 h5 e =>
      laE_st (m0 := rnv Z 0 (kn R.2.2.2 1 - 1) (rnx R)) (v0 := rnv Z 0 9 (nst Z 0 (kn R.2.2.2 1 - 1) (120 + 3 * c) (rnx R))) (lk := nI (rnv Z 0 9 (nst Z 0 9 (120 + 3 * c + 1) (nst Z 0 (kn R.2.2.2 1 - 1) (120 + 3 * c) (rnx R))))) hp h5 i3.1.1 i3.2.1 i3.2.2.1
        (by show (laB Z (120 + 3 * c) (rnx R)).2.2.2 4 = _; unfold laB; rw [nK _ _ _ _ _ (by omega), nK _ _ _ _ _ (by omega), nK _ _ _ _ _ (by omega)]; exact hc4) hc8 (by omega) v2.2
        (by unfold laB; rw [nK _ _ _ _ _ (by omega), nK _ _ _ _ _ (by omega)]; exact ws _ _ _ _) (by unfold laB; rw [nK _ _ _ _ _ (by omega)]; exact ws _ _ _ _) (by unfold laB; exact ws _ _ _ _) e
    refine v_aload_n dX3_readLamp_0 rfl ?_
    refine v_getR 3 2 _ dX3_readLamp_1 f3_21 (by first | exact hS'.1 _ _ rfl | assumption) (by decide) hp2 ?_
    refine v_getI 4 6 dX3_readLamp_4 f3_153 hp0 (by decide) ?_
    rw [e6]
    refine v_bipush 8 dX3_readLamp_7 (by decide) ?_
    refine v_icmp_lt 18 dX3_readLamp_9 (by decide) (fun h9 => ?_) (fun h9 => absurd ((nI_ltI (b := 8) (by omega) (by omega)).mpr hc8) h9)
    refine v_aload_n dX3_readLamp_18 rfl ?_
    refine v_getR 3 0 _ dX3_readLamp_19 f3_12 (by first | exact hS'.1 _ _ rfl | assumption) (by decide) (by first | exact hS'.2 _ _ _ rfl | assumption) ?_
    refine v_scVv [] (hnx) k9_next dX3_readLamp_22 l3_96 (by first | exact hS'.1 _ _ rfl | assumption) (by decide) rfl (Nat.le_of_ble_eq_true rfl) (Nat.le_of_ble_eq_true rfl) ?_
    intro M2 hM2; have hPM2 := hM.sq hM2.1; have hS' := hPM2.1; have hq2 := hPM2.2.2.2.1; have hq0 := hPM2.2.1.1; have e1 : gI M2 p 1 - 1 = nI (kn R.2.2.2 1 - 1) := by rw [hM2.2.2.2.1]; exact nSub (b := 1) hm.2.1
    refine v_aload_n dX3_readLamp_25 rfl ?_
    refine v_iconst 0 dX3_readLamp_26 (by decide) ?_
    refine v_aload_n dX3_readLamp_27 rfl ?_
    refine v_getR 3 2 _ dX3_readLamp_28 f3_21 (by first | exact hS'.1 _ _ rfl | assumption) (by decide) hq2 ?_
    refine v_getI 4 1 dX3_readLamp_31 f3_60 hq0 (by decide) ?_
    refine v_iconst 1 dX3_readLamp_34 (by decide) ?_
    refine v_isub dX3_readLamp_35 ?_
    rw [e1]
    refine v_scV [_, _] (s1 M2 hM2) k3_takeNumber dX3_readLamp_36 l3_56 (by first | exact hS'.1 _ _ rfl | assumption) (by decide) rfl (Nat.le_of_ble_eq_true rfl) (Nat.le_of_ble_eq_true rfl) ?_
    intro M3 hM3; have hS' := (hM.sq hM3.1).1
    refine v_istore_n dX3_readLamp_39 rfl (by decide) ?_
    refine v_aload_n dX3_readLamp_40 rfl ?_
    refine v_iconst 0 dX3_readLamp_41 (by decide) ?_
    refine v_bipush 9 dX3_readLamp_42 (by decide) ?_
    refine v_scV [_, _] (s2 M3 hM3) k3_takeNumber dX3_readLamp_44 l3_56 (by first | exact hS'.1 _ _ rfl | assumption) (by decide) rfl (Nat.le_of_ble_eq_true rfl) (Nat.le_of_ble_eq_true rfl) ?_
    intro M4 hM4; have hS' := (hM.sq hM4.1).1
    refine v_istore_n dX3_readLamp_47 rfl (by decide) ?_
    refine v_aload_n dX3_readLamp_48 rfl ?_
    refine v_iconst 0 dX3_readLamp_49 (by decide) ?_
    refine v_bipush 9 dX3_readLamp_50 (by decide) ?_
    refine v_scV [_, _] (s3 M4 hM4) k3_takeNumber dX3_readLamp_52 l3_56 (by first | exact hS'.1 _ _ rfl | assumption) (by decide) rfl (Nat.le_of_ble_eq_true rfl) (Nat.le_of_ble_eq_true rfl) ?_
    intro M5 hM5; have hPM5 := hM.sq hM5.1; have hS' := hPM5.1; have hr2 := hPM5.2.2.2.1; have hr0 := hPM5.2.1.1; have r15 := hPM5.2.1.2.2.2.2.2.2.2.2.2.2.1; have t6 := hPM5.2.1.2.2.2.2.2.1
    refine v_istore_n dX3_readLamp_55 rfl (by decide) ?_
    refine v_aload_n dX3_readLamp_56 rfl ?_
    refine v_getR 3 2 _ dX3_readLamp_57 f3_21 (by first | exact hS'.1 _ _ rfl | assumption) (by decide) hr2 ?_
    refine v_iload_n dX3_readLamp_60 rfl ?_
    refine v_iload_n dX3_readLamp_61 rfl ?_
    refine v_iload_n dX3_readLamp_62 rfl ?_
    refine v_cVv [_, _, _] (c4_addLamp G M5 hr0 r15 t6 (by omega) v2.2) k4_addLamp dX3_readLamp_63 l3_156 hr0 (by decide) rfl (Nat.le_of_ble_eq_true rfl) (Nat.le_of_ble_eq_true rfl) ?_
    refine v_vret dX3_readLamp_66 rfl ?_
    exact ⟨rfl, fin M5 _ hM5 rfl⟩
end CM2
