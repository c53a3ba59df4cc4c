/-! ===== the reference's parser: took, must, number, goesIn, laysStep ===== -/
section PB
variable (G : mG) (M0 M : mM)
/-- reads on, from where the reader stands -/
theorem c12_ron {Z : (Nat → Nat) × Nat} {d : Nat} {R : Nat × Nat × Nat × (Nat → Int32)} (hS : Sh M0) (hT : Tp M0 Z) (h : PS M0 Z d R M) : Ct G Y12_readsOn 2 0 0 [.ref 230] M (Rs none (PS M0 Z d (rnx R))) NX :=
  (c12_readsOn G M (h := hh Z (R.2.2.1 + 1)) (hS.sm h.1) (hT.sm h.1 rfl (fun _ => rfl)) (hh_le Z _) h.2.2.2.2.2.1).post (fun _ _ q => ⟨q.1, h.nx q.2⟩) (fun _ _ z => z)
theorem c12_isSign {Z : (Nat → Nat) × Nat} {d k : Nat} {R : Nat × Nat × Nat × (Nat → Int32)} {x : Int32} (hS : Sh M0) (h : PS M0 Z d R M) (hk : 17 ≤ k ∧ k < 29) (hx : x = nI (rc k)) : Ct G Y12_isSign 0 0 0 [.ref 230, .int x] M (Rv (some (.int (bI (rIs Z k R)))) M) NX := by
  subst hx
  have hS' := hS.sm h.1
  obtain ⟨h1, h2, h3, h4, h5, h6, h7, h8, h9⟩ := id h
  have hkl := kd_le Z R.2.2.1
  have hcn := rc_sn (kd Z R.2.2.1) (by omega)
  have hcm := rc_sn k (by omega)
  have hre := rc_eq k hk.2 hk.1 (kd Z R.2.2.1) (by omega)
  have hB1 : rIs Z k R → bI (rIs Z k R) = 1 := fun z => bI_t z
  have hB0 : ¬ rIs Z k R → bI (rIs Z k R) = 0 := fun z => bI_f z
  generalize bI (rIs Z k R) = B at hB1 hB0 ⊢
  refine Ct.of k12_isSign.1 (Nat.le_of_ble_eq_true rfl) ?_
  by_cases h0 : R.1 = 0
  · by_cases hr : rc (kd Z R.2.2.1) = rc k
    · refine v_aload_n dX12_isSign_0 rfl ?_
      refine v_getI 12 12 dX12_isSign_1 f12_103 (by first | exact hS'.1 _ _ rfl | assumption) (by decide) ?_
      rw [h3.1, h0]
      refine v_if_ne 19 dX12_isSign_4 (by decide) (fun h4 => absurd rfl h4) (fun h4 => ?_)
      refine v_aload_n dX12_isSign_7 rfl ?_
      refine v_getI 12 10 dX12_isSign_8 f12_83 (by first | exact hS'.1 _ _ rfl | assumption) (by decide) ?_
      refine v_iload_n dX12_isSign_11 rfl ?_
      rw [h8, hr]
      refine v_icmp_ne 19 dX12_isSign_12 (by decide) (fun h12 => absurd rfl h12) (fun h12 => ?_)
      refine v_iconst 1 dX12_isSign_15 (by decide) ?_
      refine v_goto 20 dX12_isSign_16 (by decide) ?_
      refine v_zret dX12_isSign_20 rfl (by first | rfl | exact bI_nb _ | assumption) ?_
      exact ⟨by rw [hB1 ⟨h0, hre.mp hr⟩], rfl⟩
    · refine v_aload_n dX12_isSign_0 rfl ?_
      refine v_getI 12 12 dX12_isSign_1 f12_103 (by first | exact hS'.1 _ _ rfl | assumption) (by decide) ?_
      rw [h3.1, h0]
      refine v_if_ne 19 dX12_isSign_4 (by decide) (fun h4 => absurd rfl h4) (fun h4 => ?_)
      refine v_aload_n dX12_isSign_7 rfl ?_
      refine v_getI 12 10 dX12_isSign_8 f12_83 (by first | exact hS'.1 _ _ rfl | assumption) (by decide) ?_
      refine v_iload_n dX12_isSign_11 rfl ?_
      rw [h8]
      refine v_icmp_ne 19 dX12_isSign_12 (by decide) (fun h12 => ?_) (fun h12 => absurd (fun z => hr ((nI_eq (by omega) (by omega)).mp z)) h12)
      refine v_iconst 0 dX12_isSign_19 (by decide) ?_
      refine v_zret dX12_isSign_20 rfl (by first | rfl | exact bI_nb _ | assumption) ?_
      exact ⟨by rw [hB0 (fun z => hr (hre.mpr z.2))], rfl⟩
  · refine v_aload_n dX12_isSign_0 rfl ?_
    refine v_getI 12 12 dX12_isSign_1 f12_103 (by first | exact hS'.1 _ _ rfl | assumption) (by decide) ?_
    rw [h3.1]
    refine v_if_ne 19 dX12_isSign_4 (by decide) (fun h4 => ?_) (fun h4 => absurd (fun z => h0 (nI_z (by omega) z)) h4)
    refine v_iconst 0 dX12_isSign_19 (by decide) ?_
    refine v_zret dX12_isSign_20 rfl (by first | rfl | exact bI_nb _ | assumption) ?_
    exact ⟨by rw [hB0 (fun z => h0 z.1)], rfl⟩
theorem c12_took {Z : (Nat → Nat) × Nat} {d t : Nat} {R : Nat × Nat × Nat × (Nat → Int32)} (hS : Sh M0) (hT : Tp M0 Z) (h : PS M0 Z d R M) (ht : t < 17) : Ct G Y12_took 5 0 0 [.ref 230, .ref (40 + t)] M (Rs (some (.int (bI (rIs Z t R)))) (PS M0 Z d (rtk Z t R))) NX := by
  have hS' := hS.sm h.1
  have hc := c12_isWord G M0 M hS hT h ht
  unfold rtk
  refine Ct.of k12_took.1 (Nat.le_of_ble_eq_true rfl) ?_
  by_cases h0 : rIs Z t R
  · rw [if_pos h0]
    rw [bI_t h0] at hc ⊢
    refine v_aload_n dX12_took_0 rfl ?_
    refine v_aload_n dX12_took_1 rfl ?_
    refine v_cV [_] (hc) k12_isWord dX12_took_2 l12_118 (by first | exact hS'.1 _ _ rfl | assumption) (by decide) rfl (Nat.le_of_ble_eq_true rfl) (Nat.le_of_ble_eq_true rfl) ?_
    refine v_istore_n dX12_took_5 rfl (by decide) ?_
    refine v_iload_n dX12_took_6 rfl ?_
    refine v_if_eq 14 dX12_took_7 (by decide) (fun h7 => absurd h7 (by decide)) (fun h7 => ?_)
    refine v_aload_n dX12_took_10 rfl ?_
    refine v_scVv [] (c12_ron G M0 M hS hT h) k12_readsOn dX12_took_11 l12_122 (by first | exact hS'.1 _ _ rfl | assumption) (by decide) rfl (Nat.le_of_ble_eq_true rfl) (Nat.le_of_ble_eq_true rfl) ?_
    intro M2 hM2
    refine v_iload_n dX12_took_14 rfl ?_
    refine v_zret dX12_took_15 rfl (by first | rfl | exact bI_nb _ | assumption) ?_
    exact ⟨rfl, hM2⟩
  · rw [if_neg h0]
    rw [bI_f h0] at hc ⊢
    refine v_aload_n dX12_took_0 rfl ?_
    refine v_aload_n dX12_took_1 rfl ?_
    refine v_cV [_] (hc) k12_isWord dX12_took_2 l12_118 (by first | exact hS'.1 _ _ rfl | assumption) (by decide) rfl (Nat.le_of_ble_eq_true rfl) (Nat.le_of_ble_eq_true rfl) ?_
    refine v_istore_n dX12_took_5 rfl (by decide) ?_
    refine v_iload_n dX12_took_6 rfl ?_
    refine v_if_eq 14 dX12_took_7 (by decide) (fun h7 => ?_) (fun h7 => absurd rfl h7)
    refine v_iload_n dX12_took_14 rfl ?_
    refine v_zret dX12_took_15 rfl (by first | rfl | exact bI_nb _ | assumption) ?_
    exact ⟨rfl, h⟩
theorem c12_mustWord {Z : (Nat → Nat) × Nat} {d t : Nat} {R : Nat × Nat × Nat × (Nat → Int32)} (hS : Sh M0) (hT : Tp M0 Z) (h : PS M0 Z d R M) (ht : t < 17) : Ct G Y12_mustWord 6 0 0 [.ref 230, .ref (40 + t)] M (Rs none (PS M0 Z d (rmu Z t R))) NX := by
  have hS' := hS.sm h.1
  have hc := c12_took G M0 M hS hT h ht
  unfold rtk at hc
  unfold rmu
  refine Ct.of k12_mustWord.1 (Nat.le_of_ble_eq_true rfl) ?_
  by_cases h0 : rIs Z t R
  · rw [if_pos h0.2, rgo_z h0.1]
    rw [if_pos h0, bI_t h0] at hc
    refine v_aload_n dX12_mustWord_0 rfl ?_
    refine v_aload_n dX12_mustWord_1 rfl ?_
    refine v_scV [_] (hc) k12_took dX12_mustWord_2 l12_125 (by first | exact hS'.1 _ _ rfl | assumption) (by decide) rfl (Nat.le_of_ble_eq_true rfl) (Nat.le_of_ble_eq_true rfl) ?_
    intro M2 hM2
    refine v_if_ne 13 dX12_mustWord_5 (by decide) (fun h5 => ?_) (fun h5 => absurd (show ¬ (1 : Int32) = 0 by decide) h5)
    refine v_vret dX12_mustWord_13 rfl ?_
    exact ⟨rfl, hM2⟩
  · rw [if_neg h0, bI_f h0] at hc
    have e : rgo (if kd Z R.2.2.1 = t then R else rbl Z 2 R) = rbl Z 2 R := by
      by_cases hb : R.1 = 0
      · rw [if_neg (fun z => h0 ⟨hb, z⟩)]
        exact rgo_b (rbl_p (by omega) R)
      · rw [rbl_b hb]
        split <;> exact rgo_b hb
    rw [e]
    refine v_aload_n dX12_mustWord_0 rfl ?_
    refine v_aload_n dX12_mustWord_1 rfl ?_
    refine v_scV [_] (hc) k12_took dX12_mustWord_2 l12_125 (by first | exact hS'.1 _ _ rfl | assumption) (by decide) rfl (Nat.le_of_ble_eq_true rfl) (Nat.le_of_ble_eq_true rfl) ?_
    intro M2 hM2; have hS' := hS.sm hM2.1
    refine v_if_ne 13 dX12_mustWord_5 (by decide) (fun h5 => absurd rfl h5) (fun h5 => ?_)
    refine v_aload_n dX12_mustWord_8 rfl ?_
    refine v_iconst 2 dX12_mustWord_9 (by decide) ?_
    refine v_scVv [_] (c12_blames G M0 M2 hS hM2 (k := 2) rfl (by omega)) k12_blames dX12_mustWord_10 l12_128 (by first | exact hS'.1 _ _ rfl | assumption) (by decide) rfl (Nat.le_of_ble_eq_true rfl) (Nat.le_of_ble_eq_true rfl) ?_
    intro M3 hM3
    refine v_vret dX12_mustWord_13 rfl ?_
    exact ⟨rfl, hM3⟩
theorem PS.bad {M0 M : mM} {Z : (Nat → Nat) × Nat} {d : Nat} {R : Nat × Nat × Nat × (Nat → Int32)} (h : PS M0 Z d R M) : (R.1 = 0 → gI M 230 12 = 0) ∧ (R.1 ≠ 0 → ¬ gI M 230 12 = 0) := by
  obtain ⟨h1, h2, h3, _⟩ := h
  exact ⟨fun z => by rw [h3.1, z]; rfl, fun z c => z (nI_z (by omega) (h3.1 ▸ c))⟩
theorem c12_mustSign {Z : (Nat → Nat) × Nat} {d k : Nat} {R : Nat × Nat × Nat × (Nat → Int32)} {x : Int32} (hS : Sh M0) (hT : Tp M0 Z) (h : PS M0 Z d R M) (hk : 17 ≤ k ∧ k < 29) (hx : x = nI (rc k)) : Ct G Y12_mustSign 3 0 0 [.ref 230, .int x] M (Rs none (PS M0 Z d (rmu Z k R))) NX := by
  subst hx
  have hS' := hS.sm h.1
  obtain ⟨h1, h2, h3, h4, h5, h6, h7, h8, h9⟩ := id h
  have hkl := kd_le Z R.2.2.1
  have hcn := rc_sn (kd Z R.2.2.1) (by omega)
  have hcm := rc_sn k (by omega)
  have hre := rc_eq k hk.2 hk.1 (kd Z R.2.2.1) (by omega)
  unfold rmu
  have tail : ∀ M2 R2, PS M0 Z d R2 M2 → V G Y12_mustSign 3 0 0 (Rs none (PS M0 Z d (rgo R2))) NX 13 [some (.ref 230), some (.int (nI (rc k)))] [] M2 := by
    intro M2 R2 hp
    have hS' := hS.sm hp.1
    by_cases hb : R2.1 = 0
    · rw [rgo_z hb]
      refine v_aload_n dX12_mustSign_13 rfl ?_
      refine v_getI 12 12 dX12_mustSign_14 f12_103 (by first | exact hS'.1 _ _ rfl | assumption) (by decide) ?_
      rw [hp.bad.1 hb]
      refine v_if_ne 24 dX12_mustSign_17 (by decide) (fun h17 => absurd rfl h17) (fun h17 => ?_)
      refine v_aload_n dX12_mustSign_20 rfl ?_
      refine v_scVv [] (c12_ron G M0 M2 hS hT hp) k12_readsOn dX12_mustSign_21 l12_122 (by first | exact hS'.1 _ _ rfl | assumption) (by decide) rfl (Nat.le_of_ble_eq_true rfl) (Nat.le_of_ble_eq_true rfl) ?_
      intro M3 hM3
      refine v_vret dX12_mustSign_24 rfl ?_
      exact ⟨rfl, hM3⟩
    · rw [rgo_b hb]
      refine v_aload_n dX12_mustSign_13 rfl ?_
      refine v_getI 12 12 dX12_mustSign_14 f12_103 (by first | exact hS'.1 _ _ rfl | assumption) (by decide) ?_
      refine v_if_ne 24 dX12_mustSign_17 (by decide) (fun h17 => ?_) (fun h17 => absurd (hp.bad.2 hb) h17)
      refine v_vret dX12_mustSign_24 rfl ?_
      exact ⟨rfl, hp⟩
  refine Ct.of k12_mustSign.1 (Nat.le_of_ble_eq_true rfl) ?_
  by_cases hr : kd Z R.2.2.1 = k
  · rw [if_pos hr]
    refine v_aload_n dX12_mustSign_0 rfl ?_
    refine v_getI 12 10 dX12_mustSign_1 f12_83 (by first | exact hS'.1 _ _ rfl | assumption) (by decide) ?_
    refine v_iload_n dX12_mustSign_4 rfl ?_
    rw [h8, hr]
    refine v_icmp_eq 13 dX12_mustSign_5 (by decide) (fun h5 => ?_) (fun h5 => absurd rfl h5)
    exact tail M R h
  · rw [if_neg hr]
    refine v_aload_n dX12_mustSign_0 rfl ?_
    refine v_getI 12 10 dX12_mustSign_1 f12_83 (by first | exact hS'.1 _ _ rfl | assumption) (by decide) ?_
    refine v_iload_n dX12_mustSign_4 rfl ?_
    rw [h8]
    refine v_icmp_eq 13 dX12_mustSign_5 (by decide) (fun h5 => absurd (hre.mp ((nI_eq (by omega) (by omega)).mp h5)) hr) (fun h5 => ?_)
    refine v_aload_n dX12_mustSign_8 rfl ?_
    refine v_iconst 2 dX12_mustSign_9 (by decide) ?_
    refine v_scVv [_] (c12_blames G M0 M hS h (k := 2) rfl (by omega)) k12_blames dX12_mustSign_10 l12_128 (by first | exact hS'.1 _ _ rfl | assumption) (by decide) rfl (Nat.le_of_ble_eq_true rfl) (Nat.le_of_ble_eq_true rfl) ?_
    intro M2 hM2
    exact tail M2 _ hM2
theorem nL_le {a b : Nat} (ha : a < 2 ^ 31) (hb : b < 2 ^ 31) : ((nI a).toInt64 ≤ (nI b).toInt64) = (a ≤ b) := by
  rw [show (nI a).toInt64 ≤ (nI b).toInt64 ↔ nI a ≤ nI b from by rw [Int64.le_iff_toInt_le, Int32.le_iff_toInt_le, Int32.toInt_toInt64, Int32.toInt_toInt64]]
  exact leL ha hb
theorem c12_number {Z : (Nat → Nat) × Nat} {d lo hi : Nat} {R : Nat × Nat × Nat × (Nat → Int32)} (hS : Sh M0) (hT : Tp M0 Z) (h : PS M0 Z d R M) (hl : lo < 2 ^ 31) (hhi : hi < 2 ^ 31) : Ct G Y12_number 3 0 0 [.ref 230, .int (nI lo), .int (nI hi)] M (Rs (some (.int (nI (rnv Z lo hi R)))) (PS M0 Z d (rnu Z lo hi R))) NX := by
  have hS' := hS.sm h.1
  obtain ⟨h1, h2, h3, h4, h5, h6, h7, h8, h9⟩ := id h
  have hkl := kd_le Z R.2.2.1
  have hcn := rc_sn (kd Z R.2.2.1) (by omega)
  have hrn := rc_n (kd Z R.2.2.1) (by omega)
  have tail : ∀ M2, PS M0 Z d (rn1 Z lo hi R) M2 → (kd Z R.2.2.1 = 29 → gI M2 230 11 = nI (vl Z R.2.2.1)) → V G Y12_number 3 0 0 (Rs (some (.int (nI (rnv Z lo hi R)))) (PS M0 Z d (rnu Z lo hi R))) NX 36 [some (.ref 230), some (.int (nI lo)), some (.int (nI hi))] [] M2 := by
    intro M2 hp hv
    have hS' := hS.sm hp.1
    unfold rnu
    unfold rnv
    by_cases hb : (rn1 Z lo hi R).1 = 0
    · rw [rgo_z hb, if_pos hb]
      obtain ⟨a1, a2, a3, a4⟩ := rn1_ok hb
      refine v_aload_n dX12_number_36 rfl ?_
      refine v_getI 12 11 dX12_number_37 f12_97 (by first | exact hS'.1 _ _ rfl | assumption) (by decide) ?_
      rw [hv a3]
      refine v_istore_n dX12_number_40 rfl (by decide) ?_
      refine v_aload_n dX12_number_41 rfl ?_
      refine v_getI 12 12 dX12_number_42 f12_103 (by first | exact hS'.1 _ _ rfl | assumption) (by decide) ?_
      rw [hp.bad.1 hb]
      refine v_if_ne 52 dX12_number_45 (by decide) (fun h45 => absurd rfl h45) (fun h45 => ?_)
      refine v_aload_n dX12_number_48 rfl ?_
      refine v_scVv [] (c12_ron G M0 M2 hS hT hp) k12_readsOn dX12_number_49 l12_122 (by first | exact hS'.1 _ _ rfl | assumption) (by decide) rfl (Nat.le_of_ble_eq_true rfl) (Nat.le_of_ble_eq_true rfl) ?_
      intro M3 hM3; have hS' := hS.sm hM3.1
      refine v_aload_n dX12_number_52 rfl ?_
      refine v_getI 12 12 dX12_number_53 f12_103 (by first | exact hS'.1 _ _ rfl | assumption) (by decide) ?_
      rw [hM3.bad.1 hb]
      refine v_if_ne 63 dX12_number_56 (by decide) (fun h56 => absurd rfl h56) (fun h56 => ?_)
      refine v_iload_n dX12_number_59 rfl ?_
      refine v_goto 64 dX12_number_60 (by decide) ?_
      refine v_iret dX12_number_64 rfl ?_
      exact ⟨rfl, hM3⟩
    · rw [rgo_b hb, if_neg hb]
      refine v_aload_n dX12_number_36 rfl ?_
      refine v_getI 12 11 dX12_number_37 f12_97 (by first | exact hS'.1 _ _ rfl | assumption) (by decide) ?_
      refine v_istore_n dX12_number_40 rfl (by decide) ?_
      refine v_aload_n dX12_number_41 rfl ?_
      refine v_getI 12 12 dX12_number_42 f12_103 (by first | exact hS'.1 _ _ rfl | assumption) (by decide) ?_
      refine v_if_ne 52 dX12_number_45 (by decide) (fun h45 => ?_) (fun h45 => absurd (hp.bad.2 hb) h45)
      refine v_aload_n dX12_number_52 rfl ?_
      refine v_getI 12 12 dX12_number_53 f12_103 (by first | exact hS'.1 _ _ rfl | assumption) (by decide) ?_
      refine v_if_ne 63 dX12_number_56 (by decide) (fun h56 => ?_) (fun h56 => absurd (hp.bad.2 hb) h56)
      refine v_iload_n dX12_number_63 rfl ?_
      refine v_iret dX12_number_64 rfl ?_
      exact ⟨rfl, hp⟩
  refine Ct.of k12_number.1 (Nat.le_of_ble_eq_true rfl) ?_
  by_cases hk : kd Z R.2.2.1 = 29
  · have hv := h9 hk
    have hvl := vl_lt hk
    by_cases hin : lo ≤ vl Z R.2.2.1 ∧ vl Z R.2.2.1 ≤ hi
    · have e : rn1 Z lo hi R = R := by unfold rn1; rw [if_neg (Decidable.not_not.mpr hk), if_pos hin]
      have hw := c12_within G M (nI (vl Z R.2.2.1)).toInt64 (nI lo).toInt64 (nI hi).toInt64
      rw [bI_t ⟨(nL_le hl (by omega)).mpr hin.1, (nL_le (by omega) hhi).mpr hin.2⟩] at hw
      refine v_aload_n dX12_number_0 rfl ?_
      refine v_getI 12 10 dX12_number_1 f12_83 (by first | exact hS'.1 _ _ rfl | assumption) (by decide) ?_
      refine v_iconst 2 dX12_number_4 (by decide) ?_
      rw [h8, hrn.mpr hk]
      refine v_icmp_eq 16 dX12_number_5 (by decide) (fun h5 => ?_) (fun h5 => absurd rfl h5)
      refine v_aload_n dX12_number_16 rfl ?_
      refine v_getI 12 11 dX12_number_17 f12_97 (by first | exact hS'.1 _ _ rfl | assumption) (by decide) ?_
      rw [hv]
      refine v_i2l dX12_number_20 ?_
      refine v_iload_n dX12_number_21 rfl ?_
      refine v_i2l dX12_number_22 ?_
      refine v_iload_n dX12_number_23 rfl ?_
      refine v_i2l dX12_number_24 ?_
      refine v_cS [_, _, _] (hw) k12_within dX12_number_25 l12_132 rfl (Nat.le_of_ble_eq_true rfl) (Nat.le_of_ble_eq_true rfl) ?_
      refine v_if_ne 36 dX12_number_28 (by decide) (fun h28 => ?_) (fun h28 => absurd (show ¬ (1 : Int32) = 0 by decide) h28)
      exact tail M (by rw [e]; exact h) h9
    · have e : rn1 Z lo hi R = rbl Z 3 R := by unfold rn1; rw [if_neg (Decidable.not_not.mpr hk), if_neg hin]
      have hw := c12_within G M (nI (vl Z R.2.2.1)).toInt64 (nI lo).toInt64 (nI hi).toInt64
      rw [bI_f (fun z => hin ⟨(nL_le hl (by omega)).mp z.1, (nL_le (by omega) hhi).mp z.2⟩)] at hw
      have hc := c12_blames G M0 M hS h (k := 3) (x := 3) rfl (by omega)
      refine v_aload_n dX12_number_0 rfl ?_
      refine v_getI 12 10 dX12_number_1 f12_83 (by first | exact hS'.1 _ _ rfl | assumption) (by decide) ?_
      refine v_iconst 2 dX12_number_4 (by decide) ?_
      rw [h8, hrn.mpr hk]
      refine v_icmp_eq 16 dX12_number_5 (by decide) (fun h5 => ?_) (fun h5 => absurd rfl h5)
      refine v_aload_n dX12_number_16 rfl ?_
      refine v_getI 12 11 dX12_number_17 f12_97 (by first | exact hS'.1 _ _ rfl | assumption) (by decide) ?_
      rw [hv]
      refine v_i2l dX12_number_20 ?_
      refine v_iload_n dX12_number_21 rfl ?_
      refine v_i2l dX12_number_22 ?_
      refine v_iload_n dX12_number_23 rfl ?_
      refine v_i2l dX12_number_24 ?_
      refine v_cS [_, _, _] (hw) k12_within dX12_number_25 l12_132 rfl (Nat.le_of_ble_eq_true rfl) (Nat.le_of_ble_eq_true rfl) ?_
      refine v_if_ne 36 dX12_number_28 (by decide) (fun h28 => absurd rfl h28) (fun h28 => ?_)
      refine v_aload_n dX12_number_31 rfl ?_
      refine v_iconst 3 dX12_number_32 (by decide) ?_
      refine v_scVv [_] (hc) k12_blames dX12_number_33 l12_128 (by first | exact hS'.1 _ _ rfl | assumption) (by decide) rfl (Nat.le_of_ble_eq_true rfl) (Nat.le_of_ble_eq_true rfl) ?_
      intro M2 hM2
      exact tail M2 (by rw [e]; exact hM2) (fun z => by have := hM2.2.2.2.2.2.2.2.2; rw [rbl_i] at this; exact this z)
  · have e : rn1 Z lo hi R = rbl Z 2 R := if_pos hk
    have hc := c12_blames G M0 M hS h (k := 2) (x := 2) rfl (by omega)
    refine v_aload_n dX12_number_0 rfl ?_
    refine v_getI 12 10 dX12_number_1 f12_83 (by first | exact hS'.1 _ _ rfl | assumption) (by decide) ?_
    refine v_iconst 2 dX12_number_4 (by decide) ?_
    rw [h8]
    refine v_icmp_eq 16 dX12_number_5 (by decide) (fun h5 => absurd (hrn.mp ((nI_eq (b := 2) (by omega) (by omega)).mp h5)) hk) (fun h5 => ?_)
    refine v_aload_n dX12_number_8 rfl ?_
    refine v_iconst 2 dX12_number_9 (by decide) ?_
    refine v_scVv [_] (hc) k12_blames dX12_number_10 l12_128 (by first | exact hS'.1 _ _ rfl | assumption) (by decide) rfl (Nat.le_of_ble_eq_true rfl) (Nat.le_of_ble_eq_true rfl) ?_
    intro M2 hM2
    refine v_goto 36 dX12_number_13 (by decide) ?_
    exact tail M2 (by rw [e]; exact hM2) (fun z => absurd z hk)
theorem c12_goesIn {Z : (Nat → Nat) × Nat} {d : Nat} {R : Nat × Nat × Nat × (Nat → Int32)} (hS : Sh M0) (hT : Tp M0 Z) (h : PS M0 Z d R M) (hd : d ≤ 6) : Ct G Y12_goesIn 3 0 0 [.ref 230] M (Rs none (PS M0 Z (d + 1) (rgo (if d = 6 then rbl Z 4 R else R)))) NX := by
  have hS' := hS.sm h.1
  obtain ⟨h1, h2, h3, h4, h5, h6, h7, h8, h9⟩ := id h
  have tail : ∀ M2 R2, PS M0 Z d R2 M2 → V G Y12_goesIn 3 0 0 (Rs none (PS M0 Z (d + 1) (rgo R2))) NX 14 [some (.ref 230)] [] M2 := by
    intro M2 R2 hp
    have hS' := hS.sm hp.1
    obtain ⟨g1, g2, g3, g4, g5, g6, g7, g8, g9⟩ := id hp
    have hp2 : PS M0 Z (d + 1) R2 (sI M2 230 16 (nI (d + 1))) := ⟨g1.st _ rfl, by rw [gI_sr _ _ (by decide)]; exact g2, ⟨(gI_sk _ _ (by decide)).trans g3.1, g3.2⟩, fun z => (gI_sk _ _ (by decide)).trans (g4 z), gI_ss _ _ _ _, (gI_sk _ _ (by decide)).trans g6, (gI_sk _ _ (by decide)).trans g7, (gI_sk _ _ (by decide)).trans g8, fun z => (gI_sk _ _ (by decide)).trans (g9 z)⟩
    by_cases hb : R2.1 = 0
    · rw [rgo_z hb]
      refine v_aload_n dX12_goesIn_14 rfl ?_
      refine v_dup dX12_goesIn_15 rfl ?_
      refine v_getI 12 16 dX12_goesIn_16 f12_136 (by first | exact hS'.1 _ _ rfl | assumption) (by decide) ?_
      rw [g5]
      refine v_iconst 1 dX12_goesIn_19 (by decide) ?_
      refine v_iadd dX12_goesIn_20 ?_
      rw [nI_1]
      refine v_putI 12 16 dX12_goesIn_21 f12_136 (by first | exact hS'.1 _ _ rfl | assumption) (by decide) ?_
      refine v_aload_n dX12_goesIn_24 rfl ?_
      refine v_getI 12 12 dX12_goesIn_25 f12_103 (by first | exact hS'.1 _ _ rfl | assumption) (by decide) ?_
      rw [hp2.bad.1 hb]
      refine v_if_ne 35 dX12_goesIn_28 (by decide) (fun h28 => absurd rfl h28) (fun h28 => ?_)
      refine v_aload_n dX12_goesIn_31 rfl ?_
      refine v_scVv [] (c12_ron G M0 _ hS hT hp2) k12_readsOn dX12_goesIn_32 l12_122 (by first | exact hS'.1 _ _ rfl | assumption) (by decide) rfl (Nat.le_of_ble_eq_true rfl) (Nat.le_of_ble_eq_true rfl) ?_
      intro M3 hM3
      refine v_vret dX12_goesIn_35 rfl ?_
      exact ⟨rfl, hM3⟩
    · rw [rgo_b hb]
      refine v_aload_n dX12_goesIn_14 rfl ?_
      refine v_dup dX12_goesIn_15 rfl ?_
      refine v_getI 12 16 dX12_goesIn_16 f12_136 (by first | exact hS'.1 _ _ rfl | assumption) (by decide) ?_
      rw [g5]
      refine v_iconst 1 dX12_goesIn_19 (by decide) ?_
      refine v_iadd dX12_goesIn_20 ?_
      rw [nI_1]
      refine v_putI 12 16 dX12_goesIn_21 f12_136 (by first | exact hS'.1 _ _ rfl | assumption) (by decide) ?_
      refine v_aload_n dX12_goesIn_24 rfl ?_
      refine v_getI 12 12 dX12_goesIn_25 f12_103 (by first | exact hS'.1 _ _ rfl | assumption) (by decide) ?_
      refine v_if_ne 35 dX12_goesIn_28 (by decide) (fun h28 => ?_) (fun h28 => absurd (hp2.bad.2 hb) h28)
      refine v_vret dX12_goesIn_35 rfl ?_
      exact ⟨rfl, hp2⟩
  refine Ct.of k12_goesIn.1 (Nat.le_of_ble_eq_true rfl) ?_
  by_cases h6' : d = 6
  · rw [if_pos h6']
    have hc := c12_blames G M0 M hS h (k := 4) (x := 4) rfl (by omega)
    refine v_aload_n dX12_goesIn_0 rfl ?_
    refine v_getI 12 16 dX12_goesIn_1 f12_136 (by first | exact hS'.1 _ _ rfl | assumption) (by decide) ?_
    refine v_bipush 6 dX12_goesIn_4 (by decide) ?_
    rw [h5]
    refine v_icmp_ne 14 dX12_goesIn_6 (by decide) (fun h6 => absurd (congrArg nI h6') h6) (fun h6 => ?_)
    refine v_aload_n dX12_goesIn_9 rfl ?_
    refine v_iconst 4 dX12_goesIn_10 (by decide) ?_
    refine v_scVv [_] (hc) k12_blames dX12_goesIn_11 l12_128 (by first | exact hS'.1 _ _ rfl | assumption) (by decide) rfl (Nat.le_of_ble_eq_true rfl) (Nat.le_of_ble_eq_true rfl) ?_
    intro M2 hM2
    exact tail M2 _ hM2
  · rw [if_neg h6']
    refine v_aload_n dX12_goesIn_0 rfl ?_
    refine v_getI 12 16 dX12_goesIn_1 f12_136 (by first | exact hS'.1 _ _ rfl | assumption) (by decide) ?_
    refine v_bipush 6 dX12_goesIn_4 (by decide) ?_
    rw [h5]
    refine v_icmp_ne 14 dX12_goesIn_6 (by decide) (fun h6 => ?_) (fun h6 => absurd (fun z => h6' ((nI_eq (b := 6) (by omega) (by omega)).mp z)) h6)
    exact tail M _ h
theorem c12_laysStep {Z : (Nat → Nat) × Nat} {d : Nat} {R : Nat × Nat × Nat × (Nat → Int32)} (hS : Sh M0) (h : PS M0 Z d R M) (s : Int32) (h7 : R.1 = 0 → R.2.2.2 7 = nI (kn R.2.2.2 7) ∧ kn R.2.2.2 7 < 965) : Ct G Y12_laysStep 0 0 0 [.ref 230, .int s] M (Rs none (PS M0 Z d (rly s R))) NX := by
  have hS' := hS.sm h.1
  obtain ⟨h1, h2, h3, hp4, h5, h6, h8, h9⟩ := id h
  refine Ct.of k12_laysStep.1 (Nat.le_of_ble_eq_true rfl) ?_
  unfold rly
  by_cases hb : R.1 = 0
  · rw [if_pos hb]
    obtain ⟨k1, k2⟩ := h7 hb
    generalize kn R.2.2.2 7 = c at k1 k2 ⊢
    have e7 : gI M 232 7 = nI c := by rw [h2]; exact k1
    have e7' : ∀ v, gI (sI M 232 (1155 + c) v) 232 7 = nI c := fun v => (gI_sk _ _ (by omega)).trans e7
    refine v_aload_n dX12_laysStep_0 rfl ?_
    refine v_getI 12 12 dX12_laysStep_1 f12_103 (by first | exact hS'.1 _ _ rfl | assumption) (by decide) ?_
    rw [h.bad.1 hb]
    refine v_if_eq 8 dX12_laysStep_4 (by decide) (fun h4 => ?_) (fun h4 => absurd rfl h4)
    refine v_aload_n dX12_laysStep_8 rfl ?_
    refine v_getR 12 1 _ dX12_laysStep_9 f12_13 (by first | exact hS'.1 _ _ rfl | assumption) (by decide) (by first | exact hS'.2 _ _ _ rfl | assumption) ?_
    refine v_sipush 1155 dX12_laysStep_12 (by decide) ?_
    refine v_aload_n dX12_laysStep_15 rfl ?_
    refine v_getR 12 1 _ dX12_laysStep_16 f12_13 (by first | exact hS'.1 _ _ rfl | assumption) (by decide) (by first | exact hS'.2 _ _ _ rfl | assumption) ?_
    refine v_bipush 7 dX12_laysStep_19 (by decide) ?_
    refine v_ialdN 7 dX12_laysStep_21 (hS'.1 _ _ rfl) rfl (by decide) ?_
    rw [e7]
    refine v_iadd dX12_laysStep_22 ?_
    refine v_iload_n dX12_laysStep_23 rfl ?_
    refine v_iastN (1155 + c) dX12_laysStep_24 (by first | exact hS'.1 _ _ rfl | assumption) (by simp only [n_lit, pk_mul, nI_add]) ⟨by omega, by omega⟩ ?_
    refine v_aload_n dX12_laysStep_25 rfl ?_
    refine v_getR 12 1 _ dX12_laysStep_26 f12_13 (by first | exact hS'.1 _ _ rfl | assumption) (by decide) (by first | exact hS'.2 _ _ _ rfl | assumption) ?_
    refine v_bipush 7 dX12_laysStep_29 (by decide) ?_
    refine v_dup2 dX12_laysStep_31 rfl rfl ?_
    refine v_iald dX12_laysStep_32 (hS'.1 _ _ rfl) (vp_in_iff.mpr (by decide)) ?_
    rw [show (7 : Int32).toNatClampNeg = 7 from rfl, e7']
    refine v_iconst 1 dX12_laysStep_33 (by decide) ?_
    refine v_iadd dX12_laysStep_34 ?_
    rw [nI_1]
    refine v_iastN (7) dX12_laysStep_35 (by first | exact hS'.1 _ _ rfl | assumption) (by simp only [n_lit, pk_mul, nI_add]) ⟨by omega, by omega⟩ ?_
    refine v_vret dX12_laysStep_36 rfl ?_
    exact ⟨rfl, (h1.st _ rfl).st _ rfl, by rw [gI_uK, gI_uK, h2], ⟨(gI_sq _ _ (by decide)).trans ((gI_sq _ _ (by decide)).trans h3.1), h3.2⟩, fun z => (gI_sq _ _ (by decide)).trans ((gI_sq _ _ (by decide)).trans (hp4 z)), (gI_sq _ _ (by decide)).trans ((gI_sq _ _ (by decide)).trans h5), (gI_sq _ _ (by decide)).trans ((gI_sq _ _ (by decide)).trans h6), (gI_sq _ _ (by decide)).trans ((gI_sq _ _ (by decide)).trans h8), (gI_sq _ _ (by decide)).trans ((gI_sq _ _ (by decide)).trans h9.1), fun z => (gI_sq _ _ (by decide)).trans ((gI_sq _ _ (by decide)).trans (h9.2 z))⟩
  · rw [if_neg hb]
    refine v_aload_n dX12_laysStep_0 rfl ?_
    refine v_getI 12 12 dX12_laysStep_1 f12_103 (by first | exact hS'.1 _ _ rfl | assumption) (by decide) ?_
    refine v_if_eq 8 dX12_laysStep_4 (by decide) (fun h4 => absurd h4 (h.bad.2 hb)) (fun h4 => ?_)
    refine v_vret dX12_laysStep_7 rfl ?_
    exact ⟨rfl, h⟩
end PB
