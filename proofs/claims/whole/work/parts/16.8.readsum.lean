/-! ===== the reference's parser: readTerm, readSum, readAtom at every depth ===== -/
theorem IV.lay {Z : (Nat → Nat) × Nat} {R : RSt} (h : IV Z R) : R.1 = 0 → R.2.2.2 7 = nI (kn R.2.2.2 7) ∧ kn R.2.2.2 7 < 965 := fun _ => ⟨h.2.2.1, by have := h.2.1; have := h.2.2.2.1; have := h.2.2.2.2.2; omega⟩
theorem ite_iff {α : Type} {p q : Prop} [Decidable p] [Decidable q] (h : p ↔ q) (a b : α) : (if p then a else b) = if q then a else b := by by_cases hp : p <;> simp [hp, ← h]
theorem rnv_lt {Z : (Nat → Nat) × Nat} {lo hi b : Nat} {R : RSt} (h1 : lo < b) (h2 : hi < b) : rnv Z lo hi R < b := by
  unfold rnv
  by_cases h : (rn1 Z lo hi R).1 = 0
  · rw [if_pos h]
    have := (rn1_ok h).2.2.2
    omega
  · rw [if_neg h]
    exact h1
section PD
variable (G : mG) (M0 : mM)
theorem c12_term {Z : (Nat → Nat) × Nat} {d D0 : Nat} {a : RSt → RSt} (hS : Sh M0) (hT : Tp M0 Z) (hD : 3 ≤ D0) (hg : gok Z a) (ha : ∀ R M, PS M0 Z d R M → IV Z R → Ct G Y12_readAtom D0 0 0 [.ref 230] M (Rs none (PS M0 Z d (a R))) NX) : ∀ R M, PS M0 Z d R M → IV Z R → Ct G Y12_readTerm (D0 + 1) 0 0 [.ref 230] M (Rs none (PS M0 Z d (trm Z a R))) NX := by
  have loop : ∀ n R M, Z.2 + 1 ≤ R.2.2.1 + n → IV Z R → PS M0 Z d R M → V G Y12_readTerm (D0 + 1) 0 0 (Rs none (PS M0 Z d (itr (fun R => decide (rIs Z 21 R)) (fun R => rly (nI 12) (a (rnx R))) 901 R))) NX 4 [some (.ref 230)] [] M := by
    intro n
    induction n with
    | zero => intro R M hn hI h; have := hI.2.1; omega
    | succ n ih =>
      intro R M hn hI h
      have hS' := hS.sm h.1
      rw [trm_un hg hI]
      by_cases hc : rIs Z 21 R
      · rw [if_pos hc]
        have hk : kd Z R.2.2.1 ≠ 32 := by have := hc.2; omega
        have g1 := (gs.nx hI hk).1
        have g2 := (hg _ g1).1.1
        have g3 := op_ok hg hI hk (nI 12)
        refine v_aload_n dX12_readTerm_4 rfl ?_
        refine v_bipush 42 dX12_readTerm_5 (by decide) ?_
        refine v_cV [_] (c12_sgT G M0 M hS h (k := 21) (by decide) (by decide) hc) k12_isSign dX12_readTerm_7 l12_157 (by first | exact hS'.1 _ _ rfl | assumption) (by decide) rfl (by omega) (Nat.le_of_ble_eq_true rfl) ?_
        refine v_if_eq 30 dX12_readTerm_10 (by decide) (fun h10 => absurd h10 (by decide)) (fun h10 => ?_)
        refine v_aload_n dX12_readTerm_13 rfl ?_
        refine v_scVv [] (c12_ron G M0 M hS hT h) k12_readsOn dX12_readTerm_14 l12_122 (by first | exact hS'.1 _ _ rfl | assumption) (by decide) rfl (by omega) (Nat.le_of_ble_eq_true rfl) ?_
        intro M2 hM2; have hS' := hS.sm hM2.1
        refine v_aload_n dX12_readTerm_17 rfl ?_
        refine v_scVv [] (ha _ M2 hM2 g1) k12_readAtom dX12_readTerm_18 l12_172 (by first | exact hS'.1 _ _ rfl | assumption) (by decide) rfl (by omega) (Nat.le_of_ble_eq_true rfl) ?_
        intro M3 hM3; have hS' := hS.sm hM3.1
        refine v_aload_n dX12_readTerm_21 rfl ?_
        refine v_bipush 12 dX12_readTerm_22 (by decide) ?_
        refine v_scVv [_] (c12_laysStep G M0 M3 hS hM3 (nI 12) g2.lay) k12_laysStep dX12_readTerm_24 l12_144 (by first | exact hS'.1 _ _ rfl | assumption) (by decide) rfl (by omega) (Nat.le_of_ble_eq_true rfl) ?_
        intro M4 hM4
        refine v_goto 4 dX12_readTerm_27 (by decide) ?_
        exact ih _ M4 (by omega) g3.1.1 hM4
      · rw [if_neg hc]
        refine v_aload_n dX12_readTerm_4 rfl ?_
        refine v_bipush 42 dX12_readTerm_5 (by decide) ?_
        refine v_cV [_] (c12_sgF G M0 M hS h (k := 21) (by decide) (by decide) hc) k12_isSign dX12_readTerm_7 l12_157 (by first | exact hS'.1 _ _ rfl | assumption) (by decide) rfl (by omega) (Nat.le_of_ble_eq_true rfl) ?_
        refine v_if_eq 30 dX12_readTerm_10 (by decide) (fun h10 => ?_) (fun h10 => absurd rfl h10)
        refine v_vret dX12_readTerm_30 rfl ?_
        exact ⟨rfl, h⟩
  intro R M h hI
  have hS' := hS.sm h.1
  refine Ct.of k12_readTerm.1 (Nat.le_of_ble_eq_true rfl) ?_
  refine v_aload_n dX12_readTerm_0 rfl ?_
  refine v_scVv [] (ha R M h hI) k12_readAtom dX12_readTerm_1 l12_172 (by first | exact hS'.1 _ _ rfl | assumption) (by decide) rfl (by omega) (Nat.le_of_ble_eq_true rfl) ?_
  intro M2 hM2
  exact loop (Z.2 + 1) _ M2 (by omega) (hg R hI).1.1 hM2
theorem c12_sum {Z : (Nat → Nat) × Nat} {d D0 : Nat} {a : RSt → RSt} (hS : Sh M0) (hT : Tp M0 Z) (hD : 3 ≤ D0) (hg : gok Z a) (ha : ∀ R M, PS M0 Z d R M → IV Z R → Ct G Y12_readAtom D0 0 0 [.ref 230] M (Rs none (PS M0 Z d (a R))) NX) : ∀ R M, PS M0 Z d R M → IV Z R → Ct G Y12_readSum (D0 + 2) 0 0 [.ref 230] M (Rs none (PS M0 Z d (sms Z a R))) NX := by
  have ht := c12_term G M0 hS hT hD hg ha
  have hgt := trm_ok hg
  have loop : ∀ n R M (x : Option Value), Z.2 + 1 ≤ R.2.2.1 + n → IV Z R → PS M0 Z d R M → V G Y12_readSum (D0 + 2) 0 0 (Rs none (PS M0 Z d (itr (pmB Z) (fun R => rly (if kd Z R.2.2.1 = 19 then nI 10 else nI 11) (trm Z a (rnx R))) 901 R))) NX 4 [some (.ref 230), x] [] M := by
    intro n
    induction n with
    | zero => intro R M x hn hI h; have := hI.2.1; omega
    | succ n ih =>
      intro R M x hn hI h
      have hS' := hS.sm h.1
      rw [sms_un hg hI]
      obtain ⟨h1, h2, h3, h4, h5, h6, h7, h8, h9⟩ := id h
      by_cases hc : rIs Z 19 R
      · rw [if_pos (Or.inl hc), if_pos hc.2]
        have hk : kd Z R.2.2.1 ≠ 32 := by have := hc.2; omega
        have g1 := (gs.nx hI hk).1
        have g2 := (hgt _ g1).1.1
        have g3 := op_ok hgt hI hk (nI 10)
        refine v_aload_n dX12_readSum_4 rfl ?_
        refine v_bipush 43 dX12_readSum_5 (by decide) ?_
        refine v_cV [_] (c12_sgT G M0 M hS h (k := 19) (by decide) (by decide) hc) k12_isSign dX12_readSum_7 l12_157 (by first | exact hS'.1 _ _ rfl | assumption) (by decide) rfl (by omega) (Nat.le_of_ble_eq_true rfl) ?_
        refine v_if_ne 22 dX12_readSum_10 (by decide) (fun h10 => ?_) (fun h10 => absurd (show ¬ (1 : Int32) = 0 by decide) h10)
        refine v_aload_n dX12_readSum_22 rfl ?_
        refine v_getI 12 10 dX12_readSum_23 f12_83 (by first | exact hS'.1 _ _ rfl | assumption) (by decide) ?_
        rw [h8, hc.2]
        refine v_istore_n dX12_readSum_26 rfl (by decide) ?_
        refine v_aload_n dX12_readSum_27 rfl ?_
        refine v_scVv [] (c12_ron G M0 M hS hT h) k12_readsOn dX12_readSum_28 l12_122 (by first | exact hS'.1 _ _ rfl | assumption) (by decide) rfl (by omega) (Nat.le_of_ble_eq_true rfl) ?_
        intro M2 hM2; have hS' := hS.sm hM2.1
        refine v_aload_n dX12_readSum_31 rfl ?_
        refine v_scVv [] (ht _ M2 hM2 g1) k12_readTerm dX12_readSum_32 l12_169 (by first | exact hS'.1 _ _ rfl | assumption) (by decide) rfl (by omega) (Nat.le_of_ble_eq_true rfl) ?_
        intro M3 hM3; have hS' := hS.sm hM3.1
        refine v_aload_n dX12_readSum_35 rfl ?_
        refine v_iload_n dX12_readSum_36 rfl ?_
        refine v_bipush 43 dX12_readSum_37 (by decide) ?_
        refine v_icmp_ne 47 dX12_readSum_39 (by decide) (fun h39 => absurd (by decide) h39) (fun h39 => ?_)
        refine v_bipush 10 dX12_readSum_42 (by decide) ?_
        refine v_goto 49 dX12_readSum_44 (by decide) ?_
        refine v_scVv [_] (c12_laysStep G M0 M3 hS hM3 (nI 10) g2.lay) k12_laysStep dX12_readSum_49 l12_144 (by first | exact hS'.1 _ _ rfl | assumption) (by decide) rfl (by omega) (Nat.le_of_ble_eq_true rfl) ?_
        intro M4 hM4
        refine v_goto 4 dX12_readSum_52 (by decide) ?_
        exact ih _ M4 _ (by omega) g3.1.1 hM4
      · by_cases hc2 : rIs Z 20 R
        · rw [if_pos (Or.inr hc2), if_neg (by have := hc2.2; omega)]
          have hk : kd Z R.2.2.1 ≠ 32 := by have := hc2.2; omega
          have g1 := (gs.nx hI hk).1
          have g2 := (hgt _ g1).1.1
          have g3 := op_ok hgt hI hk (nI 11)
          refine v_aload_n dX12_readSum_4 rfl ?_
          refine v_bipush 43 dX12_readSum_5 (by decide) ?_
          refine v_cV [_] (c12_sgF G M0 M hS h (k := 19) (by decide) (by decide) hc) k12_isSign dX12_readSum_7 l12_157 (by first | exact hS'.1 _ _ rfl | assumption) (by decide) rfl (by omega) (Nat.le_of_ble_eq_true rfl) ?_
          refine v_if_ne 22 dX12_readSum_10 (by decide) (fun h10 => absurd rfl h10) (fun h10 => ?_)
          refine v_aload_n dX12_readSum_13 rfl ?_
          refine v_bipush 45 dX12_readSum_14 (by decide) ?_
          refine v_cV [_] (c12_sgT G M0 M hS h (k := 20) (by decide) (by decide) hc2) k12_isSign dX12_readSum_16 l12_157 (by first | exact hS'.1 _ _ rfl | assumption) (by decide) rfl (by omega) (Nat.le_of_ble_eq_true rfl) ?_
          refine v_if_eq 55 dX12_readSum_19 (by decide) (fun h19 => absurd h19 (by decide)) (fun h19 => ?_)
          refine v_aload_n dX12_readSum_22 rfl ?_
          refine v_getI 12 10 dX12_readSum_23 f12_83 (by first | exact hS'.1 _ _ rfl | assumption) (by decide) ?_
          rw [h8, hc2.2]
          refine v_istore_n dX12_readSum_26 rfl (by decide) ?_
          refine v_aload_n dX12_readSum_27 rfl ?_
          refine v_scVv [] (c12_ron G M0 M hS hT h) k12_readsOn dX12_readSum_28 l12_122 (by first | exact hS'.1 _ _ rfl | assumption) (by decide) rfl (by omega) (Nat.le_of_ble_eq_true rfl) ?_
          intro M2 hM2; have hS' := hS.sm hM2.1
          refine v_aload_n dX12_readSum_31 rfl ?_
          refine v_scVv [] (ht _ M2 hM2 g1) k12_readTerm dX12_readSum_32 l12_169 (by first | exact hS'.1 _ _ rfl | assumption) (by decide) rfl (by omega) (Nat.le_of_ble_eq_true rfl) ?_
          intro M3 hM3; have hS' := hS.sm hM3.1
          refine v_aload_n dX12_readSum_35 rfl ?_
          refine v_iload_n dX12_readSum_36 rfl ?_
          refine v_bipush 43 dX12_readSum_37 (by decide) ?_
          refine v_icmp_ne 47 dX12_readSum_39 (by decide) (fun h39 => ?_) (fun h39 => absurd (show ¬ nI (rc 20) = 43 by decide) h39)
          refine v_bipush 11 dX12_readSum_47 (by decide) ?_
          refine v_scVv [_] (c12_laysStep G M0 M3 hS hM3 (nI 11) g2.lay) k12_laysStep dX12_readSum_49 l12_144 (by first | exact hS'.1 _ _ rfl | assumption) (by decide) rfl (by omega) (Nat.le_of_ble_eq_true rfl) ?_
          intro M4 hM4
          refine v_goto 4 dX12_readSum_52 (by decide) ?_
          exact ih _ M4 _ (by omega) g3.1.1 hM4
        · rw [if_neg (fun z => z.elim hc hc2)]
          refine v_aload_n dX12_readSum_4 rfl ?_
          refine v_bipush 43 dX12_readSum_5 (by decide) ?_
          refine v_cV [_] (c12_sgF G M0 M hS h (k := 19) (by decide) (by decide) hc) k12_isSign dX12_readSum_7 l12_157 (by first | exact hS'.1 _ _ rfl | assumption) (by decide) rfl (by omega) (Nat.le_of_ble_eq_true rfl) ?_
          refine v_if_ne 22 dX12_readSum_10 (by decide) (fun h10 => absurd rfl h10) (fun h10 => ?_)
          refine v_aload_n dX12_readSum_13 rfl ?_
          refine v_bipush 45 dX12_readSum_14 (by decide) ?_
          refine v_cV [_] (c12_sgF G M0 M hS h (k := 20) (by decide) (by decide) hc2) k12_isSign dX12_readSum_16 l12_157 (by first | exact hS'.1 _ _ rfl | assumption) (by decide) rfl (by omega) (Nat.le_of_ble_eq_true rfl) ?_
          refine v_if_eq 55 dX12_readSum_19 (by decide) (fun h19 => ?_) (fun h19 => absurd rfl h19)
          refine v_vret dX12_readSum_55 rfl ?_
          exact ⟨rfl, h⟩
  intro R M h hI
  have hS' := hS.sm h.1
  refine Ct.of k12_readSum.1 (Nat.le_of_ble_eq_true rfl) ?_
  refine v_aload_n dX12_readSum_0 rfl ?_
  refine v_scVv [] (ht R M h hI) k12_readTerm dX12_readSum_1 l12_169 (by first | exact hS'.1 _ _ rfl | assumption) (by decide) rfl (by omega) (Nat.le_of_ble_eq_true rfl) ?_
  intro M2 hM2
  refine v_pad ?_; exact loop (Z.2 + 1) _ M2 none (by omega) (hgt R hI).1.1 hM2
theorem PS.dp {M0 M : mM} {Z : (Nat → Nat) × Nat} {d : Nat} {R : RSt} (h : PS M0 Z (d + 1) R M) : gI M 230 16 = nI (d + 1) ∧ nI (d + 1) - 1 = nI d ∧ PS M0 Z d R (sI M 230 16 (nI d)) := by
  obtain ⟨h1, h2, h3, h4, h5, h6, h7, h8, h9⟩ := h
  exact ⟨h5, nSub (b := 1) (by omega), h1.st _ rfl, by rw [gI_sr _ _ (by decide)]; exact h2, ⟨(gI_sk _ _ (by decide)).trans h3.1, h3.2⟩, fun z => (gI_sk _ _ (by decide)).trans (h4 z), gI_ss _ _ _ _, (gI_sk _ _ (by decide)).trans h6, (gI_sk _ _ (by decide)).trans h7, (gI_sk _ _ (by decide)).trans h8, fun z => (gI_sk _ _ (by decide)).trans (h9 z)⟩
/-- an atom, by what stands within ( ) -/
theorem c12_atG {Z : (Nat → Nat) × Nat} {d D0 : Nat} {inn : RSt → RSt} (hS : Sh M0) (hT : Tp M0 Z) (hD : 7 ≤ D0) (hd : d ≤ 6) (hi : ∀ R M, PS M0 Z d R M → IV Z R → rIs Z 22 R → V G Y12_readAtom D0 0 0 (Rs none (PS M0 Z d (inn R))) NX 35 [some (.ref 230), some (.int (-1))] [] M) : ∀ R M, PS M0 Z d R M → IV Z R → Ct G Y12_readAtom D0 0 0 [.ref 230] M (Rs none (PS M0 Z d (ats Z inn R))) NX := by
  intro R M h hI
  have hS' := hS.sm h.1
  unfold ats
  by_cases h0 : R.1 = 0
  · rw [if_neg (Decidable.not_not.mpr h0)]
    have hw := c12_wordStep G M0 M hS hT h hI h0
    have word : ∀ (x : Nat) (S : RSt), x < 1200 → wdV Z R = nI x → wdR Z R = S → IV Z S → Ct G Y12_readAtom D0 0 0 [.ref 230] M (Rs none (PS M0 Z d (rly (nI x) S))) NX := by
      intro x S hx e1 e2 hIS
      rw [e1, e2] at hw
      refine Ct.of k12_readAtom.1 (Nat.le_of_ble_eq_true rfl) ?_
      refine v_aload_n dX12_readAtom_0 rfl ?_
      refine v_getI 12 12 dX12_readAtom_1 f12_103 (by first | exact hS'.1 _ _ rfl | assumption) (by decide) ?_
      rw [h.bad.1 h0]
      refine v_if_eq 8 dX12_readAtom_4 (by decide) (fun h4 => ?_) (fun h4 => absurd rfl h4)
      refine v_aload_n dX12_readAtom_8 rfl ?_
      refine v_scV [] (hw) k12_wordStep dX12_readAtom_9 l12_188 (by first | exact hS'.1 _ _ rfl | assumption) (by decide) rfl (by omega) (Nat.le_of_ble_eq_true rfl) ?_
      intro M2 hM2; have hS' := hS.sm hM2.1
      refine v_istore_n dX12_readAtom_12 rfl (by decide) ?_
      refine v_iload_n dX12_readAtom_13 rfl ?_
      refine v_iconst (-1) dX12_readAtom_14 (by decide) ?_
      refine v_icmp_eq 26 dX12_readAtom_15 (by decide) (fun h15 => absurd h15 (nI_m1 (by omega))) (fun h15 => ?_)
      refine v_aload_n dX12_readAtom_18 rfl ?_
      refine v_iload_n dX12_readAtom_19 rfl ?_
      refine v_scVv [_] (c12_laysStep G M0 M2 hS hM2 (nI x) hIS.lay) k12_laysStep dX12_readAtom_20 l12_144 (by first | exact hS'.1 _ _ rfl | assumption) (by decide) rfl (by omega) (Nat.le_of_ble_eq_true rfl) ?_
      intro M3 hM3
      refine v_goto 80 dX12_readAtom_23 (by decide) ?_
      refine v_vret dX12_readAtom_80 rfl ?_
      exact ⟨rfl, hM3⟩
    have nx : kd Z R.2.2.1 ≠ 32 → IV Z (rnx R) := fun q => (gs.nx hI q).1
    have h6 := hI.2.2.2.2.1.2.2
    unfold wdV wdR at word hw
    by_cases k12 : kd Z R.2.2.1 = 12
    · rw [if_pos k12, if_pos k12] at word
      rw [if_pos k12]
      have n1 := nx (by omega)
      exact word _ _ (by have := rnv_lt (Z := Z) (lo := 0) (hi := kn R.2.2.2 1 - 1) (R := rnx R) (b := 10) (by omega) (by omega); omega) rfl rfl (gs.nu n1).1.1
    · rw [if_neg k12, if_neg k12] at word
      rw [if_neg k12]
      by_cases k13 : kd Z R.2.2.1 = 13
      · rw [if_pos k13, if_pos k13] at word
        rw [if_pos k13]
        exact word _ _ (by have := rnv_lt (Z := Z) (lo := 0) (hi := 9) (R := rnx R) (b := 10) (by omega) (by omega); omega) rfl rfl (gs.nu (nx (by omega))).1.1
      · rw [if_neg k13, if_neg k13] at word
        rw [if_neg k13]
        by_cases k14 : kd Z R.2.2.1 = 14
        · rw [if_pos k14, if_pos k14] at word
          rw [if_pos k14]
          exact word 300 _ (by omega) rfl rfl (nx (by omega))
        · rw [if_neg k14, if_neg k14] at word
          rw [if_neg k14]
          by_cases k15 : kd Z R.2.2.1 = 15
          · rw [if_pos k15, if_pos k15] at word
            rw [if_pos k15]
            exact word 301 _ (by omega) rfl rfl (nx (by omega))
          · rw [if_neg k15, if_neg k15] at word
            rw [if_neg k15]
            by_cases k16 : kd Z R.2.2.1 = 16
            · rw [if_pos k16, if_pos k16] at word
              rw [if_pos k16]
              exact word 302 _ (by omega) rfl rfl (nx (by omega))
            · rw [if_neg k16]
              rw [if_neg k12, if_neg k13, if_neg k14, if_neg k15, if_neg k16, if_neg k12, if_neg k13, if_neg k14, if_neg k15, if_neg k16] at hw
              refine Ct.of k12_readAtom.1 (Nat.le_of_ble_eq_true rfl) ?_
              by_cases k22 : kd Z R.2.2.1 = 22
              · rw [if_pos k22]
                refine v_aload_n dX12_readAtom_0 rfl ?_
                refine v_getI 12 12 dX12_readAtom_1 f12_103 (by first | exact hS'.1 _ _ rfl | assumption) (by decide) ?_
                rw [h.bad.1 h0]
                refine v_if_eq 8 dX12_readAtom_4 (by decide) (fun h4 => ?_) (fun h4 => absurd rfl h4)
                refine v_aload_n dX12_readAtom_8 rfl ?_
                refine v_scV [] (hw) k12_wordStep dX12_readAtom_9 l12_188 (by first | exact hS'.1 _ _ rfl | assumption) (by decide) rfl (by omega) (Nat.le_of_ble_eq_true rfl) ?_
                intro M2 hM2; have hS' := hS.sm hM2.1
                refine v_istore_n dX12_readAtom_12 rfl (by decide) ?_
                refine v_iload_n dX12_readAtom_13 rfl ?_
                refine v_iconst (-1) dX12_readAtom_14 (by decide) ?_
                refine v_icmp_eq 26 dX12_readAtom_15 (by decide) (fun h15 => ?_) (fun h15 => absurd rfl h15)
                refine v_aload_n dX12_readAtom_26 rfl ?_
                refine v_bipush 40 dX12_readAtom_27 (by decide) ?_
                refine v_cV [_] (c12_sgT G M0 M2 hS hM2 (k := 22) (by decide) (by decide) ⟨h0, k22⟩) k12_isSign dX12_readAtom_29 l12_157 (by first | exact hS'.1 _ _ rfl | assumption) (by decide) rfl (by omega) (Nat.le_of_ble_eq_true rfl) ?_
                refine v_if_eq 62 dX12_readAtom_32 (by decide) (fun h32 => absurd h32 (by decide)) (fun h32 => ?_)
                exact hi R M2 hM2 hI ⟨h0, k22⟩
              · rw [if_neg k22]
                refine v_aload_n dX12_readAtom_0 rfl ?_
                refine v_getI 12 12 dX12_readAtom_1 f12_103 (by first | exact hS'.1 _ _ rfl | assumption) (by decide) ?_
                rw [h.bad.1 h0]
                refine v_if_eq 8 dX12_readAtom_4 (by decide) (fun h4 => ?_) (fun h4 => absurd rfl h4)
                refine v_aload_n dX12_readAtom_8 rfl ?_
                refine v_scV [] (hw) k12_wordStep dX12_readAtom_9 l12_188 (by first | exact hS'.1 _ _ rfl | assumption) (by decide) rfl (by omega) (Nat.le_of_ble_eq_true rfl) ?_
                intro M2 hM2; have hS' := hS.sm hM2.1
                refine v_istore_n dX12_readAtom_12 rfl (by decide) ?_
                refine v_iload_n dX12_readAtom_13 rfl ?_
                refine v_iconst (-1) dX12_readAtom_14 (by decide) ?_
                refine v_icmp_eq 26 dX12_readAtom_15 (by decide) (fun h15 => ?_) (fun h15 => absurd rfl h15)
                refine v_aload_n dX12_readAtom_26 rfl ?_
                refine v_bipush 40 dX12_readAtom_27 (by decide) ?_
                refine v_cV [_] (c12_sgF G M0 M2 hS hM2 (k := 22) (by decide) (by decide) (fun z => k22 z.2)) k12_isSign dX12_readAtom_29 l12_157 (by first | exact hS'.1 _ _ rfl | assumption) (by decide) rfl (by omega) (Nat.le_of_ble_eq_true rfl) ?_
                refine v_if_eq 62 dX12_readAtom_32 (by decide) (fun h32 => ?_) (fun h32 => absurd rfl h32)
                refine v_aload_n dX12_readAtom_62 rfl ?_
                refine v_iconst 0 dX12_readAtom_63 (by decide) ?_
                refine v_sipush 999 dX12_readAtom_64 (by decide) ?_
                refine v_scV [_, _] (c12_number G M0 M2 (lo := 0) (hi := 999) hS hT hM2 (by decide) (by decide)) k12_number dX12_readAtom_67 l12_177 (by first | exact hS'.1 _ _ rfl | assumption) (by decide) rfl (by omega) (Nat.le_of_ble_eq_true rfl) ?_
                intro M3 hM3; have hS' := hS.sm hM3.1
                refine v_istore_n dX12_readAtom_70 rfl (by decide) ?_
                refine v_aload_n dX12_readAtom_71 rfl ?_
                refine v_sipush 1000 dX12_readAtom_72 (by decide) ?_
                refine v_iload_n dX12_readAtom_75 rfl ?_
                refine v_iadd dX12_readAtom_76 ?_
                rw [show (1000 : Int32) = nI 1000 from rfl, nI_add]
                refine v_scVv [_] (c12_laysStep G M0 M3 hS hM3 _ (gs.nu hI).1.1.lay) k12_laysStep dX12_readAtom_77 l12_144 (by first | exact hS'.1 _ _ rfl | assumption) (by decide) rfl (by omega) (Nat.le_of_ble_eq_true rfl) ?_
                intro M4 hM4
                refine v_vret dX12_readAtom_80 rfl ?_
                exact ⟨rfl, hM4⟩
  · rw [if_pos h0]
    exact (c12_atB G M0 M hS h h0).post (fun _ _ q => ⟨q.1, by rw [q.2]; exact h⟩) (fun _ _ z => z)
theorem rmu_b {Z : (Nat → Nat) × Nat} {k : Nat} {R : RSt} (h : R.1 ≠ 0) : rmu Z k R = R := by
  unfold rmu
  rw [rbl_b h]
  split <;> exact rgo_b h
theorem c12_atm {Z : (Nat → Nat) × Nat} (hS : Sh M0) (hT : Tp M0 Z) : ∀ L d, d + L = 6 → ∀ R M, PS M0 Z d R M → IV Z R → Ct G Y12_readAtom (7 + 3 * L) 0 0 [.ref 230] M (Rs none (PS M0 Z d (atm Z L R))) NX := by
  intro L
  induction L with
  | zero =>
    intro d hd
    have hd6 : d = 6 := by omega
    refine c12_atG G M0 (inn := rbl Z 4) hS hT (by omega) (by omega) (fun R M h hI hk => ?_)
    have hS' := hS.sm h.1
    have hgo := c12_goesIn G M0 M hS hT h (by omega)
    rw [if_pos hd6, rgo_b (rbl_p (by omega) R)] at hgo
    have hb := rbl_p (Z := Z) (k := 4) (by omega) R
    refine v_aload_n dX12_readAtom_35 rfl ?_
    refine v_scVv [] (hgo) k12_goesIn dX12_readAtom_36 l12_154 (by first | exact hS'.1 _ _ rfl | assumption) (by decide) rfl (by omega) (Nat.le_of_ble_eq_true rfl) ?_
    intro M2 hM2; have hS' := hS.sm hM2.1
    refine v_aload_n dX12_readAtom_39 rfl ?_
    refine v_cVv [] (c12_suB (D0 := 0) G M0 M2 hS hM2 hb) k12_readSum dX12_readAtom_40 l12_166 (by first | exact hS'.1 _ _ rfl | assumption) (by decide) rfl (by omega) (Nat.le_of_ble_eq_true rfl) ?_
    refine v_aload_n dX12_readAtom_43 rfl ?_
    refine v_bipush 41 dX12_readAtom_44 (by decide) ?_
    refine v_scVv [_] (c12_mustSign G M0 M2 hS hT hM2 (k := 23) (by decide) (by decide)) k12_mustSign dX12_readAtom_46 l12_163 (by first | exact hS'.1 _ _ rfl | assumption) (by decide) rfl (by omega) (Nat.le_of_ble_eq_true rfl) ?_
    intro M3 hM3; rw [rmu_b hb] at hM3; have hS' := hS.sm hM3.1
    refine v_aload_n dX12_readAtom_49 rfl ?_
    refine v_dup dX12_readAtom_50 rfl ?_
    refine v_getI 12 16 dX12_readAtom_51 f12_136 (by first | exact hS'.1 _ _ rfl | assumption) (by decide) ?_
    rw [hM3.dp.1]
    refine v_iconst 1 dX12_readAtom_54 (by decide) ?_
    refine v_isub dX12_readAtom_55 ?_
    rw [hM3.dp.2.1]
    refine v_putI 12 16 dX12_readAtom_56 f12_136 (by first | exact hS'.1 _ _ rfl | assumption) (by decide) ?_
    refine v_goto 80 dX12_readAtom_59 (by decide) ?_
    refine v_vret dX12_readAtom_80 rfl ?_
    exact ⟨rfl, hM3.dp.2.2⟩
  | succ L ih =>
    intro d hd
    refine c12_atG G M0 (inn := fun R => rmu Z 23 (sms Z (atm Z L) (rnx R))) hS hT (by omega) (by omega) (fun R M h hI hk => ?_)
    have hS' := hS.sm h.1
    have hgo := c12_goesIn G M0 M hS hT h (by omega)
    rw [if_neg (by omega), rgo_z hk.1] at hgo
    have g1 := (gs.nx hI (by have := hk.2; omega)).1
    have hsum := c12_sum G M0 (d := d + 1) (D0 := 7 + 3 * L) hS hT (by omega) (atm_ok Z L) (ih (d + 1) (by omega))
    refine v_aload_n dX12_readAtom_35 rfl ?_
    refine v_scVv [] (hgo) k12_goesIn dX12_readAtom_36 l12_154 (by first | exact hS'.1 _ _ rfl | assumption) (by decide) rfl (by omega) (Nat.le_of_ble_eq_true rfl) ?_
    intro M2 hM2; have hS' := hS.sm hM2.1
    refine v_aload_n dX12_readAtom_39 rfl ?_
    refine v_scVv [] (hsum _ M2 hM2 g1) k12_readSum dX12_readAtom_40 l12_166 (by first | exact hS'.1 _ _ rfl | assumption) (by decide) rfl (by omega) (Nat.le_of_ble_eq_true rfl) ?_
    intro M3 hM3; have hS' := hS.sm hM3.1
    refine v_aload_n dX12_readAtom_43 rfl ?_
    refine v_bipush 41 dX12_readAtom_44 (by decide) ?_
    refine v_scVv [_] (c12_mustSign G M0 M3 hS hT hM3 (k := 23) (by decide) (by decide)) k12_mustSign dX12_readAtom_46 l12_163 (by first | exact hS'.1 _ _ rfl | assumption) (by decide) rfl (by omega) (Nat.le_of_ble_eq_true rfl) ?_
    intro M4 hM4; have hS' := hS.sm hM4.1
    refine v_aload_n dX12_readAtom_49 rfl ?_
    refine v_dup dX12_readAtom_50 rfl ?_
    refine v_getI 12 16 dX12_readAtom_51 f12_136 (by first | exact hS'.1 _ _ rfl | assumption) (by decide) ?_
    rw [hM4.dp.1]
    refine v_iconst 1 dX12_readAtom_54 (by decide) ?_
    refine v_isub dX12_readAtom_55 ?_
    rw [hM4.dp.2.1]
    refine v_putI 12 16 dX12_readAtom_56 f12_136 (by first | exact hS'.1 _ _ rfl | assumption) (by decide) ?_
    refine v_goto 80 dX12_readAtom_59 (by decide) ?_
    refine v_vret dX12_readAtom_80 rfl ?_
    exact ⟨rfl, hM4.dp.2.2⟩
theorem c12_sumL {Z : (Nat → Nat) × Nat} (hS : Sh M0) (hT : Tp M0 Z) {L d : Nat} (hd : d + L = 6) : ∀ R M, PS M0 Z d R M → IV Z R → Ct G Y12_readSum (9 + 3 * L) 0 0 [.ref 230] M (Rs none (PS M0 Z d (sms Z (atm Z L) R))) NX := by
  have h := c12_sum G M0 (d := d) (D0 := 7 + 3 * L) hS hT (by omega) (atm_ok Z L) (c12_atm G M0 hS hT L d hd)
  rw [show 7 + 3 * L + 2 = 9 + 3 * L by omega] at h
  exact h
end PD
