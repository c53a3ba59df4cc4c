/-! ===== the reference: readsOn ===== -/
theorem tkE_lo {Z : (Nat → Nat) × Nat} {h : Nat} (h0 : tkS Z h < Z.2) (hl : loB (Z.1 (tkS Z h)) = true) : tkE Z h = rn (fun i => loB (Z.1 i)) (Z.2 - tkS Z h) (tkS Z h) := by
  unfold tkE; rw [if_neg (by omega), if_pos hl]
theorem tkE_di {Z : (Nat → Nat) × Nat} {h : Nat} (h0 : tkS Z h < Z.2) (hl : ¬ loB (Z.1 (tkS Z h)) = true) (hd : diB (Z.1 (tkS Z h)) = true) : tkE Z h = rn (fun i => diB (Z.1 i)) (Z.2 - tkS Z h) (tkS Z h) := by
  unfold tkE; rw [if_neg (by omega), if_neg hl, if_pos hd]
theorem tkE_sg {Z : (Nat → Nat) × Nat} {h : Nat} (h0 : tkS Z h < Z.2) (hl : ¬ loB (Z.1 (tkS Z h)) = true) (hd : ¬ diB (Z.1 (tkS Z h)) = true) : tkE Z h = tkS Z h + 1 := by
  unfold tkE; rw [if_neg (by omega), if_neg hl, if_neg hd]
theorem tkK_lo {Z : (Nat → Nat) × Nat} {h : Nat} (h0 : tkS Z h < Z.2) (hl : loB (Z.1 (tkS Z h)) = true) : tkK Z h = kdW (wl Z.1 (tkS Z h) (tkE Z h)) 30 := by
  unfold tkK; rw [if_neg (by omega), if_pos hl]
theorem tkK_di {Z : (Nat → Nat) × Nat} {h : Nat} (h0 : tkS Z h < Z.2) (hl : ¬ loB (Z.1 (tkS Z h)) = true) (hd : diB (Z.1 (tkS Z h)) = true) : tkK Z h = if 3 < tkE Z h - tkS Z h then 31 else 29 := by
  unfold tkK; rw [if_neg (by omega), if_neg hl, if_pos hd]
theorem wl_1 (b : Nat → Nat) (s : Nat) : wl b s (s + 1) = [nI (b s)] := by unfold wl; rw [Nat.add_sub_cancel_left]; rfl
theorem tkK_sg {Z : (Nat → Nat) × Nat} {h : Nat} (h0 : tkS Z h < Z.2) (hl : ¬ loB (Z.1 (tkS Z h)) = true) (hd : ¬ diB (Z.1 (tkS Z h)) = true) : tkK Z h = kdW [nI (Z.1 (tkS Z h))] 31 := by
  unfold tkK; rw [if_neg (by omega), if_neg hl, if_neg hd, tkE_sg h0 hl hd, wl_1]
section RS
variable (G : mG) (M : mM)
theorem ro_skip {Z : (Nat → Nat) × Nat} {Q : Option Value → mM → Prop} (hS : Sh M) (hT : Tp M Z) : ∀ k h M', h + k = Z.2 → Sm Wro M M' → gI M' 230 8 = nI h → (∀ M2, Sm Wro M M2 → gI M2 230 8 = nI (rn (fun i => blB (Z.1 i)) k h) → V G Y12_readsOn 2 0 0 Q NX 52 [some (.ref 230)] [] M2) → V G Y12_readsOn 2 0 0 Q NX 0 [some (.ref 230)] [] M' := by
  have h9 := hT.2.1
  intro k
  induction k with
  | zero =>
    intro h M' hk e e8 kk
    have hS' := hS.sm e
    have hT' := hT.sm e rfl (fun _ => rfl)
    refine v_aload_n dX12_readsOn_0 rfl ?_
    refine v_getI 12 8 dX12_readsOn_1 f12_77 (by first | exact hS'.1 _ _ rfl | assumption) (by decide) ?_
    refine v_aload_n dX12_readsOn_4 rfl ?_
    refine v_getI 12 7 dX12_readsOn_5 f12_74 (by first | exact hS'.1 _ _ rfl | assumption) (by decide) ?_
    rw [e8, hT'.1]
    refine v_icmp_ge 52 dX12_readsOn_8 (by decide) (fun h8 => ?_) (fun h8 => absurd (nI_le (by omega) (by omega)) h8)
    exact kk M' e e8
  | succ k ih =>
    intro h M' hk e e8 kk
    have hS' := hS.sm e
    have hT' := hT.sm e rfl (fun _ => rfl)
    obtain ⟨b1, b2⟩ := hT'.2.2 h (by omega)
    have e2 : Sm Wro M (sI M' 230 8 (nI (h + 1))) := e.st _ rfl
    by_cases hb : blB (Z.1 h) = true
    · rw [rn, if_pos hb] at kk
      have g := ih (h + 1) _ (by omega) e2 (gI_ss _ _ _ _) kk
      rcases blB_iff.mp hb with c | c
      · refine v_aload_n dX12_readsOn_0 rfl ?_
        refine v_getI 12 8 dX12_readsOn_1 f12_77 (by first | exact hS'.1 _ _ rfl | assumption) (by decide) ?_
        refine v_aload_n dX12_readsOn_4 rfl ?_
        refine v_getI 12 7 dX12_readsOn_5 f12_74 (by first | exact hS'.1 _ _ rfl | assumption) (by decide) ?_
        rw [e8, hT'.1]
        refine v_icmp_ge 52 dX12_readsOn_8 (by decide) (fun h8 => absurd ((nI_leI (by omega) (by omega)).mp h8) (by omega)) (fun h8 => ?_)
        refine v_aload_n dX12_readsOn_11 rfl ?_
        refine v_getR 12 5 _ dX12_readsOn_12 f12_23 (by first | exact hS'.1 _ _ rfl | assumption) (by decide) (by first | exact hS'.2 _ _ _ rfl | assumption) ?_
        refine v_aload_n dX12_readsOn_15 rfl ?_
        refine v_getI 12 8 dX12_readsOn_16 f12_77 (by first | exact hS'.1 _ _ rfl | assumption) (by decide) ?_
        rw [e8]
        refine v_ialdN (h) dX12_readsOn_19 (by first | exact hS'.1 _ _ rfl | assumption) (by simp only [n_lit, pk_mul, nI_add]) ⟨by omega, by omega⟩ ?_
        rw [b1, c]
        refine v_bipush 32 dX12_readsOn_20 (by decide) ?_
        refine v_icmp_eq 39 dX12_readsOn_22 (by decide) (fun h22 => ?_) (fun h22 => absurd rfl h22)
        refine v_aload_n dX12_readsOn_39 rfl ?_
        refine v_dup dX12_readsOn_40 rfl ?_
        refine v_getI 12 8 dX12_readsOn_41 f12_77 (by first | exact hS'.1 _ _ rfl | assumption) (by decide) ?_
        rw [e8]
        refine v_iconst 1 dX12_readsOn_44 (by decide) ?_
        refine v_iadd dX12_readsOn_45 ?_
        rw [nI_1]
        refine v_putI 12 8 dX12_readsOn_46 f12_77 (by first | exact hS'.1 _ _ rfl | assumption) (by decide) ?_
        refine v_goto 0 dX12_readsOn_49 (by decide) ?_
        exact g
      · refine v_aload_n dX12_readsOn_0 rfl ?_
        refine v_getI 12 8 dX12_readsOn_1 f12_77 (by first | exact hS'.1 _ _ rfl | assumption) (by decide) ?_
        refine v_aload_n dX12_readsOn_4 rfl ?_
        refine v_getI 12 7 dX12_readsOn_5 f12_74 (by first | exact hS'.1 _ _ rfl | assumption) (by decide) ?_
        rw [e8, hT'.1]
        refine v_icmp_ge 52 dX12_readsOn_8 (by decide) (fun h8 => absurd ((nI_leI (by omega) (by omega)).mp h8) (by omega)) (fun h8 => ?_)
        refine v_aload_n dX12_readsOn_11 rfl ?_
        refine v_getR 12 5 _ dX12_readsOn_12 f12_23 (by first | exact hS'.1 _ _ rfl | assumption) (by decide) (by first | exact hS'.2 _ _ _ rfl | assumption) ?_
        refine v_aload_n dX12_readsOn_15 rfl ?_
        refine v_getI 12 8 dX12_readsOn_16 f12_77 (by first | exact hS'.1 _ _ rfl | assumption) (by decide) ?_
        rw [e8]
        refine v_ialdN (h) dX12_readsOn_19 (by first | exact hS'.1 _ _ rfl | assumption) (by simp only [n_lit, pk_mul, nI_add]) ⟨by omega, by omega⟩ ?_
        rw [b1, c]
        refine v_bipush 32 dX12_readsOn_20 (by decide) ?_
        refine v_icmp_eq 39 dX12_readsOn_22 (by decide) (fun h22 => absurd h22 (by decide)) (fun h22 => ?_)
        refine v_aload_n dX12_readsOn_25 rfl ?_
        refine v_getR 12 5 _ dX12_readsOn_26 f12_23 (by first | exact hS'.1 _ _ rfl | assumption) (by decide) (by first | exact hS'.2 _ _ _ rfl | assumption) ?_
        refine v_aload_n dX12_readsOn_29 rfl ?_
        refine v_getI 12 8 dX12_readsOn_30 f12_77 (by first | exact hS'.1 _ _ rfl | assumption) (by decide) ?_
        rw [e8]
        refine v_ialdN (h) dX12_readsOn_33 (by first | exact hS'.1 _ _ rfl | assumption) (by simp only [n_lit, pk_mul, nI_add]) ⟨by omega, by omega⟩ ?_
        rw [b1, c]
        refine v_bipush 10 dX12_readsOn_34 (by decide) ?_
        refine v_icmp_ne 52 dX12_readsOn_36 (by decide) (fun h36 => absurd rfl h36) (fun h36 => ?_)
        refine v_aload_n dX12_readsOn_39 rfl ?_
        refine v_dup dX12_readsOn_40 rfl ?_
        refine v_getI 12 8 dX12_readsOn_41 f12_77 (by first | exact hS'.1 _ _ rfl | assumption) (by decide) ?_
        rw [e8]
        refine v_iconst 1 dX12_readsOn_44 (by decide) ?_
        refine v_iadd dX12_readsOn_45 ?_
        rw [nI_1]
        refine v_putI 12 8 dX12_readsOn_46 f12_77 (by first | exact hS'.1 _ _ rfl | assumption) (by decide) ?_
        refine v_goto 0 dX12_readsOn_49 (by decide) ?_
        exact g
    · rw [rn, if_neg hb] at kk
      have c1 : ¬ Z.1 h = 32 := fun z => hb (blB_iff.mpr (Or.inl z))
      have c2 : ¬ Z.1 h = 10 := fun z => hb (blB_iff.mpr (Or.inr z))
      refine v_aload_n dX12_readsOn_0 rfl ?_
      refine v_getI 12 8 dX12_readsOn_1 f12_77 (by first | exact hS'.1 _ _ rfl | assumption) (by decide) ?_
      refine v_aload_n dX12_readsOn_4 rfl ?_
      refine v_getI 12 7 dX12_readsOn_5 f12_74 (by first | exact hS'.1 _ _ rfl | assumption) (by decide) ?_
      rw [e8, hT'.1]
      refine v_icmp_ge 52 dX12_readsOn_8 (by decide) (fun h8 => absurd ((nI_leI (by omega) (by omega)).mp h8) (by omega)) (fun h8 => ?_)
      refine v_aload_n dX12_readsOn_11 rfl ?_
      refine v_getR 12 5 _ dX12_readsOn_12 f12_23 (by first | exact hS'.1 _ _ rfl | assumption) (by decide) (by first | exact hS'.2 _ _ _ rfl | assumption) ?_
      refine v_aload_n dX12_readsOn_15 rfl ?_
      refine v_getI 12 8 dX12_readsOn_16 f12_77 (by first | exact hS'.1 _ _ rfl | assumption) (by decide) ?_
      rw [e8]
      refine v_ialdN (h) dX12_readsOn_19 (by first | exact hS'.1 _ _ rfl | assumption) (by simp only [n_lit, pk_mul, nI_add]) ⟨by omega, by omega⟩ ?_
      rw [b1]
      refine v_bipush 32 dX12_readsOn_20 (by decide) ?_
      refine v_icmp_eq 39 dX12_readsOn_22 (by decide) (fun h22 => absurd ((nI_eq (b := 32) (by omega) (by omega)).mp h22) c1) (fun h22 => ?_)
      refine v_aload_n dX12_readsOn_25 rfl ?_
      refine v_getR 12 5 _ dX12_readsOn_26 f12_23 (by first | exact hS'.1 _ _ rfl | assumption) (by decide) (by first | exact hS'.2 _ _ _ rfl | assumption) ?_
      refine v_aload_n dX12_readsOn_29 rfl ?_
      refine v_getI 12 8 dX12_readsOn_30 f12_77 (by first | exact hS'.1 _ _ rfl | assumption) (by decide) ?_
      rw [e8]
      refine v_ialdN (h) dX12_readsOn_33 (by first | exact hS'.1 _ _ rfl | assumption) (by simp only [n_lit, pk_mul, nI_add]) ⟨by omega, by omega⟩ ?_
      rw [b1]
      refine v_bipush 10 dX12_readsOn_34 (by decide) ?_
      refine v_icmp_ne 52 dX12_readsOn_36 (by decide) (fun h36 => ?_) (fun h36 => absurd (fun z => c2 ((nI_eq (b := 10) (by omega) (by omega)).mp z)) h36)
      exact kk M' e e8
theorem ro_lo {Z : (Nat → Nat) × Nat} {x : Int32} {Q : Option Value → mM → Prop} (hS : Sh M) (hT : Tp M Z) : ∀ k h M', h + k = Z.2 → Sm Wro M M' → gI M' 230 8 = nI h → (∀ M2, Sm Wro M M2 → gI M2 230 8 = nI (rn (fun i => loB (Z.1 i)) k h) → gI M2 230 9 = gI M' 230 9 → V G Y12_readsOn 2 0 0 Q NX 121 [some (.ref 230), some (.int x)] [] M2) → V G Y12_readsOn 2 0 0 Q NX 94 [some (.ref 230), some (.int x)] [] M' := by
  have h9 := hT.2.1
  intro k
  induction k with
  | zero =>
    intro h M' hk e e8 kk
    have hS' := hS.sm e
    have hT' := hT.sm e rfl (fun _ => rfl)
    refine v_aload_n dX12_readsOn_94 rfl ?_
    refine v_aload_n dX12_readsOn_95 rfl ?_
    refine v_getI 12 8 dX12_readsOn_96 f12_77 (by first | exact hS'.1 _ _ rfl | assumption) (by decide) ?_
    rw [e8]
    refine v_cV [_] (c12_see G M' hS' hT' (by omega)) k12_see dX12_readsOn_99 l12_90 (by first | exact hS'.1 _ _ rfl | assumption) (by decide) rfl (Nat.le_of_ble_eq_true rfl) (Nat.le_of_ble_eq_true rfl) ?_
    refine v_cS [_] (c12_loN G M' (see_lt hT' h)) k12_isLetter dX12_readsOn_102 l12_86 rfl (Nat.le_of_ble_eq_true rfl) (Nat.le_of_ble_eq_true rfl) ?_
    rw [if_neg (show ¬ h < Z.2 by omega), bI_f (by decide)]
    refine v_if_eq 121 dX12_readsOn_105 (by decide) (fun h105 => ?_) (fun h105 => absurd rfl h105)
    exact kk M' e e8 rfl
  | succ k ih =>
    intro h M' hk e e8 kk
    have hS' := hS.sm e
    have hT' := hT.sm e rfl (fun _ => rfl)
    have e2 : Sm Wro M (sI M' 230 8 (nI (h + 1))) := e.st _ rfl
    by_cases hb : loB (Z.1 h) = true
    · rw [rn, if_pos hb] at kk
      have g := ih (h + 1) _ (by omega) e2 (gI_ss _ _ _ _) (fun M2 a b c => kk M2 a b (c.trans (gI_sk _ _ (by decide))))
      refine v_aload_n dX12_readsOn_94 rfl ?_
      refine v_aload_n dX12_readsOn_95 rfl ?_
      refine v_getI 12 8 dX12_readsOn_96 f12_77 (by first | exact hS'.1 _ _ rfl | assumption) (by decide) ?_
      rw [e8]
      refine v_cV [_] (c12_see G M' hS' hT' (by omega)) k12_see dX12_readsOn_99 l12_90 (by first | exact hS'.1 _ _ rfl | assumption) (by decide) rfl (Nat.le_of_ble_eq_true rfl) (Nat.le_of_ble_eq_true rfl) ?_
      refine v_cS [_] (c12_loN G M' (see_lt hT' h)) k12_isLetter dX12_readsOn_102 l12_86 rfl (Nat.le_of_ble_eq_true rfl) (Nat.le_of_ble_eq_true rfl) ?_
      rw [if_pos (show h < Z.2 by omega), bI_t hb]
      refine v_if_eq 121 dX12_readsOn_105 (by decide) (fun h105 => absurd h105 (by decide)) (fun h105 => ?_)
      refine v_aload_n dX12_readsOn_108 rfl ?_
      refine v_dup dX12_readsOn_109 rfl ?_
      refine v_getI 12 8 dX12_readsOn_110 f12_77 (by first | exact hS'.1 _ _ rfl | assumption) (by decide) ?_
      rw [e8]
      refine v_iconst 1 dX12_readsOn_113 (by decide) ?_
      refine v_iadd dX12_readsOn_114 ?_
      rw [nI_1]
      refine v_putI 12 8 dX12_readsOn_115 f12_77 (by first | exact hS'.1 _ _ rfl | assumption) (by decide) ?_
      refine v_goto 94 dX12_readsOn_118 (by decide) ?_
      exact g
    · rw [rn, if_neg hb] at kk
      refine v_aload_n dX12_readsOn_94 rfl ?_
      refine v_aload_n dX12_readsOn_95 rfl ?_
      refine v_getI 12 8 dX12_readsOn_96 f12_77 (by first | exact hS'.1 _ _ rfl | assumption) (by decide) ?_
      rw [e8]
      refine v_cV [_] (c12_see G M' hS' hT' (by omega)) k12_see dX12_readsOn_99 l12_90 (by first | exact hS'.1 _ _ rfl | assumption) (by decide) rfl (Nat.le_of_ble_eq_true rfl) (Nat.le_of_ble_eq_true rfl) ?_
      refine v_cS [_] (c12_loN G M' (see_lt hT' h)) k12_isLetter dX12_readsOn_102 l12_86 rfl (Nat.le_of_ble_eq_true rfl) (Nat.le_of_ble_eq_true rfl) ?_
      rw [if_pos (show h < Z.2 by omega), bI_f hb]
      refine v_if_eq 121 dX12_readsOn_105 (by decide) (fun h105 => ?_) (fun h105 => absurd rfl h105)
      exact kk M' e e8 rfl
theorem ro_di {Z : (Nat → Nat) × Nat} {x : Int32} {s : Nat} {Q : Option Value → mM → Prop} (hS : Sh M) (hT : Tp M Z) : ∀ k h M', h + k = Z.2 → s ≤ h → (∀ j, j < h - s → diB (Z.1 (s + j)) = true) → Sm Wro M M' → gI M' 230 8 = nI h → gI M' 230 9 = nI s → gI M' 230 11 = nI (dgV Z.1 s (min 3 (h - s))) → (∀ M2 h2, h2 = rn (fun i => diB (Z.1 i)) k h → s ≤ h2 → h2 ≤ Z.2 → Sm Wro M M2 → gI M2 230 8 = nI h2 → gI M2 230 9 = nI s → gI M2 230 11 = nI (dgV Z.1 s (min 3 (h2 - s))) → V G Y12_readsOn 2 0 0 Q NX 212 [some (.ref 230), some (.int x)] [] M2) → V G Y12_readsOn 2 0 0 Q NX 141 [some (.ref 230), some (.int x)] [] M' := by
  have h9 := hT.2.1
  intro k
  induction k with
  | zero =>
    intro h M' hk hs hd e e8 e9 e11 kk
    have hS' := hS.sm e
    have hT' := hT.sm e rfl (fun _ => rfl)
    refine v_aload_n dX12_readsOn_141 rfl ?_
    refine v_aload_n dX12_readsOn_142 rfl ?_
    refine v_getI 12 8 dX12_readsOn_143 f12_77 (by first | exact hS'.1 _ _ rfl | assumption) (by decide) ?_
    rw [e8]
    refine v_cV [_] (c12_see G M' hS' hT' (by omega)) k12_see dX12_readsOn_146 l12_90 (by first | exact hS'.1 _ _ rfl | assumption) (by decide) rfl (Nat.le_of_ble_eq_true rfl) (Nat.le_of_ble_eq_true rfl) ?_
    refine v_cS [_] (c12_diN G M' (see_lt hT' h)) k12_isDigit dX12_readsOn_149 l12_94 rfl (Nat.le_of_ble_eq_true rfl) (Nat.le_of_ble_eq_true rfl) ?_
    rw [if_neg (show ¬ h < Z.2 by omega), bI_f (by decide)]
    refine v_if_eq 212 dX12_readsOn_152 (by decide) (fun h152 => ?_) (fun h152 => absurd rfl h152)
    exact kk M' h rfl hs (by omega) e e8 e9 e11
  | succ k ih =>
    intro h M' hk hs hd e e8 e9 e11 kk
    have hS' := hS.sm e
    have hT' := hT.sm e rfl (fun _ => rfl)
    obtain ⟨b1, b2⟩ := hT'.2.2 h (by omega)
    have es : s + (h - s) = h := by omega
    by_cases hb : diB (Z.1 h) = true
    · rw [rn, if_pos hb] at kk
      have hb' := diB_iff.mp hb
      have hd' : ∀ j, j < h + 1 - s → diB (Z.1 (s + j)) = true := fun j hj => by
        rcases Nat.lt_or_ge j (h - s) with q | q
        · exact hd j q
        · rw [show s + j = h by omega]; exact hb
      have g : ∀ v, v = nI (dgV Z.1 s (min 3 (h + 1 - s))) → V G Y12_readsOn 2 0 0 Q NX 141 [some (.ref 230), some (.int x)] [] (sI (sI M' 230 11 v) 230 8 (nI (h + 1))) := fun v hv =>
        ih (h + 1) _ (by omega) (by omega) hd' ((e.st _ rfl).st _ rfl) (gI_ss _ _ _ _) ((gI_sk _ _ (by decide)).trans ((gI_sk _ _ (by decide)).trans e9)) ((gI_sk _ _ (by decide)).trans ((gI_ss _ _ _ _).trans hv)) kk
      have hlt := dgV_lt (b := Z.1) (s := s) (min 3 (h - s)) (fun j hj => (diB_iff.mp (hd j (by omega))).2)
      have hlt2 : dgV Z.1 s (min 3 (h - s)) < 1000 := Nat.lt_of_lt_of_le hlt (Nat.pow_le_pow_right (n := 10) (by omega) (Nat.min_le_left _ _))
      by_cases h3 : h - s < 3
      · have ev : 10 * dgV Z.1 s (min 3 (h - s)) + Z.1 h - 48 = dgV Z.1 s (min 3 (h + 1 - s)) := by
          rw [show min 3 (h + 1 - s) = min 3 (h - s) + 1 by omega, dgV, show s + min 3 (h - s) = h by omega]
          omega
        refine v_aload_n dX12_readsOn_141 rfl ?_
        refine v_aload_n dX12_readsOn_142 rfl ?_
        refine v_getI 12 8 dX12_readsOn_143 f12_77 (by first | exact hS'.1 _ _ rfl | assumption) (by decide) ?_
        rw [e8]
        refine v_cV [_] (c12_see G M' hS' hT' (by omega)) k12_see dX12_readsOn_146 l12_90 (by first | exact hS'.1 _ _ rfl | assumption) (by decide) rfl (Nat.le_of_ble_eq_true rfl) (Nat.le_of_ble_eq_true rfl) ?_
        refine v_cS [_] (c12_diN G M' (see_lt hT' h)) k12_isDigit dX12_readsOn_149 l12_94 rfl (Nat.le_of_ble_eq_true rfl) (Nat.le_of_ble_eq_true rfl) ?_
        rw [if_pos (show h < Z.2 by omega), bI_t hb]
        refine v_if_eq 212 dX12_readsOn_152 (by decide) (fun h152 => absurd h152 (by decide)) (fun h152 => ?_)
        refine v_aload_n dX12_readsOn_155 rfl ?_
        refine v_aload_n dX12_readsOn_156 rfl ?_
        refine v_getI 12 8 dX12_readsOn_157 f12_77 (by first | exact hS'.1 _ _ rfl | assumption) (by decide) ?_
        refine v_aload_n dX12_readsOn_160 rfl ?_
        refine v_getI 12 9 dX12_readsOn_161 f12_80 (by first | exact hS'.1 _ _ rfl | assumption) (by decide) ?_
        rw [e8, e9]
        refine v_isub dX12_readsOn_164 ?_
        rw [nSub hs]
        refine v_iconst 3 dX12_readsOn_165 (by decide) ?_
        refine v_icmp_ge 192 dX12_readsOn_166 (by decide) (fun h166 => absurd ((nI_leI (a := 3) (by omega) (by omega)).mp h166) (show ¬ 3 ≤ h - s by omega)) (fun h166 => ?_)
        refine v_bipush 10 dX12_readsOn_169 (by decide) ?_
        refine v_aload_n dX12_readsOn_171 rfl ?_
        refine v_getI 12 11 dX12_readsOn_172 f12_97 (by first | exact hS'.1 _ _ rfl | assumption) (by decide) ?_
        refine v_imul dX12_readsOn_175 ?_
        refine v_aload_n dX12_readsOn_176 rfl ?_
        refine v_getR 12 5 _ dX12_readsOn_177 f12_23 (by first | exact hS'.1 _ _ rfl | assumption) (by decide) (by first | exact hS'.2 _ _ _ rfl | assumption) ?_
        refine v_aload_n dX12_readsOn_180 rfl ?_
        refine v_getI 12 8 dX12_readsOn_181 f12_77 (by first | exact hS'.1 _ _ rfl | assumption) (by decide) ?_
        rw [e8, e11]
        refine v_ialdN (h) dX12_readsOn_184 (by first | exact hS'.1 _ _ rfl | assumption) (by simp only [n_lit, pk_mul, nI_add]) ⟨by omega, by omega⟩ ?_
        rw [b1]
        refine v_iadd dX12_readsOn_185 ?_
        refine v_bipush 48 dX12_readsOn_186 (by decide) ?_
        refine v_isub dX12_readsOn_188 ?_
        rw [n_lit 10, n_lit 48, pk_mul, nI_add, nSub (by omega), ev]
        refine v_goto 196 dX12_readsOn_189 (by decide) ?_
        refine v_putI 12 11 dX12_readsOn_196 f12_97 (by first | exact hS'.1 _ _ rfl | assumption) (by decide) ?_
        refine v_aload_n dX12_readsOn_199 rfl ?_
        refine v_dup dX12_readsOn_200 rfl ?_
        refine v_getI 12 8 dX12_readsOn_201 f12_77 (by first | exact hS'.1 _ _ rfl | assumption) (by decide) ?_
        rw [gI_sk _ _ (by decide), e8]
        refine v_iconst 1 dX12_readsOn_204 (by decide) ?_
        refine v_iadd dX12_readsOn_205 ?_
        refine v_putI 12 8 dX12_readsOn_206 f12_77 (by first | exact hS'.1 _ _ rfl | assumption) (by decide) ?_
        rw [nI_1]
        refine v_goto 141 dX12_readsOn_209 (by decide) ?_
        exact g _ rfl
      · have ev : dgV Z.1 s (min 3 (h - s)) = dgV Z.1 s (min 3 (h + 1 - s)) := by rw [show min 3 (h + 1 - s) = min 3 (h - s) by omega]
        refine v_aload_n dX12_readsOn_141 rfl ?_
        refine v_aload_n dX12_readsOn_142 rfl ?_
        refine v_getI 12 8 dX12_readsOn_143 f12_77 (by first | exact hS'.1 _ _ rfl | assumption) (by decide) ?_
        rw [e8]
        refine v_cV [_] (c12_see G M' hS' hT' (by omega)) k12_see dX12_readsOn_146 l12_90 (by first | exact hS'.1 _ _ rfl | assumption) (by decide) rfl (Nat.le_of_ble_eq_true rfl) (Nat.le_of_ble_eq_true rfl) ?_
        refine v_cS [_] (c12_diN G M' (see_lt hT' h)) k12_isDigit dX12_readsOn_149 l12_94 rfl (Nat.le_of_ble_eq_true rfl) (Nat.le_of_ble_eq_true rfl) ?_
        rw [if_pos (show h < Z.2 by omega), bI_t hb]
        refine v_if_eq 212 dX12_readsOn_152 (by decide) (fun h152 => absurd h152 (by decide)) (fun h152 => ?_)
        refine v_aload_n dX12_readsOn_155 rfl ?_
        refine v_aload_n dX12_readsOn_156 rfl ?_
        refine v_getI 12 8 dX12_readsOn_157 f12_77 (by first | exact hS'.1 _ _ rfl | assumption) (by decide) ?_
        refine v_aload_n dX12_readsOn_160 rfl ?_
        refine v_getI 12 9 dX12_readsOn_161 f12_80 (by first | exact hS'.1 _ _ rfl | assumption) (by decide) ?_
        rw [e8, e9]
        refine v_isub dX12_readsOn_164 ?_
        rw [nSub hs]
        refine v_iconst 3 dX12_readsOn_165 (by decide) ?_
        refine v_icmp_ge 192 dX12_readsOn_166 (by decide) (fun h166 => ?_) (fun h166 => absurd (nI_le (a := 3) (by omega) (by omega)) h166)
        refine v_aload_n dX12_readsOn_192 rfl ?_
        refine v_getI 12 11 dX12_readsOn_193 f12_97 (by first | exact hS'.1 _ _ rfl | assumption) (by decide) ?_
        rw [e11, ev]
        refine v_putI 12 11 dX12_readsOn_196 f12_97 (by first | exact hS'.1 _ _ rfl | assumption) (by decide) ?_
        refine v_aload_n dX12_readsOn_199 rfl ?_
        refine v_dup dX12_readsOn_200 rfl ?_
        refine v_getI 12 8 dX12_readsOn_201 f12_77 (by first | exact hS'.1 _ _ rfl | assumption) (by decide) ?_
        rw [gI_sk _ _ (by decide), e8]
        refine v_iconst 1 dX12_readsOn_204 (by decide) ?_
        refine v_iadd dX12_readsOn_205 ?_
        refine v_putI 12 8 dX12_readsOn_206 f12_77 (by first | exact hS'.1 _ _ rfl | assumption) (by decide) ?_
        rw [nI_1]
        refine v_goto 141 dX12_readsOn_209 (by decide) ?_
        exact g _ rfl
    · rw [rn, if_neg hb] at kk
      refine v_aload_n dX12_readsOn_141 rfl ?_
      refine v_aload_n dX12_readsOn_142 rfl ?_
      refine v_getI 12 8 dX12_readsOn_143 f12_77 (by first | exact hS'.1 _ _ rfl | assumption) (by decide) ?_
      rw [e8]
      refine v_cV [_] (c12_see G M' hS' hT' (by omega)) k12_see dX12_readsOn_146 l12_90 (by first | exact hS'.1 _ _ rfl | assumption) (by decide) rfl (Nat.le_of_ble_eq_true rfl) (Nat.le_of_ble_eq_true rfl) ?_
      refine v_cS [_] (c12_diN G M' (see_lt hT' h)) k12_isDigit dX12_readsOn_149 l12_94 rfl (Nat.le_of_ble_eq_true rfl) (Nat.le_of_ble_eq_true rfl) ?_
      rw [if_pos (show h < Z.2 by omega), bI_f hb]
      refine v_if_eq 212 dX12_readsOn_152 (by decide) (fun h152 => ?_) (fun h152 => absurd rfl h152)
      exact kk M' h rfl hs (by omega) e e8 e9 e11
theorem c12_readsOn {Z : (Nat → Nat) × Nat} {h : Nat} (hS : Sh M) (hT : Tp M Z) (hh : h ≤ Z.2) (e8 : gI M 230 8 = nI h) : Ct G Y12_readsOn 2 0 0 [.ref 230] M (Rs none (RO M Z h)) NX := by
  have h9 := hT.2.1
  refine Ct.of k12_readsOn.1 (Nat.le_of_ble_eq_true rfl) ?_
  refine ro_skip G M hS hT (Z.2 - h) h M (by omega) Sm.rf e8 (fun M2 e e2 => ?_)
  have hS' := hS.sm e
  have hT' := hT.sm e rfl (fun _ => rfl)
  replace e2 : gI M2 230 8 = nI (tkS Z h) := e2
  have hs := tkS_ge Z hh
  by_cases h0 : tkS Z h < Z.2
  · obtain ⟨b1, b2⟩ := hT'.2.2 (tkS Z h) h0
    have e3 : Sm Wro M (sI M2 230 9 (nI (tkS Z h))) := e.st _ rfl
    have f8 : gI (sI M2 230 9 (nI (tkS Z h))) 230 8 = nI (tkS Z h) := (gI_sk _ _ (by decide)).trans e2
    have f9 : gI (sI M2 230 9 (nI (tkS Z h))) 230 9 = nI (tkS Z h) := gI_ss _ _ _ _
    by_cases hl : loB (Z.1 (tkS Z h)) = true
    · have he := tkE_lo h0 hl
      have hk := tkK_lo h0 hl
      have g : V G Y12_readsOn 2 0 0 (Rs none (RO M Z h)) NX 94 [some (.ref 230), some (.int (nI (Z.1 (tkS Z h))))] [] (sI M2 230 9 (nI (tkS Z h))) := by
        refine ro_lo G M hS hT (Z.2 - tkS Z h) (tkS Z h) _ (by omega) e3 f8 (fun M4 e4 g8 g9 => ?_)
        rw [← he] at g8
        have hS' := hS.sm e4
        have hrc := rc_lo (b := Z.1) (s := tkS Z h) (e := tkE Z h) b2 hl ((tkE_ge Z hh).2.2 h0)
        refine v_aload_n dX12_readsOn_121 rfl ?_
        refine v_iconst 1 dX12_readsOn_122 (by decide) ?_
        refine v_putI 12 10 dX12_readsOn_123 f12_83 (by first | exact hS'.1 _ _ rfl | assumption) (by decide) ?_
        refine v_goto 263 dX12_readsOn_126 (by decide) ?_
        refine v_vret dX12_readsOn_263 rfl ?_
        exact ⟨rfl, e4.st _ rfl, (gI_sk _ _ (by decide)).trans g8, (gI_sk _ _ (by decide)).trans (g9.trans f9), (gI_ss _ _ _ _).trans (by rw [hk, hrc]; rfl), fun z => absurd z (by rcases kdW_ok (wl Z.1 (tkS Z h) (tkE Z h)) 30 with ⟨a, _⟩ | ⟨a, _⟩ <;> omega)⟩
      refine v_aload_n dX12_readsOn_52 rfl ?_
      refine v_aload_n dX12_readsOn_53 rfl ?_
      refine v_getI 12 8 dX12_readsOn_54 f12_77 (by first | exact hS'.1 _ _ rfl | assumption) (by decide) ?_
      rw [e2]
      refine v_putI 12 9 dX12_readsOn_57 f12_80 (by first | exact hS'.1 _ _ rfl | assumption) (by decide) ?_
      refine v_aload_n dX12_readsOn_60 rfl ?_
      refine v_getI 12 8 dX12_readsOn_61 f12_77 (by first | exact hS'.1 _ _ rfl | assumption) (by decide) ?_
      refine v_aload_n dX12_readsOn_64 rfl ?_
      refine v_getI 12 7 dX12_readsOn_65 f12_74 (by first | exact hS'.1 _ _ rfl | assumption) (by decide) ?_
      rw [gI_sk _ _ (by decide), gI_sk _ _ (by decide), e2, hT'.1]
      refine v_icmp_lt 77 dX12_readsOn_68 (by decide) (fun h68 => ?_) (fun h68 => absurd ((nI_ltI (by omega) (by omega)).mpr h0) h68)
      refine v_aload_n dX12_readsOn_77 rfl ?_
      refine v_getR 12 5 _ dX12_readsOn_78 f12_23 (by first | exact hS'.1 _ _ rfl | assumption) (by decide) (by first | exact hS'.2 _ _ _ rfl | assumption) ?_
      refine v_aload_n dX12_readsOn_81 rfl ?_
      refine v_getI 12 8 dX12_readsOn_82 f12_77 (by first | exact hS'.1 _ _ rfl | assumption) (by decide) ?_
      rw [f8]
      refine v_ialdN (tkS Z h) dX12_readsOn_85 (by first | exact hS'.1 _ _ rfl | assumption) (by simp only [n_lit, pk_mul, nI_add]) ⟨by omega, by omega⟩ ?_
      rw [gI_sq _ _ (by decide), b1]
      refine v_istore_n dX12_readsOn_86 rfl (by decide) ?_
      refine v_iload_n dX12_readsOn_87 rfl ?_
      refine v_cS [_] (c12_loN G _ b2) k12_isLetter dX12_readsOn_88 l12_86 rfl (Nat.le_of_ble_eq_true rfl) (Nat.le_of_ble_eq_true rfl) ?_
      rw [bI_t hl]
      refine v_if_eq 129 dX12_readsOn_91 (by decide) (fun h91 => absurd h91 (by decide)) (fun h91 => ?_)
      exact g
    · by_cases hd : diB (Z.1 (tkS Z h)) = true
      · have he := tkE_di h0 hl hd
        have hk := tkK_di h0 hl hd
        have g : V G Y12_readsOn 2 0 0 (Rs none (RO M Z h)) NX 141 [some (.ref 230), some (.int (nI (Z.1 (tkS Z h))))] [] (sI (sI M2 230 9 (nI (tkS Z h))) 230 11 0) := by
          refine ro_di G M hS hT (Z.2 - tkS Z h) (tkS Z h) _ (by omega) (Nat.le_refl _) (fun j hj => by omega) (e3.st _ rfl) ((gI_sk _ _ (by decide)).trans f8) ((gI_sk _ _ (by decide)).trans f9) ((gI_ss _ _ _ _).trans (by rw [Nat.sub_self]; rfl)) (fun M4 h2 hh2 i1 i2 e4 g8 g9 g11 => ?_)
          rw [← he] at hh2
          have hS' := hS.sm e4
          by_cases h3 : 3 < h2 - tkS Z h
          · refine v_aload_n dX12_readsOn_212 rfl ?_
            refine v_aload_n dX12_readsOn_213 rfl ?_
            refine v_getI 12 8 dX12_readsOn_214 f12_77 (by first | exact hS'.1 _ _ rfl | assumption) (by decide) ?_
            refine v_aload_n dX12_readsOn_217 rfl ?_
            refine v_getI 12 9 dX12_readsOn_218 f12_80 (by first | exact hS'.1 _ _ rfl | assumption) (by decide) ?_
            rw [g8, g9]
            refine v_isub dX12_readsOn_221 ?_
            rw [nSub i1]
            refine v_iconst 3 dX12_readsOn_222 (by decide) ?_
            refine v_icmp_le 230 dX12_readsOn_223 (by decide) (fun h223 => absurd ((nI_leI (b := 3) (by omega) (by omega)).mp h223) (show ¬ h2 - tkS Z h ≤ 3 by omega)) (fun h223 => ?_)
            refine v_iconst 3 dX12_readsOn_226 (by decide) ?_
            refine v_goto 231 dX12_readsOn_227 (by decide) ?_
            refine v_putI 12 10 dX12_readsOn_231 f12_83 (by first | exact hS'.1 _ _ rfl | assumption) (by decide) ?_
            refine v_goto 263 dX12_readsOn_234 (by decide) ?_
            refine v_vret dX12_readsOn_263 rfl ?_
            exact ⟨rfl, e4.st _ rfl, (gI_sk _ _ (by decide)).trans (by rw [g8, hh2]), (gI_sk _ _ (by decide)).trans g9, (gI_ss _ _ _ _).trans (by rw [hk, if_pos (by omega)]; rfl), fun z => absurd z (by rw [hk, if_pos (by omega)]; decide)⟩
          · refine v_aload_n dX12_readsOn_212 rfl ?_
            refine v_aload_n dX12_readsOn_213 rfl ?_
            refine v_getI 12 8 dX12_readsOn_214 f12_77 (by first | exact hS'.1 _ _ rfl | assumption) (by decide) ?_
            refine v_aload_n dX12_readsOn_217 rfl ?_
            refine v_getI 12 9 dX12_readsOn_218 f12_80 (by first | exact hS'.1 _ _ rfl | assumption) (by decide) ?_
            rw [g8, g9]
            refine v_isub dX12_readsOn_221 ?_
            rw [nSub i1]
            refine v_iconst 3 dX12_readsOn_222 (by decide) ?_
            refine v_icmp_le 230 dX12_readsOn_223 (by decide) (fun h223 => ?_) (fun h223 => absurd ((nI_leI (b := 3) (by omega) (by omega)).mpr (by omega)) h223)
            refine v_iconst 2 dX12_readsOn_230 (by decide) ?_
            refine v_putI 12 10 dX12_readsOn_231 f12_83 (by first | exact hS'.1 _ _ rfl | assumption) (by decide) ?_
            refine v_goto 263 dX12_readsOn_234 (by decide) ?_
            refine v_vret dX12_readsOn_263 rfl ?_
            exact ⟨rfl, e4.st _ rfl, (gI_sk _ _ (by decide)).trans (by rw [g8, hh2]), (gI_sk _ _ (by decide)).trans g9, (gI_ss _ _ _ _).trans (by rw [hk, if_neg (by omega)]; rfl), fun z => (gI_sk _ _ (by decide)).trans (by rw [g11, hh2]; rfl)⟩
        refine v_aload_n dX12_readsOn_52 rfl ?_
        refine v_aload_n dX12_readsOn_53 rfl ?_
        refine v_getI 12 8 dX12_readsOn_54 f12_77 (by first | exact hS'.1 _ _ rfl | assumption) (by decide) ?_
        rw [e2]
        refine v_putI 12 9 dX12_readsOn_57 f12_80 (by first | exact hS'.1 _ _ rfl | assumption) (by decide) ?_
        refine v_aload_n dX12_readsOn_60 rfl ?_
        refine v_getI 12 8 dX12_readsOn_61 f12_77 (by first | exact hS'.1 _ _ rfl | assumption) (by decide) ?_
        refine v_aload_n dX12_readsOn_64 rfl ?_
        refine v_getI 12 7 dX12_readsOn_65 f12_74 (by first | exact hS'.1 _ _ rfl | assumption) (by decide) ?_
        rw [gI_sk _ _ (by decide), gI_sk _ _ (by decide), e2, hT'.1]
        refine v_icmp_lt 77 dX12_readsOn_68 (by decide) (fun h68 => ?_) (fun h68 => absurd ((nI_ltI (by omega) (by omega)).mpr h0) h68)
        refine v_aload_n dX12_readsOn_77 rfl ?_
        refine v_getR 12 5 _ dX12_readsOn_78 f12_23 (by first | exact hS'.1 _ _ rfl | assumption) (by decide) (by first | exact hS'.2 _ _ _ rfl | assumption) ?_
        refine v_aload_n dX12_readsOn_81 rfl ?_
        refine v_getI 12 8 dX12_readsOn_82 f12_77 (by first | exact hS'.1 _ _ rfl | assumption) (by decide) ?_
        rw [f8]
        refine v_ialdN (tkS Z h) dX12_readsOn_85 (by first | exact hS'.1 _ _ rfl | assumption) (by simp only [n_lit, pk_mul, nI_add]) ⟨by omega, by omega⟩ ?_
        rw [gI_sq _ _ (by decide), b1]
        refine v_istore_n dX12_readsOn_86 rfl (by decide) ?_
        refine v_iload_n dX12_readsOn_87 rfl ?_
        refine v_cS [_] (c12_loN G _ b2) k12_isLetter dX12_readsOn_88 l12_86 rfl (Nat.le_of_ble_eq_true rfl) (Nat.le_of_ble_eq_true rfl) ?_
        rw [bI_f hl]
        refine v_if_eq 129 dX12_readsOn_91 (by decide) (fun h91 => ?_) (fun h91 => absurd rfl h91)
        refine v_iload_n dX12_readsOn_129 rfl ?_
        refine v_cS [_] (c12_diN G _ b2) k12_isDigit dX12_readsOn_130 l12_94 rfl (Nat.le_of_ble_eq_true rfl) (Nat.le_of_ble_eq_true rfl) ?_
        rw [bI_t hd]
        refine v_if_eq 237 dX12_readsOn_133 (by decide) (fun h133 => absurd h133 (by decide)) (fun h133 => ?_)
        refine v_aload_n dX12_readsOn_136 rfl ?_
        refine v_iconst 0 dX12_readsOn_137 (by decide) ?_
        refine v_putI 12 11 dX12_readsOn_138 f12_97 (by first | exact hS'.1 _ _ rfl | assumption) (by decide) ?_
        exact g
      · have he := tkE_sg h0 hl hd
        have hk := tkK_sg h0 hl hd
        have hrc := rc_sg (Z.1 (tkS Z h)) b2 (by rw [← Bool.not_eq_true]; exact hl) (by rw [← Bool.not_eq_true]; exact hd)
        rw [← hk] at hrc
        have hn29 : tkK Z h ≠ 29 := by
          rw [hk]
          rcases kdW_ok [nI (Z.1 (tkS Z h))] 31 with ⟨a, _⟩ | ⟨a, _⟩ <;> omega
        by_cases hg : sgB (Z.1 (tkS Z h)) = true
        · rw [if_pos hg] at hrc
          refine v_aload_n dX12_readsOn_52 rfl ?_
          refine v_aload_n dX12_readsOn_53 rfl ?_
          refine v_getI 12 8 dX12_readsOn_54 f12_77 (by first | exact hS'.1 _ _ rfl | assumption) (by decide) ?_
          rw [e2]
          refine v_putI 12 9 dX12_readsOn_57 f12_80 (by first | exact hS'.1 _ _ rfl | assumption) (by decide) ?_
          refine v_aload_n dX12_readsOn_60 rfl ?_
          refine v_getI 12 8 dX12_readsOn_61 f12_77 (by first | exact hS'.1 _ _ rfl | assumption) (by decide) ?_
          refine v_aload_n dX12_readsOn_64 rfl ?_
          refine v_getI 12 7 dX12_readsOn_65 f12_74 (by first | exact hS'.1 _ _ rfl | assumption) (by decide) ?_
          rw [gI_sk _ _ (by decide), gI_sk _ _ (by decide), e2, hT'.1]
          refine v_icmp_lt 77 dX12_readsOn_68 (by decide) (fun h68 => ?_) (fun h68 => absurd ((nI_ltI (by omega) (by omega)).mpr h0) h68)
          refine v_aload_n dX12_readsOn_77 rfl ?_
          refine v_getR 12 5 _ dX12_readsOn_78 f12_23 (by first | exact hS'.1 _ _ rfl | assumption) (by decide) (by first | exact hS'.2 _ _ _ rfl | assumption) ?_
          refine v_aload_n dX12_readsOn_81 rfl ?_
          refine v_getI 12 8 dX12_readsOn_82 f12_77 (by first | exact hS'.1 _ _ rfl | assumption) (by decide) ?_
          rw [f8]
          refine v_ialdN (tkS Z h) dX12_readsOn_85 (by first | exact hS'.1 _ _ rfl | assumption) (by simp only [n_lit, pk_mul, nI_add]) ⟨by omega, by omega⟩ ?_
          rw [gI_sq _ _ (by decide), b1]
          refine v_istore_n dX12_readsOn_86 rfl (by decide) ?_
          refine v_iload_n dX12_readsOn_87 rfl ?_
          refine v_cS [_] (c12_loN G _ b2) k12_isLetter dX12_readsOn_88 l12_86 rfl (Nat.le_of_ble_eq_true rfl) (Nat.le_of_ble_eq_true rfl) ?_
          rw [bI_f hl]
          refine v_if_eq 129 dX12_readsOn_91 (by decide) (fun h91 => ?_) (fun h91 => absurd rfl h91)
          refine v_iload_n dX12_readsOn_129 rfl ?_
          refine v_cS [_] (c12_diN G _ b2) k12_isDigit dX12_readsOn_130 l12_94 rfl (Nat.le_of_ble_eq_true rfl) (Nat.le_of_ble_eq_true rfl) ?_
          rw [bI_f hd]
          refine v_if_eq 237 dX12_readsOn_133 (by decide) (fun h133 => ?_) (fun h133 => absurd rfl h133)
          refine v_aload_n dX12_readsOn_237 rfl ?_
          refine v_iload_n dX12_readsOn_238 rfl ?_
          refine v_cS [_] (c12_isSignByte G _ b2) k12_isSignByte dX12_readsOn_239 l12_100 rfl (Nat.le_of_ble_eq_true rfl) (Nat.le_of_ble_eq_true rfl) ?_
          rw [bI_t hg]
          refine v_if_eq 249 dX12_readsOn_242 (by decide) (fun h242 => absurd h242 (by decide)) (fun h242 => ?_)
          refine v_iload_n dX12_readsOn_245 rfl ?_
          refine v_goto 250 dX12_readsOn_246 (by decide) ?_
          refine v_putI 12 10 dX12_readsOn_250 f12_83 (by first | exact hS'.1 _ _ rfl | assumption) (by decide) ?_
          refine v_aload_n dX12_readsOn_253 rfl ?_
          refine v_dup dX12_readsOn_254 rfl ?_
          refine v_getI 12 8 dX12_readsOn_255 f12_77 (by first | exact hS'.1 _ _ rfl | assumption) (by decide) ?_
          rw [gI_sk _ _ (by decide), f8]
          refine v_iconst 1 dX12_readsOn_258 (by decide) ?_
          refine v_iadd dX12_readsOn_259 ?_
          rw [nI_1]
          refine v_putI 12 8 dX12_readsOn_260 f12_77 (by first | exact hS'.1 _ _ rfl | assumption) (by decide) ?_
          refine v_vret dX12_readsOn_263 rfl ?_
          exact ⟨rfl, (e3.st _ rfl).st _ rfl, (gI_ss _ _ _ _).trans (by rw [he]), (gI_sk _ _ (by decide)).trans ((gI_sk _ _ (by decide)).trans f9), (gI_sk _ _ (by decide)).trans ((gI_ss _ _ _ _).trans (by rw [hrc])), fun z => absurd z hn29⟩
        · rw [if_neg hg] at hrc
          refine v_aload_n dX12_readsOn_52 rfl ?_
          refine v_aload_n dX12_readsOn_53 rfl ?_
          refine v_getI 12 8 dX12_readsOn_54 f12_77 (by first | exact hS'.1 _ _ rfl | assumption) (by decide) ?_
          rw [e2]
          refine v_putI 12 9 dX12_readsOn_57 f12_80 (by first | exact hS'.1 _ _ rfl | assumption) (by decide) ?_
          refine v_aload_n dX12_readsOn_60 rfl ?_
          refine v_getI 12 8 dX12_readsOn_61 f12_77 (by first | exact hS'.1 _ _ rfl | assumption) (by decide) ?_
          refine v_aload_n dX12_readsOn_64 rfl ?_
          refine v_getI 12 7 dX12_readsOn_65 f12_74 (by first | exact hS'.1 _ _ rfl | assumption) (by decide) ?_
          rw [gI_sk _ _ (by decide), gI_sk _ _ (by decide), e2, hT'.1]
          refine v_icmp_lt 77 dX12_readsOn_68 (by decide) (fun h68 => ?_) (fun h68 => absurd ((nI_ltI (by omega) (by omega)).mpr h0) h68)
          refine v_aload_n dX12_readsOn_77 rfl ?_
          refine v_getR 12 5 _ dX12_readsOn_78 f12_23 (by first | exact hS'.1 _ _ rfl | assumption) (by decide) (by first | exact hS'.2 _ _ _ rfl | assumption) ?_
          refine v_aload_n dX12_readsOn_81 rfl ?_
          refine v_getI 12 8 dX12_readsOn_82 f12_77 (by first | exact hS'.1 _ _ rfl | assumption) (by decide) ?_
          rw [f8]
          refine v_ialdN (tkS Z h) dX12_readsOn_85 (by first | exact hS'.1 _ _ rfl | assumption) (by simp only [n_lit, pk_mul, nI_add]) ⟨by omega, by omega⟩ ?_
          rw [gI_sq _ _ (by decide), b1]
          refine v_istore_n dX12_readsOn_86 rfl (by decide) ?_
          refine v_iload_n dX12_readsOn_87 rfl ?_
          refine v_cS [_] (c12_loN G _ b2) k12_isLetter dX12_readsOn_88 l12_86 rfl (Nat.le_of_ble_eq_true rfl) (Nat.le_of_ble_eq_true rfl) ?_
          rw [bI_f hl]
          refine v_if_eq 129 dX12_readsOn_91 (by decide) (fun h91 => ?_) (fun h91 => absurd rfl h91)
          refine v_iload_n dX12_readsOn_129 rfl ?_
          refine v_cS [_] (c12_diN G _ b2) k12_isDigit dX12_readsOn_130 l12_94 rfl (Nat.le_of_ble_eq_true rfl) (Nat.le_of_ble_eq_true rfl) ?_
          rw [bI_f hd]
          refine v_if_eq 237 dX12_readsOn_133 (by decide) (fun h133 => ?_) (fun h133 => absurd rfl h133)
          refine v_aload_n dX12_readsOn_237 rfl ?_
          refine v_iload_n dX12_readsOn_238 rfl ?_
          refine v_cS [_] (c12_isSignByte G _ b2) k12_isSignByte dX12_readsOn_239 l12_100 rfl (Nat.le_of_ble_eq_true rfl) (Nat.le_of_ble_eq_true rfl) ?_
          rw [bI_f hg]
          refine v_if_eq 249 dX12_readsOn_242 (by decide) (fun h242 => ?_) (fun h242 => absurd rfl h242)
          refine v_iconst 3 dX12_readsOn_249 (by decide) ?_
          refine v_putI 12 10 dX12_readsOn_250 f12_83 (by first | exact hS'.1 _ _ rfl | assumption) (by decide) ?_
          refine v_aload_n dX12_readsOn_253 rfl ?_
          refine v_dup dX12_readsOn_254 rfl ?_
          refine v_getI 12 8 dX12_readsOn_255 f12_77 (by first | exact hS'.1 _ _ rfl | assumption) (by decide) ?_
          rw [gI_sk _ _ (by decide), f8]
          refine v_iconst 1 dX12_readsOn_258 (by decide) ?_
          refine v_iadd dX12_readsOn_259 ?_
          rw [nI_1]
          refine v_putI 12 8 dX12_readsOn_260 f12_77 (by first | exact hS'.1 _ _ rfl | assumption) (by decide) ?_
          refine v_vret dX12_readsOn_263 rfl ?_
          exact ⟨rfl, (e3.st _ rfl).st _ rfl, (gI_ss _ _ _ _).trans (by rw [he]), (gI_sk _ _ (by decide)).trans ((gI_sk _ _ (by decide)).trans f9), (gI_sk _ _ (by decide)).trans ((gI_ss _ _ _ _).trans (by rw [hrc]; rfl)), fun z => absurd z hn29⟩
  · have he : tkS Z h = Z.2 := by omega
    have hk : tkK Z h = 32 := (tkK_end Z h).mpr (by omega)
    refine v_aload_n dX12_readsOn_52 rfl ?_
    refine v_aload_n dX12_readsOn_53 rfl ?_
    refine v_getI 12 8 dX12_readsOn_54 f12_77 (by first | exact hS'.1 _ _ rfl | assumption) (by decide) ?_
    rw [e2]
    refine v_putI 12 9 dX12_readsOn_57 f12_80 (by first | exact hS'.1 _ _ rfl | assumption) (by decide) ?_
    refine v_aload_n dX12_readsOn_60 rfl ?_
    refine v_getI 12 8 dX12_readsOn_61 f12_77 (by first | exact hS'.1 _ _ rfl | assumption) (by decide) ?_
    refine v_aload_n dX12_readsOn_64 rfl ?_
    refine v_getI 12 7 dX12_readsOn_65 f12_74 (by first | exact hS'.1 _ _ rfl | assumption) (by decide) ?_
    rw [gI_sk _ _ (by decide), gI_sk _ _ (by decide), e2, hT'.1]
    refine v_icmp_lt 77 dX12_readsOn_68 (by decide) (fun h68 => absurd ((nI_ltI (by omega) (by omega)).mp h68) h0) (fun h68 => ?_)
    refine v_aload_n dX12_readsOn_71 rfl ?_
    refine v_iconst 0 dX12_readsOn_72 (by decide) ?_
    refine v_putI 12 10 dX12_readsOn_73 f12_83 (by first | exact hS'.1 _ _ rfl | assumption) (by decide) ?_
    refine v_vret dX12_readsOn_76 rfl ?_
    exact ⟨rfl, (e.st _ rfl).st _ rfl, (gI_sk _ _ (by decide)).trans ((gI_sk _ _ (by decide)).trans (by rw [e2, tkE_end hk])), (gI_sk _ _ (by decide)).trans (gI_ss _ _ _ _), (gI_ss _ _ _ _).trans (by rw [hk]; rfl), fun z => absurd z (by rw [hk]; decide)⟩
end RS
