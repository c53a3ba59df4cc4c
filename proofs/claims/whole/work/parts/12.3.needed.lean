/-! ===== the class: Asker, how many are needed ===== -/
def J206 (q _k : Nat) : Bool := Nat.beq q 206
/-- what begin sets up -/
def HW (M : mM) (K : Nat → Int32) : Prop := gI M 205 3 = nI (kn K 3) ∧ ∀ w, w < kn K 3 → gI M 207 w = nI (bset (kn K 2) (inbP K w))
theorem HW.sj {M M' : mM} {K : Nat → Int32} (h : HW M K) (e : Sj nW J206 M M') : HW M' K := ⟨by rw [e.2.2.2.1 205 3 rfl]; exact h.1, fun w hw => by rw [e.2.2.2.1 207 w rfl]; exact h.2 w hw⟩
theorem hold_prt {K : Nat → Int32} {S w : Nat} (hS : Sub S (kn K 93)) (hI : kn K 93 < 2 ^ kn K 2) : S &&& bset (kn K 2) (inbP K w) = prt K S w ∧ dif S (bset (kn K 2) (inbP K w)) = dif S (prt K S w) := by
  have hSl := hS.lt hI
  have e : ∀ i, S.testBit i = true → (bset (kn K 2) (inbP K w)).testBit i = (trH K i).testBit w := by
    intro i hi
    have h1 := hS i hi
    have h2 : i < kn K 2 := Nat.lt_of_not_le (fun z => by rw [testBit_big hI z] at h1; cases h1)
    rw [bset_bit, decide_eq_true h2, Bool.true_and]
    unfold inbP
    rw [h1, Bool.true_and]
  constructor
  · apply Nat.eq_of_testBit_eq; intro i
    rw [Nat.testBit_and, prt_bit hSl]
    cases hs : S.testBit i
    · rfl
    · rw [e i hs]
  · apply Nat.eq_of_testBit_eq; intro i
    rw [dif_bit, dif_bit, prt_bit hSl]
    cases hs : S.testBit i
    · rfl
    · rw [e i hs]; rfl
theorem dif_prt0 {K : Nat → Int32} {S w : Nat} : dif S (prt K S w) = 0 ↔ prt K S w = S := by
  constructor
  · intro z
    apply Nat.eq_of_testBit_eq
    intro i
    have hb : (dif S (prt K S w)).testBit i = false := by rw [z, Nat.zero_testBit]
    have hc : (S &&& prt K S w).testBit i = (prt K S w).testBit i := by rw [prt_sub]
    rw [dif_bit] at hb
    rw [Nat.testBit_and] at hc
    revert hb hc
    cases S.testBit i <;> cases (prt K S w).testBit i <;> simp
  · intro z
    rw [z]
    apply Nat.eq_of_testBit_eq; intro i
    rw [dif_bit, Nat.zero_testBit]
    cases S.testBit i <;> rfl
def bst (K : Nat → Int32) (S w : Nat) : Nat := min 11 (aqM (aqB (aq K) K S) w)
section A3
variable (G : mG) (K : Nat → Int32)
def NdC (n : Nat) : Prop := ∀ S lvl, Sub S (kn K 93) → pcn S ≤ n → lvl + spl K S ≤ 10 → ∀ M, Sh M → HW M K → KN M K → Ct G Y0_needed (2 * n + 3) 0 0 [.ref 205, .int (nI S), .int (nI lvl)] M (Rs (some (.int (nI (aq K S)))) (fun M' => Sj nW J206 M M' ∧ KN M' K)) NX
theorem l0_least (n : Nat) (ih : NdC G K n) (hP : WP K) (hI : inOK K) (hsep : SepS K (kn K 93)) {S lvl : Nat} (hsub : Sub S (kn K 93)) (hp : pcn S ≤ n + 1) (h2 : ¬ pcn S < 2) (hlv : lvl + spl K S ≤ 10) (M : mM) (hS : Sh M) (hH : HW M K) : ∀ i w M' (o6 o7 o8 : Option Value), w + i = kn K 3 → Sj nW J206 M M' → KN M' K →
    V G Y0_leastNeeded (2 * n + 4) 0 0 (Rs (some (.int (nI (aq K S)))) (fun M' => Sj nW J206 M M' ∧ KN M' K)) NX 20 [some (.ref 205), some (.int (nI S)), some (.int (nI lvl)), some (.int (nI (Nat.log2 (pcn S - 1) + 1))), some (.int (nI (bst K S w))), some (.int (nI w)), o6, o7, o8] [] M' := by
  have h14 := hP.2.1.2
  have h10 := hP.2.2.1.2
  have hSl := hsub.lt hI.2
  have hpw : 2 ^ kn K 2 ≤ 2 ^ 14 := Nat.pow_le_pow_right (by omega) h14
  have hS14 : S < 16384 := by omega
  have hpl := pcn_le S
  have hq := aq_spl h14 (pcn S) S (Nat.le_refl _) hSl (fun x y hx hy => hsep x y (hsub x hx) (hsub y hy))
  have hlog := aq_log h14 (pcn S) S (Nat.le_refl _) hS14 (by omega)
  have hl2 : Nat.log2 (pcn S - 1) < aq K S := by
    have h1 : 2 ^ Nat.log2 (pcn S - 1) < 2 ^ aq K S := Nat.lt_of_le_of_lt (Nat.log2_self_le (by omega)) (by omega)
    exact (Nat.pow_lt_pow_iff_right (by decide)).mp h1
  have haq := aq_2 h14 hS14 h2
  have bmin : ∀ w, bst K S w ≤ 11 := fun w => Nat.min_le_left _ _
  have bend : ∀ w, w ≤ kn K 3 → aq K S ≤ bst K S w := by
    intro w hw
    have : ∀ j, aqM (aqB (aq K) K S) (w + j) ≤ aqM (aqB (aq K) K S) w := by
      intro j
      induction j with
      | zero => exact Nat.le_refl _
      | succ j ihj => rw [← Nat.add_assoc, aqM]; exact Nat.le_trans (Nat.min_le_left _ _) ihj
    have h3 := this (kn K 3 - w)
    rw [show w + (kn K 3 - w) = kn K 3 by omega, ← haq] at h3
    unfold bst
    omega
  intro i
  induction i with
  | zero =>
    intro w M' o6 o7 o8 hw hM hN
    have hS' := hS.sj hM
    have hH' := hH.sj hM
    obtain rfl : w = kn K 3 := by omega
    have e : bst K S (kn K 3) = aq K S := by unfold bst; rw [← haq]; omega
    rw [e]
    have hHw := hH'.1
    generalize hA : aq K S = A at *
    refine v_iload dX0_leastNeeded_20 rfl ?_
    refine v_aload_n dX0_leastNeeded_22 rfl ?_
    refine v_getI 0 3 dX0_leastNeeded_23 f0_63 (by first | exact hS3.1 _ _ rfl | exact hS2.1 _ _ rfl | exact hS'.1 _ _ rfl | exact hS.1 _ _ rfl | assumption) (by decide) ?_
    rw [hHw]
    refine v_icmp_ge 118 dX0_leastNeeded_26 (by decide) (fun h26 => ?_) (fun h26 => absurd (nI_le (Nat.le_refl _) (by omega)) h26)
    refine v_iload dX0_leastNeeded_118 rfl ?_
    refine v_iret dX0_leastNeeded_120 rfl ?_
    exact ⟨rfl, hM, hN⟩
  | succ i ih2 =>
    intro w M' o6 o7 o8 hw hM hN
    have hS' := hS.sj hM
    have hH' := hH.sj hM
    have hHw := hH'.1
    have hHh := hH'.2 w (by omega)
    have bw := bmin w
    have be := bend w (by omega)
    by_cases hst : bst K S w ≤ Nat.log2 (pcn S - 1) + 1
    · have e : bst K S w = aq K S := by omega
      rw [e] at hst ⊢
      generalize hA : aq K S = A at *
      generalize Nat.log2 (pcn S - 1) = B at *
      refine v_iload dX0_leastNeeded_20 rfl ?_
      refine v_aload_n dX0_leastNeeded_22 rfl ?_
      refine v_getI 0 3 dX0_leastNeeded_23 f0_63 (by first | exact hS3.1 _ _ rfl | exact hS2.1 _ _ rfl | exact hS'.1 _ _ rfl | exact hS.1 _ _ rfl | assumption) (by decide) ?_
      rw [hHw]
      refine v_icmp_ge 118 dX0_leastNeeded_26 (by decide) (fun h26 => absurd ((nI_leI (by omega) (by omega)).mp h26) (by omega)) (fun h26 => ?_)
      refine v_iload dX0_leastNeeded_29 rfl ?_
      refine v_iload_n dX0_leastNeeded_31 rfl ?_
      refine v_icmp_le 118 dX0_leastNeeded_32 (by decide) (fun h32 => ?_) (fun h32 => absurd (nI_le hst (by omega)) h32)
      refine v_iload dX0_leastNeeded_118 rfl ?_
      refine v_iret dX0_leastNeeded_120 rfl ?_
      exact ⟨rfl, hM, hN⟩
    · obtain ⟨hy1, hy2⟩ := hold_prt (K := K) (w := w) hsub hI.2
      have hpt := prt_lt h14 S w
      have hdt := dif_lt (h := prt K S w) hS14
      have hbs : bst K S (w + 1) = min (bst K S w) (aqB (aq K) K S w) := by unfold bst; rw [aqM]; omega
      have hn := fun M' o6 o7 o8 => ih2 (w + 1) M' o6 o7 o8 (by omega)
      rw [hbs] at hn
      have hyb : prt K S w < 2 ^ 31 := by omega
      by_cases hy : prt K S w = 0 ∨ prt K S w = S
      · rw [show aqB (aq K) K S w = 536870912 from if_pos hy, show min (bst K S w) 536870912 = bst K S w by omega] at hn
        have hn := hn M'
        generalize hB : Nat.log2 (pcn S - 1) = B at *
        generalize hC : bst K S w = C at *
        generalize hD : dif S (prt K S w) = D at *
        by_cases hz : prt K S w = 0
        · generalize hE : prt K S w = E at *
          generalize hF : aq K S = F at *
          refine v_iload dX0_leastNeeded_20 rfl ?_
          refine v_aload_n dX0_leastNeeded_22 rfl ?_
          refine v_getI 0 3 dX0_leastNeeded_23 f0_63 (by first | exact hS3.1 _ _ rfl | exact hS2.1 _ _ rfl | exact hS'.1 _ _ rfl | exact hS.1 _ _ rfl | assumption) (by decide) ?_
          rw [hHw]
          refine v_icmp_ge 118 dX0_leastNeeded_26 (by decide) (fun h26 => absurd ((nI_leI (by omega) (by omega)).mp h26) (by omega)) (fun h26 => ?_)
          refine v_iload dX0_leastNeeded_29 rfl ?_
          refine v_iload_n dX0_leastNeeded_31 rfl ?_
          refine v_icmp_le 118 dX0_leastNeeded_32 (by decide) (fun h32 => absurd ((nI_leI (by omega) (by omega)).mp h32) hst) (fun h32 => ?_)
          refine v_iload_n dX0_leastNeeded_35 rfl ?_
          refine v_aload_n dX0_leastNeeded_36 rfl ?_
          refine v_getR 0 1 _ dX0_leastNeeded_37 f0_15 (by first | exact hS3.1 _ _ rfl | exact hS2.1 _ _ rfl | exact hS'.1 _ _ rfl | exact hS.1 _ _ rfl | assumption) (by decide) (by first | exact hS3.2 _ _ _ rfl | exact hS2.2 _ _ _ rfl | exact hS'.2 _ _ _ rfl | exact hS.2 _ _ _ rfl | assumption) ?_
          refine v_iload dX0_leastNeeded_40 rfl ?_
          refine v_ialdN (w) dX0_leastNeeded_42 (by first | exact hS3.1 _ _ rfl | exact hS2.1 _ _ rfl | exact hS'.1 _ _ rfl | exact hS.1 _ _ rfl | assumption) (by simp only [n_lit, pk_mul, nI_add]) ⟨by omega, by omega⟩ ?_
          rw [hHh]
          refine v_iand dX0_leastNeeded_43 ?_
          rw [nIand, hy1, hz]
          refine v_istore dX0_leastNeeded_44 rfl (by decide) ?_
          refine v_iload_n dX0_leastNeeded_46 rfl ?_
          refine v_aload_n dX0_leastNeeded_47 rfl ?_
          refine v_getR 0 1 _ dX0_leastNeeded_48 f0_15 (by first | exact hS3.1 _ _ rfl | exact hS2.1 _ _ rfl | exact hS'.1 _ _ rfl | exact hS.1 _ _ rfl | assumption) (by decide) (by first | exact hS3.2 _ _ _ rfl | exact hS2.2 _ _ _ rfl | exact hS'.2 _ _ _ rfl | exact hS.2 _ _ _ rfl | assumption) ?_
          refine v_iload dX0_leastNeeded_51 rfl ?_
          refine v_ialdN (w) dX0_leastNeeded_53 (by first | exact hS3.1 _ _ rfl | exact hS2.1 _ _ rfl | exact hS'.1 _ _ rfl | exact hS.1 _ _ rfl | assumption) (by simp only [n_lit, pk_mul, nI_add]) ⟨by omega, by omega⟩ ?_
          rw [hHh]
          refine v_iconst (-1) dX0_leastNeeded_54 (by decide) ?_
          refine v_ixor dX0_leastNeeded_55 ?_
          refine v_iand dX0_leastNeeded_56 ?_
          rw [andnot, hy2]
          refine v_istore dX0_leastNeeded_57 rfl (by decide) ?_
          refine v_iload dX0_leastNeeded_59 rfl ?_
          refine v_if_eq 112 dX0_leastNeeded_61 (by decide) (fun h61 => ?_) (fun h61 => absurd rfl h61)
          refine v_iinc 1 dX0_leastNeeded_112 rfl (by decide) rfl (by decide) ?_
          refine v_goto 20 dX0_leastNeeded_115 (by decide) ?_
          (rw [nI_1]; exact hn _ _ _ hM hN)
        · have hd0 : D = 0 := by rw [← hD]; exact dif_prt0.mpr (hy.resolve_left hz)
          generalize hE : prt K S w = E at *
          generalize hF : aq K S = F at *
          refine v_iload dX0_leastNeeded_20 rfl ?_
          refine v_aload_n dX0_leastNeeded_22 rfl ?_
          refine v_getI 0 3 dX0_leastNeeded_23 f0_63 (by first | exact hS3.1 _ _ rfl | exact hS2.1 _ _ rfl | exact hS'.1 _ _ rfl | exact hS.1 _ _ rfl | assumption) (by decide) ?_
          rw [hHw]
          refine v_icmp_ge 118 dX0_leastNeeded_26 (by decide) (fun h26 => absurd ((nI_leI (by omega) (by omega)).mp h26) (by omega)) (fun h26 => ?_)
          refine v_iload dX0_leastNeeded_29 rfl ?_
          refine v_iload_n dX0_leastNeeded_31 rfl ?_
          refine v_icmp_le 118 dX0_leastNeeded_32 (by decide) (fun h32 => absurd ((nI_leI (by omega) (by omega)).mp h32) hst) (fun h32 => ?_)
          refine v_iload_n dX0_leastNeeded_35 rfl ?_
          refine v_aload_n dX0_leastNeeded_36 rfl ?_
          refine v_getR 0 1 _ dX0_leastNeeded_37 f0_15 (by first | exact hS3.1 _ _ rfl | exact hS2.1 _ _ rfl | exact hS'.1 _ _ rfl | exact hS.1 _ _ rfl | assumption) (by decide) (by first | exact hS3.2 _ _ _ rfl | exact hS2.2 _ _ _ rfl | exact hS'.2 _ _ _ rfl | exact hS.2 _ _ _ rfl | assumption) ?_
          refine v_iload dX0_leastNeeded_40 rfl ?_
          refine v_ialdN (w) dX0_leastNeeded_42 (by first | exact hS3.1 _ _ rfl | exact hS2.1 _ _ rfl | exact hS'.1 _ _ rfl | exact hS.1 _ _ rfl | assumption) (by simp only [n_lit, pk_mul, nI_add]) ⟨by omega, by omega⟩ ?_
          rw [hHh]
          refine v_iand dX0_leastNeeded_43 ?_
          rw [nIand, hy1]
          refine v_istore dX0_leastNeeded_44 rfl (by decide) ?_
          refine v_iload_n dX0_leastNeeded_46 rfl ?_
          refine v_aload_n dX0_leastNeeded_47 rfl ?_
          refine v_getR 0 1 _ dX0_leastNeeded_48 f0_15 (by first | exact hS3.1 _ _ rfl | exact hS2.1 _ _ rfl | exact hS'.1 _ _ rfl | exact hS.1 _ _ rfl | assumption) (by decide) (by first | exact hS3.2 _ _ _ rfl | exact hS2.2 _ _ _ rfl | exact hS'.2 _ _ _ rfl | exact hS.2 _ _ _ rfl | assumption) ?_
          refine v_iload dX0_leastNeeded_51 rfl ?_
          refine v_ialdN (w) dX0_leastNeeded_53 (by first | exact hS3.1 _ _ rfl | exact hS2.1 _ _ rfl | exact hS'.1 _ _ rfl | exact hS.1 _ _ rfl | assumption) (by simp only [n_lit, pk_mul, nI_add]) ⟨by omega, by omega⟩ ?_
          rw [hHh]
          refine v_iconst (-1) dX0_leastNeeded_54 (by decide) ?_
          refine v_ixor dX0_leastNeeded_55 ?_
          refine v_iand dX0_leastNeeded_56 ?_
          rw [andnot, hy2, hd0]
          refine v_istore dX0_leastNeeded_57 rfl (by decide) ?_
          refine v_iload dX0_leastNeeded_59 rfl ?_
          refine v_if_eq 112 dX0_leastNeeded_61 (by decide) (fun h61 => absurd ((nI0 (by omega)).mp h61) hz) (fun h61 => ?_)
          refine v_iload dX0_leastNeeded_64 rfl ?_
          refine v_if_eq 112 dX0_leastNeeded_66 (by decide) (fun h66 => ?_) (fun h66 => absurd rfl h66)
          refine v_iinc 1 dX0_leastNeeded_112 rfl (by decide) rfl (by decide) ?_
          refine v_goto 20 dX0_leastNeeded_115 (by decide) ?_
          (rw [nI_1]; exact hn _ _ _ hM hN)
      · have hpc := prt_pc h14 hS14 hy
        have hsp := splB_p.mpr hy
        have s1 := spl_yes hSl (by omega) hsp
        have s2 := spl_no hSl (by omega) hsp
        have c1 := ih (prt K S w) (lvl + 1) ((Sub.prt hSl).tr hsub) (by omega) (by omega)
        have c2 := ih (dif S (prt K S w)) (lvl + 1) ((Sub.dif _ _).tr hsub) (by omega) (by omega)
        have q1 := aq_spl h14 (pcn (prt K S w)) _ (Nat.le_refl _) ((Sub.prt hSl).lt hSl) (fun x y hx hy => hsep x y (hsub x (Sub.prt hSl x hx)) (hsub y (Sub.prt hSl y hy)))
        have q2 := aq_spl h14 (pcn (dif S (prt K S w))) _ (Nat.le_refl _) ((Sub.dif S _).lt hSl) (fun x y hx hy => hsep x y (hsub x (Sub.dif S _ x hx)) (hsub y (Sub.dif S _ y hy)))
        have hp0 : ¬ prt K S w = 0 := fun z => hy (Or.inl z)
        have hd0 : ¬ dif S (prt K S w) = 0 := fun z => hy (Or.inr (dif_prt0.mp z))
        rw [show aqB (aq K) K S w = 1 + max (aq K (prt K S w)) (aq K (dif S (prt K S w))) from if_neg hy] at hn
        rw [← nI_1] at c1 c2
        generalize hB : Nat.log2 (pcn S - 1) = B at *
        generalize hC : bst K S w = C at *
        generalize hF : aq K S = F at *
        generalize hE1 : aq K (prt K S w) = E1 at *
        generalize hE2 : aq K (dif S (prt K S w)) = E2 at *
        generalize hD : dif S (prt K S w) = D at *
        generalize hE : prt K S w = E at *
        by_cases hf : E1 + 1 < C
        · rw [show min C (1 + max E1 E2) = min C (max (E1 + 1) (E2 + 1)) by omega] at hn
          refine v_iload dX0_leastNeeded_20 rfl ?_
          refine v_aload_n dX0_leastNeeded_22 rfl ?_
          refine v_getI 0 3 dX0_leastNeeded_23 f0_63 (by first | exact hS3.1 _ _ rfl | exact hS2.1 _ _ rfl | exact hS'.1 _ _ rfl | exact hS.1 _ _ rfl | assumption) (by decide) ?_
          rw [hHw]
          refine v_icmp_ge 118 dX0_leastNeeded_26 (by decide) (fun h26 => absurd ((nI_leI (by omega) (by omega)).mp h26) (by omega)) (fun h26 => ?_)
          refine v_iload dX0_leastNeeded_29 rfl ?_
          refine v_iload_n dX0_leastNeeded_31 rfl ?_
          refine v_icmp_le 118 dX0_leastNeeded_32 (by decide) (fun h32 => absurd ((nI_leI (by omega) (by omega)).mp h32) hst) (fun h32 => ?_)
          refine v_iload_n dX0_leastNeeded_35 rfl ?_
          refine v_aload_n dX0_leastNeeded_36 rfl ?_
          refine v_getR 0 1 _ dX0_leastNeeded_37 f0_15 (by first | exact hS3.1 _ _ rfl | exact hS2.1 _ _ rfl | exact hS'.1 _ _ rfl | exact hS.1 _ _ rfl | assumption) (by decide) (by first | exact hS3.2 _ _ _ rfl | exact hS2.2 _ _ _ rfl | exact hS'.2 _ _ _ rfl | exact hS.2 _ _ _ rfl | assumption) ?_
          refine v_iload dX0_leastNeeded_40 rfl ?_
          refine v_ialdN (w) dX0_leastNeeded_42 (by first | exact hS3.1 _ _ rfl | exact hS2.1 _ _ rfl | exact hS'.1 _ _ rfl | exact hS.1 _ _ rfl | assumption) (by simp only [n_lit, pk_mul, nI_add]) ⟨by omega, by omega⟩ ?_
          rw [hHh]
          refine v_iand dX0_leastNeeded_43 ?_
          rw [nIand, hy1]
          refine v_istore dX0_leastNeeded_44 rfl (by decide) ?_
          refine v_iload_n dX0_leastNeeded_46 rfl ?_
          refine v_aload_n dX0_leastNeeded_47 rfl ?_
          refine v_getR 0 1 _ dX0_leastNeeded_48 f0_15 (by first | exact hS3.1 _ _ rfl | exact hS2.1 _ _ rfl | exact hS'.1 _ _ rfl | exact hS.1 _ _ rfl | assumption) (by decide) (by first | exact hS3.2 _ _ _ rfl | exact hS2.2 _ _ _ rfl | exact hS'.2 _ _ _ rfl | exact hS.2 _ _ _ rfl | assumption) ?_
          refine v_iload dX0_leastNeeded_51 rfl ?_
          refine v_ialdN (w) dX0_leastNeeded_53 (by first | exact hS3.1 _ _ rfl | exact hS2.1 _ _ rfl | exact hS'.1 _ _ rfl | exact hS.1 _ _ rfl | assumption) (by simp only [n_lit, pk_mul, nI_add]) ⟨by omega, by omega⟩ ?_
          rw [hHh]
          refine v_iconst (-1) dX0_leastNeeded_54 (by decide) ?_
          refine v_ixor dX0_leastNeeded_55 ?_
          refine v_iand dX0_leastNeeded_56 ?_
          rw [andnot, hy2]
          refine v_istore dX0_leastNeeded_57 rfl (by decide) ?_
          refine v_iload dX0_leastNeeded_59 rfl ?_
          refine v_if_eq 112 dX0_leastNeeded_61 (by decide) (fun h61 => absurd ((nI0 (by omega)).mp h61) hp0) (fun h61 => ?_)
          refine v_iload dX0_leastNeeded_64 rfl ?_
          refine v_if_eq 112 dX0_leastNeeded_66 (by decide) (fun h66 => absurd ((nI0 (by omega)).mp h66) hd0) (fun h66 => ?_)
          refine v_aload_n dX0_leastNeeded_69 rfl ?_
          refine v_iload dX0_leastNeeded_70 rfl ?_
          refine v_iload_n dX0_leastNeeded_72 rfl ?_
          refine v_iconst 1 dX0_leastNeeded_73 (by decide) ?_
          refine v_iadd dX0_leastNeeded_74 ?_
          refine v_scV [_, _] (c1 M' hS' hH' hN) k0_needed dX0_leastNeeded_75 l0_59 (by first | exact hS3.1 _ _ rfl | exact hS2.1 _ _ rfl | exact hS'.1 _ _ rfl | exact hS.1 _ _ rfl | assumption) (by decide) rfl (by omega) (Nat.le_of_ble_eq_true rfl) ?_
          intro M2 hM2; have hS2 := hS'.sj hM2.1; have hH2 := hH'.sj hM2.1
          refine v_iconst 1 dX0_leastNeeded_78 (by decide) ?_
          refine v_iadd dX0_leastNeeded_79 ?_
          rw [nI_1]
          refine v_istore dX0_leastNeeded_80 rfl (by decide) ?_
          refine v_iload dX0_leastNeeded_82 rfl ?_
          refine v_iload dX0_leastNeeded_84 rfl ?_
          refine v_icmp_ge 112 dX0_leastNeeded_86 (by decide) (fun h86 => absurd ((nI_leI (by omega) (by omega)).mp h86) (by omega)) (fun h86 => ?_)
          refine v_iload dX0_leastNeeded_89 rfl ?_
          refine v_iload dX0_leastNeeded_91 rfl ?_
          refine v_aload_n dX0_leastNeeded_93 rfl ?_
          refine v_iload dX0_leastNeeded_94 rfl ?_
          refine v_iload_n dX0_leastNeeded_96 rfl ?_
          refine v_iconst 1 dX0_leastNeeded_97 (by decide) ?_
          refine v_iadd dX0_leastNeeded_98 ?_
          refine v_scV [_, _] (c2 M2 hS2 hH2 hM2.2) k0_needed dX0_leastNeeded_99 l0_59 (by first | exact hS3.1 _ _ rfl | exact hS2.1 _ _ rfl | exact hS'.1 _ _ rfl | exact hS.1 _ _ rfl | assumption) (by decide) rfl (by omega) (Nat.le_of_ble_eq_true rfl) ?_
          intro M3 hM3; have hS3 := hS2.sj hM3.1
          refine v_iconst 1 dX0_leastNeeded_102 (by decide) ?_
          refine v_iadd dX0_leastNeeded_103 ?_
          skip
          rw [nI_1]
          refine v_cS [_, _] (cJ_max G M3 _ _) kJ_max dX0_leastNeeded_104 l0_66 rfl (by omega) (Nat.le_of_ble_eq_true rfl) ?_
          rw [nI_max _ _ (by omega) (by omega)]
          refine v_cS [_, _] (cJ_min G M3 _ _) kJ_min dX0_leastNeeded_107 l0_86 rfl (by omega) (Nat.le_of_ble_eq_true rfl) ?_
          rw [nI_min _ _ (by omega) (by omega)]
          refine v_istore dX0_leastNeeded_110 rfl (by decide) ?_
          refine v_iinc 1 dX0_leastNeeded_112 rfl (by decide) rfl (by decide) ?_
          refine v_goto 20 dX0_leastNeeded_115 (by decide) ?_
          (rw [nI_1]; exact hn M3 _ _ _ (hM.tr (hM2.1.tr hM3.1)) hM3.2)
        · rw [show min C (1 + max E1 E2) = C by omega] at hn
          refine v_iload dX0_leastNeeded_20 rfl ?_
          refine v_aload_n dX0_leastNeeded_22 rfl ?_
          refine v_getI 0 3 dX0_leastNeeded_23 f0_63 (by first | exact hS3.1 _ _ rfl | exact hS2.1 _ _ rfl | exact hS'.1 _ _ rfl | exact hS.1 _ _ rfl | assumption) (by decide) ?_
          rw [hHw]
          refine v_icmp_ge 118 dX0_leastNeeded_26 (by decide) (fun h26 => absurd ((nI_leI (by omega) (by omega)).mp h26) (by omega)) (fun h26 => ?_)
          refine v_iload dX0_leastNeeded_29 rfl ?_
          refine v_iload_n dX0_leastNeeded_31 rfl ?_
          refine v_icmp_le 118 dX0_leastNeeded_32 (by decide) (fun h32 => absurd ((nI_leI (by omega) (by omega)).mp h32) hst) (fun h32 => ?_)
          refine v_iload_n dX0_leastNeeded_35 rfl ?_
          refine v_aload_n dX0_leastNeeded_36 rfl ?_
          refine v_getR 0 1 _ dX0_leastNeeded_37 f0_15 (by first | exact hS3.1 _ _ rfl | exact hS2.1 _ _ rfl | exact hS'.1 _ _ rfl | exact hS.1 _ _ rfl | assumption) (by decide) (by first | exact hS3.2 _ _ _ rfl | exact hS2.2 _ _ _ rfl | exact hS'.2 _ _ _ rfl | exact hS.2 _ _ _ rfl | assumption) ?_
          refine v_iload dX0_leastNeeded_40 rfl ?_
          refine v_ialdN (w) dX0_leastNeeded_42 (by first | exact hS3.1 _ _ rfl | exact hS2.1 _ _ rfl | exact hS'.1 _ _ rfl | exact hS.1 _ _ rfl | assumption) (by simp only [n_lit, pk_mul, nI_add]) ⟨by omega, by omega⟩ ?_
          rw [hHh]
          refine v_iand dX0_leastNeeded_43 ?_
          rw [nIand, hy1]
          refine v_istore dX0_leastNeeded_44 rfl (by decide) ?_
          refine v_iload_n dX0_leastNeeded_46 rfl ?_
          refine v_aload_n dX0_leastNeeded_47 rfl ?_
          refine v_getR 0 1 _ dX0_leastNeeded_48 f0_15 (by first | exact hS3.1 _ _ rfl | exact hS2.1 _ _ rfl | exact hS'.1 _ _ rfl | exact hS.1 _ _ rfl | assumption) (by decide) (by first | exact hS3.2 _ _ _ rfl | exact hS2.2 _ _ _ rfl | exact hS'.2 _ _ _ rfl | exact hS.2 _ _ _ rfl | assumption) ?_
          refine v_iload dX0_leastNeeded_51 rfl ?_
          refine v_ialdN (w) dX0_leastNeeded_53 (by first | exact hS3.1 _ _ rfl | exact hS2.1 _ _ rfl | exact hS'.1 _ _ rfl | exact hS.1 _ _ rfl | assumption) (by simp only [n_lit, pk_mul, nI_add]) ⟨by omega, by omega⟩ ?_
          rw [hHh]
          refine v_iconst (-1) dX0_leastNeeded_54 (by decide) ?_
          refine v_ixor dX0_leastNeeded_55 ?_
          refine v_iand dX0_leastNeeded_56 ?_
          rw [andnot, hy2]
          refine v_istore dX0_leastNeeded_57 rfl (by decide) ?_
          refine v_iload dX0_leastNeeded_59 rfl ?_
          refine v_if_eq 112 dX0_leastNeeded_61 (by decide) (fun h61 => absurd ((nI0 (by omega)).mp h61) hp0) (fun h61 => ?_)
          refine v_iload dX0_leastNeeded_64 rfl ?_
          refine v_if_eq 112 dX0_leastNeeded_66 (by decide) (fun h66 => absurd ((nI0 (by omega)).mp h66) hd0) (fun h66 => ?_)
          refine v_aload_n dX0_leastNeeded_69 rfl ?_
          refine v_iload dX0_leastNeeded_70 rfl ?_
          refine v_iload_n dX0_leastNeeded_72 rfl ?_
          refine v_iconst 1 dX0_leastNeeded_73 (by decide) ?_
          refine v_iadd dX0_leastNeeded_74 ?_
          refine v_scV [_, _] (c1 M' hS' hH' hN) k0_needed dX0_leastNeeded_75 l0_59 (by first | exact hS3.1 _ _ rfl | exact hS2.1 _ _ rfl | exact hS'.1 _ _ rfl | exact hS.1 _ _ rfl | assumption) (by decide) rfl (by omega) (Nat.le_of_ble_eq_true rfl) ?_
          intro M2 hM2; have hS2 := hS'.sj hM2.1; have hH2 := hH'.sj hM2.1
          refine v_iconst 1 dX0_leastNeeded_78 (by decide) ?_
          refine v_iadd dX0_leastNeeded_79 ?_
          rw [nI_1]
          refine v_istore dX0_leastNeeded_80 rfl (by decide) ?_
          refine v_iload dX0_leastNeeded_82 rfl ?_
          refine v_iload dX0_leastNeeded_84 rfl ?_
          refine v_icmp_ge 112 dX0_leastNeeded_86 (by decide) (fun h86 => ?_) (fun h86 => absurd (nI_le (by omega) (by omega)) h86)
          refine v_iinc 1 dX0_leastNeeded_112 rfl (by decide) rfl (by decide) ?_
          refine v_goto 20 dX0_leastNeeded_115 (by decide) ?_
          (rw [nI_1]; exact hn M2 _ _ _ (hM.tr hM2.1) hM2.2)
theorem c0_leastNeeded (n : Nat) (ih : NdC G K n) (hP : WP K) (hI : inOK K) (hsep : SepS K (kn K 93)) {S lvl : Nat} (hsub : Sub S (kn K 93)) (hp : pcn S ≤ n + 1) (h2 : ¬ pcn S < 2) (hlv : lvl + spl K S ≤ 10) (M : mM) (hS : Sh M) (hH : HW M K) (hN : KN M K) : Ct G Y0_leastNeeded (2 * n + 4) 0 0 [.ref 205, .int (nI S), .int (nI lvl)] M (Rs (some (.int (nI (aq K S)))) (fun M' => Sj nW J206 M M' ∧ KN M' K)) NX := by
  have h14 := hP.2.1.2
  have hSl := hsub.lt hI.2
  have hpw : 2 ^ kn K 2 ≤ 2 ^ 14 := Nat.pow_le_pow_right (by omega) h14
  have hS14 : S < 16384 := by omega
  have hpl := pcn_le S
  have l := l0_least G K n ih hP hI hsep hsub hp h2 hlv M hS hH (kn K 3) 0 M none none none (by omega) Sj.rf hN
  rw [show bst K S 0 = 11 from rfl] at l
  have e1 : nI (pcn S) - 1 = nI (pcn S - 1) := by
    have := nI_pred (pcn S - 1)
    rw [show pcn S - 1 + 1 = pcn S by omega] at this
    exact this
  refine Ct.of k0_leastNeeded.1 (Nat.le_of_ble_eq_true rfl) ?_
  have z1 : (0 : Int32) < nI (pcn S - 1) := nI_lt (a := 0) (by omega) (by omega)
  have z2 := lz_tab (pcn S - 1) (by omega) (by omega)
  have z3 := al_tab (pcn S - 1) (by omega) (by omega)
  generalize hB : pcn S - 1 = B at *
  generalize hF : aq K S = F at *
  refine v_bipush 32 dX0_leastNeeded_0 (by decide) ?_
  refine v_iload_n dX0_leastNeeded_2 rfl ?_
  refine v_cS [_] (cJ_bitCount G M _) kJ_bitCount dX0_leastNeeded_3 l0_32 rfl (by omega) (Nat.le_of_ble_eq_true rfl) ?_
  rw [bcI_n hS14]
  refine v_iconst 1 dX0_leastNeeded_6 (by decide) ?_
  refine v_isub dX0_leastNeeded_7 ?_
  rw [e1]
  refine v_cS [_] (cJ_nlz G M _ z1) kJ_nlz dX0_leastNeeded_8 l0_83 rfl (by omega) (Nat.le_of_ble_eq_true rfl) ?_
  rw [z2]
  refine v_isub dX0_leastNeeded_11 ?_
  rw [z3]
  refine v_istore_n dX0_leastNeeded_12 rfl (by decide) ?_
  refine v_bipush 11 dX0_leastNeeded_13 (by decide) ?_
  refine v_istore dX0_leastNeeded_15 rfl (by decide) ?_
  refine v_iconst 0 dX0_leastNeeded_17 (by decide) ?_
  refine v_istore dX0_leastNeeded_18 rfl (by decide) ?_
  skip
  exact v_pad (v_pad (v_pad l))
theorem c0_needed_all (hP : WP K) (hI : inOK K) (hsep : SepS K (kn K 93)) : ∀ n, NdC G K n := by
  have h14 := hP.2.1.2
  have h10 := hP.2.2.1.2
  have hpw : 2 ^ kn K 2 ≤ 2 ^ 14 := Nat.pow_le_pow_right (by omega) h14
  have base : ∀ n S lvl, Sub S (kn K 93) → pcn S < 2 → ∀ M, Sh M → KN M K → Ct G Y0_needed (2 * n + 3) 0 0 [.ref 205, .int (nI S), .int (nI lvl)] M (Rs (some (.int (nI (aq K S)))) (fun M' => Sj nW J206 M M' ∧ KN M' K)) NX := by
    intro n S lvl hsub h2 M hS hN
    have hSl := hsub.lt hI.2
    have hS14 : S < 16384 := by omega
    have hpl := pcn_le S
    rw [aq_1 h2]
    refine Ct.of k0_needed.1 (Nat.le_of_ble_eq_true rfl) ?_
    refine v_iload_n dX0_needed_0 rfl ?_
    refine v_cS [_] (cJ_bitCount G M _) kJ_bitCount dX0_needed_1 l0_32 rfl (by omega) (Nat.le_of_ble_eq_true rfl) ?_
    rw [bcI_n hS14]
    refine v_iconst 2 dX0_needed_4 (by decide) ?_
    refine v_icmp_lt 14 dX0_needed_5 (by decide) (fun h5 => ?_) (fun h5 => absurd (nI_lt h2 (by decide)) h5)
    refine v_iconst 0 dX0_needed_14 (by decide) ?_
    refine v_iret dX0_needed_15 rfl ?_
    exact ⟨rfl, Sj.rf, hN⟩
  intro n
  induction n with
  | zero => exact fun S lvl hsub hp _ M hS _ hN => base 0 S lvl hsub (by omega) M hS hN
  | succ n ih =>
    intro S lvl hsub hp hlv M hS hH hN
    by_cases h2 : pcn S < 2
    · exact base _ S lvl hsub h2 M hS hN
    · have hSl := hsub.lt hI.2
      have hS14 : S < 16384 := by omega
      have hpl := pcn_le S
      have hq := aq_spl h14 (pcn S) S (Nat.le_refl _) hSl (fun x y hx hy => hsep x y (hsub x hx) (hsub y hy))
      have hlog := aq_log h14 (pcn S) S (Nat.le_refl _) hS14 (by omega)
      have hq1 : aq K S ≠ 0 := fun z => by rw [z] at hlog; exact h2 (by omega)
      obtain ⟨t1, t2⟩ := d16 hS14
      have t3 := m4_tab (S % 16) (by omega)
      have hnr := nib_read (x := gJ M 206 (S / 16)) (k := S % 16) (by omega)
      have hv := hN S hS14
      have hcon := c0_leastNeeded G K n ih hP hI hsep hsub hp h2 hlv M hS hH hN
      have hput := fun M2 (hN2 : KN M2 K) => hN2.put hS14 (show aq K S < 16 by omega)
      have hnb := nib_lt (gJ M 206 (S / 16)) (S % 16)
      generalize hF : aq K S = F at *
      generalize hC : S / 16 = C at *
      generalize hR : S % 16 = R at *
      refine Ct.of k0_needed.1 (Nat.le_of_ble_eq_true rfl) ?_
      by_cases hz : nib (gJ M 206 C) R = 0
      · refine v_iload_n dX0_needed_0 rfl ?_
        refine v_cS [_] (cJ_bitCount G M _) kJ_bitCount dX0_needed_1 l0_32 rfl (by omega) (Nat.le_of_ble_eq_true rfl) ?_
        rw [bcI_n hS14]
        refine v_iconst 2 dX0_needed_4 (by decide) ?_
        refine v_icmp_lt 14 dX0_needed_5 (by decide) (fun h5 => absurd ((nI_ltI (b := 2) (by omega) (by decide)).mp h5) h2) (fun h5 => ?_)
        refine v_iload_n dX0_needed_8 rfl ?_
        refine v_bipush 10 dX0_needed_9 (by decide) ?_
        refine v_icmp_le 16 dX0_needed_11 (by decide) (fun h11 => ?_) (fun h11 => absurd (nI_le (b := 10) (by omega) (by decide)) h11)
        refine v_iload_n dX0_needed_16 rfl ?_
        refine v_bipush 16 dX0_needed_17 (by decide) ?_
        refine v_idiv dX0_needed_19 (by decide) ?_
        rw [t1]
        refine v_istore_n dX0_needed_20 rfl (by decide) ?_
        refine v_iload_n dX0_needed_21 rfl ?_
        refine v_bipush 16 dX0_needed_22 (by decide) ?_
        refine v_irem dX0_needed_24 (by decide) ?_
        rw [t1, t2]
        refine v_iconst 4 dX0_needed_25 (by decide) ?_
        refine v_imul dX0_needed_26 ?_
        rw [t3]
        refine v_istore dX0_needed_27 rfl (by decide) ?_
        refine v_iload_n dX0_needed_29 rfl ?_
        refine v_if_lt 42 dX0_needed_30 (by decide) (fun h30 => absurd ((nI_ltI (b := 0) (by omega) (by decide)).mp h30) (by omega)) (fun h30 => ?_)
        refine v_iload_n dX0_needed_33 rfl ?_
        refine v_aload_n dX0_needed_34 rfl ?_
        refine v_getR 0 0 _ dX0_needed_35 f0_11 (by first | exact hS3.1 _ _ rfl | exact hS2.1 _ _ rfl | exact hS'.1 _ _ rfl | exact hS.1 _ _ rfl | assumption) (by decide) (by first | exact hS3.2 _ _ _ rfl | exact hS2.2 _ _ _ rfl | exact hS'.2 _ _ _ rfl | exact hS.2 _ _ _ rfl | assumption) ?_
        refine v_alen dX0_needed_38 (by first | exact hS3.1 _ _ rfl | exact hS2.1 _ _ rfl | exact hS'.1 _ _ rfl | exact hS.1 _ _ rfl | assumption) (by decide) ?_
        refine v_icmp_lt 44 dX0_needed_39 (by decide) (fun h39 => ?_) (fun h39 => absurd (nI_lt (b := 1024) (by omega) (by decide)) h39)
        refine v_aload_n dX0_needed_44 rfl ?_
        refine v_getR 0 0 _ dX0_needed_45 f0_11 (by first | exact hS3.1 _ _ rfl | exact hS2.1 _ _ rfl | exact hS'.1 _ _ rfl | exact hS.1 _ _ rfl | assumption) (by decide) (by first | exact hS3.2 _ _ _ rfl | exact hS2.2 _ _ _ rfl | exact hS'.2 _ _ _ rfl | exact hS.2 _ _ _ rfl | assumption) ?_
        refine v_iload_n dX0_needed_48 rfl ?_
        refine v_laldN (C) dX0_needed_49 (by first | exact hS3.1 _ _ rfl | exact hS2.1 _ _ rfl | exact hS'.1 _ _ rfl | exact hS.1 _ _ rfl | assumption) (by simp only [n_lit, pk_mul, nI_add]) ⟨by omega, by omega⟩ ?_
        refine v_iload dX0_needed_50 rfl ?_
        refine v_lshr dX0_needed_52 ?_
        refine v_l2i dX0_needed_53 ?_
        refine v_bipush 15 dX0_needed_54 (by decide) ?_
        refine v_iand dX0_needed_56 ?_
        rw [hnr, hz]
        refine v_istore dX0_needed_57 rfl (by decide) ?_
        refine v_iload dX0_needed_59 rfl ?_
        refine v_if_ne 87 dX0_needed_61 (by decide) (fun h61 => absurd rfl h61) (fun h61 => ?_)
        refine v_aload_n dX0_needed_64 rfl ?_
        refine v_iload_n dX0_needed_65 rfl ?_
        refine v_iload_n dX0_needed_66 rfl ?_
        refine v_scV [_, _] (hcon) k0_leastNeeded dX0_needed_67 l0_80 (by first | exact hS3.1 _ _ rfl | exact hS2.1 _ _ rfl | exact hS'.1 _ _ rfl | exact hS.1 _ _ rfl | assumption) (by decide) rfl (by omega) (Nat.le_of_ble_eq_true rfl) ?_
        intro M2 hM2; have hS2 := hS.sj hM2.1
        refine v_istore dX0_needed_70 rfl (by decide) ?_
        refine v_aload_n dX0_needed_72 rfl ?_
        refine v_getR 0 0 _ dX0_needed_73 f0_11 (by first | exact hS3.1 _ _ rfl | exact hS2.1 _ _ rfl | exact hS'.1 _ _ rfl | exact hS.1 _ _ rfl | assumption) (by decide) (by first | exact hS3.2 _ _ _ rfl | exact hS2.2 _ _ _ rfl | exact hS'.2 _ _ _ rfl | exact hS.2 _ _ _ rfl | assumption) ?_
        refine v_iload_n dX0_needed_76 rfl ?_
        refine v_dup2 dX0_needed_77 rfl rfl ?_
        refine v_laldN (C) dX0_needed_78 (by first | exact hS3.1 _ _ rfl | exact hS2.1 _ _ rfl | exact hS'.1 _ _ rfl | exact hS.1 _ _ rfl | assumption) (by simp only [n_lit, pk_mul, nI_add]) ⟨by omega, by omega⟩ ?_
        refine v_iload dX0_needed_79 rfl ?_
        refine v_i2l dX0_needed_81 ?_
        refine v_iload dX0_needed_82 rfl ?_
        refine v_lshl dX0_needed_84 ?_
        refine v_lor dX0_needed_85 ?_
        skip
        refine v_lastN C dX0_needed_86 (hS2.1 206 _ rfl) rfl ⟨by omega, by decide⟩ ?_
        refine v_iload dX0_needed_87 rfl ?_
        refine v_iret dX0_needed_89 rfl ?_
        exact ⟨rfl, hM2.1.stj _ rfl, hput M2 hM2.2⟩
      · have he := hv.resolve_left hz
        refine v_iload_n dX0_needed_0 rfl ?_
        refine v_cS [_] (cJ_bitCount G M _) kJ_bitCount dX0_needed_1 l0_32 rfl (by omega) (Nat.le_of_ble_eq_true rfl) ?_
        rw [bcI_n hS14]
        refine v_iconst 2 dX0_needed_4 (by decide) ?_
        refine v_icmp_lt 14 dX0_needed_5 (by decide) (fun h5 => absurd ((nI_ltI (b := 2) (by omega) (by decide)).mp h5) h2) (fun h5 => ?_)
        refine v_iload_n dX0_needed_8 rfl ?_
        refine v_bipush 10 dX0_needed_9 (by decide) ?_
        refine v_icmp_le 16 dX0_needed_11 (by decide) (fun h11 => ?_) (fun h11 => absurd (nI_le (b := 10) (by omega) (by decide)) h11)
        refine v_iload_n dX0_needed_16 rfl ?_
        refine v_bipush 16 dX0_needed_17 (by decide) ?_
        refine v_idiv dX0_needed_19 (by decide) ?_
        rw [t1]
        refine v_istore_n dX0_needed_20 rfl (by decide) ?_
        refine v_iload_n dX0_needed_21 rfl ?_
        refine v_bipush 16 dX0_needed_22 (by decide) ?_
        refine v_irem dX0_needed_24 (by decide) ?_
        rw [t1, t2]
        refine v_iconst 4 dX0_needed_25 (by decide) ?_
        refine v_imul dX0_needed_26 ?_
        rw [t3]
        refine v_istore dX0_needed_27 rfl (by decide) ?_
        refine v_iload_n dX0_needed_29 rfl ?_
        refine v_if_lt 42 dX0_needed_30 (by decide) (fun h30 => absurd ((nI_ltI (b := 0) (by omega) (by decide)).mp h30) (by omega)) (fun h30 => ?_)
        refine v_iload_n dX0_needed_33 rfl ?_
        refine v_aload_n dX0_needed_34 rfl ?_
        refine v_getR 0 0 _ dX0_needed_35 f0_11 (by first | exact hS3.1 _ _ rfl | exact hS2.1 _ _ rfl | exact hS'.1 _ _ rfl | exact hS.1 _ _ rfl | assumption) (by decide) (by first | exact hS3.2 _ _ _ rfl | exact hS2.2 _ _ _ rfl | exact hS'.2 _ _ _ rfl | exact hS.2 _ _ _ rfl | assumption) ?_
        refine v_alen dX0_needed_38 (by first | exact hS3.1 _ _ rfl | exact hS2.1 _ _ rfl | exact hS'.1 _ _ rfl | exact hS.1 _ _ rfl | assumption) (by decide) ?_
        refine v_icmp_lt 44 dX0_needed_39 (by decide) (fun h39 => ?_) (fun h39 => absurd (nI_lt (b := 1024) (by omega) (by decide)) h39)
        refine v_aload_n dX0_needed_44 rfl ?_
        refine v_getR 0 0 _ dX0_needed_45 f0_11 (by first | exact hS3.1 _ _ rfl | exact hS2.1 _ _ rfl | exact hS'.1 _ _ rfl | exact hS.1 _ _ rfl | assumption) (by decide) (by first | exact hS3.2 _ _ _ rfl | exact hS2.2 _ _ _ rfl | exact hS'.2 _ _ _ rfl | exact hS.2 _ _ _ rfl | assumption) ?_
        refine v_iload_n dX0_needed_48 rfl ?_
        refine v_laldN (C) dX0_needed_49 (by first | exact hS3.1 _ _ rfl | exact hS2.1 _ _ rfl | exact hS'.1 _ _ rfl | exact hS.1 _ _ rfl | assumption) (by simp only [n_lit, pk_mul, nI_add]) ⟨by omega, by omega⟩ ?_
        refine v_iload dX0_needed_50 rfl ?_
        refine v_lshr dX0_needed_52 ?_
        refine v_l2i dX0_needed_53 ?_
        refine v_bipush 15 dX0_needed_54 (by decide) ?_
        refine v_iand dX0_needed_56 ?_
        rw [hnr, he]
        refine v_istore dX0_needed_57 rfl (by decide) ?_
        refine v_iload dX0_needed_59 rfl ?_
        refine v_if_ne 87 dX0_needed_61 (by decide) (fun h61 => ?_) (fun h61 => absurd ((nI0 (by omega)).mp (Decidable.not_not.mp h61)) hq1)
        refine v_iload dX0_needed_87 rfl ?_
        refine v_iret dX0_needed_89 rfl ?_
        exact ⟨rfl, Sj.rf, hN⟩
end A3
