/-! ===== the class: the next token scanned ===== -/
def Wtk (q k : Nat) : Bool := Nat.beq q 103 && (Nat.beq k 5 || Nat.beq k 10)
theorem Tk.sm {W : Nat → Nat → Bool} {M M' : mM} {Z : (Nat → Nat) × Nat} (h : Tk M Z) (e : Sm W M M') (h4 : W 103 4 = false) (hw : ∀ k, W 101 k = false) : Tk M' Z := ⟨by rw [e.2.2.2.1]; exact h.1, by rw [e.2.2.2.2 _ _ h4]; exact h.2.1, h.2.2.1, fun j hj => by rw [e.2.2.2.2 _ _ (hw j)]; exact h.2.2.2 j hj⟩
section SC
variable (G : mG) (M : mM)
theorem c9_skipBlanks {Z : (Nat → Nat) × Nat} {h : Nat} (hS : Sh M) (hT : Tk M Z) (hh : h ≤ Z.2) (e5 : gI M 103 5 = nI h) : Ct G Y9_skipBlanks 0 0 0 [.ref 103] M (Rs none (fun M' => Sm Wtk M M' ∧ gI M' 103 5 = nI (tkS Z h))) NX := by
  have h9 := hT.2.2.1
  have loop : ∀ k h M', h + k = Z.2 → Sm Wtk M M' → gI M' 103 5 = nI h → V G Y9_skipBlanks 0 0 0 (Rs none (fun M' => Sm Wtk M M' ∧ gI M' 103 5 = nI (rn (fun i => blB (Z.1 i)) k h))) NX 0 [some (.ref 103)] [] M' := by
    intro k
    induction k with
    | zero =>
      intro h M' hk e e5
      have hS' := hS.sm e
      have hT' := hT.sm e rfl (fun _ => rfl)
      refine v_aload_n dX9_skipBlanks_0 rfl ?_
      refine v_getI 9 5 dX9_skipBlanks_1 f9_45 (by first | exact hS'.1 _ _ rfl | assumption) (by decide) ?_
      refine v_aload_n dX9_skipBlanks_4 rfl ?_
      refine v_getI 9 4 dX9_skipBlanks_5 f9_41 (by first | exact hS'.1 _ _ rfl | assumption) (by decide) ?_
      rw [e5, hT'.2.1]
      refine v_icmp_ge 52 dX9_skipBlanks_8 (by decide) (fun h8 => ?_) (fun h8 => absurd (nI_le (by omega) (by omega)) h8)
      refine v_vret dX9_skipBlanks_52 rfl ?_
      exact ⟨rfl, e, e5⟩
    | succ k ih =>
      intro h M' hk e e5
      have hS' := hS.sm e
      have hT' := hT.sm e rfl (fun _ => rfl)
      obtain ⟨b1, b2⟩ := hT'.2.2.2 h (by omega)
      have e2 : Sm Wtk M (sI M' 103 5 (nI (h + 1))) := e.st _ rfl
      by_cases hb : blB (Z.1 h) = true
      · rw [rn, if_pos hb]
        have g := ih (h + 1) _ (by omega) e2 (gI_ss _ _ _ _)
        rcases blB_iff.mp hb with c | c
        · have hc := (sb_32 _ b2).mpr c
          have hc2 : ¬ sb (Z.1 h) = 10 := fun z => by have := (sb_10 _ b2).mp z; omega
          refine v_aload_n dX9_skipBlanks_0 rfl ?_
          refine v_getI 9 5 dX9_skipBlanks_1 f9_45 (by first | exact hS'.1 _ _ rfl | assumption) (by decide) ?_
          refine v_aload_n dX9_skipBlanks_4 rfl ?_
          refine v_getI 9 4 dX9_skipBlanks_5 f9_41 (by first | exact hS'.1 _ _ rfl | assumption) (by decide) ?_
          rw [e5, hT'.2.1]
          refine v_icmp_ge 52 dX9_skipBlanks_8 (by decide) (fun h8 => absurd ((nI_leI (by omega) (by omega)).mp h8) (by omega)) (fun h8 => ?_)
          refine v_aload_n dX9_skipBlanks_11 rfl ?_
          refine v_getR 9 3 _ dX9_skipBlanks_12 f9_24 (by first | exact hS'.1 _ _ rfl | assumption) (by decide) (by first | exact hT'.1 | exact hS'.2 _ _ _ rfl) ?_
          refine v_aload_n dX9_skipBlanks_15 rfl ?_
          refine v_getI 9 5 dX9_skipBlanks_16 f9_45 (by first | exact hS'.1 _ _ rfl | assumption) (by decide) ?_
          rw [e5]
          refine v_baldN (h) dX9_skipBlanks_19 (by first | exact hS'.1 _ _ rfl | assumption) (by simp only [n_lit, pk_mul, nI_add]) ⟨by omega, by omega⟩ ?_
          rw [b1]
          refine v_bipush 10 dX9_skipBlanks_20 (by decide) ?_
          refine v_icmp_eq 39 dX9_skipBlanks_22 (by decide) (fun h22 => absurd h22 hc2) (fun h22 => ?_)
          refine v_aload_n dX9_skipBlanks_25 rfl ?_
          refine v_getR 9 3 _ dX9_skipBlanks_26 f9_24 (by first | exact hS'.1 _ _ rfl | assumption) (by decide) (by first | exact hT'.1 | exact hS'.2 _ _ _ rfl) ?_
          refine v_aload_n dX9_skipBlanks_29 rfl ?_
          refine v_getI 9 5 dX9_skipBlanks_30 f9_45 (by first | exact hS'.1 _ _ rfl | assumption) (by decide) ?_
          rw [e5]
          refine v_baldN (h) dX9_skipBlanks_33 (by first | exact hS'.1 _ _ rfl | assumption) (by simp only [n_lit, pk_mul, nI_add]) ⟨by omega, by omega⟩ ?_
          rw [b1]
          refine v_bipush 32 dX9_skipBlanks_34 (by decide) ?_
          refine v_icmp_ne 52 dX9_skipBlanks_36 (by decide) (fun h36 => absurd hc h36) (fun h36 => ?_)
          refine v_aload_n dX9_skipBlanks_39 rfl ?_
          refine v_dup dX9_skipBlanks_40 rfl ?_
          refine v_getI 9 5 dX9_skipBlanks_41 f9_45 (by first | exact hS'.1 _ _ rfl | assumption) (by decide) ?_
          rw [e5]
          refine v_iconst 1 dX9_skipBlanks_44 (by decide) ?_
          refine v_iadd dX9_skipBlanks_45 ?_
          rw [nI_1]
          refine v_putI 9 5 dX9_skipBlanks_46 f9_45 (by first | exact hS'.1 _ _ rfl | assumption) (by decide) ?_
          refine v_goto 0 dX9_skipBlanks_49 (by decide) ?_
          exact g
        · have hc := (sb_10 _ b2).mpr c
          refine v_aload_n dX9_skipBlanks_0 rfl ?_
          refine v_getI 9 5 dX9_skipBlanks_1 f9_45 (by first | exact hS'.1 _ _ rfl | assumption) (by decide) ?_
          refine v_aload_n dX9_skipBlanks_4 rfl ?_
          refine v_getI 9 4 dX9_skipBlanks_5 f9_41 (by first | exact hS'.1 _ _ rfl | assumption) (by decide) ?_
          rw [e5, hT'.2.1]
          refine v_icmp_ge 52 dX9_skipBlanks_8 (by decide) (fun h8 => absurd ((nI_leI (by omega) (by omega)).mp h8) (by omega)) (fun h8 => ?_)
          refine v_aload_n dX9_skipBlanks_11 rfl ?_
          refine v_getR 9 3 _ dX9_skipBlanks_12 f9_24 (by first | exact hS'.1 _ _ rfl | assumption) (by decide) (by first | exact hT'.1 | exact hS'.2 _ _ _ rfl) ?_
          refine v_aload_n dX9_skipBlanks_15 rfl ?_
          refine v_getI 9 5 dX9_skipBlanks_16 f9_45 (by first | exact hS'.1 _ _ rfl | assumption) (by decide) ?_
          rw [e5]
          refine v_baldN (h) dX9_skipBlanks_19 (by first | exact hS'.1 _ _ rfl | assumption) (by simp only [n_lit, pk_mul, nI_add]) ⟨by omega, by omega⟩ ?_
          rw [b1]
          refine v_bipush 10 dX9_skipBlanks_20 (by decide) ?_
          refine v_icmp_eq 39 dX9_skipBlanks_22 (by decide) (fun h22 => ?_) (fun h22 => absurd hc h22)
          refine v_aload_n dX9_skipBlanks_39 rfl ?_
          refine v_dup dX9_skipBlanks_40 rfl ?_
          refine v_getI 9 5 dX9_skipBlanks_41 f9_45 (by first | exact hS'.1 _ _ rfl | assumption) (by decide) ?_
          rw [e5]
          refine v_iconst 1 dX9_skipBlanks_44 (by decide) ?_
          refine v_iadd dX9_skipBlanks_45 ?_
          rw [nI_1]
          refine v_putI 9 5 dX9_skipBlanks_46 f9_45 (by first | exact hS'.1 _ _ rfl | assumption) (by decide) ?_
          refine v_goto 0 dX9_skipBlanks_49 (by decide) ?_
          exact g
      · rw [rn, if_neg hb]
        have c1 : ¬ sb (Z.1 h) = 32 := fun z => hb (blB_iff.mpr (Or.inl ((sb_32 _ b2).mp z)))
        have c2 : ¬ sb (Z.1 h) = 10 := fun z => hb (blB_iff.mpr (Or.inr ((sb_10 _ b2).mp z)))
        refine v_aload_n dX9_skipBlanks_0 rfl ?_
        refine v_getI 9 5 dX9_skipBlanks_1 f9_45 (by first | exact hS'.1 _ _ rfl | assumption) (by decide) ?_
        refine v_aload_n dX9_skipBlanks_4 rfl ?_
        refine v_getI 9 4 dX9_skipBlanks_5 f9_41 (by first | exact hS'.1 _ _ rfl | assumption) (by decide) ?_
        rw [e5, hT'.2.1]
        refine v_icmp_ge 52 dX9_skipBlanks_8 (by decide) (fun h8 => absurd ((nI_leI (by omega) (by omega)).mp h8) (by omega)) (fun h8 => ?_)
        refine v_aload_n dX9_skipBlanks_11 rfl ?_
        refine v_getR 9 3 _ dX9_skipBlanks_12 f9_24 (by first | exact hS'.1 _ _ rfl | assumption) (by decide) (by first | exact hT'.1 | exact hS'.2 _ _ _ rfl) ?_
        refine v_aload_n dX9_skipBlanks_15 rfl ?_
        refine v_getI 9 5 dX9_skipBlanks_16 f9_45 (by first | exact hS'.1 _ _ rfl | assumption) (by decide) ?_
        rw [e5]
        refine v_baldN (h) dX9_skipBlanks_19 (by first | exact hS'.1 _ _ rfl | assumption) (by simp only [n_lit, pk_mul, nI_add]) ⟨by omega, by omega⟩ ?_
        rw [b1]
        refine v_bipush 10 dX9_skipBlanks_20 (by decide) ?_
        refine v_icmp_eq 39 dX9_skipBlanks_22 (by decide) (fun h22 => absurd h22 c2) (fun h22 => ?_)
        refine v_aload_n dX9_skipBlanks_25 rfl ?_
        refine v_getR 9 3 _ dX9_skipBlanks_26 f9_24 (by first | exact hS'.1 _ _ rfl | assumption) (by decide) (by first | exact hT'.1 | exact hS'.2 _ _ _ rfl) ?_
        refine v_aload_n dX9_skipBlanks_29 rfl ?_
        refine v_getI 9 5 dX9_skipBlanks_30 f9_45 (by first | exact hS'.1 _ _ rfl | assumption) (by decide) ?_
        rw [e5]
        refine v_baldN (h) dX9_skipBlanks_33 (by first | exact hS'.1 _ _ rfl | assumption) (by simp only [n_lit, pk_mul, nI_add]) ⟨by omega, by omega⟩ ?_
        rw [b1]
        refine v_bipush 32 dX9_skipBlanks_34 (by decide) ?_
        refine v_icmp_ne 52 dX9_skipBlanks_36 (by decide) (fun h36 => ?_) (fun h36 => absurd c1 h36)
        refine v_vret dX9_skipBlanks_52 rfl ?_
        exact ⟨rfl, e, e5⟩
  refine Ct.of k9_skipBlanks.1 (Nat.le_of_ble_eq_true rfl) ?_
  exact loop (Z.2 - h) h M (by omega) Sm.rf e5
theorem l9_num {Z : (Nat → Nat) × Nat} {s : Nat} {Q : Option Value → mM → Prop} (hS : Sh M) (hT : Tk M Z) : ∀ k h M', h + k = Z.2 → s ≤ h → (∀ j, j < h - s → diB (Z.1 (s + j)) = true) → Sm Wtk M M' → gI M' 103 5 = nI h → gI M' 103 10 = nI (dgV Z.1 s (min 3 (h - s))) → (∀ M2 h2, h2 = rn (fun i => diB (Z.1 i)) k h → s ≤ h2 → h2 ≤ Z.2 → Sm Wtk M M2 → gI M2 103 5 = nI h2 → gI M2 103 10 = nI (dgV Z.1 s (min 3 (h2 - s))) → V G Y9_scanNumber 1 0 0 Q NX 73 [some (.ref 103), some (.int (nI (h2 - s)))] [] M2) → V G Y9_scanNumber 1 0 0 Q NX 2 [some (.ref 103), some (.int (nI (h - s)))] [] M' := by
  have h9 := hT.2.2.1
  intro k
  induction k with
  | zero =>
    intro h M' hk hs hd e e5 e10 kk
    have hS' := hS.sm e
    have hT' := hT.sm e rfl (fun _ => rfl)
    refine v_aload_n dX9_scanNumber_2 rfl ?_
    refine v_getI 9 5 dX9_scanNumber_3 f9_45 (by first | exact hS'.1 _ _ rfl | assumption) (by decide) ?_
    refine v_aload_n dX9_scanNumber_6 rfl ?_
    refine v_getI 9 4 dX9_scanNumber_7 f9_41 (by first | exact hS'.1 _ _ rfl | assumption) (by decide) ?_
    rw [e5, hT'.2.1]
    refine v_icmp_ge 73 dX9_scanNumber_10 (by decide) (fun h10 => ?_) (fun h10 => absurd (nI_le (by omega) (by omega)) h10)
    exact kk M' h rfl hs (by omega) e e5 e10
  | succ k ih =>
    intro h M' hk hs hd e e5 e10 kk
    have hS' := hS.sm e
    have hT' := hT.sm e rfl (fun _ => rfl)
    obtain ⟨b1, b2⟩ := hT'.2.2.2 h (by omega)
    by_cases hb : diB (Z.1 h) = true
    · rw [rn, if_pos hb] at kk
      have hb' := diB_iff.mp hb
      have hsb : sb (Z.1 h) = nI (Z.1 h) := sb_n (by omega)
      have hd' : ∀ j, j < h + 1 - s → diB (Z.1 (s + j)) = true := fun j hj => by
        rcases Nat.lt_or_ge j (h - s) with q | q
        · exact hd j q
        · rw [show s + j = h by omega]; exact hb
      have hlt := dgV_lt (b := Z.1) (s := s) (min 3 (h - s)) (fun j hj => (diB_iff.mp (hd j (by omega))).2)
      have hlt2 : dgV Z.1 s (min 3 (h - s)) < 1000 := Nat.lt_of_lt_of_le hlt (Nat.pow_le_pow_right (n := 10) (by omega) (Nat.min_le_left _ _))
      by_cases h3 : h - s < 3
      · have ev : dgV Z.1 s (min 3 (h - s)) * 10 + Z.1 h - 48 = dgV Z.1 s (min 3 (h + 1 - s)) := by
          rw [show min 3 (h + 1 - s) = min 3 (h - s) + 1 by omega, dgV, show s + min 3 (h - s) = h by omega]
          omega
        have g := ih (h + 1) (sI (sI M' 103 10 (nI (dgV Z.1 s (min 3 (h + 1 - s))))) 103 5 (nI (h + 1))) (by omega) (by omega) hd' ((e.st _ rfl).st _ rfl) (gI_ss _ _ _ _) ((gI_sk _ _ (by decide)).trans (gI_ss _ _ _ _)) kk
        rw [show h + 1 - s = (h - s) + 1 by omega] at g
        refine v_aload_n dX9_scanNumber_2 rfl ?_
        refine v_getI 9 5 dX9_scanNumber_3 f9_45 (by first | exact hS'.1 _ _ rfl | assumption) (by decide) ?_
        refine v_aload_n dX9_scanNumber_6 rfl ?_
        refine v_getI 9 4 dX9_scanNumber_7 f9_41 (by first | exact hS'.1 _ _ rfl | assumption) (by decide) ?_
        rw [e5, hT'.2.1]
        refine v_icmp_ge 73 dX9_scanNumber_10 (by decide) (fun h10 => absurd ((nI_leI (by omega) (by omega)).mp h10) (by omega)) (fun h10 => ?_)
        refine v_aload_n dX9_scanNumber_13 rfl ?_
        refine v_getR 9 3 _ dX9_scanNumber_14 f9_24 (by first | exact hS'.1 _ _ rfl | assumption) (by decide) (by first | exact hT'.1 | exact hS'.2 _ _ _ rfl) ?_
        refine v_aload_n dX9_scanNumber_17 rfl ?_
        refine v_getI 9 5 dX9_scanNumber_18 f9_45 (by first | exact hS'.1 _ _ rfl | assumption) (by decide) ?_
        rw [e5]
        refine v_baldN (h) dX9_scanNumber_21 (by first | exact hS'.1 _ _ rfl | assumption) (by simp only [n_lit, pk_mul, nI_add]) ⟨by omega, by omega⟩ ?_
        rw [b1]
        refine v_cS [_] (c9_isDigit G M' b2) k9_isDigit dX9_scanNumber_22 l9_73 rfl (Nat.le_of_ble_eq_true rfl) (Nat.le_of_ble_eq_true rfl) ?_
        rw [bI_t hb]
        refine v_if_eq 73 dX9_scanNumber_25 (by decide) (fun h25 => absurd h25 (by decide)) (fun h25 => ?_)
        refine v_iload_n dX9_scanNumber_28 rfl ?_
        refine v_iconst 3 dX9_scanNumber_29 (by decide) ?_
        refine v_icmp_ge 57 dX9_scanNumber_30 (by decide) (fun h30 => absurd ((nI_leI (a := 3) (by omega) (by omega)).mp h30) (by omega)) (fun h30 => ?_)
        refine v_aload_n dX9_scanNumber_33 rfl ?_
        refine v_aload_n dX9_scanNumber_34 rfl ?_
        refine v_getI 9 10 dX9_scanNumber_35 f9_64 (by first | exact hS'.1 _ _ rfl | assumption) (by decide) ?_
        rw [e10]
        refine v_bipush 10 dX9_scanNumber_38 (by decide) ?_
        refine v_imul dX9_scanNumber_40 ?_
        refine v_aload_n dX9_scanNumber_41 rfl ?_
        refine v_getR 9 3 _ dX9_scanNumber_42 f9_24 (by first | exact hS'.1 _ _ rfl | assumption) (by decide) (by first | exact hT'.1 | exact hS'.2 _ _ _ rfl) ?_
        refine v_aload_n dX9_scanNumber_45 rfl ?_
        refine v_getI 9 5 dX9_scanNumber_46 f9_45 (by first | exact hS'.1 _ _ rfl | assumption) (by decide) ?_
        rw [e5]
        refine v_baldN (h) dX9_scanNumber_49 (by first | exact hS'.1 _ _ rfl | assumption) (by simp only [n_lit, pk_mul, nI_add]) ⟨by omega, by omega⟩ ?_
        rw [b1, hsb]
        refine v_iadd dX9_scanNumber_50 ?_
        refine v_bipush 48 dX9_scanNumber_51 (by decide) ?_
        refine v_isub dX9_scanNumber_53 ?_
        rw [n_lit 10, n_lit 48, pk_mul, nI_add, nSub (by omega), ev, show h + 1 - s = (h - s) + 1 by omega]
        refine v_putI 9 10 dX9_scanNumber_54 f9_64 (by first | exact hS'.1 _ _ rfl | assumption) (by decide) ?_
        refine v_iinc 1 dX9_scanNumber_57 rfl (by decide) rfl (by decide) ?_
        refine v_aload_n dX9_scanNumber_60 rfl ?_
        refine v_dup dX9_scanNumber_61 rfl ?_
        refine v_getI 9 5 dX9_scanNumber_62 f9_45 (by first | exact hS'.1 _ _ rfl | assumption) (by decide) ?_
        rw [gI_sk _ _ (by decide), e5]
        refine v_iconst 1 dX9_scanNumber_65 (by decide) ?_
        refine v_iadd dX9_scanNumber_66 ?_
        rw [nI_1]
        refine v_putI 9 5 dX9_scanNumber_67 f9_45 (by first | exact hS'.1 _ _ rfl | assumption) (by decide) ?_
        refine v_goto 2 dX9_scanNumber_70 (by decide) ?_
        (rw [nI_1]; exact g)
      · have ev : dgV Z.1 s (min 3 (h - s)) = dgV Z.1 s (min 3 (h + 1 - s)) := by rw [show min 3 (h + 1 - s) = min 3 (h - s) by omega]
        have g := ih (h + 1) (sI M' 103 5 (nI (h + 1))) (by omega) (by omega) hd' (e.st _ rfl) (gI_ss _ _ _ _) ((gI_sk _ _ (by decide)).trans (e10.trans (congrArg nI ev))) kk
        rw [show h + 1 - s = (h - s) + 1 by omega] at g
        refine v_aload_n dX9_scanNumber_2 rfl ?_
        refine v_getI 9 5 dX9_scanNumber_3 f9_45 (by first | exact hS'.1 _ _ rfl | assumption) (by decide) ?_
        refine v_aload_n dX9_scanNumber_6 rfl ?_
        refine v_getI 9 4 dX9_scanNumber_7 f9_41 (by first | exact hS'.1 _ _ rfl | assumption) (by decide) ?_
        rw [e5, hT'.2.1]
        refine v_icmp_ge 73 dX9_scanNumber_10 (by decide) (fun h10 => absurd ((nI_leI (by omega) (by omega)).mp h10) (by omega)) (fun h10 => ?_)
        refine v_aload_n dX9_scanNumber_13 rfl ?_
        refine v_getR 9 3 _ dX9_scanNumber_14 f9_24 (by first | exact hS'.1 _ _ rfl | assumption) (by decide) (by first | exact hT'.1 | exact hS'.2 _ _ _ rfl) ?_
        refine v_aload_n dX9_scanNumber_17 rfl ?_
        refine v_getI 9 5 dX9_scanNumber_18 f9_45 (by first | exact hS'.1 _ _ rfl | assumption) (by decide) ?_
        rw [e5]
        refine v_baldN (h) dX9_scanNumber_21 (by first | exact hS'.1 _ _ rfl | assumption) (by simp only [n_lit, pk_mul, nI_add]) ⟨by omega, by omega⟩ ?_
        rw [b1]
        refine v_cS [_] (c9_isDigit G M' b2) k9_isDigit dX9_scanNumber_22 l9_73 rfl (Nat.le_of_ble_eq_true rfl) (Nat.le_of_ble_eq_true rfl) ?_
        rw [bI_t hb]
        refine v_if_eq 73 dX9_scanNumber_25 (by decide) (fun h25 => absurd h25 (by decide)) (fun h25 => ?_)
        refine v_iload_n dX9_scanNumber_28 rfl ?_
        refine v_iconst 3 dX9_scanNumber_29 (by decide) ?_
        refine v_icmp_ge 57 dX9_scanNumber_30 (by decide) (fun h30 => ?_) (fun h30 => absurd (nI_le (a := 3) (by omega) (by omega)) h30)
        refine v_iinc 1 dX9_scanNumber_57 rfl (by decide) rfl (by decide) ?_
        refine v_aload_n dX9_scanNumber_60 rfl ?_
        refine v_dup dX9_scanNumber_61 rfl ?_
        refine v_getI 9 5 dX9_scanNumber_62 f9_45 (by first | exact hS'.1 _ _ rfl | assumption) (by decide) ?_
        rw [e5]
        refine v_iconst 1 dX9_scanNumber_65 (by decide) ?_
        refine v_iadd dX9_scanNumber_66 ?_
        rw [nI_1]
        refine v_putI 9 5 dX9_scanNumber_67 f9_45 (by first | exact hS'.1 _ _ rfl | assumption) (by decide) ?_
        refine v_goto 2 dX9_scanNumber_70 (by decide) ?_
        (rw [nI_1]; exact g)
    · rw [rn, if_neg hb] at kk
      refine v_aload_n dX9_scanNumber_2 rfl ?_
      refine v_getI 9 5 dX9_scanNumber_3 f9_45 (by first | exact hS'.1 _ _ rfl | assumption) (by decide) ?_
      refine v_aload_n dX9_scanNumber_6 rfl ?_
      refine v_getI 9 4 dX9_scanNumber_7 f9_41 (by first | exact hS'.1 _ _ rfl | assumption) (by decide) ?_
      rw [e5, hT'.2.1]
      refine v_icmp_ge 73 dX9_scanNumber_10 (by decide) (fun h10 => absurd ((nI_leI (by omega) (by omega)).mp h10) (by omega)) (fun h10 => ?_)
      refine v_aload_n dX9_scanNumber_13 rfl ?_
      refine v_getR 9 3 _ dX9_scanNumber_14 f9_24 (by first | exact hS'.1 _ _ rfl | assumption) (by decide) (by first | exact hT'.1 | exact hS'.2 _ _ _ rfl) ?_
      refine v_aload_n dX9_scanNumber_17 rfl ?_
      refine v_getI 9 5 dX9_scanNumber_18 f9_45 (by first | exact hS'.1 _ _ rfl | assumption) (by decide) ?_
      rw [e5]
      refine v_baldN (h) dX9_scanNumber_21 (by first | exact hS'.1 _ _ rfl | assumption) (by simp only [n_lit, pk_mul, nI_add]) ⟨by omega, by omega⟩ ?_
      rw [b1]
      refine v_cS [_] (c9_isDigit G M' b2) k9_isDigit dX9_scanNumber_22 l9_73 rfl (Nat.le_of_ble_eq_true rfl) (Nat.le_of_ble_eq_true rfl) ?_
      rw [bI_f hb]
      refine v_if_eq 73 dX9_scanNumber_25 (by decide) (fun h25 => ?_) (fun h25 => absurd rfl h25)
      exact kk M' h rfl hs (by omega) e e5 e10
/-- what a scan leaves -/
def SO (M : mM) (Z : (Nat → Nat) × Nat) (h : Nat) (M' : mM) : Prop := Sm Wtk M M' ∧ gI M' 103 5 = nI (tkE Z h) ∧ (tkK Z h = 29 → gI M' 103 10 = nI (tkV Z h))
theorem c9_scanNumber {Z : (Nat → Nat) × Nat} {h : Nat} (hS : Sh M) (hT : Tk M Z) (hh : h ≤ Z.2) (h0 : tkS Z h < Z.2) (hd : diB (Z.1 (tkS Z h)) = true) (e5 : gI M 103 5 = nI (tkS Z h)) (e10 : gI M 103 10 = 0) : Ct G Y9_scanNumber 1 0 0 [.ref 103] M (Rs (some (.ref (tkK Z h))) (SO M Z h)) NX := by
  have h9 := hT.2.2.1
  have hl : ¬ loB (Z.1 (tkS Z h)) = true := fun z => by have := loB_iff.mp z; have := diB_iff.mp hd; omega
  have he := tkE_di h0 hl hd
  have hk := tkK_di h0 hl hd
  have hge := tkE_ge Z hh
  refine Ct.of k9_scanNumber.1 (Nat.le_of_ble_eq_true rfl) ?_
  have g : V G Y9_scanNumber 1 0 0 (Rs (some (.ref (tkK Z h))) (SO M Z h)) NX 2 [some (.ref 103), some (.int (nI (tkS Z h - tkS Z h)))] [] M := by
    refine l9_num G M hS hT (Z.2 - tkS Z h) (tkS Z h) M (by omega) (Nat.le_refl _) (fun j hj => by omega) Sm.rf e5 (by rw [e10, Nat.sub_self]; rfl) (fun M2 h2 hh2 i1 i2 e g5 g10 => ?_)
    rw [← he] at hh2
    have hS' := hS.sm e
    by_cases h3 : 3 < h2 - tkS Z h
    · rw [hk, if_pos (by omega)]
      refine v_iload_n dX9_scanNumber_73 rfl ?_
      refine v_iconst 3 dX9_scanNumber_74 (by decide) ?_
      refine v_icmp_le 84 dX9_scanNumber_75 (by decide) (fun h75 => absurd ((nI_leI (b := 3) (by omega) (by omega)).mp h75) (by omega)) (fun h75 => ?_)
      refine v_gets (v := .ref 31) dX9_scanNumber_78 g9_54 (kT_z G (i := 31) (by decide) rfl) ?_
      refine v_goto 87 dX9_scanNumber_81 (by decide) ?_
      refine v_aret dX9_scanNumber_87 rfl (by first | exact Or.inr ⟨_, rfl⟩ | exact Or.inl rfl) ?_
      exact ⟨rfl, e, by rw [g5, hh2], fun z => absurd z (by rw [hk, if_pos (by omega)]; decide)⟩
    · rw [hk, if_neg (by omega)]
      refine v_iload_n dX9_scanNumber_73 rfl ?_
      refine v_iconst 3 dX9_scanNumber_74 (by decide) ?_
      refine v_icmp_le 84 dX9_scanNumber_75 (by decide) (fun h75 => ?_) (fun h75 => absurd ((nI_leI (b := 3) (by omega) (by omega)).mpr (by omega)) h75)
      refine v_gets (v := .ref 29) dX9_scanNumber_84 g9_90 (kT_z G (i := 29) (by decide) rfl) ?_
      refine v_aret dX9_scanNumber_87 rfl (by first | exact Or.inr ⟨_, rfl⟩ | exact Or.inl rfl) ?_
      exact ⟨rfl, e, by rw [g5, hh2], fun z => by rw [g10, hh2]; rfl⟩
  rw [Nat.sub_self] at g
  refine v_iconst 0 dX9_scanNumber_0 (by decide) ?_
  refine v_istore_n dX9_scanNumber_1 rfl (by decide) ?_
  exact g
theorem l9_lo {Z : (Nat → Nat) × Nat} {x : Int32} {Q : Option Value → mM → Prop} (hS : Sh M) (hT : Tk M Z) : ∀ k h M', h + k = Z.2 → Sm Wtk M M' → gI M' 103 5 = nI h → (∀ M2, Sm Wtk M M2 → gI M2 103 5 = nI (rn (fun i => loB (Z.1 i)) k h) → V G Y9_scan 6 0 0 Q NX 99 [some (.ref 103), some (.int x)] [] M2) → V G Y9_scan 6 0 0 Q NX 60 [some (.ref 103), some (.int x)] [] M' := by
  have h9 := hT.2.2.1
  intro k
  induction k with
  | zero =>
    intro h M' hk e e5 kk
    have hS' := hS.sm e
    have hT' := hT.sm e rfl (fun _ => rfl)
    refine v_aload_n dX9_scan_60 rfl ?_
    refine v_getI 9 5 dX9_scan_61 f9_45 (by first | exact hS'.1 _ _ rfl | assumption) (by decide) ?_
    refine v_aload_n dX9_scan_64 rfl ?_
    refine v_getI 9 4 dX9_scan_65 f9_41 (by first | exact hS'.1 _ _ rfl | assumption) (by decide) ?_
    rw [e5, hT'.2.1]
    refine v_icmp_ge 99 dX9_scan_68 (by decide) (fun h68 => ?_) (fun h68 => absurd (nI_le (by omega) (by omega)) h68)
    exact kk M' e e5
  | succ k ih =>
    intro h M' hk e e5 kk
    have hS' := hS.sm e
    have hT' := hT.sm e rfl (fun _ => rfl)
    obtain ⟨b1, b2⟩ := hT'.2.2.2 h (by omega)
    by_cases hb : loB (Z.1 h) = true
    · rw [rn, if_pos hb] at kk
      have g := ih (h + 1) (sI M' 103 5 (nI (h + 1))) (by omega) (e.st _ rfl) (gI_ss _ _ _ _) kk
      refine v_aload_n dX9_scan_60 rfl ?_
      refine v_getI 9 5 dX9_scan_61 f9_45 (by first | exact hS'.1 _ _ rfl | assumption) (by decide) ?_
      refine v_aload_n dX9_scan_64 rfl ?_
      refine v_getI 9 4 dX9_scan_65 f9_41 (by first | exact hS'.1 _ _ rfl | assumption) (by decide) ?_
      rw [e5, hT'.2.1]
      refine v_icmp_ge 99 dX9_scan_68 (by decide) (fun h68 => absurd ((nI_leI (by omega) (by omega)).mp h68) (by omega)) (fun h68 => ?_)
      refine v_aload_n dX9_scan_71 rfl ?_
      refine v_getR 9 3 _ dX9_scan_72 f9_24 (by first | exact hS'.1 _ _ rfl | assumption) (by decide) (by first | exact hT'.1 | exact hS'.2 _ _ _ rfl) ?_
      refine v_aload_n dX9_scan_75 rfl ?_
      refine v_getI 9 5 dX9_scan_76 f9_45 (by first | exact hS'.1 _ _ rfl | assumption) (by decide) ?_
      rw [e5]
      refine v_baldN (h) dX9_scan_79 (by first | exact hS'.1 _ _ rfl | assumption) (by simp only [n_lit, pk_mul, nI_add]) ⟨by omega, by omega⟩ ?_
      rw [b1]
      refine v_cS [_] (c9_isLetter G M' b2) k9_isLetter dX9_scan_80 l9_80 rfl (Nat.le_of_ble_eq_true rfl) (Nat.le_of_ble_eq_true rfl) ?_
      rw [bI_t hb]
      refine v_if_eq 99 dX9_scan_83 (by decide) (fun h83 => absurd h83 (by decide)) (fun h83 => ?_)
      refine v_aload_n dX9_scan_86 rfl ?_
      refine v_dup dX9_scan_87 rfl ?_
      refine v_getI 9 5 dX9_scan_88 f9_45 (by first | exact hS'.1 _ _ rfl | assumption) (by decide) ?_
      rw [e5]
      refine v_iconst 1 dX9_scan_91 (by decide) ?_
      refine v_iadd dX9_scan_92 ?_
      rw [nI_1]
      refine v_putI 9 5 dX9_scan_93 f9_45 (by first | exact hS'.1 _ _ rfl | assumption) (by decide) ?_
      refine v_goto 60 dX9_scan_96 (by decide) ?_
      exact g
    · rw [rn, if_neg hb] at kk
      refine v_aload_n dX9_scan_60 rfl ?_
      refine v_getI 9 5 dX9_scan_61 f9_45 (by first | exact hS'.1 _ _ rfl | assumption) (by decide) ?_
      refine v_aload_n dX9_scan_64 rfl ?_
      refine v_getI 9 4 dX9_scan_65 f9_41 (by first | exact hS'.1 _ _ rfl | assumption) (by decide) ?_
      rw [e5, hT'.2.1]
      refine v_icmp_ge 99 dX9_scan_68 (by decide) (fun h68 => absurd ((nI_leI (by omega) (by omega)).mp h68) (by omega)) (fun h68 => ?_)
      refine v_aload_n dX9_scan_71 rfl ?_
      refine v_getR 9 3 _ dX9_scan_72 f9_24 (by first | exact hS'.1 _ _ rfl | assumption) (by decide) (by first | exact hT'.1 | exact hS'.2 _ _ _ rfl) ?_
      refine v_aload_n dX9_scan_75 rfl ?_
      refine v_getI 9 5 dX9_scan_76 f9_45 (by first | exact hS'.1 _ _ rfl | assumption) (by decide) ?_
      rw [e5]
      refine v_baldN (h) dX9_scan_79 (by first | exact hS'.1 _ _ rfl | assumption) (by simp only [n_lit, pk_mul, nI_add]) ⟨by omega, by omega⟩ ?_
      rw [b1]
      refine v_cS [_] (c9_isLetter G M' b2) k9_isLetter dX9_scan_80 l9_80 rfl (Nat.le_of_ble_eq_true rfl) (Nat.le_of_ble_eq_true rfl) ?_
      rw [bI_f hb]
      refine v_if_eq 99 dX9_scan_83 (by decide) (fun h83 => ?_) (fun h83 => absurd rfl h83)
      exact kk M' e e5
theorem c9_scan {Z : (Nat → Nat) × Nat} {h : Nat} (hS : Sh M) (hT : Tk M Z) (hh : h ≤ Z.2) (e5 : gI M 103 5 = nI (tkS Z h)) : Ct G Y9_scan 6 0 0 [.ref 103] M (Rs (some (.ref (tkK Z h))) (SO M Z h)) NX := by
  have h9 := hT.2.2.1
  have hs := tkS_ge Z hh
  have hge := tkE_ge Z hh
  have e1 : Sm Wtk M (sI M 103 10 0) := Sm.rf.st _ rfl
  have f5 : gI (sI M 103 10 0) 103 5 = nI (tkS Z h) := (gI_sk _ _ (by decide)).trans e5
  have hS' := hS.sm e1
  have hT' := hT.sm e1 rfl (fun _ => rfl)
  refine Ct.of k9_scan.1 (Nat.le_of_ble_eq_true rfl) ?_
  by_cases h0 : tkS Z h < Z.2
  · obtain ⟨b1, b2⟩ := hT'.2.2.2 (tkS Z h) h0
    by_cases hd : diB (Z.1 (tkS Z h)) = true
    · have hn := c9_scanNumber G (sI M 103 10 0) hS' hT' hh h0 hd f5 (gI_ss _ _ _ _)
      refine v_aload_n dX9_scan_0 rfl ?_
      refine v_getI 9 5 dX9_scan_1 f9_45 (by first | exact hS'.1 _ _ rfl | assumption) (by decide) ?_
      rw [e5]
      refine v_istore_n dX9_scan_4 rfl (by decide) ?_
      refine v_aload_n dX9_scan_5 rfl ?_
      refine v_iconst 0 dX9_scan_6 (by decide) ?_
      refine v_putI 9 10 dX9_scan_7 f9_64 (by first | exact hS'.1 _ _ rfl | assumption) (by decide) ?_
      refine v_aload_n dX9_scan_10 rfl ?_
      refine v_getI 9 5 dX9_scan_11 f9_45 (by first | exact hS'.1 _ _ rfl | assumption) (by decide) ?_
      refine v_aload_n dX9_scan_14 rfl ?_
      refine v_getI 9 4 dX9_scan_15 f9_41 (by first | exact hS'.1 _ _ rfl | assumption) (by decide) ?_
      rw [f5, hT'.2.1]
      refine v_icmp_lt 25 dX9_scan_18 (by decide) (fun h18 => ?_) (fun h18 => absurd ((nI_ltI (by omega) (by omega)).mpr h0) h18)
      refine v_aload_n dX9_scan_25 rfl ?_
      refine v_getR 9 3 _ dX9_scan_26 f9_24 (by first | exact hS'.1 _ _ rfl | assumption) (by decide) (by first | exact hT'.1 | exact hS'.2 _ _ _ rfl) ?_
      refine v_aload_n dX9_scan_29 rfl ?_
      refine v_getI 9 5 dX9_scan_30 f9_45 (by first | exact hS'.1 _ _ rfl | assumption) (by decide) ?_
      rw [f5]
      refine v_baldN (tkS Z h) dX9_scan_33 (by first | exact hS'.1 _ _ rfl | assumption) (by simp only [n_lit, pk_mul, nI_add]) ⟨by omega, by omega⟩ ?_
      rw [b1]
      refine v_cS [_] (c9_isDigit G _ b2) k9_isDigit dX9_scan_34 l9_73 rfl (Nat.le_of_ble_eq_true rfl) (Nat.le_of_ble_eq_true rfl) ?_
      rw [bI_t hd]
      refine v_if_eq 45 dX9_scan_37 (by decide) (fun h37 => absurd h37 (by decide)) (fun h37 => ?_)
      refine v_aload_n dX9_scan_40 rfl ?_
      refine v_scV [] (hn) k9_scanNumber dX9_scan_41 l9_77 (by first | exact hS'.1 _ _ rfl | assumption) (by decide) rfl (Nat.le_of_ble_eq_true rfl) (Nat.le_of_ble_eq_true rfl) ?_
      intro M2 hM2
      refine v_aret dX9_scan_44 rfl (by first | exact Or.inr ⟨_, rfl⟩ | exact Or.inl rfl) ?_
      exact ⟨rfl, e1.tr hM2.1, hM2.2⟩
    · by_cases hl : loB (Z.1 (tkS Z h)) = true
      · have he := tkE_lo h0 hl
        have hk := tkK_lo h0 hl
        have hn29 : tkK Z h ≠ 29 := by
          rw [hk]
          rcases kdW_ok (wl Z.1 (tkS Z h) (tkE Z h)) 30 with ⟨a, _⟩ | ⟨a, _⟩ <;> omega
        have g : V G Y9_scan 6 0 0 (Rs (some (.ref (tkK Z h))) (SO M Z h)) NX 60 [some (.ref 103), some (.int (nI (tkS Z h)))] [] (sI M 103 10 0) := by
          refine l9_lo G M hS hT (Z.2 - tkS Z h) (tkS Z h) _ (by omega) e1 f5 (fun M4 e4 g5 => ?_)
          rw [← he] at g5
          have hS' := hS.sm e4
          have hT' := hT.sm e4 rfl (fun _ => rfl)
          have hsp := c8_spelled G M4 (f := tkS Z h) (t := tkE Z h) (o := 30) hS' hT' (hge.2.2 h0) hge.2.1 (by decide)
          rw [← hk] at hsp
          refine v_aload_n dX9_scan_99 rfl ?_
          refine v_getR 9 3 _ dX9_scan_100 f9_24 (by first | exact hS'.1 _ _ rfl | assumption) (by decide) (by first | exact hT'.1 | exact hS'.2 _ _ _ rfl) ?_
          refine v_iload_n dX9_scan_103 rfl ?_
          refine v_aload_n dX9_scan_104 rfl ?_
          refine v_getI 9 5 dX9_scan_105 f9_45 (by first | exact hS'.1 _ _ rfl | assumption) (by decide) ?_
          rw [g5]
          refine v_gets (v := .ref 30) dX9_scan_108 g9_83 (kT_z G (i := 30) (by decide) rfl) ?_
          refine v_cS [_, _, _, _] (hsp) k8_spelled dX9_scan_111 l9_86 rfl (Nat.le_of_ble_eq_true rfl) (Nat.le_of_ble_eq_true rfl) ?_
          refine v_aret dX9_scan_114 rfl (by first | exact Or.inr ⟨_, rfl⟩ | exact Or.inl rfl) ?_
          exact ⟨rfl, e4, g5, fun z => absurd z hn29⟩
        refine v_aload_n dX9_scan_0 rfl ?_
        refine v_getI 9 5 dX9_scan_1 f9_45 (by first | exact hS'.1 _ _ rfl | assumption) (by decide) ?_
        rw [e5]
        refine v_istore_n dX9_scan_4 rfl (by decide) ?_
        refine v_aload_n dX9_scan_5 rfl ?_
        refine v_iconst 0 dX9_scan_6 (by decide) ?_
        refine v_putI 9 10 dX9_scan_7 f9_64 (by first | exact hS'.1 _ _ rfl | assumption) (by decide) ?_
        refine v_aload_n dX9_scan_10 rfl ?_
        refine v_getI 9 5 dX9_scan_11 f9_45 (by first | exact hS'.1 _ _ rfl | assumption) (by decide) ?_
        refine v_aload_n dX9_scan_14 rfl ?_
        refine v_getI 9 4 dX9_scan_15 f9_41 (by first | exact hS'.1 _ _ rfl | assumption) (by decide) ?_
        rw [f5, hT'.2.1]
        refine v_icmp_lt 25 dX9_scan_18 (by decide) (fun h18 => ?_) (fun h18 => absurd ((nI_ltI (by omega) (by omega)).mpr h0) h18)
        refine v_aload_n dX9_scan_25 rfl ?_
        refine v_getR 9 3 _ dX9_scan_26 f9_24 (by first | exact hS'.1 _ _ rfl | assumption) (by decide) (by first | exact hT'.1 | exact hS'.2 _ _ _ rfl) ?_
        refine v_aload_n dX9_scan_29 rfl ?_
        refine v_getI 9 5 dX9_scan_30 f9_45 (by first | exact hS'.1 _ _ rfl | assumption) (by decide) ?_
        rw [f5]
        refine v_baldN (tkS Z h) dX9_scan_33 (by first | exact hS'.1 _ _ rfl | assumption) (by simp only [n_lit, pk_mul, nI_add]) ⟨by omega, by omega⟩ ?_
        rw [b1]
        refine v_cS [_] (c9_isDigit G _ b2) k9_isDigit dX9_scan_34 l9_73 rfl (Nat.le_of_ble_eq_true rfl) (Nat.le_of_ble_eq_true rfl) ?_
        rw [bI_f hd]
        refine v_if_eq 45 dX9_scan_37 (by decide) (fun h37 => ?_) (fun h37 => absurd rfl h37)
        refine v_aload_n dX9_scan_45 rfl ?_
        refine v_getR 9 3 _ dX9_scan_46 f9_24 (by first | exact hS'.1 _ _ rfl | assumption) (by decide) (by first | exact hT'.1 | exact hS'.2 _ _ _ rfl) ?_
        refine v_aload_n dX9_scan_49 rfl ?_
        refine v_getI 9 5 dX9_scan_50 f9_45 (by first | exact hS'.1 _ _ rfl | assumption) (by decide) ?_
        rw [f5]
        refine v_baldN (tkS Z h) dX9_scan_53 (by first | exact hS'.1 _ _ rfl | assumption) (by simp only [n_lit, pk_mul, nI_add]) ⟨by omega, by omega⟩ ?_
        rw [b1]
        refine v_cS [_] (c9_isLetter G _ b2) k9_isLetter dX9_scan_54 l9_80 rfl (Nat.le_of_ble_eq_true rfl) (Nat.le_of_ble_eq_true rfl) ?_
        rw [bI_t hl]
        refine v_if_eq 115 dX9_scan_57 (by decide) (fun h57 => absurd h57 (by decide)) (fun h57 => ?_)
        exact g
      · have he := tkE_sg h0 hl hd
        have hk : tkK Z h = kdW (wl Z.1 (tkS Z h) (tkS Z h + 1)) 31 := by rw [tkK_sg h0 hl hd, wl_1]
        have hn29 : tkK Z h ≠ 29 := by
          rw [hk]
          rcases kdW_ok (wl Z.1 (tkS Z h) (tkS Z h + 1)) 31 with ⟨a, _⟩ | ⟨a, _⟩ <;> omega
        have e2 : Sm Wtk M (sI (sI M 103 10 0) 103 5 (nI (tkS Z h + 1))) := e1.st _ rfl
        have hsp := c8_spelled G (sI (sI M 103 10 0) 103 5 (nI (tkS Z h + 1))) (f := tkS Z h) (t := tkS Z h + 1) (o := 31) (hS.sm e2) (hT.sm e2 rfl (fun _ => rfl)) (Nat.lt_succ_self _) h0 (by decide)
        rw [← hk] at hsp
        refine v_aload_n dX9_scan_0 rfl ?_
        refine v_getI 9 5 dX9_scan_1 f9_45 (by first | exact hS'.1 _ _ rfl | assumption) (by decide) ?_
        rw [e5]
        refine v_istore_n dX9_scan_4 rfl (by decide) ?_
        refine v_aload_n dX9_scan_5 rfl ?_
        refine v_iconst 0 dX9_scan_6 (by decide) ?_
        refine v_putI 9 10 dX9_scan_7 f9_64 (by first | exact hS'.1 _ _ rfl | assumption) (by decide) ?_
        refine v_aload_n dX9_scan_10 rfl ?_
        refine v_getI 9 5 dX9_scan_11 f9_45 (by first | exact hS'.1 _ _ rfl | assumption) (by decide) ?_
        refine v_aload_n dX9_scan_14 rfl ?_
        refine v_getI 9 4 dX9_scan_15 f9_41 (by first | exact hS'.1 _ _ rfl | assumption) (by decide) ?_
        rw [f5, hT'.2.1]
        refine v_icmp_lt 25 dX9_scan_18 (by decide) (fun h18 => ?_) (fun h18 => absurd ((nI_ltI (by omega) (by omega)).mpr h0) h18)
        refine v_aload_n dX9_scan_25 rfl ?_
        refine v_getR 9 3 _ dX9_scan_26 f9_24 (by first | exact hS'.1 _ _ rfl | assumption) (by decide) (by first | exact hT'.1 | exact hS'.2 _ _ _ rfl) ?_
        refine v_aload_n dX9_scan_29 rfl ?_
        refine v_getI 9 5 dX9_scan_30 f9_45 (by first | exact hS'.1 _ _ rfl | assumption) (by decide) ?_
        rw [f5]
        refine v_baldN (tkS Z h) dX9_scan_33 (by first | exact hS'.1 _ _ rfl | assumption) (by simp only [n_lit, pk_mul, nI_add]) ⟨by omega, by omega⟩ ?_
        rw [b1]
        refine v_cS [_] (c9_isDigit G _ b2) k9_isDigit dX9_scan_34 l9_73 rfl (Nat.le_of_ble_eq_true rfl) (Nat.le_of_ble_eq_true rfl) ?_
        rw [bI_f hd]
        refine v_if_eq 45 dX9_scan_37 (by decide) (fun h37 => ?_) (fun h37 => absurd rfl h37)
        refine v_aload_n dX9_scan_45 rfl ?_
        refine v_getR 9 3 _ dX9_scan_46 f9_24 (by first | exact hS'.1 _ _ rfl | assumption) (by decide) (by first | exact hT'.1 | exact hS'.2 _ _ _ rfl) ?_
        refine v_aload_n dX9_scan_49 rfl ?_
        refine v_getI 9 5 dX9_scan_50 f9_45 (by first | exact hS'.1 _ _ rfl | assumption) (by decide) ?_
        rw [f5]
        refine v_baldN (tkS Z h) dX9_scan_53 (by first | exact hS'.1 _ _ rfl | assumption) (by simp only [n_lit, pk_mul, nI_add]) ⟨by omega, by omega⟩ ?_
        rw [b1]
        refine v_cS [_] (c9_isLetter G _ b2) k9_isLetter dX9_scan_54 l9_80 rfl (Nat.le_of_ble_eq_true rfl) (Nat.le_of_ble_eq_true rfl) ?_
        rw [bI_f hl]
        refine v_if_eq 115 dX9_scan_57 (by decide) (fun h57 => ?_) (fun h57 => absurd rfl h57)
        refine v_aload_n dX9_scan_115 rfl ?_
        refine v_dup dX9_scan_116 rfl ?_
        refine v_getI 9 5 dX9_scan_117 f9_45 (by first | exact hS'.1 _ _ rfl | assumption) (by decide) ?_
        rw [f5]
        refine v_iconst 1 dX9_scan_120 (by decide) ?_
        refine v_iadd dX9_scan_121 ?_
        rw [nI_1]
        refine v_putI 9 5 dX9_scan_122 f9_45 (by first | exact hS'.1 _ _ rfl | assumption) (by decide) ?_
        refine v_aload_n dX9_scan_125 rfl ?_
        refine v_getR 9 3 _ dX9_scan_126 f9_24 (by first | exact hS'.1 _ _ rfl | assumption) (by decide) (by first | exact hT'.1 | exact hS'.2 _ _ _ rfl) ?_
        refine v_iload_n dX9_scan_129 rfl ?_
        refine v_aload_n dX9_scan_130 rfl ?_
        refine v_getI 9 5 dX9_scan_131 f9_45 (by first | exact hS'.1 _ _ rfl | assumption) (by decide) ?_
        rw [gI_ss]
        refine v_gets (v := .ref 31) dX9_scan_134 g9_54 (kT_z G (i := 31) (by decide) rfl) ?_
        refine v_cS [_, _, _, _] (hsp) k8_spelled dX9_scan_137 l9_86 rfl (Nat.le_of_ble_eq_true rfl) (Nat.le_of_ble_eq_true rfl) ?_
        refine v_aret dX9_scan_140 rfl (by first | exact Or.inr ⟨_, rfl⟩ | exact Or.inl rfl) ?_
        exact ⟨rfl, e2, (gI_ss _ _ _ _).trans (by rw [he]), fun z => absurd z hn29⟩
  · have he : tkS Z h = Z.2 := by omega
    have hk : tkK Z h = 32 := (tkK_end Z h).mpr (by omega)
    rw [hk]
    refine v_aload_n dX9_scan_0 rfl ?_
    refine v_getI 9 5 dX9_scan_1 f9_45 (by first | exact hS'.1 _ _ rfl | assumption) (by decide) ?_
    rw [e5]
    refine v_istore_n dX9_scan_4 rfl (by decide) ?_
    refine v_aload_n dX9_scan_5 rfl ?_
    refine v_iconst 0 dX9_scan_6 (by decide) ?_
    refine v_putI 9 10 dX9_scan_7 f9_64 (by first | exact hS'.1 _ _ rfl | assumption) (by decide) ?_
    refine v_aload_n dX9_scan_10 rfl ?_
    refine v_getI 9 5 dX9_scan_11 f9_45 (by first | exact hS'.1 _ _ rfl | assumption) (by decide) ?_
    refine v_aload_n dX9_scan_14 rfl ?_
    refine v_getI 9 4 dX9_scan_15 f9_41 (by first | exact hS'.1 _ _ rfl | assumption) (by decide) ?_
    rw [f5, hT'.2.1]
    refine v_icmp_lt 25 dX9_scan_18 (by decide) (fun h18 => absurd ((nI_ltI (by omega) (by omega)).mp h18) h0) (fun h18 => ?_)
    refine v_gets (v := .ref 32) dX9_scan_21 g9_28 (kT_z G (i := 32) (by decide) rfl) ?_
    refine v_aret dX9_scan_24 rfl (by first | exact Or.inr ⟨_, rfl⟩ | exact Or.inl rfl) ?_
    exact ⟨rfl, e1, f5.trans (by rw [tkE_end hk]), fun z => absurd z (by rw [hk]; decide)⟩
end SC
