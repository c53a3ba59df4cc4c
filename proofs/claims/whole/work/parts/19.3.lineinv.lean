/-! ===== lines keep where a word starts ===== -/
/-- S's places of words' starts and steps are R's -/
def agr (R S : RSt) : Prop := ∀ i, (i = 3 ∨ i = 7 ∨ (144 ≤ i ∧ i < 155)) → S.2.2.2 i = R.2.2.2 i
theorem agr.tr {R S T : RSt} (h : agr R S) (g : agr S T) : agr R T := fun i hi => (g i hi).trans (h i hi)
theorem agr.of {R S : RSt} (h : S.2.2.2 = R.2.2.2) : agr R S := fun i _ => by rw [h]
theorem agr.st (R : RSt) {j : Nat} (v : Int32) (hj : j ≠ 3 ∧ j ≠ 7 ∧ (j < 144 ∨ 155 ≤ j)) : agr R (rst R j v) := fun i hi => rst_n R v (by omega)
theorem agr.ns {Z : (Nat → Nat) × Nat} {lo hi : Nat} (R : RSt) {j : Nat} (hj : j ≠ 3 ∧ j ≠ 7 ∧ (j < 144 ∨ 155 ≤ j)) : agr R (nst Z lo hi j R) := (agr.of (rnu_K Z lo hi R)).tr (agr.st _ _ hj)
/-- where the current word starts is where the steps stand -/
def LJ (R : RSt) : Prop := KI R.2.2.2 ∧ kn R.2.2.2 (144 + kn R.2.2.2 3) = kn R.2.2.2 7
theorem LJ.ag {Z : (Nat → Nat) × Nat} {R S : RSt} (h : LJ R) (hL : LV Z S) (e : agr R S) : LJ S := by
  obtain ⟨⟨h1, h2⟩, h3⟩ := h
  obtain ⟨_, l2, l3, l4⟩ := hL
  have k3 : kn S.2.2.2 3 = kn R.2.2.2 3 := kn_cg (e 3 (Or.inl rfl))
  have k7 : kn S.2.2.2 7 = kn R.2.2.2 7 := kn_cg (e 7 (Or.inr (Or.inl rfl)))
  have ks : ∀ w, w ≤ 10 → kn S.2.2.2 (144 + w) = kn R.2.2.2 (144 + w) := fun w hw => kn_cg (e _ (Or.inr (Or.inr ⟨by omega, by omega⟩)))
  refine ⟨⟨⟨l2.2, l3.2, l4.2⟩, fun w hw => ?_⟩, ?_⟩
  · have := l3.2
    rw [ks w (by omega), k7]
    exact h2 w (by omega)
  · have := l3.2
    rw [k3, ks _ (by omega), k7]
    exact h3
theorem bgn_K (Z : (Nat → Nat) × Nat) (i most : Nat) (R : RSt) : (bgn Z i most R).2.2.2 = R.2.2.2 := by
  unfold bgn
  rw [rgo_K]
  split
  · exact rbl_K _ _ _
  · rfl
theorem chC_ag (Z : (Nat → Nat) × Nat) (sp : Bool) (R : RSt) (h2 : kn R.2.2.2 2 ≤ 14) (h1 : kn R.2.2.2 1 ≤ 6) : agr R (chC Z sp R) := by
  have hb := bgn_K Z 2 14 R
  unfold chC
  split
  · exact agr.of hb
  · refine (agr.of hb).tr ?_
    rw [hb]
    generalize bgn Z 2 14 R = S at hb
    have h := fun i => chL_o (Z := Z) (c := kn R.2.2.2 2) (i := i) (kn R.2.2.2 1) 0 S
    have a1 : agr S (chL Z (kn R.2.2.2 2) (kn R.2.2.2 1) 0 S) := fun i hi => h i (by omega)
    refine a1.tr ?_
    unfold chE
    split
    · exact agr.of rfl
    · cases sp
      · exact (agr.st _ _ (by decide)).tr (agr.st _ _ (by decide))
      · exact agr.st _ _ (by decide)
theorem laR_ag (Z : (Nat → Nat) × Nat) (R : RSt) (h4 : kn R.2.2.2 4 ≤ 8) (hn : (bgn Z 4 8 R).1 = 0 → kn R.2.2.2 4 ≠ 8) : agr R (laR Z R) := by
  have hb := bgn_K Z 4 8 R
  unfold laR
  split
  · exact agr.of hb
  · rename_i h0
    have h8 := hn (Decidable.not_not.mp h0)
    refine (agr.of hb).tr ?_
    rw [hb]
    generalize bgn Z 4 8 R = S
    unfold laB
    have a1 : agr S (nst Z 0 (kn S.2.2.2 1 - 1) (120 + 3 * kn R.2.2.2 4) S) := agr.ns S (by omega)
    generalize nst Z 0 (kn S.2.2.2 1 - 1) (120 + 3 * kn R.2.2.2 4) S = S1 at a1
    have a2 : agr S1 (nst Z 0 9 (120 + 3 * kn R.2.2.2 4 + 1) S1) := agr.ns S1 (by omega)
    generalize nst Z 0 9 (120 + 3 * kn R.2.2.2 4 + 1) S1 = S2 at a2
    have a3 : agr S2 (nst Z 0 9 (120 + 3 * kn R.2.2.2 4 + 2) S2) := agr.ns S2 (by omega)
    refine ((a1.tr a2).tr a3).tr ?_
    unfold laE
    split
    · exact agr.of rfl
    · exact agr.st _ _ (by decide)
theorem woX_ag {Z : (Nat → Nat) × Nat} {R : RSt} (h3 : kn R.2.2.2 3 ≤ 10) : agr R (woX Z R) := by
  unfold woX
  split
  · exact agr.of (rbl_K _ _ _)
  · have hw : kn R.2.2.2 3 < 10 := by omega
    unfold woH
    show agr R (rmu Z 18 (woC Z (kn R.2.2.2 3) (woS Z (kn R.2.2.2 3) (rnx R))))
    generalize kn R.2.2.2 3 = w at hw
    have a1 : agr R (woS Z w (rnx R)) := by
      unfold woS
      split
      · exact agr.st (rnx (rnx R)) _ (by decide)
      · exact agr.of rfl
    have a2 : agr (woS Z w (rnx R)) (woC Z w (woS Z w (rnx R))) := by
      generalize woS Z w (rnx R) = S
      unfold woC
      split
      · exact (agr.of (show (rnu Z 1 9 (rnx S)).2.2.2 = S.2.2.2 from rnu_K Z 1 9 (rnx S))).tr (agr.st _ _ (by omega))
      · exact agr.st _ _ (by omega)
    exact (a1.tr a2).tr (agr.of (rmu_K _ _ _))
/-- after a line: all is well with the words' starts, while no fault -/
theorem lin_LJ {Z : (Nat → Nat) × Nat} {R : RSt} (hL : LV Z R) (hJ : LJ R) (h0 : R.1 = 0) (hk : kd Z R.2.2.1 ≠ 32) : KI (lin Z R).2.2.2 ∧ ((lin Z R).1 = 0 → LJ (lin Z R)) := by
  have hLl := (lin_lr hL).1.1
  have hB := (lnB_lr hL).1
  -- the end of a line
  have tail : KI (lnB Z R).2.2.2 → ((lnB Z R).1 = 0 → LJ (lnB Z R)) → KI (lin Z R).2.2.2 ∧ ((lin Z R).1 = 0 → LJ (lin Z R)) := by
    intro hKI hJB
    have hLl' := hLl
    unfold lin at hLl' ⊢
    generalize lnB Z R = S at hKI hJB hLl' hB ⊢
    have hm := rmu_K Z 17 S
    have hag : agr S (sto Z S) := by
      unfold sto stE
      split
      · exact agr.of hm
      · exact (agr.of hm).tr (agr.st _ _ (by decide))
    refine ⟨?_, fun z => (hJB ?_).ag hLl' hag⟩
    · obtain ⟨⟨k1, k2, k3⟩, kw⟩ := hKI
      obtain ⟨_, l2, l3, l4⟩ := hLl'
      have e3 : kn (sto Z S).2.2.2 3 = kn S.2.2.2 3 := kn_cg (hag 3 (Or.inl rfl))
      have e7 : kn (sto Z S).2.2.2 7 = kn S.2.2.2 7 := kn_cg (hag 7 (Or.inr (Or.inl rfl)))
      refine ⟨⟨l2.2, l3.2, l4.2⟩, fun w hw => ?_⟩
      rw [e7, kn_cg (hag (144 + w) (Or.inr (Or.inr ⟨by omega, by omega⟩)))]
      exact kw w (by omega)
    · refine Decidable.byContradiction (fun hb => ?_)
      unfold sto stE at z
      rw [rmu_b hb, if_pos hb] at z
      exact hb z
  have easy : agr R (lnB Z R) → KI (lin Z R).2.2.2 ∧ ((lin Z R).1 = 0 → LJ (lin Z R)) := fun a => tail (hJ.ag hB a).1 (fun _ => hJ.ag hB a)
  by_cases k3 : kd Z R.2.2.1 = 3
  · have eB : lnB Z R = woE (tru Z (unt Z 6) (woX Z R)) := by
      unfold lnB
      rw [if_neg (by omega), if_neg (by omega), if_pos k3]
      exact woR_X hL h0 hk
    have hX : LV Z (woX Z R) := by
      unfold woX
      split
      · exact (lr.gs hL (gs.bl hL.1 (by omega))).1
      · exact (woH_lr (lr.gs hL (gs.nx hL.1 hk)).1).1
    have hJX := hJ.ag hX (woX_ag hL.2.2.1.2)
    have gT := (tru_ok (unt_ok Z 6) (woX Z R) hX.1).1
    have hKT := hJX.1.gs gT
    have hBL := hB
    rw [eB] at hBL
    generalize hT : tru Z (unt Z 6) (woX Z R) = T at hKT eB hBL
    have hE : KI (woE T).2.2.2 ∧ ((woE T).1 = 0 → LJ (woE T)) := by
      by_cases hb : T.1 = 0
      · have e : woE T = rst (rst T 3 (T.2.2.2 3 + 1)) (144 + (kn T.2.2.2 3 + 1)) (T.2.2.2 7) := if_neg (Decidable.not_not.mpr hb)
        obtain ⟨⟨t2, t3, t4⟩, tw⟩ := hKT
        obtain ⟨_, l2, l3, l4⟩ := hBL
        have eo : ∀ i, i ≠ 3 → i ≠ 144 + (kn T.2.2.2 3 + 1) → kn (woE T).2.2.2 i = kn T.2.2.2 i := fun i a c => by
          rw [e]; exact kn_cg ((rst_n _ _ c).trans (rst_n T _ a))
        have es : kn (woE T).2.2.2 (144 + (kn T.2.2.2 3 + 1)) = kn T.2.2.2 7 := by
          rw [e]; exact congrArg Int32.toNatClampNeg (uK_s _ _ _)
        have hT3 : T.2.2.2 3 = nI (kn T.2.2.2 3) := by
          rw [← hT, (gT.2.2.2 3 (by decide) (by omega)), gT.k (by decide) (by decide)]; exact hX.2.2.1.1
        have e3 : kn (woE T).2.2.2 3 = kn T.2.2.2 3 + 1 := by
          rw [e]
          have : (rst (rst T 3 (T.2.2.2 3 + 1)) (144 + (kn T.2.2.2 3 + 1)) (T.2.2.2 7)).2.2.2 3 = nI (kn T.2.2.2 3 + 1) := by
            rw [rst_n _ _ (by omega)]
            show uK T.2.2.2 3 (T.2.2.2 3 + 1) 3 = _
            rw [uK_s, ← nI_1, ← hT3]
          rw [kn, this, nI_clamp (by omega)]
        have e7 := eo 7 (by decide) (by omega)
        have hKE : KI (woE T).2.2.2 := ⟨⟨l2.2, l3.2, l4.2⟩, fun w hw => by
          rw [e7]
          by_cases hwk : w = kn T.2.2.2 3 + 1
          · rw [hwk, es]; exact Nat.le_refl _
          · rw [eo (144 + w) (by omega) (by omega)]; exact tw w (by omega)⟩
        exact ⟨hKE, fun _ => ⟨hKE, by rw [e3, es, e7]⟩⟩
      · have e : woE T = T := if_pos hb
        rw [e]
        exact ⟨hKT, fun z => absurd z hb⟩
    exact tail (by rw [eB]; exact hE.1) (by rw [eB]; exact hE.2)
  · refine easy ?_
    have hm := hL.1.2.2.2.2.1
    unfold lnB
    split
    · exact chC_ag Z false R hL.2.1.2 hm.2.2
    · split
      · exact chC_ag Z true R hL.2.1.2 hm.2.2
      · split
        · exact laR_ag Z R hL.2.2.2.2 (fun z => ((bgn_gs hL.1 hk).2 z).2)
        · split
          · exact agr.ns (rnx R) (by decide)
          · split
            · exact agr.ns (rnx R) (by decide)
            · exact agr.of (rbl_K _ _ _)
