/-! ===== what a hall's text leaves: numbers in their bounds, words' steps ===== -/
/-- what place i may hold -/
def vbP (i : Nat) (v : Int32) : Prop :=
  (i = 5 ∨ (9 ≤ i ∧ i < 93) ∨ (109 ≤ i ∧ i < 119) ∨ (120 ≤ i ∧ i < 144) → ∃ d, d ≤ 9 ∧ v = nI d) ∧ (i = 6 → ∃ d, 1 ≤ d ∧ d ≤ 6 ∧ v = nI d) ∧ (i = 8 ∨ i = 94 ∨ i = 95 ∨ (103 ≤ i ∧ i < 109) → v = 0) ∧ (97 ≤ i ∧ i < 103 → v = -1)
def VB (K : Nat → Int32) : Prop := ∀ i, vbP i (K i)
theorem VB.st {K : Nat → Int32} (h : VB K) {j : Nat} {v : Int32} (hv : vbP j v) : VB (uK K j v) := fun i => by
  by_cases e : i = j
  · rw [e, uK_s]; exact hv
  · rw [uK_n _ _ e]; exact h i
theorem vbP.no {j : Nat} (v : Int32) (h : j < 5 ∨ j = 7 ∨ j = 93 ∨ j = 96 ∨ j = 119 ∨ 144 ≤ j) : vbP j v := ⟨fun z => by omega, fun z => by omega, fun z => by omega, fun z => by omega⟩
theorem vbP.dg {j d : Nat} (hd : d ≤ 9) (h : j = 5 ∨ (9 ≤ j ∧ j < 93) ∨ (109 ≤ j ∧ j < 119) ∨ (120 ≤ j ∧ j < 144)) : vbP j (nI d) := ⟨fun _ => ⟨d, hd, rfl⟩, fun z => by omega, fun z => by omega, fun z => by omega⟩
theorem vbP.pp {d : Nat} (h1 : 1 ≤ d) (hd : d ≤ 6) : vbP 6 (nI d) := ⟨fun z => by omega, fun _ => ⟨d, h1, hd, rfl⟩, fun z => by omega, fun z => by omega⟩
/-- chests in the hall and sound words, as bits -/
def MKs (K : Nat → Int32) : Prop := (K 93 = nI (kn K 93) ∧ kn K 93 < 2 ^ kn K 2) ∧ K 119 = nI (kn K 119) ∧ kn K 119 < 2 ^ kn K 3
theorem MKs.cg {K K' : Nat → Int32} (h : MKs K) (e93 : K' 93 = K 93) (e2 : K' 2 = K 2) (e119 : K' 119 = K 119) (e3 : K' 3 = K 3) : MKs K' := by
  unfold MKs
  rw [kn_cg e93, kn_cg e2, kn_cg e119, kn_cg e3, e93, e119]
  exact h
/-- steps and where words start -/
def SVs (K : Nat → Int32) : Prop :=
  (∀ k, k < kn K 7 → K (1155 + k) = nI (kn K (1155 + k)) ∧ stp (kn K 1) (kn K (1155 + k))) ∧ (∀ j, 1155 + kn K 7 ≤ j → j < 2120 → K j = 0) ∧
  (∀ w, w ≤ kn K 3 → K (144 + w) = nI (kn K (144 + w))) ∧
  ∀ w, w < kn K 3 → kn K (144 + w) ≤ kn K (144 + w + 1) ∧ kn K (144 + w + 1) ≤ kn K 7 ∧ chk K (kn K 1) (kn K (144 + w + 1) - kn K (144 + w)) (kn K (144 + w)) [] = some [true]
theorem SVs.cg {K K' : Nat → Int32} (h : SVs K) (h3 : kn K 3 ≤ 10) (e : ∀ i, i = 1 ∨ i = 3 ∨ i = 7 ∨ (144 ≤ i ∧ i < 155) ∨ 1155 ≤ i → K' i = K i) : SVs K' := by
  have n1 := kn_cg (e 1 (by omega))
  have n3 := kn_cg (e 3 (by omega))
  have n7 := kn_cg (e 7 (by omega))
  obtain ⟨a1, a2, a3, a4⟩ := h
  refine ⟨fun k hk => ?_, fun j hj h2 => ?_, fun w hw => ?_, fun w hw => ?_⟩
  · rw [n7] at hk
    rw [kn_cg (e (1155 + k) (by omega)), e (1155 + k) (by omega), n1]
    exact a1 k hk
  · rw [n7] at hj
    rw [e j (by omega)]
    exact a2 j hj h2
  · rw [n3] at hw
    rw [kn_cg (e (144 + w) (by omega)), e (144 + w) (by omega)]
    exact a3 w hw
  · rw [n3] at hw
    rw [n1, n7, kn_cg (e (144 + w) (by omega)), kn_cg (e (144 + w + 1) (by omega)), chk_cg (K := K) _ _ _ (fun j _ _ => e _ (by omega))]
    exact a4 w hw
def HV (K : Nat → Int32) : Prop := VB K ∧ MKs K ∧ SVs K
/-- places that only a chest's or a word's line writes -/
theorem HV.cg {K K' : Nat → Int32} (h : HV K) (h3 : kn K 3 ≤ 10) (hv : VB K') (e : ∀ i, i = 1 ∨ i = 2 ∨ i = 3 ∨ i = 7 ∨ i = 93 ∨ i = 119 ∨ (144 ≤ i ∧ i < 155) ∨ 1155 ≤ i → K' i = K i) : HV K' :=
  ⟨hv, h.2.1.cg (e 93 (by omega)) (e 2 (by omega)) (e 119 (by omega)) (e 3 (by omega)), h.2.2.cg h3 (fun i hi => e i (by omega))⟩
theorem stE_z {S : RSt} (h : (stE S).1 = 0) : S.1 = 0 ∧ (stE S).2.2.2 = uK S.2.2.2 0 (S.2.2.2 0 + 1) := by
  unfold stE at h ⊢
  by_cases z : S.1 = 0
  · rw [if_neg (Decidable.not_not.mpr z)]
    exact ⟨z, rfl⟩
  · rw [if_pos z] at h
    exact absurd h z
theorem sto_z {Z : (Nat → Nat) × Nat} {S : RSt} (h : (sto Z S).1 = 0) : S.1 = 0 ∧ (sto Z S).2.2.2 = uK S.2.2.2 0 (S.2.2.2 0 + 1) := by
  unfold sto at h ⊢
  obtain ⟨a, b⟩ := stE_z h
  exact ⟨rmu_z a, by rw [b, rmu_K]⟩
theorem bgn_z {Z : (Nat → Nat) × Nat} {i most : Nat} {R : RSt} (h : (bgn Z i most R).1 = 0) : kn R.2.2.2 i ≠ most := by
  unfold bgn at h
  rw [rgo_1] at h
  intro e
  rw [if_pos e] at h
  exact absurd h (rbl_p (by omega) R)
theorem chL_VB {Z : (Nat → Nat) × Nat} {c : Nat} (hc : c < 14) : ∀ r m R, VB R.2.2.2 → m + r ≤ 6 → VB (chL Z c r m R).2.2.2 := by
  intro r
  induction r with
  | zero => intro m R h _; exact h
  | succ r ih =>
    intro m R h hm
    rw [chL]
    refine ih (m + 1) _ ?_ (by omega)
    show VB (uK (rnu Z 0 9 R).2.2.2 (9 + 6 * c + m) (nI (rnv Z 0 9 R)))
    rw [rnu_K]
    exact h.st (vbP.dg (rnv_rng (Z := Z) (lo := 0) (hi := 9) (R := R) (by omega)).2 (by omega))
theorem orb_1 {a c : Nat} (h : a < 2 ^ c) : a ||| 2 ^ c < 2 ^ (c + 1) := Nat.or_lt_two_pow (Nat.lt_of_lt_of_le h (Nat.pow_le_pow_right (by omega) (by omega))) (Nat.pow_lt_pow_right (by omega) (by omega))
theorem chC_HV {Z : (Nat → Nat) × Nat} {sp : Bool} {R : RSt} (h : HV R.2.2.2) (hL : LV Z R) (h0 : (chC Z sp R).1 = 0) : HV (chC Z sp R).2.2.2 := by
  have hb := bgn_K Z 2 14 R
  have h2 := hL.2.1
  have h3 := hL.2.2.1
  have h1 := hL.1.2.2.2.2.1
  unfold chC at h0 ⊢
  by_cases hz : (bgn Z 2 14 R).1 = 0
  · rw [if_neg (Decidable.not_not.mpr hz)] at h0 ⊢
    have h14 := bgn_z hz
    rw [hb] at h0 ⊢
    have hv := chL_VB (Z := Z) (c := kn R.2.2.2 2) (by omega) (kn R.2.2.2 1) 0 (bgn Z 2 14 R) (by rw [hb]; exact h.1) (by omega)
    have ho := fun i => chL_o (Z := Z) (c := kn R.2.2.2 2) (i := i) (kn R.2.2.2 1) 0 (bgn Z 2 14 R)
    generalize chL Z (kn R.2.2.2 2) (kn R.2.2.2 1) 0 (bgn Z 2 14 R) = T at h0 hv ho ⊢
    rw [hb] at ho
    have e2 : kn (uK T.2.2.2 2 (T.2.2.2 2 + 1)) 2 = kn R.2.2.2 2 + 1 := by rw [kn, uK_s, ho 2 (by omega), h2.1, nI_1, nI_clamp (by omega)]
    unfold chE at h0 ⊢
    by_cases ht : T.1 = 0
    · rw [if_neg (Decidable.not_not.mpr ht)] at h0 ⊢
      cases sp with
      | true =>
        show HV (uK T.2.2.2 2 (T.2.2.2 2 + 1))
        have o : ∀ i, i ≠ 2 → (i < 9 ∨ 93 ≤ i) → uK T.2.2.2 2 (T.2.2.2 2 + 1) i = R.2.2.2 i := fun i a b => by rw [uK_n _ _ a]; exact ho i (by omega)
        refine ⟨hv.st (vbP.no _ (by omega)), ?_, h.2.2.cg h3.2 (fun i hi => o i (by omega) (by omega))⟩
        unfold MKs
        rw [e2, kn_cg (o 93 (by omega) (by omega)), o 93 (by omega) (by omega), kn_cg (o 119 (by omega) (by omega)), o 119 (by omega) (by omega), kn_cg (o 3 (by omega) (by omega))]
        exact ⟨⟨h.2.1.1.1, Nat.lt_of_lt_of_le h.2.1.1.2 (Nat.pow_le_pow_right (by omega) (by omega))⟩, h.2.1.2⟩
      | false =>
        show HV (uK (uK T.2.2.2 93 (T.2.2.2 93 ||| nI (2 ^ kn R.2.2.2 2))) 2 (uK T.2.2.2 93 (T.2.2.2 93 ||| nI (2 ^ kn R.2.2.2 2)) 2 + 1))
        have o : ∀ i, i ≠ 2 → i ≠ 93 → (i < 9 ∨ 93 ≤ i) → uK (uK T.2.2.2 93 (T.2.2.2 93 ||| nI (2 ^ kn R.2.2.2 2))) 2 (uK T.2.2.2 93 (T.2.2.2 93 ||| nI (2 ^ kn R.2.2.2 2)) 2 + 1) i = R.2.2.2 i := fun i a b c => by rw [uK_n _ _ a, uK_n _ _ b]; exact ho i (by omega)
        have e2' : kn (uK (uK T.2.2.2 93 (T.2.2.2 93 ||| nI (2 ^ kn R.2.2.2 2))) 2 (uK T.2.2.2 93 (T.2.2.2 93 ||| nI (2 ^ kn R.2.2.2 2)) 2 + 1)) 2 = kn R.2.2.2 2 + 1 := by rw [kn, uK_s, uK_n _ _ (by omega), ho 2 (by omega), h2.1, nI_1, nI_clamp (by omega)]
        have hor := orb_1 h.2.1.1.2
        have h16 : 2 ^ (kn R.2.2.2 2 + 1) ≤ 2 ^ 14 := Nat.pow_le_pow_right (by omega) (by omega)
        have e93 : uK (uK T.2.2.2 93 (T.2.2.2 93 ||| nI (2 ^ kn R.2.2.2 2))) 2 (uK T.2.2.2 93 (T.2.2.2 93 ||| nI (2 ^ kn R.2.2.2 2)) 2 + 1) 93 = nI (kn R.2.2.2 93 ||| 2 ^ kn R.2.2.2 2) := by rw [uK_n _ _ (by omega), uK_s, ho 93 (by omega), h.2.1.1.1, nIor]
        refine ⟨(hv.st (vbP.no _ (by omega))).st (vbP.no _ (by omega)), ?_, h.2.2.cg h3.2 (fun i hi => o i (by omega) (by omega) (by omega))⟩
        unfold MKs
        rw [e2', kn_n e93 (Nat.lt_of_lt_of_le hor (Nat.le_trans h16 (by decide))), e93, kn_cg (o 119 (by omega) (by omega) (by omega)), o 119 (by omega) (by omega) (by omega), kn_cg (o 3 (by omega) (by omega) (by omega))]
        exact ⟨⟨rfl, hor⟩, h.2.1.2⟩
    · rw [if_pos ht] at h0
      exact absurd h0 ht
  · rw [if_pos hz] at h0
    exact absurd h0 hz
theorem nst_VB {Z : (Nat → Nat) × Nat} {lo hi j : Nat} {S : RSt} (h : VB S.2.2.2) (hv : ∀ v, lo ≤ v → v ≤ hi → vbP j (nI v)) (hl : lo ≤ hi) : VB (nst Z lo hi j S).2.2.2 := by
  show VB (uK (rnu Z lo hi S).2.2.2 j (nI (rnv Z lo hi S)))
  rw [rnu_K]
  have r := rnv_rng (Z := Z) (R := S) hl
  exact h.st (hv _ r.1 r.2)
theorem nst_o {Z : (Nat → Nat) × Nat} {lo hi j : Nat} {S : RSt} {i : Nat} (h : i ≠ j) : (nst Z lo hi j S).2.2.2 i = S.2.2.2 i := by
  show uK (rnu Z lo hi S).2.2.2 j (nI (rnv Z lo hi S)) i = _
  rw [uK_n _ _ h, rnu_K]
theorem laR_HV {Z : (Nat → Nat) × Nat} {R : RSt} (h : HV R.2.2.2) (hL : LV Z R) (h0 : (laR Z R).1 = 0) : HV (laR Z R).2.2.2 := by
  have hb := bgn_K Z 4 8 R
  have h3 := hL.2.2.1
  have h4 := hL.2.2.2
  have h1 := hL.1.2.2.2.2.1
  unfold laR at h0 ⊢
  by_cases hz : (bgn Z 4 8 R).1 = 0
  · rw [if_neg (Decidable.not_not.mpr hz)] at h0 ⊢
    have h8 := bgn_z hz
    rw [hb] at h0 ⊢
    unfold laB at h0 ⊢
    generalize ha : 120 + 3 * kn R.2.2.2 4 = a at h0 ⊢
    rw [hb] at h0 ⊢
    have v1 : VB (nst Z 0 (kn R.2.2.2 1 - 1) a (bgn Z 4 8 R)).2.2.2 := nst_VB (by rw [hb]; exact h.1) (fun v _ q => vbP.dg (by omega) (by omega)) (by omega)
    have o1 : ∀ i, i ≠ a → (nst Z 0 (kn R.2.2.2 1 - 1) a (bgn Z 4 8 R)).2.2.2 i = R.2.2.2 i := fun i q => by rw [nst_o q, hb]
    generalize nst Z 0 (kn R.2.2.2 1 - 1) a (bgn Z 4 8 R) = S1 at h0 v1 o1 ⊢
    have v2 : VB (nst Z 0 9 (a + 1) S1).2.2.2 := nst_VB v1 (fun v _ q => vbP.dg q (by omega)) (by omega)
    have o2 : ∀ i, i ≠ a → i ≠ a + 1 → (nst Z 0 9 (a + 1) S1).2.2.2 i = R.2.2.2 i := fun i p q => by rw [nst_o q, o1 i p]
    generalize nst Z 0 9 (a + 1) S1 = S2 at h0 v2 o2 ⊢
    have v3 : VB (nst Z 0 9 (a + 2) S2).2.2.2 := nst_VB v2 (fun v _ q => vbP.dg q (by omega)) (by omega)
    have o3 : ∀ i, i < a ∨ a + 2 < i → (nst Z 0 9 (a + 2) S2).2.2.2 i = R.2.2.2 i := fun i p => by rw [nst_o (by omega), o2 i (by omega) (by omega)]
    generalize nst Z 0 9 (a + 2) S2 = S3 at h0 v3 o3 ⊢
    unfold laE at h0 ⊢
    by_cases ht : S3.1 = 0
    · rw [if_neg (Decidable.not_not.mpr ht)] at h0 ⊢
      show HV (uK S3.2.2.2 4 (S3.2.2.2 4 + 1))
      exact h.cg h3.2 (v3.st (vbP.no _ (by omega))) (fun i hi => by rw [uK_n _ _ (by omega)]; exact o3 i (by omega))
    · rw [if_pos ht] at h0
      exact absurd h0 ht
  · rw [if_pos hz] at h0
    exact absurd h0 hz
/-- a word up to its truth -/
theorem woX_HV {Z : (Nat → Nat) × Nat} {R : RSt} (h : HV R.2.2.2) (hL : LV Z R) (h0 : (woX Z R).1 = 0) : kn R.2.2.2 3 < 10 ∧ VB (woX Z R).2.2.2 ∧ ((woX Z R).2.2.2 119 = nI (kn (woX Z R).2.2.2 119) ∧ kn (woX Z R).2.2.2 119 < 2 ^ (kn R.2.2.2 3 + 1)) ∧ ∀ i, i = 1 ∨ i = 2 ∨ i = 3 ∨ i = 7 ∨ i = 93 ∨ (144 ≤ i ∧ i < 155) ∨ 1155 ≤ i → (woX Z R).2.2.2 i = R.2.2.2 i := by
  have h3 := hL.2.2.1
  unfold woX at h0 ⊢
  by_cases h10 : kn R.2.2.2 3 = 10
  · rw [if_pos h10] at h0
    exact absurd h0 (rbl_p (by omega) R)
  · rw [if_neg h10] at h0 ⊢
    have hw : kn R.2.2.2 3 < 10 := by omega
    refine ⟨hw, ?_⟩
    have hm := h.2.1.2
    unfold woH at h0 ⊢
    show VB (rmu Z 18 (woC Z (kn R.2.2.2 3) (woS Z (kn R.2.2.2 3) (rnx R)))).2.2.2 ∧ ((rmu Z 18 (woC Z (kn R.2.2.2 3) (woS Z (kn R.2.2.2 3) (rnx R)))).2.2.2 119 = nI (kn (rmu Z 18 (woC Z (kn R.2.2.2 3) (woS Z (kn R.2.2.2 3) (rnx R)))).2.2.2 119) ∧ kn (rmu Z 18 (woC Z (kn R.2.2.2 3) (woS Z (kn R.2.2.2 3) (rnx R)))).2.2.2 119 < 2 ^ (kn R.2.2.2 3 + 1)) ∧ ∀ i, i = 1 ∨ i = 2 ∨ i = 3 ∨ i = 7 ∨ i = 93 ∨ (144 ≤ i ∧ i < 155) ∨ 1155 ≤ i → (rmu Z 18 (woC Z (kn R.2.2.2 3) (woS Z (kn R.2.2.2 3) (rnx R)))).2.2.2 i = R.2.2.2 i
    rw [rmu_K]
    generalize kn R.2.2.2 3 = w at hw hm ⊢
    have hor := orb_1 hm.2
    have h16 : 2 ^ (w + 1) ≤ 2 ^ 10 := Nat.pow_le_pow_right (by omega) (by omega)
    have hlt : 2 ^ w ≤ 2 ^ (w + 1) := Nat.pow_le_pow_right (by omega) (by omega)
    have s : VB (woS Z w (rnx R)).2.2.2 ∧ ((woS Z w (rnx R)).2.2.2 119 = nI (kn (woS Z w (rnx R)).2.2.2 119) ∧ kn (woS Z w (rnx R)).2.2.2 119 < 2 ^ (w + 1)) ∧ ∀ i, i ≠ 119 → (woS Z w (rnx R)).2.2.2 i = R.2.2.2 i := by
      unfold woS
      by_cases q : rIs Z 4 (rnx R)
      · rw [if_pos q]
        show VB (uK R.2.2.2 119 (R.2.2.2 119 ||| nI (2 ^ w))) ∧ (uK R.2.2.2 119 (R.2.2.2 119 ||| nI (2 ^ w)) 119 = nI (kn (uK R.2.2.2 119 (R.2.2.2 119 ||| nI (2 ^ w))) 119) ∧ kn (uK R.2.2.2 119 (R.2.2.2 119 ||| nI (2 ^ w))) 119 < 2 ^ (w + 1)) ∧ ∀ i, i ≠ 119 → uK R.2.2.2 119 (R.2.2.2 119 ||| nI (2 ^ w)) i = R.2.2.2 i
        have e : uK R.2.2.2 119 (R.2.2.2 119 ||| nI (2 ^ w)) 119 = nI (kn R.2.2.2 119 ||| 2 ^ w) := by rw [uK_s, hm.1, nIor]
        rw [kn_n e (Nat.lt_of_lt_of_le hor (Nat.le_trans h16 (by decide))), e]
        exact ⟨h.1.st (vbP.no _ (by omega)), ⟨rfl, hor⟩, fun i hi => uK_n _ _ hi⟩
      · rw [if_neg q]
        exact ⟨h.1, ⟨hm.1, Nat.lt_of_lt_of_le hm.2 hlt⟩, fun _ _ => rfl⟩
    generalize woS Z w (rnx R) = S at s ⊢
    obtain ⟨s1, s2, s3⟩ := s
    have c : VB (woC Z w S).2.2.2 ∧ ∀ i, i ≠ 109 + w → (woC Z w S).2.2.2 i = S.2.2.2 i := by
      unfold woC
      by_cases q : rIs Z 5 S
      · rw [if_pos q]
        refine ⟨nst_VB (S := rnx S) s1 (fun v _ q => vbP.dg q (by omega)) (by omega), fun i hi => ?_⟩
        exact nst_o (S := rnx S) hi
      · rw [if_neg q]
        exact ⟨s1.st (vbP.dg (d := 1) (by omega) (by omega)), fun i hi => uK_n _ _ hi⟩
    obtain ⟨c1, c2⟩ := c
    refine ⟨c1, ?_, fun i hi => (c2 i (by omega)).trans (s3 i (by omega))⟩
    rw [kn_cg (c2 119 (by omega)), c2 119 (by omega)]
    exact s2
theorem woR_HV {Z : (Nat → Nat) × Nat} {R : RSt} (h : HV R.2.2.2) (hL : LV Z R) (hJ : LJ R) (h1 : R.1 = 0) (hk : kd Z R.2.2.1 ≠ 32) (h0 : (woR Z R).1 = 0) : HV (woR Z R).2.2.2 := by
  rw [woR_X hL h1 hk] at h0 ⊢
  have hX : LV Z (woX Z R) := by
    unfold woX
    split
    · exact (lr.gs hL (gs.bl hL.1 (by omega))).1
    · exact (woH_lr (lr.gs hL (gs.nx hL.1 hk)).1).1
  have hz : (tru Z (unt Z 6) (woX Z R)).1 = 0 := Decidable.byContradiction (fun z => by
    unfold woE at h0
    rw [if_pos z] at h0
    exact z h0)
  have hs := tru_sk (unt_sk Z 6)
  obtain ⟨x3, xv, xm, xo⟩ := woX_HV h hL (hs.z hX.1 hz)
  obtain ⟨k1, k2, k3, k4⟩ := hs.2 _ hX.1 hz [] (by decide)
  have hT := (hs.1 _ hX.1).1.1
  generalize woX Z R = S at xv xm xo k1 k2 k3 k4 hz hT h0 hX ⊢
  generalize tru Z (unt Z 6) S = T at k1 k2 k3 k4 hz hT h0 ⊢
  have h7 := hT.2.2.1
  have h79 := IV.k7 hT
  have w3 := hL.2.2.1
  have e7 : kn S.2.2.2 7 = kn R.2.2.2 7 := kn_cg (xo 7 (by omega))
  have e1 : kn S.2.2.2 1 = kn R.2.2.2 1 := kn_cg (xo 1 (by omega))
  have oT : ∀ i, i = 1 ∨ i = 2 ∨ i = 3 ∨ i = 93 ∨ (144 ≤ i ∧ i < 155) ∨ (1155 ≤ i ∧ i < 1155 + kn R.2.2.2 7) → T.2.2.2 i = R.2.2.2 i := fun i hi => (k2 i (by omega) (by omega)).trans (xo i (by omega))
  have eE : (woE T).2.2.2 = uK (uK T.2.2.2 3 (T.2.2.2 3 + 1)) (144 + (kn T.2.2.2 3 + 1)) (T.2.2.2 7) := by
    unfold woE
    rw [if_neg (Decidable.not_not.mpr hz)]
    rfl
  have t3 : kn T.2.2.2 3 = kn R.2.2.2 3 := kn_cg (oT 3 (by omega))
  have s3 := (oT 3 (by omega)).trans w3.1
  rw [eE, t3]
  have hLJ := hJ.2
  obtain ⟨g1, g2, g3, g4⟩ := h.2.2
  obtain ⟨w, hw⟩ : ∃ w, kn R.2.2.2 3 = w := ⟨_, rfl⟩
  rw [hw] at x3 xm t3 g3 g4 hLJ w3 s3 ⊢
  have o : ∀ i, i ≠ 3 → i ≠ 144 + (w + 1) → uK (uK T.2.2.2 3 (T.2.2.2 3 + 1)) (144 + (w + 1)) (T.2.2.2 7) i = T.2.2.2 i := fun i a b => by rw [uK_n _ _ b, uK_n _ _ a]
  have n3 : kn (uK (uK T.2.2.2 3 (T.2.2.2 3 + 1)) (144 + (w + 1)) (T.2.2.2 7)) 3 = w + 1 := by rw [kn, uK_n _ _ (by omega), uK_s, s3, nI_1, nI_clamp (by omega)]
  have nw : uK (uK T.2.2.2 3 (T.2.2.2 3 + 1)) (144 + (w + 1)) (T.2.2.2 7) (144 + (w + 1)) = nI (kn T.2.2.2 7) := by rw [uK_s]; exact h7
  have v : VB (uK (uK T.2.2.2 3 (T.2.2.2 3 + 1)) (144 + (w + 1)) (T.2.2.2 7)) := by
    refine VB.st (VB.st (fun i => ?_) (vbP.no _ (by omega))) (vbP.no _ (by omega))
    by_cases hi : i = 7 ∨ 1155 ≤ i
    · exact vbP.no _ (by omega)
    · rw [k2 i (by omega) (by omega)]
      exact xv i
  generalize uK (uK T.2.2.2 3 (T.2.2.2 3 + 1)) (144 + (w + 1)) (T.2.2.2 7) = K' at o n3 nw v ⊢
  have n7 : kn K' 7 = kn T.2.2.2 7 := kn_cg (o 7 (by omega) (by omega))
  have n1 : kn K' 1 = kn R.2.2.2 1 := kn_cg ((o 1 (by omega) (by omega)).trans (oT 1 (by omega)))
  have nwk : kn K' (144 + (w + 1)) = kn T.2.2.2 7 := kn_n nw (by omega)
  have ns : ∀ d, d ≤ w → K' (144 + d) = R.2.2.2 (144 + d) := fun d hd => (o _ (by omega) (by omega)).trans (oT _ (by omega))
  have nk : ∀ k, k < kn R.2.2.2 7 → K' (1155 + k) = R.2.2.2 (1155 + k) := fun k hk => (o _ (by omega) (by omega)).trans (oT _ (by omega))
  refine ⟨v, ?_, fun k hq => ?_, fun j hj h2 => ?_, fun d hd => ?_, fun d hd => ?_⟩
  · unfold MKs
    have e93 := (o 93 (by omega) (by omega)).trans (oT 93 (by omega))
    have e2 := (o 2 (by omega) (by omega)).trans (oT 2 (by omega))
    have e119 := (o 119 (by omega) (by omega)).trans (k2 119 (by omega) (by omega))
    rw [n3, kn_cg e93, kn_cg e2, kn_cg e119, e93, e119]
    exact ⟨h.2.1.1, xm⟩
  · rw [n7] at hq
    have e := o (1155 + k) (by omega) (by omega)
    rw [kn_cg e, e, n1]
    by_cases hk : k < kn R.2.2.2 7
    · have e' := oT (1155 + k) (by omega)
      rw [kn_cg e', e']
      exact g1 k hk
    · rw [← e1]
      exact k3 k (by omega) hq
  · rw [n7] at hj
    rw [o j (by omega) (by omega), k2 j (by omega) (Or.inr hj), xo j (by omega)]
    exact g2 j (by omega) h2
  · rw [n3] at hd
    by_cases e : d = w + 1
    · rw [e, nwk, nw]
    · rw [kn_cg (ns d (by omega)), ns d (by omega)]
      exact g3 d (by omega)
  · rw [n3] at hd
    rw [n1, n7]
    by_cases e : d = w
    · subst e
      rw [Nat.add_assoc, nwk, kn_cg (ns d (by omega)), hLJ, chk_cg (K := T.2.2.2) _ _ _ (fun j _ _ => o _ (by omega) (by omega))]
      refine ⟨by omega, Nat.le_refl _, ?_⟩
      rw [e7, e1] at k4
      exact k4
    · obtain ⟨q1, q2, q3⟩ := g4 d (by omega)
      rw [Nat.add_assoc] at q1 q2 q3
      rw [kn_cg (ns d (by omega)), Nat.add_assoc, kn_cg (ns (d + 1) (by omega)), chk_cg (K := R.2.2.2) _ _ _ (fun j _ hj => nk j (by omega))]
      exact ⟨q1, by omega, q3⟩
theorem lin_HV {Z : (Nat → Nat) × Nat} {R : RSt} (h : HV R.2.2.2) (hL : LV Z R) (hJ : LJ R) (h1 : R.1 = 0) (hk : kd Z R.2.2.1 ≠ 32) (h0 : (lin Z R).1 = 0) : HV (lin Z R).2.2.2 := by
  have h3 := hL.2.2.1.2
  unfold lin at h0 ⊢
  obtain ⟨hz, he⟩ := sto_z h0
  have tail : HV (lnB Z R).2.2.2 → HV (sto Z (lnB Z R)).2.2.2 := fun q => by
    rw [he]
    exact q.cg (lnB_lr hL).1.2.2.1.2 (q.1.st (vbP.no _ (by omega))) (fun i hi => uK_n _ _ (by omega))
  refine tail ?_
  clear tail he h0
  unfold lnB at hz ⊢
  by_cases q1 : kd Z R.2.2.1 = 1
  · rw [if_pos q1] at hz ⊢
    exact chC_HV h hL hz
  · rw [if_neg q1] at hz ⊢
    by_cases q2 : kd Z R.2.2.1 = 2
    · rw [if_pos q2] at hz ⊢
      exact chC_HV h hL hz
    · rw [if_neg q2] at hz ⊢
      by_cases q3 : kd Z R.2.2.1 = 3
      · rw [if_pos q3] at hz ⊢
        exact woR_HV h hL hJ h1 hk hz
      · rw [if_neg q3] at hz ⊢
        by_cases q6 : kd Z R.2.2.1 = 6
        · rw [if_pos q6] at hz ⊢
          exact laR_HV h hL hz
        · rw [if_neg q6] at hz ⊢
          by_cases q7 : kd Z R.2.2.1 = 7
          · rw [if_pos q7] at hz ⊢
            exact h.cg h3 (nst_VB (S := rnx R) h.1 (fun v _ q => vbP.dg q (by omega)) (by omega)) (fun i hi => nst_o (S := rnx R) (by omega))
          · rw [if_neg q7] at hz ⊢
            by_cases q8 : kd Z R.2.2.1 = 8
            · rw [if_pos q8] at hz ⊢
              exact h.cg h3 (nst_VB (S := rnx R) h.1 (fun v p q => vbP.pp p q) (by omega)) (fun i hi => nst_o (S := rnx R) (by omega))
            · rw [if_neg q8] at hz
              exact absurd hz (rbl_p (by omega) R)
theorem itr_HV {Z : (Nat → Nat) × Nat} : ∀ k R, LV Z R → (R.1 = 0 → LJ R ∧ HV R.2.2.2) → (itr (liB Z) (lin Z) k R).1 = 0 → LJ (itr (liB Z) (lin Z) k R) ∧ HV (itr (liB Z) (lin Z) k R).2.2.2 := by
  intro k
  induction k with
  | zero => intro R _ h h0; exact h h0
  | succ k ih =>
    intro R hL h h0
    rw [itr] at h0 ⊢
    by_cases hc : liB Z R = true
    · rw [if_pos hc] at h0 ⊢
      obtain ⟨c1, c2⟩ := liB_t.mp hc
      obtain ⟨hJ, hH⟩ := h c1
      exact ih _ (lin_lr hL).1.1 (fun z => ⟨(lin_LJ hL hJ c1 c2).2 z, lin_HV hH hL hJ c1 c2 z⟩) h0
    · rw [if_neg hc] at h0 ⊢
      exact h h0
theorem bgK_HV (K : Nat → Int32) {v : Nat} : HV (uK (bgK K) 1 (nI v)) := by
  have z := fun (j : Nat) (hj : j < 2120) (h : ¬ (j = 1 ∨ j = 5 ∨ j = 6 ∨ (96 ≤ j ∧ j < 103))) => bgK_z K hj h
  have o : ∀ i, i ≠ 1 → uK (bgK K) 1 (nI v) i = bgK K i := fun i hi => uK_n _ _ hi
  have n : ∀ i, i ≠ 1 → kn (uK (bgK K) 1 (nI v)) i = kn (bgK K) i := fun i hi => kn_cg (o i hi)
  refine ⟨fun i => ?_, ?_, ?_, ?_, ?_, ?_⟩
  · by_cases h0 : i = 1
    · rw [h0]; exact vbP.no _ (by omega)
    · rw [o i h0]
      by_cases hb : 144 ≤ i
      · exact vbP.no _ (by omega)
      · by_cases h5 : i = 5 ∨ i = 6
        · rw [(bgK_k (K := K) (j := i) (v := 2) (by omega) (by unfold iniK; rw [if_neg h0, if_pos h5]; rfl) (by decide)).1]
          rcases h5 with e | e
          · subst e; exact vbP.dg (by omega) (by omega)
          · subst e; exact vbP.pp (by omega) (by omega)
        · by_cases h9 : 96 ≤ i ∧ i < 103
          · have e : bgK K i = -1 := by
              unfold bgK iniK
              rw [if_pos (by omega), if_neg h0, if_neg h5, if_pos h9]
            rw [e]
            exact ⟨fun q => by omega, fun q => by omega, fun q => by omega, fun _ => rfl⟩
          · rw [(z i (by omega) (by omega)).1]
            exact ⟨fun _ => ⟨0, by omega, rfl⟩, fun q => by omega, fun _ => rfl, fun q => by omega⟩
  · unfold MKs
    rw [n 93 (by omega), n 2 (by omega), n 119 (by omega), n 3 (by omega), o 93 (by omega), o 119 (by omega), (z 93 (by omega) (by omega)).1, (z 93 (by omega) (by omega)).2, (z 2 (by omega) (by omega)).2, (z 119 (by omega) (by omega)).1, (z 119 (by omega) (by omega)).2, (z 3 (by omega) (by omega)).2]
    exact ⟨⟨rfl, by decide⟩, rfl, by decide⟩
  · intro k hk
    rw [n 7 (by omega), (z 7 (by omega) (by omega)).2] at hk
    exact absurd hk (Nat.not_lt_zero _)
  · intro j hj h2
    rw [n 7 (by omega), (z 7 (by omega) (by omega)).2] at hj
    rw [o j (by omega)]
    exact (z j h2 (by omega)).1
  · intro w hw
    rw [n 3 (by omega), (z 3 (by omega) (by omega)).2] at hw
    rw [n (144 + w) (by omega), o (144 + w) (by omega), (z (144 + w) (by omega) (by omega)).1, (z (144 + w) (by omega) (by omega)).2]
    rfl
  · intro w hw
    rw [n 3 (by omega), (z 3 (by omega) (by omega)).2] at hw
    exact absurd hw (Nat.not_lt_zero _)
theorem hlS_HV {Z : (Nat → Nat) × Nat} (h9 : Z.2 ≤ 900) (K : Nat → Int32) (h0 : (hlS Z K).1 = 0) : LJ (hlS Z K) ∧ HV (hlS Z K).2.2.2 := by
  obtain ⟨v1, v2, v3⟩ := hl1_lr h9 K
  have hJ := hl1_LJ h9 K
  unfold hlS at h0 ⊢
  refine itr_HV 901 (hl1 Z K) v3 (fun z => ⟨hJ, ?_⟩) h0
  have ha : HV (nst Z 1 6 1 (rmu Z 0 (0, 0, 0, bgK K))).2.2.2 := by
    show HV (uK (rnu Z 1 6 (rmu Z 0 (0, 0, 0, bgK K))).2.2.2 1 (nI (rnv Z 1 6 (rmu Z 0 (0, 0, 0, bgK K)))))
    rw [rnu_K, rmu_K]
    exact bgK_HV K
  have z' : (sto Z (nst Z 1 6 1 (rmu Z 0 (0, 0, 0, bgK K)))).1 = 0 := z
  show HV (sto Z (nst Z 1 6 1 (rmu Z 0 (0, 0, 0, bgK K)))).2.2.2
  rw [(sto_z z').2]
  exact ha.cg v2.2.2.1.2 (ha.1.st (vbP.no _ (by omega))) (fun i hi => uK_n _ _ (by omega))
