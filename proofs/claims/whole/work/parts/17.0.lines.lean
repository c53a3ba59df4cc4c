/-! ===== the lines of a hall ===== -/
def rst (R : RSt) (j : Nat) (v : Int32) : RSt := (R.1, R.2.1, R.2.2.1, uK R.2.2.2 j v)
def bgn (Z : (Nat → Nat) × Nat) (i most : Nat) (R : RSt) : RSt := rgo (if kn R.2.2.2 i = most then rbl Z 4 R else R)
def chL (Z : (Nat → Nat) × Nat) (c : Nat) : Nat → Nat → RSt → RSt
  | 0, _, R => R
  | r + 1, m, R => chL Z c r (m + 1) (rst (rnu Z 0 9 R) (9 + 6 * c + m) (nI (rnv Z 0 9 R)))
def chE (spare : Bool) (c : Nat) (R : RSt) : RSt :=
  if R.1 ≠ 0 then R else rst (if spare = true then R else rst R 93 (R.2.2.2 93 ||| nI (2 ^ c))) 2 (R.2.2.2 2 + 1)
def chC (Z : (Nat → Nat) × Nat) (spare : Bool) (R : RSt) : RSt :=
  if (bgn Z 2 14 R).1 ≠ 0 then bgn Z 2 14 R else chE spare (kn (bgn Z 2 14 R).2.2.2 2) (chL Z (kn (bgn Z 2 14 R).2.2.2 2) (kn (bgn Z 2 14 R).2.2.2 1) 0 (bgn Z 2 14 R))
def woS (Z : (Nat → Nat) × Nat) (w : Nat) (R : RSt) : RSt := if rIs Z 4 R then rst (rnx R) 119 (R.2.2.2 119 ||| nI (2 ^ w)) else R
def woC (Z : (Nat → Nat) × Nat) (w : Nat) (R : RSt) : RSt := if rIs Z 5 R then rst (rnu Z 1 9 (rnx R)) (109 + w) (nI (rnv Z 1 9 (rnx R))) else rst R (109 + w) 1
def woE (R : RSt) : RSt := if R.1 ≠ 0 then R else rst (rst R 3 (R.2.2.2 3 + 1)) (144 + (kn R.2.2.2 3 + 1)) (R.2.2.2 7)
/-- a word up to its truth -/
def woH (Z : (Nat → Nat) × Nat) (R : RSt) : RSt := rmu Z 18 (woC Z (kn R.2.2.2 3) (woS Z (kn R.2.2.2 3) R))
def woR (Z : (Nat → Nat) × Nat) (R : RSt) : RSt :=
  if (bgn Z 3 10 R).1 ≠ 0 then bgn Z 3 10 R else woE (tru Z (unt Z 6) (woH Z (bgn Z 3 10 R)))
def nst (Z : (Nat → Nat) × Nat) (lo hi j : Nat) (R : RSt) : RSt := rst (rnu Z lo hi R) j (nI (rnv Z lo hi R))
def laE (R : RSt) : RSt := if R.1 ≠ 0 then R else rst R 4 (R.2.2.2 4 + 1)
def laB (Z : (Nat → Nat) × Nat) (a : Nat) (R : RSt) : RSt := nst Z 0 9 (a + 2) (nst Z 0 9 (a + 1) (nst Z 0 (kn R.2.2.2 1 - 1) a R))
def laR (Z : (Nat → Nat) × Nat) (R : RSt) : RSt :=
  if (bgn Z 4 8 R).1 ≠ 0 then bgn Z 4 8 R else laE (laB Z (120 + 3 * kn (bgn Z 4 8 R).2.2.2 4) (bgn Z 4 8 R))
def stE (R : RSt) : RSt := if R.1 ≠ 0 then R else rst R 0 (R.2.2.2 0 + 1)
def sto (Z : (Nat → Nat) × Nat) (R : RSt) : RSt := stE (rmu Z 17 R)
def lnB (Z : (Nat → Nat) × Nat) (R : RSt) : RSt :=
  if kd Z R.2.2.1 = 1 then chC Z false R else if kd Z R.2.2.1 = 2 then chC Z true R else if kd Z R.2.2.1 = 3 then woR Z R else if kd Z R.2.2.1 = 6 then laR Z R
  else if kd Z R.2.2.1 = 7 then nst Z 0 9 5 (rnx R) else if kd Z R.2.2.1 = 8 then nst Z 1 6 6 (rnx R) else rbl Z 2 R
def lin (Z : (Nat → Nat) × Nat) (R : RSt) : RSt := sto Z (lnB Z R)
def liB (Z : (Nat → Nat) × Nat) (R : RSt) : Bool := decide (R.1 = 0 ∧ kd Z R.2.2.1 ≠ 32)
def iniK (j : Nat) : Int32 := if j = 1 then 1 else if j = 5 ∨ j = 6 then 2 else if 96 ≤ j ∧ j < 103 then -1 else 0
def hlR (Z : (Nat → Nat) × Nat) (p0 : Nat) (K0 : Nat → Int32) : RSt := itr (liB Z) (lin Z) 901 (sto Z (nst Z 1 6 1 (rmu Z 0 (0, p0, 0, K0))))
def LV (Z : (Nat → Nat) × Nat) (R : RSt) : Prop := IV Z R ∧ (R.2.2.2 2 = nI (kn R.2.2.2 2) ∧ kn R.2.2.2 2 ≤ 14) ∧ (R.2.2.2 3 = nI (kn R.2.2.2 3) ∧ kn R.2.2.2 3 ≤ 10) ∧ (R.2.2.2 4 = nI (kn R.2.2.2 4) ∧ kn R.2.2.2 4 ≤ 8)
def lr (Z : (Nat → Nat) × Nat) (R S : RSt) : Prop := LV Z S ∧ R.2.2.1 ≤ S.2.2.1
theorem lr.rf {Z : (Nat → Nat) × Nat} {R : RSt} (h : LV Z R) : lr Z R R := ⟨h, Nat.le_refl _⟩
theorem lr.tr {Z : (Nat → Nat) × Nat} {R S T : RSt} (h : lr Z R S) (g : lr Z S T) : lr Z R T := ⟨g.1, Nat.le_trans h.2 g.2⟩
theorem lr.gs {Z : (Nat → Nat) × Nat} {s : Nat} {R S : RSt} (h : LV Z R) (g : gs Z s R S) : lr Z R S := by
  obtain ⟨h1, h2, h3, h4⟩ := h
  obtain ⟨g1, g2, g3, g4⟩ := g
  have f : ∀ j, j ≠ 7 → j < 1155 → kn S.2.2.2 j = kn R.2.2.2 j := fun j a b => congrArg Int32.toNatClampNeg (g4 j a (by omega))
  refine ⟨⟨g1, ?_, ?_, ?_⟩, g2⟩
  · rw [g4 2 (by decide) (by omega), f 2 (by decide) (by decide)]; exact h2
  · rw [g4 3 (by decide) (by omega), f 3 (by decide) (by decide)]; exact h3
  · rw [g4 4 (by decide) (by omega), f 4 (by decide) (by decide)]; exact h4
theorem lr.st {Z : (Nat → Nat) × Nat} {R : RSt} (h : LV Z R) {j : Nat} (v : Int32) (hj : j = 0 ∨ (5 ≤ j ∧ j ≠ 7)) : lr Z R (rst R j v) := by
  obtain ⟨⟨a1, a2, a3, a4, a5, a6⟩, h2, h3, h4⟩ := h
  have e : ∀ i, i ≠ j → uK R.2.2.2 j v i = R.2.2.2 i := fun i hi => uK_n _ _ hi
  have f : ∀ i, i ≠ j → kn (uK R.2.2.2 j v) i = kn R.2.2.2 i := fun i hi => congrArg Int32.toNatClampNeg (e i hi)
  unfold lr LV IV rst
  refine ⟨⟨⟨a1, a2, ?_, ?_, ?_, a6⟩, ?_, ?_, ?_⟩, Nat.le_refl _⟩
  · show uK R.2.2.2 j v 7 = nI (kn (uK R.2.2.2 j v) 7)
    rw [e 7 (by omega), f 7 (by omega)]; exact a3
  · show kn (uK R.2.2.2 j v) 7 ≤ R.2.2.1
    rw [f 7 (by omega)]; exact a4
  · show uK R.2.2.2 j v 1 = nI (kn (uK R.2.2.2 j v) 1) ∧ 1 ≤ kn (uK R.2.2.2 j v) 1 ∧ kn (uK R.2.2.2 j v) 1 ≤ 6
    rw [e 1 (by omega), f 1 (by omega)]; exact a5
  · show uK R.2.2.2 j v 2 = nI (kn (uK R.2.2.2 j v) 2) ∧ kn (uK R.2.2.2 j v) 2 ≤ 14
    rw [e 2 (by omega), f 2 (by omega)]; exact h2
  · show uK R.2.2.2 j v 3 = nI (kn (uK R.2.2.2 j v) 3) ∧ kn (uK R.2.2.2 j v) 3 ≤ 10
    rw [e 3 (by omega), f 3 (by omega)]; exact h3
  · show uK R.2.2.2 j v 4 = nI (kn (uK R.2.2.2 j v) 4) ∧ kn (uK R.2.2.2 j v) 4 ≤ 8
    rw [e 4 (by omega), f 4 (by omega)]; exact h4
/-- one more chest, word, lamp -/
theorem lr.in {Z : (Nat → Nat) × Nat} {R : RSt} (h : LV Z R) {j : Nat} (hj : (j = 2 ∧ kn R.2.2.2 2 < 14) ∨ (j = 3 ∧ kn R.2.2.2 3 < 10) ∨ (j = 4 ∧ kn R.2.2.2 4 < 8)) : lr Z R (rst R j (R.2.2.2 j + 1)) ∧ kn (rst R j (R.2.2.2 j + 1)).2.2.2 j = kn R.2.2.2 j + 1 := by
  obtain ⟨⟨a1, a2, a3, a4, a5, a6⟩, h2, h3, h4⟩ := h
  have hv : R.2.2.2 j + 1 = nI (kn R.2.2.2 j + 1) := by
    rcases hj with ⟨rfl, _⟩ | ⟨rfl, _⟩ | ⟨rfl, _⟩
    · rw [h2.1, nI_1]
    · rw [h3.1, nI_1]
    · rw [h4.1, nI_1]
  rw [hv]
  have hs : kn (uK R.2.2.2 j (nI (kn R.2.2.2 j + 1))) j = kn R.2.2.2 j + 1 := kn_uK (by rcases hj with ⟨rfl, _⟩ | ⟨rfl, _⟩ | ⟨rfl, _⟩ <;> omega)
  generalize hx : nI (kn R.2.2.2 j + 1) = x at hs ⊢
  have hss : uK R.2.2.2 j x j = nI (kn R.2.2.2 j + 1) := (uK_s _ _ _).trans hx.symm
  have e : ∀ i, i ≠ j → uK R.2.2.2 j x i = R.2.2.2 i := fun i hi => uK_n _ _ hi
  have f : ∀ i, i ≠ j → kn (uK R.2.2.2 j x) i = kn R.2.2.2 i := fun i hi => congrArg Int32.toNatClampNeg (e i hi)
  unfold lr LV IV rst
  refine ⟨⟨⟨⟨a1, a2, ?_, ?_, ?_, a6⟩, ?_, ?_, ?_⟩, Nat.le_refl _⟩, hs⟩
  · show uK R.2.2.2 j x 7 = nI (kn (uK R.2.2.2 j x) 7)
    rw [e 7 (by omega), f 7 (by omega)]; exact a3
  · show kn (uK R.2.2.2 j x) 7 ≤ R.2.2.1
    rw [f 7 (by omega)]; exact a4
  · show uK R.2.2.2 j x 1 = nI (kn (uK R.2.2.2 j x) 1) ∧ 1 ≤ kn (uK R.2.2.2 j x) 1 ∧ kn (uK R.2.2.2 j x) 1 ≤ 6
    rw [e 1 (by omega), f 1 (by omega)]; exact a5
  · show uK R.2.2.2 j x 2 = nI (kn (uK R.2.2.2 j x) 2) ∧ kn (uK R.2.2.2 j x) 2 ≤ 14
    by_cases hj2 : j = 2
    · subst hj2; rw [hs, hss]; exact ⟨rfl, by omega⟩
    · rw [e 2 (by omega), f 2 (by omega)]; exact h2
  · show uK R.2.2.2 j x 3 = nI (kn (uK R.2.2.2 j x) 3) ∧ kn (uK R.2.2.2 j x) 3 ≤ 10
    by_cases hj2 : j = 3
    · subst hj2; rw [hs, hss]; exact ⟨rfl, by omega⟩
    · rw [e 3 (by omega), f 3 (by omega)]; exact h3
  · show uK R.2.2.2 j x 4 = nI (kn (uK R.2.2.2 j x) 4) ∧ kn (uK R.2.2.2 j x) 4 ≤ 8
    by_cases hj2 : j = 4
    · subst hj2; rw [hs, hss]; exact ⟨rfl, by omega⟩
    · rw [e 4 (by omega), f 4 (by omega)]; exact h4
theorem gs.k {Z : (Nat → Nat) × Nat} {s : Nat} {R S : RSt} (g : gs Z s R S) {j : Nat} (h1 : j ≠ 7) (h2 : j < 1155) : kn S.2.2.2 j = kn R.2.2.2 j := congrArg Int32.toNatClampNeg (g.2.2.2 j h1 (by omega))
theorem bgn_gs {Z : (Nat → Nat) × Nat} {i most : Nat} {R : RSt} (h : IV Z R) (hk : kd Z R.2.2.1 ≠ 32) : gs Z 0 R (bgn Z i most R) ∧ ((bgn Z i most R).1 = 0 → R.1 = 0 ∧ kn R.2.2.2 i ≠ most) := by
  unfold bgn
  by_cases h0 : kn R.2.2.2 i = most
  · rw [if_pos h0, rgo_b (rbl_p (by omega) R)]
    exact ⟨gs.bl h (by omega), fun z => absurd z (rbl_p (by omega) R)⟩
  · rw [if_neg h0]
    by_cases hb : R.1 = 0
    · rw [rgo_z hb]
      exact ⟨(gs.nx h hk).wk (by omega), fun _ => ⟨hb, h0⟩⟩
    · rw [rgo_b hb]
      exact ⟨gs.rf h, fun z => absurd z hb⟩
theorem nst_lr {Z : (Nat → Nat) × Nat} {lo hi j : Nat} {R : RSt} (h : LV Z R) (hj : 5 ≤ j ∧ j ≠ 7) : lr Z R (nst Z lo hi j R) := by
  have g := lr.gs h (gs.nu (lo := lo) (hi := hi) h.1).1
  exact g.tr (lr.st g.1 _ (Or.inr hj))
theorem nst_k {Z : (Nat → Nat) × Nat} {lo hi j i : Nat} {R : RSt} (h : IV Z R) (hi' : i ≠ j ∧ i ≠ 7 ∧ i < 1155) : kn (nst Z lo hi j R).2.2.2 i = kn R.2.2.2 i := by
  have e : (nst Z lo hi j R).2.2.2 i = (rnu Z lo hi R).2.2.2 i := uK_n _ _ hi'.1
  rw [show kn (nst Z lo hi j R).2.2.2 i = kn (rnu Z lo hi R).2.2.2 i from congrArg Int32.toNatClampNeg e]
  exact (gs.nu h).1.k hi'.2.1 hi'.2.2
theorem chL_lr {Z : (Nat → Nat) × Nat} {c : Nat} : ∀ r m R, LV Z R → lr Z R (chL Z c r m R) ∧ (∀ i, i < 5 → kn (chL Z c r m R).2.2.2 i = kn R.2.2.2 i) ∧ (R.1 ≠ 0 → (chL Z c r m R).1 ≠ 0) := by
  intro r
  induction r with
  | zero => intro m R h; exact ⟨lr.rf h, fun _ _ => rfl, fun z => z⟩
  | succ r ih =>
    intro m R h
    have g := nst_lr (lo := 0) (hi := 9) (j := 9 + 6 * c + m) h (by omega)
    obtain ⟨i1, i2, i3⟩ := ih (m + 1) _ g.1
    refine ⟨g.tr i1, fun i hi => (i2 i hi).trans (nst_k h.1 (by omega)), fun z => i3 ?_⟩
    show (rnu Z 0 9 R).1 ≠ 0
    unfold rnu
    intro w
    have : (rn1 Z 0 9 R).1 = 0 := by
      unfold rgo at w
      split at w
      · assumption
      · exact w
    exact z (rn1_ok this).2.1
theorem chC_lr {Z : (Nat → Nat) × Nat} {spare : Bool} {R : RSt} (h : LV Z R) (hk : kd Z R.2.2.1 ≠ 32) : lr Z R (chC Z spare R) := by
  have g := bgn_gs (i := 2) (most := 14) h.1 hk
  have g1 := lr.gs h g.1
  unfold chC
  by_cases h0 : (bgn Z 2 14 R).1 = 0
  · rw [if_neg (Decidable.not_not.mpr h0)]
    obtain ⟨b1, b2⟩ := g.2 h0
    have e2 := g.1.k (j := 2) (by decide) (by decide)
    obtain ⟨c1, c2, _⟩ := chL_lr (Z := Z) (c := kn (bgn Z 2 14 R).2.2.2 2) (kn (bgn Z 2 14 R).2.2.2 1) 0 _ g1.1
    have e3 := c2 2 (by decide)
    refine (g1.tr c1).tr ?_
    unfold chE
    split
    · exact lr.rf c1.1
    · have hlt := h.2.1.2
      cases spare
      · have s1 := lr.st (j := 93) c1.1 ((chL Z (kn (bgn Z 2 14 R).2.2.2 2) (kn (bgn Z 2 14 R).2.2.2 1) 0 (bgn Z 2 14 R)).2.2.2 93 ||| nI (2 ^ kn (bgn Z 2 14 R).2.2.2 2)) (by decide)
        exact s1.tr (lr.in s1.1 (Or.inl ⟨rfl, by show kn (uK _ 93 _) 2 < 14; rw [kn_cg (uK_n _ _ (by decide))]; omega⟩)).1
      · exact (lr.in c1.1 (Or.inl ⟨rfl, by omega⟩)).1
  · rw [if_pos h0]; exact g1
theorem laR_lr {Z : (Nat → Nat) × Nat} {R : RSt} (h : LV Z R) (hk : kd Z R.2.2.1 ≠ 32) : lr Z R (laR Z R) := by
  have g := bgn_gs (i := 4) (most := 8) h.1 hk
  have g1 := lr.gs h g.1
  unfold laR
  by_cases h0 : (bgn Z 4 8 R).1 = 0
  · rw [if_neg (Decidable.not_not.mpr h0)]
    obtain ⟨b1, b2⟩ := g.2 h0
    have e2 := g.1.k (j := 4) (by decide) (by decide)
    have hlt := h.2.2.2.2
    unfold laB
    have n1 := nst_lr (lo := 0) (hi := kn (bgn Z 4 8 R).2.2.2 1 - 1) (j := 120 + 3 * kn (bgn Z 4 8 R).2.2.2 4) g1.1 (by omega)
    have n2 := nst_lr (lo := 0) (hi := 9) (j := 120 + 3 * kn (bgn Z 4 8 R).2.2.2 4 + 1) n1.1 (by omega)
    have n3 := nst_lr (lo := 0) (hi := 9) (j := 120 + 3 * kn (bgn Z 4 8 R).2.2.2 4 + 2) n2.1 (by omega)
    refine ((g1.tr n1).tr (n2.tr n3)).tr ?_
    unfold laE
    split
    · exact lr.rf n3.1
    · refine (lr.in n3.1 (Or.inr (Or.inr ⟨rfl, ?_⟩))).1
      rw [nst_k n2.1.1 (by omega), nst_k n1.1.1 (by omega), nst_k g1.1.1 (by omega)]
      omega
  · rw [if_pos h0]; exact g1
theorem rtk_gs {Z : (Nat → Nat) × Nat} {k : Nat} {R : RSt} (h : IV Z R) (hk : k ≠ 32) : gs Z 0 R (if rIs Z k R then rnx R else R) := by
  split
  · rename_i q; exact (gs.nx h (by have := q.2; omega)).wk (by omega)
  · exact gs.rf h
theorem woS_lr {Z : (Nat → Nat) × Nat} {w : Nat} {R : RSt} (h : LV Z R) : lr Z R (woS Z w R) := by
  unfold woS
  split
  · rename_i q
    have g := lr.gs h (gs.nx h.1 (by have := q.2; omega))
    exact g.tr (lr.st g.1 _ (by decide))
  · exact lr.rf h
theorem woC_lr {Z : (Nat → Nat) × Nat} {w : Nat} {R : RSt} (h : LV Z R) : lr Z R (woC Z w R) := by
  unfold woC
  split
  · rename_i q
    have g := lr.gs h (gs.nx h.1 (by have := q.2; omega))
    exact g.tr (nst_lr (lo := 1) (hi := 9) (j := 109 + w) g.1 (by omega))
  · exact lr.st h _ (by omega)
theorem woH_lr {Z : (Nat → Nat) × Nat} {R : RSt} (h : LV Z R) : lr Z R (woH Z R) := by
  have a := woS_lr (w := kn R.2.2.2 3) h
  have b := woC_lr (w := kn R.2.2.2 3) a.1
  exact (a.tr b).tr (lr.gs b.1 (gs.mu b.1.1 (by decide)))
theorem woS_3 {Z : (Nat → Nat) × Nat} {w : Nat} {R : RSt} : kn (woS Z w R).2.2.2 3 = kn R.2.2.2 3 := by
  unfold woS
  split
  · exact congrArg Int32.toNatClampNeg (uK_n (i := 119) (j := 3) R.2.2.2 (R.2.2.2 119 ||| nI (2 ^ w)) (by decide))
  · rfl
theorem woC_3 {Z : (Nat → Nat) × Nat} {w : Nat} {R : RSt} (h : LV Z R) : kn (woC Z w R).2.2.2 3 = kn R.2.2.2 3 := by
  unfold woC
  split
  · rename_i q
    have g := gs.nx h.1 (by have := q.2; omega)
    exact (nst_k (lo := 1) (hi := 9) (j := 109 + w) (i := 3) g.1 (by omega)).trans (g.k (by decide) (by decide))
  · exact congrArg Int32.toNatClampNeg (uK_n (i := 109 + w) (j := 3) R.2.2.2 1 (by omega))
theorem woH_3 {Z : (Nat → Nat) × Nat} {R : RSt} (h : LV Z R) : kn (woH Z R).2.2.2 3 = kn R.2.2.2 3 := by
  have a := woS_lr (w := kn R.2.2.2 3) h
  have b := woC_lr (w := kn R.2.2.2 3) a.1
  exact ((gs.mu b.1.1 (by decide)).k (by decide) (by decide)).trans ((woC_3 a.1).trans woS_3)
theorem woR_lr {Z : (Nat → Nat) × Nat} {R : RSt} (h : LV Z R) (hk : kd Z R.2.2.1 ≠ 32) : lr Z R (woR Z R) := by
  have g := bgn_gs (i := 3) (most := 10) h.1 hk
  have g1 := lr.gs h g.1
  unfold woR
  by_cases h0 : (bgn Z 3 10 R).1 = 0
  · rw [if_neg (Decidable.not_not.mpr h0)]
    obtain ⟨b1, b2⟩ := g.2 h0
    have e2 := g.1.k (j := 3) (by decide) (by decide)
    have hlt := h.2.2.1.2
    have a := woH_lr g1.1
    have a3 := woH_3 g1.1
    have tg := (tru_ok (unt_ok Z 6) _ a.1.1).1
    have t := lr.gs a.1 tg
    have t3 := tg.k (j := 3) (by decide) (by decide)
    refine ((g1.tr a).tr t).tr ?_
    generalize tru Z (unt Z 6) (woH Z (bgn Z 3 10 R)) = S at t t3
    unfold woE
    split
    · exact lr.rf t.1
    · have s1 := lr.in t.1 (j := 3) (Or.inr (Or.inl ⟨rfl, by omega⟩))
      exact s1.1.tr (lr.st s1.1.1 _ (by omega))
  · rw [if_pos h0]; exact g1
theorem lnB_lr {Z : (Nat → Nat) × Nat} {R : RSt} (h : LV Z R) : lr Z R (lnB Z R) := by
  unfold lnB
  split
  · exact chC_lr h (by omega)
  · split
    · exact chC_lr h (by omega)
    · split
      · exact woR_lr h (by omega)
      · split
        · exact laR_lr h (by omega)
        · split
          · have g := lr.gs h (gs.nx h.1 (by omega)); exact g.tr (nst_lr g.1 (by decide))
          · split
            · have g := lr.gs h (gs.nx h.1 (by omega)); exact g.tr (nst_lr g.1 (by decide))
            · exact lr.gs h (gs.bl h.1 (by omega))
theorem sto_lr {Z : (Nat → Nat) × Nat} {R : RSt} (h : LV Z R) : lr Z R (sto Z R) ∧ ((sto Z R).1 = 0 → R.2.2.1 < (sto Z R).2.2.1) := by
  have g := gs.mu (k := 17) h.1 (by decide)
  have g1 := lr.gs h g
  unfold sto stE
  split
  · rename_i q; exact ⟨g1, fun z => absurd z q⟩
  · rename_i q
    refine ⟨g1.tr (lr.st g1.1 _ (by decide)), fun _ => ?_⟩
    show R.2.2.1 < (rmu Z 17 R).2.2.1
    have hz : (rmu Z 17 R).1 = 0 := Decidable.not_not.mp q
    unfold rmu at hz ⊢
    by_cases h17 : kd Z R.2.2.1 = 17
    · rw [if_pos h17] at hz ⊢
      by_cases hb : R.1 = 0
      · rw [rgo_z hb]; exact Nat.lt_succ_self _
      · rw [rgo_b hb] at hz; exact absurd hz hb
    · rw [if_neg h17, rgo_b (rbl_p (by omega) R)] at hz
      exact absurd hz (rbl_p (by omega) R)
theorem lin_lr {Z : (Nat → Nat) × Nat} {R : RSt} (h : LV Z R) : lr Z R (lin Z R) ∧ ((lin Z R).1 = 0 → R.2.2.1 < (lin Z R).2.2.1) := by
  have a := lnB_lr h
  have b := sto_lr a.1
  exact ⟨a.tr b.1, fun z => Nat.lt_of_le_of_lt a.2 (b.2 z)⟩
theorem liB_t {Z : (Nat → Nat) × Nat} {R : RSt} : liB Z R = true ↔ R.1 = 0 ∧ kd Z R.2.2.1 ≠ 32 := by unfold liB; rw [decide_eq_true_eq]
theorem lin_fuel {Z : (Nat → Nat) × Nat} : ∀ k j R, LV Z R → Z.2 + 1 ≤ R.2.2.1 + k → Z.2 + 1 ≤ R.2.2.1 + j → itr (liB Z) (lin Z) k R = itr (liB Z) (lin Z) j R := by
  intro k
  induction k with
  | zero => intro j R h h1 _; have := h.1.2.1; omega
  | succ k ih =>
    intro j R h h1 h2
    cases j with
    | zero => have := h.1.2.1; omega
    | succ j =>
      rw [itr, itr]
      by_cases h0 : liB Z R = true
      · rw [if_pos h0, if_pos h0]
        obtain ⟨a, b⟩ := lin_lr h
        by_cases hb : (lin Z R).1 = 0
        · have := b hb
          exact ih j _ a.1 (by omega) (by omega)
        · have nb : ∀ n, itr (liB Z) (lin Z) n (lin Z R) = lin Z R := by
            intro n
            cases n with
            | zero => rfl
            | succ n => rw [itr, if_neg (fun z => hb (liB_t.mp z).1)]
          rw [nb, nb]
      · rw [if_neg h0, if_neg h0]
theorem lin_901 {Z : (Nat → Nat) × Nat} {R : RSt} (h : LV Z R) : itr (liB Z) (lin Z) 901 R = if liB Z R = true then itr (liB Z) (lin Z) 901 (lin Z R) else R := by
  have h9 := h.1.2.2.2.2.2
  rw [itr]
  by_cases h0 : liB Z R = true
  · rw [if_pos h0, if_pos h0]
    obtain ⟨a, b⟩ := lin_lr h
    by_cases hb : (lin Z R).1 = 0
    · have := b hb
      exact lin_fuel _ _ _ a.1 (by omega) (by omega)
    · have nb : ∀ n, itr (liB Z) (lin Z) n (lin Z R) = lin Z R := by
        intro n
        cases n with
        | zero => rfl
        | succ n => rw [itr, if_neg (fun z => hb (liB_t.mp z).1)]
      rw [nb, nb]
  · rw [if_neg h0, if_neg h0]
