/-! ===== the grammar, as a reader of tokens goes through it ===== -/
abbrev RSt := Nat × Nat × Nat × (Nat → Int32)
def itr (c : RSt → Bool) (f : RSt → RSt) : Nat → RSt → RSt
  | 0, R => R
  | k + 1, R => if c R = true then itr c f k (f R) else R
def ats (Z : (Nat → Nat) × Nat) (inn : RSt → RSt) (R : RSt) : RSt :=
  if R.1 ≠ 0 then R
  else if kd Z R.2.2.1 = 12 then rly (nI (100 + rnv Z 0 (kn R.2.2.2 1 - 1) (rnx R))) (rnu Z 0 (kn R.2.2.2 1 - 1) (rnx R))
  else if kd Z R.2.2.1 = 13 then rly (nI (200 + rnv Z 0 9 (rnx R))) (rnu Z 0 9 (rnx R))
  else if kd Z R.2.2.1 = 14 then rly (nI 300) (rnx R)
  else if kd Z R.2.2.1 = 15 then rly (nI 301) (rnx R)
  else if kd Z R.2.2.1 = 16 then rly (nI 302) (rnx R)
  else if kd Z R.2.2.1 = 22 then inn R
  else rly (nI (1000 + rnv Z 0 999 R)) (rnu Z 0 999 R)
def trm (Z : (Nat → Nat) × Nat) (a : RSt → RSt) (R : RSt) : RSt := itr (fun R => decide (rIs Z 21 R)) (fun R => rly (nI 12) (a (rnx R))) 901 (a R)
def pmB (Z : (Nat → Nat) × Nat) (R : RSt) : Bool := decide (rIs Z 19 R) || decide (rIs Z 20 R)
def sms (Z : (Nat → Nat) × Nat) (a : RSt → RSt) (R : RSt) : RSt := itr (pmB Z) (fun R => rly (if kd Z R.2.2.1 = 19 then nI 10 else nI 11) (trm Z a (rnx R))) 901 (trm Z a R)
def atm (Z : (Nat → Nat) × Nat) : Nat → RSt → RSt
  | 0 => ats Z (rbl Z 4)
  | L + 1 => ats Z (fun R => rmu Z 23 (sms Z (atm Z L) (rnx R)))
def cmpS (Z : (Nat → Nat) × Nat) (R : RSt) : RSt := rgo (if kd Z R.2.2.1 = 26 ∨ kd Z R.2.2.1 = 27 ∨ kd Z R.2.2.1 = 28 then R else rbl Z 2 R)
def cmpV (Z : (Nat → Nat) × Nat) (R : RSt) : Int32 := if kd Z R.2.2.1 = 26 then nI 13 else if kd Z R.2.2.1 = 27 then nI 14 else nI 15
def uns (Z : (Nat → Nat) × Nat) (s nt br : RSt → RSt) (R : RSt) : RSt :=
  if R.1 ≠ 0 then R
  else if kd Z R.2.2.1 = 11 then nt R
  else if kd Z R.2.2.1 = 24 then br R
  else rly (cmpV Z (s R)) (s (cmpS Z (s R)))
def bth (Z : (Nat → Nat) × Nat) (u : RSt → RSt) (R : RSt) : RSt := itr (fun R => decide (rIs Z 10 R)) (fun R => rly (nI 16) (u (rnx R))) 901 (u R)
def tru (Z : (Nat → Nat) × Nat) (u : RSt → RSt) (R : RSt) : RSt := itr (fun R => decide (rIs Z 9 R)) (fun R => rly (nI 17) (bth Z u (rnx R))) 901 (bth Z u R)
def unt (Z : (Nat → Nat) × Nat) : Nat → RSt → RSt
  | 0 => uns Z (sms Z (atm Z 0)) (rbl Z 4) (rbl Z 4)
  | L + 1 => uns Z (sms Z (atm Z (L + 1))) (fun R => rly (nI 18) (unt Z L (rnx R))) (fun R => rmu Z 25 (tru Z (unt Z L) (rnx R)))
/-- all is well with a reader -/
def IV (Z : (Nat → Nat) × Nat) (R : RSt) : Prop := R.1 ≤ 4 ∧ R.2.2.1 ≤ Z.2 ∧ R.2.2.2 7 = nI (kn R.2.2.2 7) ∧ kn R.2.2.2 7 ≤ R.2.2.1 ∧ (R.2.2.2 1 = nI (kn R.2.2.2 1) ∧ 1 ≤ kn R.2.2.2 1 ∧ kn R.2.2.2 1 ≤ 6) ∧ Z.2 ≤ 900
/-- from R to S: s tokens more than steps, at least -/
def gs (Z : (Nat → Nat) × Nat) (s : Nat) (R S : RSt) : Prop := IV Z S ∧ R.2.2.1 ≤ S.2.2.1 ∧ (kn S.2.2.2 7 + R.2.2.1 + s ≤ kn R.2.2.2 7 + S.2.2.1 ∧ kn R.2.2.2 7 ≤ kn S.2.2.2 7) ∧ ∀ j, j ≠ 7 → j < 1155 + kn R.2.2.2 7 → S.2.2.2 j = R.2.2.2 j
theorem gs.rf {Z : (Nat → Nat) × Nat} {R : RSt} (h : IV Z R) : gs Z 0 R R := ⟨h, Nat.le_refl _, by omega, fun _ _ _ => rfl⟩
theorem gs.tr {Z : (Nat → Nat) × Nat} {s t u : Nat} {R S T : RSt} (h : gs Z s R S) (g : gs Z t S T) (hu : u ≤ s + t) : gs Z u R T := by
  obtain ⟨h1, h2, h3, h4⟩ := h
  obtain ⟨g1, g2, g3, g4⟩ := g
  exact ⟨g1, by omega, by omega, fun j a b => (g4 j a (by omega)).trans (h4 j a b)⟩
theorem gs.nx {Z : (Nat → Nat) × Nat} {R : RSt} (h : IV Z R) (hk : kd Z R.2.2.1 ≠ 32) : gs Z 1 R (rnx R) := by
  obtain ⟨h1, h2, h3, h4, h5⟩ := h
  have := (kd_lt hk).1
  exact ⟨⟨h1, by show R.2.2.1 + 1 ≤ Z.2; omega, h3, by show kn R.2.2.2 7 ≤ R.2.2.1 + 1; omega, h5⟩, Nat.le_succ _, by show kn R.2.2.2 7 + R.2.2.1 + 1 ≤ kn R.2.2.2 7 + (R.2.2.1 + 1) ∧ kn R.2.2.2 7 ≤ kn R.2.2.2 7; omega, fun _ _ _ => rfl⟩
theorem rbl_4 {Z : (Nat → Nat) × Nat} {k : Nat} {R : RSt} (h : R.1 ≤ 4) (hk : k ≤ 4) : (rbl Z k R).1 ≤ 4 := by
  unfold rbl
  split
  · split
    · exact (by decide : 1 ≤ 4)
    · exact hk
  · exact h
theorem gs.bl {Z : (Nat → Nat) × Nat} {k : Nat} {R : RSt} (h : IV Z R) (hk : k ≤ 4) : gs Z 0 R (rbl Z k R) := by
  have e := rbl_i Z k R
  have h4 := rbl_4 (Z := Z) h.1 hk
  obtain ⟨h1, h2, h3, h4', h5⟩ := h
  unfold gs IV
  rw [e]
  exact ⟨⟨h4, h2, h3, h4', h5⟩, Nat.le_refl _, by omega, fun _ _ _ => rfl⟩
theorem kn_uK {K : Nat → Int32} {i c : Nat} (hc : c < 2 ^ 31) : kn (uK K i (nI c)) i = c := by rw [kn, uK_s, nI_clamp hc]
theorem gs.ly {Z : (Nat → Nat) × Nat} {s : Nat} {x : Int32} {R S : RSt} (hR : IV Z R) (h : gs Z s R S) (h2 : S.1 = 0 → gs Z (s + 1) R S) : gs Z s R (rly x S) := by
  unfold rly
  by_cases h0 : S.1 = 0
  · rw [if_pos h0]
    obtain ⟨⟨a1, a2, a3, a4, a5, a6⟩, b1, b2, b3⟩ := h2 h0
    have e7 : kn (uK (uK S.2.2.2 (1155 + kn S.2.2.2 7) x) 7 (nI (kn S.2.2.2 7 + 1))) 7 = kn S.2.2.2 7 + 1 := kn_uK (by omega)
    have eo : ∀ j, j ≠ 7 → j < 1155 + kn S.2.2.2 7 → uK (uK S.2.2.2 (1155 + kn S.2.2.2 7) x) 7 (nI (kn S.2.2.2 7 + 1)) j = S.2.2.2 j := fun j p q => by rw [uK_n _ _ p, uK_n _ _ (by omega)]
    have e1 : kn (uK (uK S.2.2.2 (1155 + kn S.2.2.2 7) x) 7 (nI (kn S.2.2.2 7 + 1))) 1 = kn S.2.2.2 1 := congrArg Int32.toNatClampNeg (eo 1 (by decide) (by omega))
    refine ⟨⟨a1, a2, ?_, ?_, ?_, a6⟩, b1, ?_, fun j p q => (eo j p (by omega)).trans (b3 j p q)⟩
    · show uK (uK S.2.2.2 (1155 + kn S.2.2.2 7) x) 7 (nI (kn S.2.2.2 7 + 1)) 7 = nI (kn (uK (uK S.2.2.2 (1155 + kn S.2.2.2 7) x) 7 (nI (kn S.2.2.2 7 + 1))) 7)
      rw [e7, uK_s]
    · show kn (uK (uK S.2.2.2 (1155 + kn S.2.2.2 7) x) 7 (nI (kn S.2.2.2 7 + 1))) 7 ≤ S.2.2.1
      rw [e7]
      have := hR.2.2.2.1
      omega
    · show uK (uK S.2.2.2 (1155 + kn S.2.2.2 7) x) 7 (nI (kn S.2.2.2 7 + 1)) 1 = nI (kn (uK (uK S.2.2.2 (1155 + kn S.2.2.2 7) x) 7 (nI (kn S.2.2.2 7 + 1))) 1) ∧ _
      rw [eo 1 (by decide) (by omega), e1]
      exact a5
    · show kn (uK (uK S.2.2.2 (1155 + kn S.2.2.2 7) x) 7 (nI (kn S.2.2.2 7 + 1))) 7 + R.2.2.1 + s ≤ kn R.2.2.2 7 + S.2.2.1 ∧ kn R.2.2.2 7 ≤ kn (uK (uK S.2.2.2 (1155 + kn S.2.2.2 7) x) 7 (nI (kn S.2.2.2 7 + 1))) 7
      rw [e7]
      omega
  · rw [if_neg h0]
    exact h
theorem gs.iv {Z : (Nat → Nat) × Nat} {s : Nat} {R S : RSt} (h : gs Z s R S) : IV Z S := h.1
theorem gs.mu {Z : (Nat → Nat) × Nat} {k : Nat} {R : RSt} (h : IV Z R) (hk : k ≠ 32) : gs Z 0 R (rmu Z k R) := by
  unfold rmu
  by_cases h0 : kd Z R.2.2.1 = k
  · rw [if_pos h0]
    unfold rgo
    split
    · exact (gs.nx h (by omega)).tr (gs.rf (gs.nx h (by omega)).1) (by omega)
    · exact gs.rf h
  · rw [if_neg h0, rgo_b (rbl_p (by omega) R)]
    exact gs.bl h (by omega)
theorem gs.nu {Z : (Nat → Nat) × Nat} {lo hi : Nat} {R : RSt} (h : IV Z R) : gs Z 0 R (rnu Z lo hi R) ∧ ((rnu Z lo hi R).1 = 0 → gs Z 1 R (rnu Z lo hi R)) := by
  unfold rnu
  by_cases h0 : (rn1 Z lo hi R).1 = 0
  · obtain ⟨a1, a2, a3, _⟩ := rn1_ok h0
    rw [rgo_z h0, a1]
    have g := gs.nx h (show kd Z R.2.2.1 ≠ 32 by omega)
    exact ⟨g.tr (gs.rf g.1) (by omega), fun _ => g⟩
  · rw [rgo_b h0]
    refine ⟨?_, fun z => absurd z h0⟩
    unfold rn1
    split
    · exact gs.bl h (by omega)
    · split
      · exact gs.rf h
      · exact gs.bl h (by omega)
theorem gs.wk {Z : (Nat → Nat) × Nat} {s t : Nat} {R S : RSt} (h : gs Z s R S) (ht : t ≤ s) : gs Z t R S := ⟨h.1, h.2.1, by have := h.2.2.1; omega, h.2.2.2⟩
/-- a part of the grammar that keeps a reader well -/
def gok (Z : (Nat → Nat) × Nat) (f : RSt → RSt) : Prop := ∀ R, IV Z R → gs Z 0 R (f R) ∧ (R.1 ≠ 0 → f R = R)
theorem itr_gs {Z : (Nat → Nat) × Nat} {c : RSt → Bool} {f : RSt → RSt} (hc : ∀ R, IV Z R → c R = true → R.1 = 0 ∧ gs Z 0 R (f R)) : ∀ k R, IV Z R → gs Z 0 R (itr c f k R) ∧ (R.1 ≠ 0 → itr c f k R = R) := by
  intro k
  induction k with
  | zero => intro R h; exact ⟨gs.rf h, fun _ => rfl⟩
  | succ k ih =>
    intro R h
    rw [itr]
    by_cases h0 : c R = true
    · rw [if_pos h0]
      obtain ⟨a, b⟩ := hc R h h0
      exact ⟨b.tr (ih _ b.1).1 (by omega), fun z => absurd a z⟩
    · rw [if_neg h0]
      exact ⟨gs.rf h, fun _ => rfl⟩
theorem itr_fuel {Z : (Nat → Nat) × Nat} {c : RSt → Bool} {f : RSt → RSt} (hc : ∀ R, IV Z R → c R = true → IV Z (f R) ∧ R.2.2.1 < (f R).2.2.1) : ∀ k j R, IV Z R → Z.2 + 1 ≤ R.2.2.1 + k → Z.2 + 1 ≤ R.2.2.1 + j → itr c f k R = itr c f j R := by
  intro k
  induction k with
  | zero => intro j R h h1 _; have := h.2.1; omega
  | succ k ih =>
    intro j R h h1 h2
    cases j with
    | zero => have := h.2.1; omega
    | succ j =>
      rw [itr, itr]
      by_cases h0 : c R = true
      · rw [if_pos h0, if_pos h0]
        obtain ⟨a, b⟩ := hc R h h0
        exact ih j _ a (by omega) (by omega)
      · rw [if_neg h0, if_neg h0]
theorem itr_901 {Z : (Nat → Nat) × Nat} {c : RSt → Bool} {f : RSt → RSt} (hc : ∀ R, IV Z R → c R = true → IV Z (f R) ∧ R.2.2.1 < (f R).2.2.1) {R : RSt} (h : IV Z R) : itr c f 901 R = if c R = true then itr c f 901 (f R) else R := by
  have h9 := h.2.2.2.2.2
  rw [itr]
  by_cases h0 : c R = true
  · rw [if_pos h0, if_pos h0]
    obtain ⟨a, b⟩ := hc R h h0
    exact itr_fuel hc _ _ _ a (by omega) (by omega)
  · rw [if_neg h0, if_neg h0]
/-- an operator's token, its right side, its step -/
theorem op_ok {Z : (Nat → Nat) × Nat} {f : RSt → RSt} (hf : gok Z f) {R : RSt} (h : IV Z R) (hk : kd Z R.2.2.1 ≠ 32) (x : Int32) : gs Z 0 R (rly x (f (rnx R))) ∧ R.2.2.1 < (rly x (f (rnx R))).2.2.1 := by
  have g := gs.nx h hk
  have g2 := (hf _ g.1).1
  have g3 := g.tr g2 (Nat.le_refl _)
  have gl : gs Z 0 R (rly x (f (rnx R))) := gs.ly h (g3.wk (by omega)) (fun _ => g3)
  refine ⟨gl, ?_⟩
  have : (rly x (f (rnx R))).2.2.1 = (f (rnx R)).2.2.1 := by unfold rly; split <;> rfl
  rw [this]
  exact g2.2.1
theorem rIs_t {Z : (Nat → Nat) × Nat} {k : Nat} {R : RSt} (h : decide (rIs Z k R) = true) : R.1 = 0 ∧ kd Z R.2.2.1 = k := of_decide_eq_true h
theorem trm_ok {Z : (Nat → Nat) × Nat} {a : RSt → RSt} (ha : gok Z a) : gok Z (trm Z a) := fun R h => by
  have h1 := ha R h
  have h2 := itr_gs (Z := Z) (c := fun R => decide (rIs Z 21 R)) (f := fun R => rly (nI 12) (a (rnx R))) (fun R h hc => ⟨(rIs_t hc).1, (op_ok ha h (by have := (rIs_t hc).2; omega) _).1⟩) 901 (a R) h1.1.1
  exact ⟨h1.1.tr h2.1 (by omega), fun z => by unfold trm; rw [h1.2 z]; rw [h1.2 z] at h2; exact h2.2 z⟩
theorem trm_un {Z : (Nat → Nat) × Nat} {a : RSt → RSt} (ha : gok Z a) {R : RSt} (h : IV Z R) : itr (fun R => decide (rIs Z 21 R)) (fun R => rly (nI 12) (a (rnx R))) 901 R = if rIs Z 21 R then itr (fun R => decide (rIs Z 21 R)) (fun R => rly (nI 12) (a (rnx R))) 901 (rly (nI 12) (a (rnx R))) else R := by
  rw [itr_901 (Z := Z) (fun R h hc => by have := op_ok ha h (by have := (rIs_t hc).2; omega) (nI 12); exact ⟨this.1.1, this.2⟩) h]
  by_cases hc : rIs Z 21 R
  · rw [if_pos hc, if_pos (decide_eq_true hc)]
  · rw [if_neg hc, if_neg (by rw [decide_eq_true_eq]; exact hc)]
theorem pmB_t {Z : (Nat → Nat) × Nat} {R : RSt} : pmB Z R = true ↔ rIs Z 19 R ∨ rIs Z 20 R := by unfold pmB; rw [Bool.or_eq_true, decide_eq_true_eq, decide_eq_true_eq]
theorem sms_ok {Z : (Nat → Nat) × Nat} {a : RSt → RSt} (ha : gok Z a) : gok Z (sms Z a) := fun R h => by
  have ht := trm_ok ha
  have h1 := ht R h
  have h2 := itr_gs (Z := Z) (c := pmB Z) (f := fun R => rly (if kd Z R.2.2.1 = 19 then nI 10 else nI 11) (trm Z a (rnx R))) (fun R h hc => ⟨by rcases pmB_t.mp hc with q | q <;> exact q.1, (op_ok ht h (by rcases pmB_t.mp hc with q | q <;> (have := q.2; omega)) _).1⟩) 901 (trm Z a R) h1.1.1
  exact ⟨h1.1.tr h2.1 (by omega), fun z => by unfold sms; rw [h1.2 z]; rw [h1.2 z] at h2; exact h2.2 z⟩
theorem sms_un {Z : (Nat → Nat) × Nat} {a : RSt → RSt} (ha : gok Z a) {R : RSt} (h : IV Z R) : itr (pmB Z) (fun R => rly (if kd Z R.2.2.1 = 19 then nI 10 else nI 11) (trm Z a (rnx R))) 901 R = if rIs Z 19 R ∨ rIs Z 20 R then itr (pmB Z) (fun R => rly (if kd Z R.2.2.1 = 19 then nI 10 else nI 11) (trm Z a (rnx R))) 901 (rly (if kd Z R.2.2.1 = 19 then nI 10 else nI 11) (trm Z a (rnx R))) else R := by
  rw [itr_901 (Z := Z) (fun R h hc => by have := op_ok (trm_ok ha) h (by rcases pmB_t.mp hc with q | q <;> (have := q.2; omega)) (if kd Z R.2.2.1 = 19 then nI 10 else nI 11); exact ⟨this.1.1, this.2⟩) h]
  by_cases hc : rIs Z 19 R ∨ rIs Z 20 R
  · rw [if_pos hc, if_pos (pmB_t.mpr hc)]
  · rw [if_neg hc, if_neg (fun z => hc (pmB_t.mp z))]
theorem ats_ok {Z : (Nat → Nat) × Nat} {inn : RSt → RSt} (hi : ∀ R, IV Z R → R.1 = 0 → kd Z R.2.2.1 = 22 → gs Z 0 R (inn R)) : gok Z (ats Z inn) := fun R h => by
  unfold ats
  by_cases h0 : R.1 = 0
  · refine ⟨?_, fun z => absurd h0 z⟩
    rw [if_neg (Decidable.not_not.mpr h0)]
    have num : ∀ S lo hi x, gs Z 0 R S → gs Z 0 R (rly x (rnu Z lo hi S)) := fun S lo hi x g => by
      have n := gs.nu (lo := lo) (hi := hi) g.1
      exact gs.ly h (g.tr n.1 (by omega)) (fun z => g.tr (n.2 z) (by omega))
    have one : kd Z R.2.2.1 ≠ 32 → ∀ x, gs Z 0 R (rly x (rnx R)) := fun hk x => gs.ly h ((gs.nx h hk).wk (by omega)) (fun _ => gs.nx h hk)
    split
    · rename_i q; exact num _ _ _ _ ((gs.nx h (by omega)).wk (by omega))
    · split
      · rename_i q; exact num _ _ _ _ ((gs.nx h (by omega)).wk (by omega))
      · split
        · rename_i q; exact one (by omega) _
        · split
          · rename_i q; exact one (by omega) _
          · split
            · rename_i q; exact one (by omega) _
            · split
              · rename_i q; exact hi R h h0 q
              · exact num _ _ _ _ (gs.rf h)
  · rw [if_pos h0]
    exact ⟨gs.rf h, fun _ => rfl⟩
theorem atm_ok (Z : (Nat → Nat) × Nat) : ∀ L, gok Z (atm Z L)
  | 0 => ats_ok (fun R h _ _ => gs.bl h (by omega))
  | L + 1 => ats_ok (fun R h _ q => by
      have g := gs.nx h (show kd Z R.2.2.1 ≠ 32 by omega)
      have g2 := (sms_ok (atm_ok Z L) _ g.1).1
      exact (g.tr g2 (Nat.le_refl _)).tr (gs.mu g2.1 (by omega)) (by omega))
theorem cmpS_ok {Z : (Nat → Nat) × Nat} {R : RSt} (h : IV Z R) : gs Z 0 R (cmpS Z R) ∧ ((cmpS Z R).1 = 0 → gs Z 1 R (cmpS Z R)) := by
  unfold cmpS
  by_cases h0 : kd Z R.2.2.1 = 26 ∨ kd Z R.2.2.1 = 27 ∨ kd Z R.2.2.1 = 28
  · rw [if_pos h0]
    unfold rgo
    split
    · have g := gs.nx h (show kd Z R.2.2.1 ≠ 32 by omega)
      exact ⟨g.wk (by omega), fun _ => g⟩
    · rename_i hb
      exact ⟨gs.rf h, fun z => absurd z hb⟩
  · rw [if_neg h0, rgo_b (rbl_p (by omega) R)]
    exact ⟨gs.bl h (by omega), fun z => absurd z (rbl_p (by omega) R)⟩
theorem uns_ok {Z : (Nat → Nat) × Nat} {s nt br : RSt → RSt} (hs : gok Z s) (hn : ∀ R, IV Z R → kd Z R.2.2.1 = 11 → gs Z 0 R (nt R)) (hb : ∀ R, IV Z R → kd Z R.2.2.1 = 24 → gs Z 0 R (br R)) : gok Z (uns Z s nt br) := fun R h => by
  unfold uns
  by_cases h0 : R.1 = 0
  · refine ⟨?_, fun z => absurd h0 z⟩
    rw [if_neg (Decidable.not_not.mpr h0)]
    split
    · rename_i q; exact hn R h q
    · split
      · rename_i q; exact hb R h q
      · have g1 := (hs R h).1
        have g2 := cmpS_ok g1.1
        have g3 := hs _ g2.1.1
        refine gs.ly h ((g1.tr g2.1 (Nat.le_refl _)).tr g3.1 (by omega)) (fun z => ?_)
        have hz : (cmpS Z (s R)).1 = 0 := Decidable.byContradiction (fun w => w (by rw [g3.2 w] at z; exact z))
        exact (g1.tr (g2.2 hz) (Nat.le_refl _)).tr g3.1 (by omega)
  · rw [if_pos h0]
    exact ⟨gs.rf h, fun _ => rfl⟩
theorem bth_ok {Z : (Nat → Nat) × Nat} {a : RSt → RSt} (ha : gok Z a) : gok Z (bth Z a) := fun R h => by
  have h1 := ha R h
  have h2 := itr_gs (Z := Z) (c := fun R => decide (rIs Z 10 R)) (f := fun R => rly (nI 16) (a (rnx R))) (fun R h hc => ⟨(rIs_t hc).1, (op_ok ha h (by have := (rIs_t hc).2; omega) _).1⟩) 901 (a R) h1.1.1
  exact ⟨h1.1.tr h2.1 (by omega), fun z => by unfold bth; rw [h1.2 z]; rw [h1.2 z] at h2; exact h2.2 z⟩
theorem bth_un {Z : (Nat → Nat) × Nat} {a : RSt → RSt} (ha : gok Z a) {R : RSt} (h : IV Z R) : itr (fun R => decide (rIs Z 10 R)) (fun R => rly (nI 16) (a (rnx R))) 901 R = if rIs Z 10 R then itr (fun R => decide (rIs Z 10 R)) (fun R => rly (nI 16) (a (rnx R))) 901 (rly (nI 16) (a (rnx R))) else R := by
  rw [itr_901 (Z := Z) (fun R h hc => by have := op_ok ha h (by have := (rIs_t hc).2; omega) (nI 16); exact ⟨this.1.1, this.2⟩) h]
  by_cases hc : rIs Z 10 R
  · rw [if_pos hc, if_pos (decide_eq_true hc)]
  · rw [if_neg hc, if_neg (by rw [decide_eq_true_eq]; exact hc)]
theorem tru_ok {Z : (Nat → Nat) × Nat} {a : RSt → RSt} (ha : gok Z a) : gok Z (tru Z a) := fun R h => by
  have h1 := bth_ok ha R h
  have h2 := itr_gs (Z := Z) (c := fun R => decide (rIs Z 9 R)) (f := fun R => rly (nI 17) (bth Z a (rnx R))) (fun R h hc => ⟨(rIs_t hc).1, (op_ok (bth_ok ha) h (by have := (rIs_t hc).2; omega) _).1⟩) 901 (bth Z a R) h1.1.1
  exact ⟨h1.1.tr h2.1 (by omega), fun z => by unfold tru; rw [h1.2 z]; rw [h1.2 z] at h2; exact h2.2 z⟩
theorem tru_un {Z : (Nat → Nat) × Nat} {a : RSt → RSt} (ha : gok Z a) {R : RSt} (h : IV Z R) : itr (fun R => decide (rIs Z 9 R)) (fun R => rly (nI 17) (bth Z a (rnx R))) 901 R = if rIs Z 9 R then itr (fun R => decide (rIs Z 9 R)) (fun R => rly (nI 17) (bth Z a (rnx R))) 901 (rly (nI 17) (bth Z a (rnx R))) else R := by
  rw [itr_901 (Z := Z) (fun R h hc => by have := op_ok (bth_ok ha) h (by have := (rIs_t hc).2; omega) (nI 17); exact ⟨this.1.1, this.2⟩) h]
  by_cases hc : rIs Z 9 R
  · rw [if_pos hc, if_pos (decide_eq_true hc)]
  · rw [if_neg hc, if_neg (by rw [decide_eq_true_eq]; exact hc)]
theorem unt_ok (Z : (Nat → Nat) × Nat) : ∀ L, gok Z (unt Z L)
  | 0 => uns_ok (sms_ok (atm_ok Z 0)) (fun R h _ => gs.bl h (by omega)) (fun R h _ => gs.bl h (by omega))
  | L + 1 => uns_ok (sms_ok (atm_ok Z (L + 1))) (fun R h q => (op_ok (unt_ok Z L) h (by omega) _).1) (fun R h q => by
      have g := gs.nx h (show kd Z R.2.2.1 ≠ 32 by omega)
      have g2 := (tru_ok (unt_ok Z L) _ g.1).1
      exact (g.tr g2 (Nat.le_refl _)).tr (gs.mu g2.1 (by omega)) (by omega))
