/-! ===== images: what the class's cells say of them ===== -/
/-- the plan that the scene at s has lies apart from the scene's cells at q -/
def Dj (M : mM) (s q : Nat) : Prop := ∀ p, gR M s 0 = some p → 248 ≤ p → (∀ a, p ≤ a → a ≤ p + 6 → a < q ∨ q + 74 < a) ∧ ∀ cd, gR M p 14 = some cd → cd < q ∨ q + 74 < cd
def IMs (M : mM) (A B : Nat → Int32) : Prop := ∀ i, i < 3 → (B i = 0 ∧ gR M 193 i = none) ∨ (B i = 1 ∧ ∃ q, gR M 193 i = some q ∧ 248 ≤ q ∧ q + 74 < gz M ∧ ScSh M q ∧ IR M q (fun j => A (2120 * i + j)) ∧ Dj M 118 q ∧ ∀ j, j < 3 → ∀ q', gR M 193 j = some q' → Dj M q' q ∧ (j ≠ i → q' + 74 < q ∨ q + 74 < q'))
/-- what keeps images as they are -/
def KM (M M' : mM) : Prop := gz M ≤ gz M' ∧ (∀ q, q < gz M → (119 ≤ q ∧ q ≤ 125) ∨ q = 193 ∨ 248 ≤ q → Sme M M' q) ∧ gR M' 118 0 = gR M 118 0
theorem KM.rf {M : mM} : KM M M := ⟨Nat.le_refl _, fun _ _ _ => ⟨rfl, rfl, fun _ => rfl, fun _ => rfl⟩, rfl⟩
theorem Kp.km {M M' : mM} (h : Kp M M') : KM M M' := ⟨h.1, fun q a b => by
  obtain ⟨h1, h2, h3, h4⟩ := h.2.1 q a (by unfold Fx; omega)
  exact ⟨h1, h2, fun k => by rw [h3], fun k => by rw [h4]⟩, h.2.2⟩
theorem Ky.km {M M' : mM} (h : Ky M M') : KM M M' := ⟨h.1, fun q a b => by
  obtain ⟨h1, h2, h3, h4⟩ := h.2.1 q a (by unfold Fx; omega) (by omega)
  exact ⟨h1, h2, fun k => by rw [h3], fun k => by rw [h4]⟩, h.2.2⟩
theorem ScSh.sm {M M' : mM} {q : Nat} (h : ScSh M q) (e : ∀ r, q ≤ r → r ≤ q + 74 → gT M' r = gT M r ∧ ∀ k, ¬ (r = q ∧ k = 0) → gR M' r k = gR M r k) : ScSh M' q := by
  have st : ∀ s, StSh M s → q < s → s + 5 ≤ q + 74 → StSh M' s := fun s hs a b => by
    have t := fun r a b => (e r a b).1
    have j := fun k => (e s (by omega) (by omega)).2 k (by omega)
    unfold StSh at hs ⊢
    rw [t s (by omega) (by omega), t (s + 1) (by omega) (by omega), t (s + 2) (by omega) (by omega), t (s + 3) (by omega) (by omega), t (s + 4) (by omega) (by omega), t (s + 5) (by omega) (by omega), j, j, j, j, j]
    exact hs
  obtain ⟨h1, h2, h3, h4, h5, h6⟩ := h
  refine ⟨(e q (by omega) (by omega)).1.trans h1, ((e q (by omega) (by omega)).2 1 (by omega)).trans h2, ((e q (by omega) (by omega)).2 2 (by omega)).trans h3, (e (q + 14) (by omega) (by omega)).1.trans h4, st _ h5 (by omega) (by omega), fun i hi => ⟨((e (q + 14) (by omega) (by omega)).2 i (by omega)).trans (h6 i hi).1, st _ (h6 i hi).2 (by omega) (by omega)⟩⟩
/-- a scene and its plan stay -/
theorem IR.mv {M M' : mM} {s : Nat} {K : Nat → Int32} (h : IR M s K) (hz : gz M ≤ gz M') (hs : ∀ a, s ≤ a → a ≤ s + 74 → gI M' a = gI M a) (h0 : gR M' s 0 = gR M s 0) (hp : ∀ p cd, gR M s 0 = some p → gR M p 14 = some cd → PlA M p cd → (∀ a, p ≤ a → a ≤ p + 6 → Sme M M' a) ∧ Sme M M' cd) : IR M' s K := by
  obtain ⟨hW, nx, p, cd, n, rd, l1, hn, h1, h2, h3, h4, h5⟩ := h
  obtain ⟨e1, e2⟩ := hp p cd h2 h3.1.2.2.2.2.2.2.2.2.2.2.2.1 h5
  refine ⟨hW, nx, p, cd, n, rd, l1, hn, h1.mv hs, h0.trans h2, ⟨?_, ?_⟩, h4.mv (e1 p (by omega) (by omega)).2.1 (e1 (p + 4) (by omega) (by omega)).2.1, by unfold PlA at h5 ⊢; omega⟩
  · have a1 := h3.1
    have t := fun r a b => (e1 r a b).1
    have j := (e1 p (by omega) (by omega)).2.2.2
    unfold PlSh at a1 ⊢
    rw [t p (by omega) (by omega), t (p + 1) (by omega) (by omega), t (p + 2) (by omega) (by omega), t (p + 3) (by omega) (by omega), t (p + 4) (by omega) (by omega), t (p + 6) (by omega) (by omega), e2.1, j, j, j, j, j, j]
    exact a1
  · have a2 := h3.2
    have t := fun r a b => (e1 r a b).2.1
    unfold PlD ltB at a2 ⊢
    rw [t p (by omega) (by omega), t (p + 2) (by omega) (by omega), t (p + 3) (by omega) (by omega), t (p + 6) (by omega) (by omega), e2.2.1, (e1 p (by omega) (by omega)).2.2.1]
    exact a2
theorem Dj.mv {M M' : mM} {s q : Nat} (h : Dj M s q) (h0 : gR M' s 0 = gR M s 0) (hp : ∀ p, gR M s 0 = some p → 248 ≤ p → gR M' p 14 = gR M p 14) : Dj M' s q := fun p a b => by
  rw [h0] at a
  rw [hp p a b]
  exact h p a b
theorem CapP.mv {M M' : mM} (h : CapP M) (h0 : gR M' 118 0 = gR M 118 0) (hp : ∀ p, gR M 118 0 = some p → 248 ≤ p → gR M' p 14 = gR M p 14 ∧ ∀ cd, gR M p 14 = some cd → gT M' cd = gT M cd) : CapP M' := fun p a b cd n c d => by
  rw [h0] at a
  obtain ⟨e1, e2⟩ := hp p a b
  rw [e1] at c
  rw [e2 cd c] at d
  exact h p a b cd n c d
theorem MR.pl {M : mM} {K : Nat → Int32} (h : MR M K) : ∃ p cd, gR M 118 0 = some p ∧ gR M p 14 = some cd ∧ PlA M p cd := by
  obtain ⟨_, _, _, _, p, cd, n, rd, l1, p0, p1, p2, p3⟩ := h
  exact ⟨p, cd, p0, p1.1.2.2.2.2.2.2.2.2.2.2.2.1, p3⟩
theorem KM.pc {M M' : mM} (h : KM M M') (h8 : 248 ≤ gz M) {p cd : Nat} (hp : PlA M p cd) : (∀ a, p ≤ a → a ≤ p + 6 → Sme M M' a) ∧ Sme M M' cd := by
  unfold PlA at hp
  exact ⟨fun a x y => h.2.1 a (by omega) (by omega), h.2.1 cd (by omega) (by omega)⟩
theorem KM.p {M M' : mM} {K : Nat → Int32} (h : KM M M') (hm : MR M K) : ∀ p, gR M 118 0 = some p → 248 ≤ p → gR M' p 14 = gR M p 14 ∧ ∀ cd, gR M p 14 = some cd → gT M' cd = gT M cd := fun p a b => by
  obtain ⟨p', cd, q1, q2, q3⟩ := hm.pl
  rw [q1] at a
  cases a
  obtain ⟨e1, e2⟩ := h.pc hm.2.2.1 q3
  refine ⟨(e1 p (by omega) (by omega)).2.2.2 14, fun cd' c => ?_⟩
  rw [q2] at c
  cases c
  exact e2.1
theorem CapP.km {M M' : mM} {K : Nat → Int32} (hc : CapP M) (h : KM M M') (hm : MR M K) : CapP M' := hc.mv h.2.2 (h.p hm)
theorem IR.pl {M : mM} {s : Nat} {K : Nat → Int32} (h : IR M s K) : ∃ p cd, gR M s 0 = some p ∧ gR M p 14 = some cd ∧ PlA M p cd := by
  obtain ⟨hW, nx, p, cd, n, rd, l1, hn, h1, h2, h3, h4, h5⟩ := h
  exact ⟨p, cd, h2, h3.1.2.2.2.2.2.2.2.2.2.2.2.1, h5⟩
theorem IMs.ir {M : mM} {A B : Nat → Int32} (h : IMs M A B) {j q : Nat} (hj : j < 3) (hq : gR M 193 j = some q) : B j = 1 ∧ 248 ≤ q ∧ q + 74 < gz M ∧ ScSh M q ∧ IR M q (fun t => A (2120 * j + t)) ∧ Dj M 118 q ∧ ∀ i, i < 3 → ∀ q', gR M 193 i = some q' → Dj M q' q ∧ (i ≠ j → q' + 74 < q ∨ q + 74 < q') := by
  rcases h j hj with ⟨_, b⟩ | ⟨a, q0, b1, b2⟩
  · rw [b] at hq; cases hq
  · rw [b1] at hq; cases hq
    exact ⟨a, b2⟩
theorem IMs.km {M M' : mM} {K A B : Nat → Int32} (h : IMs M A B) (k : KM M M') (hm : MR M K) : IMs M' A B := by
  have h8 := hm.2.2.1
  have e193 := (k.2.1 193 (by omega) (by omega)).2.2.2
  intro i hi
  rcases h i hi with ⟨a, b⟩ | ⟨a, q, q1, q2, q3, q4, q5, q6, q7⟩
  · exact Or.inl ⟨a, (e193 i).trans b⟩
  · have sq : ∀ r, q ≤ r → r ≤ q + 74 → Sme M M' r := fun r x y => k.2.1 r (by omega) (by omega)
    refine Or.inr ⟨a, q, (e193 i).trans q1, q2, by have := k.1; omega, q4.sm (fun r x y => ⟨(sq r x y).1, fun j _ => (sq r x y).2.2.2 j⟩), q5.mv k.1 (fun r x y => (sq r x y).2.1) ((sq q (by omega) (by omega)).2.2.2 0) (fun p cd _ _ z => k.pc h8 z), q6.mv k.2.2 (fun p x y => (k.p hm p x y).1), fun j hj q' hq' => ?_⟩
    rw [e193] at hq'
    obtain ⟨d1, d2⟩ := q7 j hj q' hq'
    obtain ⟨_, u1, u2, _, u5, _⟩ := h.ir hj hq'
    refine ⟨d1.mv ((k.2.1 q' (by omega) (by omega)).2.2.2 0) (fun p x y => ?_), d2⟩
    obtain ⟨p', cd, v1, v2, v3⟩ := u5.pl
    rw [v1] at x
    cases x
    exact ((k.pc h8 v3).1 p (by omega) (by omega)).2.2.2 14
/-- a scene of its own taken for an image -/
theorem IMs.put {M M' : mM} {K A B : Nat → Int32} {i q nx p : Nat} (hm : MR M K) (hc : CapP M) (hi : i < 3) (h193 : gR M 193 i = some q) (hq : 248 ≤ q) (hz : q + 74 < gz M) (hs : ScSh M q) (hd : Dj M 118 q)
    (ho : ∀ j, j < 3 → j ≠ i → (B j = 0 ∧ gR M 193 j = none) ∨ (B j = 1 ∧ ∃ q', gR M 193 j = some q' ∧ 248 ≤ q' ∧ q' + 74 < gz M ∧ ScSh M q' ∧ IR M q' (fun t => A (2120 * j + t)) ∧ Dj M 118 q' ∧ Dj M q' q ∧ (∀ j', j' < 3 → j' ≠ i → ∀ q2, gR M 193 j' = some q2 → Dj M q2 q' ∧ (j' ≠ j → q2 + 74 < q' ∨ q' + 74 < q2)) ∧ (q' + 74 < q ∨ q + 74 < q')))
    (hp : gR M 118 0 = some p) (e : Sm (Wsc q) (sR M q 0 (some p)) M') (hD : ScD M' q nx K) :
    MR M' K ∧ CapP M' ∧ IMs M' (cpK A (2120 * i) K 2120) (uK B i 1) := by
  have h8 := hm.2.2.1
  have hir := hm.ir hc
  obtain ⟨p', cd, p1, p2, p3⟩ := hm.pl
  rw [hp] at p1
  cases p1
  have zz : gz M' = gz M := e.1
  have tt : gT M' = gT M := e.2.1
  have jj : gJ M' = gJ M := e.2.2.1
  have rr : ∀ r k, ¬ (r = q ∧ k = 0) → gR M' r k = gR M r k := fun r k a => by
    rw [e.2.2.2.1, gR_sR]
    unfold up2
    rw [if_neg a]
  have r0 : gR M' q 0 = some p := by rw [e.2.2.2.1]; exact gR_ss _ _ _ _
  have ii : ∀ r, r < q ∨ q + 74 < r → gI M' r = gI M r := fun r a => funext (fun k => e.2.2.2.2 r k (Wsc_o (by omega) k))
  have sm : ∀ r, r < q ∨ q + 74 < r → Sme M M' r := fun r a => ⟨by rw [tt], ii r a, fun k => by rw [jj], fun k => rr r k (by omega)⟩
  have pl : ∀ s p cd, gR M s 0 = some p → gR M p 14 = some cd → PlA M p cd → Dj M s q → (∀ a, p ≤ a → a ≤ p + 6 → Sme M M' a) ∧ Sme M M' cd := fun s p cd a b c d => by
    rcases c with ⟨c1, c2⟩ | c
    · exact ⟨fun a x y => sm a (by omega), sm cd (by omega)⟩
    · obtain ⟨d1, d2⟩ := d p a c.1
      exact ⟨fun a x y => sm a (d1 a x y), sm cd (d2 cd b)⟩
  have hS' : Sh M' := ⟨fun a sh x => by rw [tt]; exact hm.1.1 a sh x, fun a k b x => by
    rw [rr a k (fun z => by have := rQ_lt x; omega)]
    exact hm.1.2 a k b x⟩
  have hir' : IR M' 118 K := hir.mv (by omega) (fun a x y => ii a (by omega)) (rr 118 0 (by omega)) (fun p cd a b c => pl 118 p cd a b c hd)
  have e14 : ∀ s p, gR M s 0 = some p → 248 ≤ p → Dj M s q → gR M' p 14 = gR M p 14 := fun s p a b d => rr p 14 (by omega)
  have hcp : CapP M' := hc.mv (rr 118 0 (by omega)) (fun p a b => ⟨rr p 14 (by omega), fun cd _ => by rw [tt]⟩)
  have dj : ∀ s q2, s ≠ q → Dj M s q2 → Dj M' s q2 := fun s q2 a d => d.mv (rr s 0 (by omega)) (fun p _ _ => rr p 14 (by omega))
  have djq : ∀ q2, Dj M 118 q2 → Dj M' q q2 := fun q2 d => by
    have d' := dj 118 q2 (by omega) d
    intro p2 a b
    rw [r0] at a
    cases a
    exact d' p (by rw [rr 118 0 (by omega)]; exact hp) b
  refine ⟨hir'.mr hS' (by omega), hcp, fun j hj => ?_⟩
  have e193 : ∀ k, gR M' 193 k = gR M 193 k := fun k => rr 193 k (by omega)
  by_cases hji : j = i
  · subst hji
    refine Or.inr ⟨uK_s _ _ _, q, (e193 j).trans h193, hq, by omega, hs.sm (fun r x y => ⟨by rw [tt], fun k hk => rr r k hk⟩), ?_, dj 118 q (by omega) hd, fun j' hj' q' hq' => ?_⟩
    · have hx : IR M' q K := by
        obtain ⟨hW, nx2, p2, cd2, n, rd, l1, hn, h1, h2, h3, h4, h5⟩ := hir'
        rw [rr 118 0 (by omega), hp] at h2
        cases h2
        exact ⟨hW, nx, p, cd2, n, rd, l1, hn, hD, r0, h3, h4, h5⟩
      exact IR_b hx (fun t ht => by
        show cpK A (2120 * j) K 2120 (2120 * j + t) = K t
        rw [cpK_in (by omega) (by omega)]
        exact congrArg K (by omega))
    · rw [e193] at hq'
      by_cases e2 : j' = j
      · subst e2
        rw [h193] at hq'
        cases hq'
        exact ⟨djq _ hd, fun z => absurd rfl z⟩
      · rcases ho j' hj' e2 with ⟨_, b⟩ | ⟨_, q0, b1, b2, b3, b4, b5, b6, b7, b8, b9⟩
        · rw [b] at hq'; cases hq'
        · rw [b1] at hq'
          cases hq'
          exact ⟨dj _ _ (by omega) b7, fun _ => b9⟩
  · rcases ho j hj hji with ⟨a, b⟩ | ⟨a, q0, b1, b2, b3, b4, b5, b6, b7, b8, b9⟩
    · exact Or.inl ⟨by rw [uK_n _ _ hji]; exact a, (e193 j).trans b⟩
    · refine Or.inr ⟨by rw [uK_n _ _ hji]; exact a, q0, (e193 j).trans b1, b2, by omega, b4.sm (fun r x y => ⟨by rw [tt], fun k _ => rr r k (by omega)⟩), ?_, dj 118 q0 (by omega) b6, fun j' hj' q' hq' => ?_⟩
      · have hx : IR M' q0 (fun t => A (2120 * j + t)) := b5.mv (by omega) (fun r x y => ii r (by omega)) (rr q0 0 (by omega)) (fun p cd a b c => pl q0 p cd a b c b7)
        exact IR_b hx (fun t ht => by
          show cpK A (2120 * i) K 2120 (2120 * j + t) = A (2120 * j + t)
          exact cpK_out (by omega))
      · rw [e193] at hq'
        by_cases e2 : j' = i
        · subst e2
          rw [h193] at hq'
          cases hq'
          exact ⟨djq _ b6, fun _ => by omega⟩
        · obtain ⟨d1, d2⟩ := b8 j' hj' e2 q' hq'
          rcases ho j' hj' e2 with ⟨_, x⟩ | ⟨_, q3, c1, c2, c3, c4, c5, c6, c7, c8, c9⟩
          · rw [x] at hq'; cases hq'
          · rw [c1] at hq'
            cases hq'
            exact ⟨dj _ _ (by omega) d1, d2⟩
