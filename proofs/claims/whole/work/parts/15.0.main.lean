/-! ===== the class LeastWords: what its cells say of K ===== -/
def iaE : String := "java/lang/IllegalArgumentException"
def isE : String := "java/lang/IllegalStateException"
def ioE : String := "java/lang/IndexOutOfBoundsException"
theorem Sh.tr {M : mM} (h : Sh M) : StSh M 195 := ⟨h.1 _ _ rfl, h.1 _ _ rfl, h.1 _ _ rfl, h.1 _ _ rfl, h.1 _ _ rfl, h.1 _ _ rfl, h.2 _ _ _ rfl, h.2 _ _ _ rfl, h.2 _ _ _ rfl, h.2 _ _ _ rfl, h.2 _ _ _ rfl⟩
theorem Sh.rk {M : mM} (h : Sh M) : RkSh M 115 := ⟨h.1 _ _ rfl, h.1 _ _ rfl, h.1 _ _ rfl, h.2 _ _ _ rfl, h.2 _ _ _ rfl⟩
theorem Sh.sc {M : mM} (h : Sh M) : ScSh M 118 := by
  refine ⟨h.1 _ _ rfl, h.2 _ _ _ rfl, h.2 _ _ _ rfl, h.1 _ _ rfl, ⟨h.1 _ _ rfl, h.1 _ _ rfl, h.1 _ _ rfl, h.1 _ _ rfl, h.1 _ _ rfl, h.1 _ _ rfl, h.2 _ _ _ rfl, h.2 _ _ _ rfl, h.2 _ _ _ rfl, h.2 _ _ _ rfl, h.2 _ _ _ rfl⟩, fun i hi => ?_⟩
  obtain rfl | rfl | rfl | rfl | rfl | rfl | rfl | rfl | rfl | rfl : i = 0 ∨ i = 1 ∨ i = 2 ∨ i = 3 ∨ i = 4 ∨ i = 5 ∨ i = 6 ∨ i = 7 ∨ i = 8 ∨ i = 9 := by omega
  all_goals exact ⟨h.2 _ _ _ rfl, ⟨h.1 _ _ rfl, h.1 _ _ rfl, h.1 _ _ rfl, h.1 _ _ rfl, h.1 _ _ rfl, h.1 _ _ rfl, h.2 _ _ _ rfl, h.2 _ _ _ rfl, h.2 _ _ _ rfl, h.2 _ _ _ rfl, h.2 _ _ _ rfl⟩⟩
/-- where a plan's cells lie: those that the scene was made with, or made later -/
def PlA (M : mM) (p cd : Nat) : Prop := (p = 119 ∧ cd = 124) ∨ (248 ≤ p ∧ 248 ≤ cd ∧ p + 6 < gz M ∧ cd < gz M)
def MR (M : mM) (K : Nat → Int32) : Prop := Sh M ∧ WK K ∧ 248 ≤ gz M ∧ (∃ nx, ScD M 118 nx K) ∧ ∃ p cd n rd l1, gR M 118 0 = some p ∧ Plr M p cd n K ∧ Rdr M p K rd l1 ∧ PlA M p cd
theorem MR.sd {M : mM} {K : Nat → Int32} (h : MR M K) : Str M 126 K := by
  obtain ⟨hS, -, -, ⟨nx, hd⟩, -⟩ := h
  exact ⟨hS.sc.2.2.2.2.1, hd.1⟩
/-- cells that a call leaves alone -/
def Fx (q : Nat) : Prop := ¬ (102 ≤ q ∧ q ≤ 118) ∧ ¬ (126 ≤ q ∧ q ≤ 192) ∧ ¬ (195 ≤ q ∧ q ≤ 221)
def Kp (M M' : mM) : Prop := gz M ≤ gz M' ∧ (∀ q, q < gz M → Fx q → gT M' q = gT M q ∧ gI M' q = gI M q ∧ gJ M' q = gJ M q ∧ gR M' q = gR M q) ∧ gR M' 118 0 = gR M 118 0
theorem Kp.rf {M : mM} : Kp M M := ⟨Nat.le_refl _, fun _ _ _ => ⟨rfl, rfl, rfl, rfl⟩, rfl⟩
theorem Kp.tr {M M' M2 : mM} (h : Kp M M') (h2 : Kp M' M2) : Kp M M2 := ⟨Nat.le_trans h.1 h2.1, fun q hq hf => by
  obtain ⟨a1, a2, a3, a4⟩ := h.2.1 q hq hf
  obtain ⟨b1, b2, b3, b4⟩ := h2.2.1 q (Nat.lt_of_lt_of_le hq h.1) hf
  exact ⟨b1.trans a1, b2.trans a2, b3.trans a3, b4.trans a4⟩, h2.2.2.trans h.2.2⟩
theorem Kp.of {M M' : mM} (hz : gz M' = gz M) (hT : gT M' = gT M) (hI : ∀ q, Fx q → gI M' q = gI M q) (hJ : ∀ q, Fx q → gJ M' q = gJ M q) (hR : ∀ q, Fx q → gR M' q = gR M q) (h118 : gR M' 118 = gR M 118) : Kp M M' := ⟨by rw [hz]; exact Nat.le_refl _, fun q _ hf => ⟨by rw [hT], hI q hf, hJ q hf, hR q hf⟩, by rw [h118]⟩
theorem Kp.sm {W : Nat → Nat → Bool} {M M' : mM} (h : Sm W M M') (w : ∀ q k, Fx q → W q k = false) : Kp M M' := Kp.of h.1 h.2.1 (fun q hq => h.row (fun k => w q k hq)) (fun q _ => by rw [h.2.2.1]) (fun q _ => by rw [h.2.2.2.1]) (by rw [h.2.2.2.1])
theorem Kp.sj {W J : Nat → Nat → Bool} {M M' : mM} (h : Sj W J M M') (w : ∀ q k, Fx q → W q k = false) (j : ∀ q k, Fx q → J q k = false) : Kp M M' := Kp.of h.1 h.2.1 (fun q hq => by funext k; exact h.2.2.2.1 q k (w q k hq)) (fun q hq => by funext k; exact h.2.2.2.2 q k (j q k hq)) (fun q _ => by rw [h.2.2.1]) (by rw [h.2.2.1])
theorem Kp.gap {M : mM} {z : Nat} (h : gz M ≤ z) : Kp M (gapM M z) := ⟨h, fun q hq _ => ⟨if_neg (show ¬ gz M ≤ q by omega), rfl, rfl, rfl⟩, rfl⟩
theorem Sh.gap {M : mM} (h : Sh M) (h2 : 248 ≤ gz M) (z : Nat) : Sh (gapM M z) := by
  refine ⟨fun q sh hq => ?_, fun q k a hq => h.2 q k a hq⟩
  have h1 : q < 248 := by
    apply Classical.byContradiction
    intro hn
    have e1 : ∀ a, a ≤ 248 → Nat.blt q a = false := fun a ha => Bool.eq_false_iff.mpr (fun z => by have := Nat.le_of_ble_eq_true z; omega)
    have e2 : ∀ a, a < 248 → Nat.beq q a = false := fun a ha => nbeq_f (by omega)
    have : tQ q = none := by
      unfold tQ
      simp (disch := decide) only [e1, e2, cond_false]
    rw [this] at hq
    cases hq
  exact (if_neg (show ¬ gz M ≤ q by omega)).trans (h.1 q sh hq)
theorem ScD.mv {M M' : mM} {q nx : Nat} {K : Nat → Int32} (h : ScD M q nx K) (hI : ∀ a, q ≤ a → a ≤ q + 74 → gI M' a = gI M a) : ScD M' q nx K := by
  have st : ∀ s K', StD M s K' → q ≤ s → s + 5 ≤ q + 74 → StD M' s K' := by
    intro s K' hs h1 h2
    unfold StD at hs ⊢
    rw [hI s (by omega) (by omega), hI (s + 1) (by omega) (by omega), hI (s + 2) (by omega) (by omega), hI (s + 3) (by omega) (by omega), hI (s + 4) (by omega) (by omega), hI (s + 5) (by omega) (by omega)]
    exact hs
  obtain ⟨d1, d2, d3, d4, d5, d6⟩ := h
  refine ⟨st _ _ d1 (by omega) (by omega), by rw [hI q (by omega) (by omega)]; exact d2, by rw [hI q (by omega) (by omega)]; exact d3, d4, fun i hi => by rw [hI _ (by omega) (by omega)]; exact d5 i hi, fun j hj => ?_⟩
  have : slot nx (kn K 8) j < 10 := Nat.mod_lt _ (by decide)
  exact st _ _ (d6 j hj) (by omega) (by omega)
theorem Rdr.mv {M M' : mM} {p rd : Nat} {K : Nat → Int32} {l1 : Nat → Nat} (h : Rdr M p K rd l1) (h1 : gI M' p = gI M p) (h2 : gI M' (p + 4) = gI M (p + 4)) : Rdr M' p K rd l1 := by
  unfold Rdr at h ⊢
  rw [h1, h2]
  exact h
theorem Plr.mr2 {M M' : mM} {p cd n : Nat} {K : Nat → Int32} (h : Plr M p cd n K) (hT : gT M' = gT M) (hR : gR M' p = gR M p) (hJ : gJ M' p = gJ M p) (hI : ∀ q, (p ≤ q ∧ q ≤ p + 6) ∨ q = cd → gI M' q = gI M q) : Plr M' p cd n K := by
  obtain ⟨h1, h2⟩ := h
  refine ⟨by unfold PlSh at h1 ⊢; rw [hT, hR]; exact h1, ?_⟩
  unfold PlD ltB at h2 ⊢
  rw [hI p (Or.inl ⟨by omega, by omega⟩), hI (p + 2) (Or.inl ⟨by omega, by omega⟩), hI (p + 3) (Or.inl ⟨by omega, by omega⟩), hI (p + 6) (Or.inl ⟨by omega, by omega⟩), hI cd (Or.inr rfl), hJ]
  exact h2
/-- cells of the helpers -/
def Hq (q : Nat) : Prop := ¬ (115 ≤ q ∧ q ≤ 117) ∧ ¬ (195 ≤ q ∧ q ≤ 221)
theorem MR.hp {M M' : mM} {K : Nat → Int32} (h : MR M K) (hz : gz M' = gz M) (hT : gT M' = gT M) (hR : ∀ q, q ≠ 209 → gR M' q = gR M q) (hR9 : ∀ k, k ≠ 3 → gR M' 209 k = gR M 209 k) (hI : ∀ q, Hq q → gI M' q = gI M q) (hJ : ∀ q, Hq q → gJ M' q = gJ M q) : Kp M M' ∧ MR M' K := by
  obtain ⟨hS, hW, h8, ⟨nx, hd⟩, p, cd, n, rd, l1, p0, p1, p2, p3⟩ := h
  have hpl : ∀ q, (p ≤ q ∧ q ≤ p + 6) ∨ q = cd → Hq q := by
    intro q hq
    unfold Hq
    unfold PlA at p3
    omega
  refine ⟨Kp.of hz hT (fun q hq => hI q (by unfold Fx at hq; unfold Hq; omega)) (fun q hq => hJ q (by unfold Fx at hq; unfold Hq; omega)) (fun q hq => hR q (by unfold Fx at hq; omega)) (hR 118 (by decide)), ⟨fun q sh hq => by rw [hT]; exact hS.1 q sh hq, fun q k a hq => ?_⟩, hW, by rw [hz]; exact h8, ⟨nx, hd.mv (fun a h1 h2 => hI a (by unfold Hq; omega))⟩, p, cd, n, rd, l1, by rw [hR 118 (by decide)]; exact p0, p1.mr2 hT (hR p (by unfold PlA at p3; omega)) (hJ p (hpl p (Or.inl ⟨by omega, by omega⟩))) (fun q hq => hI q (hpl q hq)), p2.mv (hI p (hpl p (Or.inl ⟨by omega, by omega⟩))) (hI (p + 4) (hpl (p + 4) (Or.inl ⟨by omega, by omega⟩))), by unfold PlA at p3 ⊢; rw [hz]; exact p3⟩
  by_cases e : q = 209
  · subst e
    by_cases e3 : k = 3
    · subst e3
      rw [show rQ 209 3 = none from rfl] at hq
      cases hq
    · rw [hR9 k e3]; exact hS.2 209 k a hq
  · rw [hR q e]; exact hS.2 q k a hq
theorem MR.sj {M M' : mM} {K : Nat → Int32} {W J : Nat → Nat → Bool} (h : MR M K) (e : Sj W J M M') (w : ∀ q k, Hq q → W q k = false) (j : ∀ q k, Hq q → J q k = false) : Kp M M' ∧ MR M' K :=
  h.hp e.1 e.2.1 (fun q _ => by rw [e.2.2.1]) (fun k _ => by rw [e.2.2.1]) (fun q hq => by funext k; exact e.2.2.2.1 q k (w q k hq)) (fun q hq => by funext k; exact e.2.2.2.2 q k (j q k hq))
theorem MR.gap {M : mM} {K : Nat → Int32} (h : MR M K) {z : Nat} (hz : gz M ≤ z) : Kp M (gapM M z) ∧ MR (gapM M z) K := by
  refine ⟨Kp.gap hz, ?_⟩
  obtain ⟨hS, hW, h8, ⟨nx, hd⟩, p, cd, n, rd, l1, p0, p1, p2, p3⟩ := h
  refine ⟨hS.gap h8 z, hW, Nat.le_trans h8 hz, ⟨nx, hd⟩, p, cd, n, rd, l1, p0, ⟨?_, p1.2⟩, p2, ?_⟩
  · have hp := p1.1
    have e : ∀ q, (p ≤ q ∧ q ≤ p + 6) ∨ q = cd → gT (gapM M z) q = gT M q := fun q hq => if_neg (show ¬ gz M ≤ q by unfold PlA at p3; omega)
    unfold PlSh at hp ⊢
    rw [e p (Or.inl ⟨by omega, by omega⟩), e (p + 1) (Or.inl ⟨by omega, by omega⟩), e (p + 2) (Or.inl ⟨by omega, by omega⟩), e (p + 3) (Or.inl ⟨by omega, by omega⟩), e (p + 4) (Or.inl ⟨by omega, by omega⟩), e (p + 6) (Or.inl ⟨by omega, by omega⟩), e cd (Or.inr rfl)]
    exact hp
  · unfold PlA at p3 ⊢
    show _ ∨ (_ ∧ _ ∧ _ < z ∧ _ < z)
    omega
theorem PlA.ap {M : mM} {p cd : Nat} (h : PlA M p cd) (h8 : 248 ≤ gz M) : Apt p cd 115 117 ∧ Apt p cd 126 131 ∧ Apt p cd 195 200 ∧ Ap2 126 p cd ∧ Ap3 126 p cd ∧ Ap4 p cd ∧ p ≠ 118 ∧ p ≠ 126 := by
  unfold PlA at h
  refine ⟨?_, ?_, ?_, ⟨?_, ?_⟩, ⟨?_, ?_⟩, ?_, ?_, ?_⟩
  all_goals first
    | (intro q hq; omega)
    | omega
theorem Plr.ck {M : mM} {p cd n : Nat} {K K' : Nat → Int32} (h : Plr M p cd n K) (hP : WP K) (hk : ∀ i, i < 8 ∨ (109 ≤ i ∧ i < 155) ∨ 1155 ≤ i → K' i = K i) : Plr M p cd n K' := by
  have kk : ∀ i, i < 8 ∨ (109 ≤ i ∧ i < 155) ∨ 1155 ≤ i → kn K' i = kn K i := fun i hi => by unfold kn; rw [hk i hi]
  obtain ⟨h1, ⟨e1, e2, e3, e4, e5, e6, e7⟩, g2, g3, g4, ⟨g5, g5'⟩, g6, g7⟩ := h
  have h10 := hP.2.2.1.2
  have h8 := hP.2.2.2.1.2
  have k3 := kk 3 (by omega)
  have k1 := kk 1 (by omega)
  have k4 := kk 4 (by omega)
  have kl := kk (144 + kn K 3) (by omega)
  refine ⟨h1, ⟨by rw [hk 0 (by omega)]; exact e1, by rw [hk 1 (by omega)]; exact e2, by rw [hk 2 (by omega)]; exact e3, by rw [hk 3 (by omega)]; exact e4, by rw [hk 119 (by omega)]; exact e5, by rw [hk 5 (by omega)]; exact e6, by rw [hk 6 (by omega)]; exact e7⟩, fun w hw => ?_, fun w hw => ?_, fun k hq => ?_, ⟨?_, ?_⟩, fun w hw => ?_, fun m v hm hv => ?_⟩
  · rw [k3] at hw
    rw [hk _ (by omega)]; exact g2 w hw
  · rw [k3] at hw
    rw [hk _ (by omega)]; exact g3 w hw
  · rw [k3, kl] at hq
    rw [kk _ (by omega)]; exact g4 k hq
  · rw [k3, kl]; exact g5
  · rw [k3, kl, hk _ (by omega)]; exact g5'
  · rw [k3] at hw ⊢
    rw [kl, kk _ (by omega)]; exact g6 w hw
  · rw [k1] at hm
    rw [k4, lby_K (fun i a b => hk i (by omega)) _ _ _ _ (by omega)]; exact g7 m v hm hv
theorem Rdr.ck {M : mM} {p rd : Nat} {l1 : Nat → Nat} {K K' : Nat → Int32} (h : Rdr M p K rd l1) (hP : WP K) (hk : ∀ i, i < 8 ∨ (109 ≤ i ∧ i < 155) ∨ 1155 ≤ i → K' i = K i) : Rdr M p K' rd l1 := by
  have kk : ∀ i, i < 8 ∨ (109 ≤ i ∧ i < 155) ∨ 1155 ≤ i → kn K' i = kn K i := fun i hi => by unfold kn; rw [hk i hi]
  have hp : ∀ i, plI i → K' i = K i := fun i hi => hk i (by unfold plI at hi; omega)
  have h10 := hP.2.2.1.2
  have h8 := hP.2.2.2.1.2
  have k3 := kk 3 (by omega)
  have k1 := kk 1 (by omega)
  have k4 := kk 4 (by omega)
  obtain ⟨a1, a2, a3, a4⟩ := h
  refine ⟨fun m v hm hv => ?_, a2, fun f g hf w hw => ?_, fun w hw => ?_⟩
  · rw [k1] at hm
    rw [k4, lby_K (fun i a b => hk i (by omega)) _ _ _ _ (by omega)]; exact a1 m v hm hv
  · rw [k3] at hw
    rw [wt_K hp _ _ (by omega), wt_K hp _ _ (by omega)]
    exact a3 f g (fun m hm => hf m (by rw [k1]; exact hm)) w hw
  · rw [k3] at hw
    obtain ⟨b1, b2, b3⟩ := a4 w hw
    exact ⟨b1, by rw [k1]; exact b2, fun f g hf => by rw [wt_K hp _ _ (by omega), wt_K hp _ _ (by omega)]; exact b3 f g hf⟩
theorem ScD.now {M M' : mM} {q nx : Nat} {K K' : Nat → Int32} (h : ScD M q nx K) (hP : WP K) (hI : ∀ a, (q + 14 ≤ a ∧ a ≤ q + 74) ∨ a = q → gI M' a = gI M a) (hd : StD M' (q + 8) K') (hk : ∀ i, (i < 9 ∨ 109 ≤ i) → K' i = K i) : ScD M' q nx K' := by
  have k8 : kn K' 8 = kn K 8 := by unfold kn; rw [hk 8 (by omega)]
  obtain ⟨d1, d2, d3, d4, d5, d6⟩ := h
  refine ⟨hd, by rw [hI q (Or.inr rfl), hk 8 (by omega)]; exact d2, by rw [hI q (Or.inr rfl)]; exact d3, d4, fun i hi => by rw [hI _ (Or.inl ⟨by omega, by omega⟩)]; exact d5 i hi, fun j hj => ?_⟩
  rw [k8] at hj ⊢
  have hsl : slot nx (kn K 8) j < 10 := Nat.mod_lt _ (by decide)
  have h1 := d6 j hj
  have h2 : StD M' (q + 15 + 6 * slot nx (kn K 8) j) (blkK K j) := by
    unfold StD at h1 ⊢
    rw [hI _ (Or.inl ⟨by omega, by omega⟩), hI _ (Or.inl ⟨by omega, by omega⟩), hI _ (Or.inl ⟨by omega, by omega⟩), hI _ (Or.inl ⟨by omega, by omega⟩), hI _ (Or.inl ⟨by omega, by omega⟩), hI _ (Or.inl ⟨by omega, by omega⟩)]
    exact h1
  refine h2.cg (hP.cong blkK_p) (fun i hi => ?_) (fun i a b => ?_)
  · rw [blkK_p i hi, blkK_p i hi]; exact hk i (by unfold plI at hi; omega)
  · rw [blkK_c a b, blkK_c a b]; exact hk _ (by omega)
/-- scenes' cells changed, as the plan is told by both -/
theorem MR.scn {M M' : mM} {K K' : Nat → Int32} {nx : Nat} (h : MR M K) (e : Sm (Wsc 118) M M') (hW : WK K') (hd : ScD M' 118 nx K') (hk : ∀ i, i < 8 ∨ (109 ≤ i ∧ i < 155) ∨ 1155 ≤ i → K' i = K i) : Kp M M' ∧ MR M' K' := by
  obtain ⟨hS, hW0, h8, -, p, cd, n, rd, l1, p0, p1, p2, p3⟩ := h
  have hw : ∀ q, (p ≤ q ∧ q ≤ p + 6) ∨ q = cd → ∀ k, Wsc 118 q k = false := fun q hq k => Wsc_o (by unfold PlA at p3; omega) k
  have kk : ∀ i, i < 8 ∨ (109 ≤ i ∧ i < 155) ∨ 1155 ≤ i → kn K' i = kn K i := fun i hi => by unfold kn; rw [hk i hi]
  refine ⟨Kp.sm e (fun q k hq => Wsc_o (by unfold Fx at hq; omega) k), hS.sm e, hW, by rw [e.1]; exact h8, ⟨nx, hd⟩, p, cd, n, rd, l1, by rw [e.2.2.2.1]; exact p0, ?_, ?_, by unfold PlA at p3 ⊢; rw [e.1]; exact p3⟩
  · have q1 := p1.mv e.2.1 e.2.2.2.1 (by rw [e.2.2.1]) (fun q hq => e.row (hw q hq))
    exact q1.ck hW0.p hk
  · have q1 := p2.mv (e.row (hw p (Or.inl ⟨by omega, by omega⟩))) (e.row (hw (p + 4) (Or.inl ⟨by omega, by omega⟩)))
    exact q1.ck hW0.p hk
/-- the current state's cells changed, and the reckoner's -/
theorem MR.now {M M' : mM} {K K' : Nat → Int32} {W : Nat → Nat → Bool} (h : MR M K) (e : Sm W M M') (w : ∀ q k, (Hq q ∧ ¬ (126 ≤ q ∧ q ≤ 131)) → W q k = false) (hd : StD M' 126 K') (hW : WK K') (hk : ∀ i, (i < 9 ∨ 109 ≤ i) → K' i = K i) : Kp M M' ∧ MR M' K' := by
  obtain ⟨hS, hW0, h8, ⟨nx, hn⟩, p, cd, n, rd, l1, p0, p1, p2, p3⟩ := h
  have hw : ∀ q, (p ≤ q ∧ q ≤ p + 6) ∨ q = cd → ∀ k, W q k = false := fun q hq k => w q k (by unfold PlA at p3; unfold Hq; omega)
  refine ⟨Kp.sm e (fun q k hq => w q k (by unfold Fx at hq; unfold Hq; omega)), hS.sm e, hW, by rw [e.1]; exact h8, ⟨nx, hn.now hW0.p (fun a ha => e.row (fun k => w a k (by unfold Hq; omega))) hd hk⟩, p, cd, n, rd, l1, by rw [e.2.2.2.1]; exact p0, ?_, ?_, by unfold PlA at p3 ⊢; rw [e.1]; exact p3⟩
  · have q1 := p1.mv e.2.1 e.2.2.2.1 (by rw [e.2.2.1]) (fun q hq => e.row (hw q hq))
    exact q1.ck hW0.p (fun i hi => hk i (by omega))
  · have q1 := p2.mv (e.row (hw p (Or.inl ⟨by omega, by omega⟩))) (e.row (hw (p + 4) (Or.inl ⟨by omega, by omega⟩)))
    exact q1.ck hW0.p (fun i hi => hk i (by omega))
/-- how a call ends: an answer; or a throw of the kind that the list has for t -/
def Qt (t : Int32) (v : Option Value) (M : mM) (K' : Nat → Int32) : Option Value → mM → Prop := fun v' M' => t = 0 ∧ v' = v ∧ Kp M M' ∧ MR M' K'
def Xt (l : List (Int32 × String)) (t : Int32) (M : mM) : String → mM → Prop := fun E M' => (t, E) ∈ l ∧ ∃ z, gz M ≤ z ∧ M' = gapM M z
def Tg (E0 : String) (M : mM) : String → mM → Prop := fun E M' => E = E0 ∧ ∃ z, gz M ≤ z ∧ M' = gapM M z
theorem Tg.mk {E : String} {M : mM} : ∀ z, gz M ≤ z → Tg E M E (gapM M z) := fun z hz => ⟨rfl, z, hz, rfl⟩
theorem inR_mk {n : Nat} {x : Int32} (h0 : ¬ x < 0) (h : x < nI n) (hn : n < 2 ^ 31) : inR n x = true := by
  obtain ⟨j, hj, rfl⟩ := nI_of h0
  unfold inR
  rw [nI_clamp hj]
  exact decide_eq_true ⟨h0, (nI_ltI hj hn).mp h⟩
theorem Xt.of {l : List (Int32 × String)} {t : Int32} {M M' : mM} {E E0 : String} (h : Tg E0 M E M') (hl : (t, E0) ∈ l) : Xt l t M E M' := ⟨by rw [h.1]; exact hl, h.2⟩
