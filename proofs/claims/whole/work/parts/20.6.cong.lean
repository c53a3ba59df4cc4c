/-! ===== 'known' below place 2120 is all that counts ===== -/
def e2K (K K' : Nat → Int32) : Prop := ∀ i, i < 2120 → K' i = K i
theorem evs_cb {K K' : Nat → Int32} {nm : Nat} {f : Nat → Int32} {num : Int32} : ∀ c k st, (∀ j, k ≤ j → j < k + c → K' (1155 + j) = K (1155 + j)) → evs K' nm f num c k st = evs K nm f num c k st := by
  intro c
  induction c with
  | zero => intro k st _; rfl
  | succ c ih =>
    intro k st e
    simp only [evs]
    rw [ih _ _ (fun j a b => e j (by omega) (by omega)), kn_cg (e k (by omega) (by omega))]
theorem wt_b {K K' : Nat → Int32} (hP : WP K) (e : e2K K K') (f : Nat → Int32) (num : Int32) {w : Nat} (hw : w < kn K 3) : wt K' f num w = wt K f num w := by
  have h10 := hP.2.2.1.2
  obtain ⟨a1, a2, a3, a4, a5⟩ := hP.2.2.2.2.2.2.2.1 w hw
  unfold wt
  rw [kn_cg (e 1 (by omega)), kn_cg (e (144 + w) (by omega)), kn_cg (e (144 + w + 1) (by omega)), evs_cb _ _ _ (fun j a b => e (1155 + j) (by omega))]
theorem WP_b {K K' : Nat → Int32} (h : WP K) (e : e2K K K') : WP K' := by
  have n : ∀ i, i < 2120 → kn K' i = kn K i := fun i hi => kn_cg (e i hi)
  obtain ⟨h1, h2, h3, h4, h5, h6, h7, h8, h9, h10⟩ := h
  refine ⟨by rw [e 1 (by omega), n 1 (by omega)]; exact h1, by rw [e 2 (by omega), n 2 (by omega)]; exact h2, by rw [e 3 (by omega), n 3 (by omega)]; exact h3, by rw [e 4 (by omega), n 4 (by omega)]; exact h4, by rw [e 5 (by omega), n 5 (by omega)]; exact h5, by rw [e 6 (by omega), n 6 (by omega)]; exact h6, fun k hk => by rw [e _ (by omega), n _ (by omega)]; exact h7 k hk, fun w hw => ?_, fun w hw => by rw [e _ (by omega), n _ (by omega)]; exact h9 w hw, by rw [e 119 (by omega), n 119 (by omega), n 3 (by omega)]; exact h10⟩
  rw [n 3 (by omega)] at hw
  have hw10 := h3.2
  obtain ⟨a1, a2, a3, a4, a5⟩ := h8 w hw
  rw [e (144 + w) (by omega), n (144 + w) (by omega), e (144 + w + 1) (by omega), n (144 + w + 1) (by omega), n 1 (by omega), chk_cg (K := K) _ _ _ (fun j a b => e _ (by omega))]
  exact ⟨a1, a2, a3, a4, a5⟩
theorem WK_b {K K' : Nat → Int32} (h : WK K) (e : e2K K K') : WK K' := by
  have n : ∀ i, i < 2120 → kn K' i = kn K i := fun i hi => kn_cg (e i hi)
  obtain ⟨h1, h2, h3, h4⟩ := h
  refine ⟨WP_b h1 e, by rw [e 8 (by omega), n 8 (by omega)]; exact h2, by rw [n 2 (by omega), n 3 (by omega), n 6 (by omega)]; exact h3.cong (fun i hi => e _ (by omega)), fun j hj => ?_⟩
  rw [n 8 (by omega)] at hj
  rw [n 2 (by omega), n 3 (by omega), n 6 (by omega)]
  exact (h4 j hj).cong (fun i hi => e _ (by have := h2.2; omega))
theorem trN_b {K K' : Nat → Int32} (hP : WP K) (e : e2K K K') (l : Bool) {c : Nat} (hc : c < 14) : trN K' l c = trN K l c := by
  have h1 := hP.1.2.2
  unfold trN wset
  rw [kn_cg (e 3 (by omega)), kn_cg (e 4 (by omega))]
  exact bset_ext (fun w hw => (wt_b hP e _ _ hw).trans (wt_cong hP (fun m hm => lkv_K (fun i a b => e i (by omega)) hP.2.2.2.1.2 l (e _ (by omega))) _ hw))
theorem StD_b {M : mM} {s : Nat} {K K' : Nat → Int32} (h : StD M s K) (hP : WP K) (e : e2K K K') : StD M s K' := by
  have n : ∀ i, i < 2120 → kn K' i = kn K i := fun i hi => kn_cg (e i hi)
  have h14 := hP.2.1.2
  obtain ⟨d1, d2, d3, d4, d5, d6⟩ := h
  refine ⟨fun c hc => ?_, fun p hp => by rw [e _ (by omega), e _ (by omega)]; exact d2 p hp, by rw [e _ (by omega)]; exact d3, by rw [e _ (by omega)]; exact d4, by rw [e _ (by omega)]; exact d5, by rw [e _ (by omega)]; exact d6⟩
  rw [n 2 (by omega)] at hc
  rw [n 1 (by omega), trN_b hP e _ (by omega), trN_b hP e _ (by omega), pkR_cg (b := cur K) (b' := cur K') (fun m hm => e (9 + (6 * c + m)) (by omega)) _ hP.1.2.2]
  exact d1 c hc
theorem ScD_b {M : mM} {q nx : Nat} {K K' : Nat → Int32} (h : ScD M q nx K) (hW : WK K) (e : e2K K K') : ScD M q nx K' := by
  obtain ⟨d1, d2, d3, d4, d5, d6⟩ := h
  have h8 := hW.2.1.2
  have k8 : kn K' 8 = kn K 8 := kn_cg (e 8 (by omega))
  refine ⟨StD_b d1 hW.p e, by rw [e 8 (by omega)]; exact d2, d3, d4, d5, fun j hj => ?_⟩
  rw [k8] at hj ⊢
  refine StD_b (d6 j hj) (hW.p.cong blkK_p) (fun i hi => ?_)
  unfold blkK cpK blk
  by_cases c : 9 ≤ i ∧ i < 9 + 100
  · rw [if_pos c, if_pos c]
    exact e _ (by omega)
  · rw [if_neg c, if_neg c]
    exact e _ hi
theorem Plr_b {M : mM} {p cd n : Nat} {K K' : Nat → Int32} (h : Plr M p cd n K) (hP : WP K) (hn : n ≤ 965) (e : e2K K K') : Plr M p cd n K' := by
  have kk : ∀ i, i < 2120 → kn K' i = kn K i := fun i hi => kn_cg (e i hi)
  obtain ⟨h1, ⟨e1, e2, e3, e4, e5, e6, e7⟩, g2, g3, g4, ⟨g5, g5'⟩, g6, g7⟩ := h
  have h10 := hP.2.2.1.2
  have h8 := hP.2.2.2.1.2
  have k3 := kk 3 (by omega)
  have k1 := kk 1 (by omega)
  have k4 := kk 4 (by omega)
  have kl := kk (144 + kn K 3) (by omega)
  have hl : kn K (144 + kn K 3) ≤ 965 := Nat.le_trans g5 hn
  refine ⟨h1, ⟨by rw [e 0 (by omega)]; exact e1, by rw [e 1 (by omega)]; exact e2, by rw [e 2 (by omega)]; exact e3, by rw [e 3 (by omega)]; exact e4, by rw [e 119 (by omega)]; exact e5, by rw [e 5 (by omega)]; exact e6, by rw [e 6 (by omega)]; exact e7⟩, fun w hw => ?_, fun w hw => ?_, fun k hq => ?_, ⟨?_, ?_⟩, fun w hw => ?_, fun m v hm hv => ?_⟩
  · rw [k3] at hw
    rw [e _ (by omega)]; exact g2 w hw
  · rw [k3] at hw
    rw [e _ (by omega)]; exact g3 w hw
  · rw [k3, kl] at hq
    rw [kk _ (by omega)]; exact g4 k hq
  · rw [k3, kl]; exact g5
  · rw [k3, kl, e _ (by omega)]; exact g5'
  · rw [k3] at hw ⊢
    rw [kl, kk _ (by omega)]; exact g6 w hw
  · rw [k1] at hm
    rw [k4, lby_K (fun i a b => e i (by omega)) _ _ _ _ (by omega)]; exact g7 m v hm hv
theorem Rdr_b {M : mM} {p rd : Nat} {l1 : Nat → Nat} {K K' : Nat → Int32} (h : Rdr M p K rd l1) (hP : WP K) (e : e2K K K') : Rdr M p K' rd l1 := by
  have kk : ∀ i, i < 2120 → kn K' i = kn K i := fun i hi => kn_cg (e i hi)
  have h8 := hP.2.2.2.1.2
  have k3 := kk 3 (by omega)
  have k1 := kk 1 (by omega)
  have k4 := kk 4 (by omega)
  obtain ⟨a1, a2, a3, a4⟩ := h
  refine ⟨fun m v hm hv => ?_, a2, fun f g hf w hw => ?_, fun w hw => ?_⟩
  · rw [k1] at hm
    rw [k4, lby_K (fun i a b => e i (by omega)) _ _ _ _ (by omega)]; exact a1 m v hm hv
  · rw [k3] at hw
    rw [wt_b hP e _ _ hw, wt_b hP e _ _ hw]
    exact a3 f g (fun m hm => hf m (by rw [k1]; exact hm)) w hw
  · rw [k3] at hw
    obtain ⟨b1, b2, b3⟩ := a4 w hw
    exact ⟨b1, by rw [k1]; exact b2, fun f g hf => by rw [wt_b hP e _ _ hw, wt_b hP e _ _ hw]; exact b3 f g hf⟩
/-- a scene at q tells K, but for its cells' shapes -/
def IR (M : mM) (q : Nat) (K : Nat → Int32) : Prop := WK K ∧ ∃ nx p cd n rd l1, n ≤ 965 ∧ ScD M q nx K ∧ gR M q 0 = some p ∧ Plr M p cd n K ∧ Rdr M p K rd l1 ∧ PlA M p cd
theorem IR_b {M : mM} {q : Nat} {K K' : Nat → Int32} (h : IR M q K) (e : e2K K K') : IR M q K' := by
  obtain ⟨hW, nx, p, cd, n, rd, l1, hn, h1, h2, h3, h4, h5⟩ := h
  exact ⟨WK_b hW e, nx, p, cd, n, rd, l1, hn, ScD_b h1 hW e, h2, Plr_b h3 hW.p hn e, Rdr_b h4 hW.p e, h5⟩
/-- the code of the plan that a scene has is none too long -/
def CapP (M : mM) : Prop := ∀ p, gR M 118 0 = some p → 248 ≤ p → ∀ cd n, gR M p 14 = some cd → gT M cd = .inr (0, n) → n ≤ 965
theorem MR.ir {M : mM} {K : Nat → Int32} (h : MR M K) (hc : CapP M) : IR M 118 K := by
  obtain ⟨hS, hW, h8, ⟨nx, hd⟩, p, cd, n, rd, l1, p0, p1, p2, p3⟩ := h
  refine ⟨hW, nx, p, cd, n, rd, l1, ?_, hd, p0, p1, p2, p3⟩
  obtain ⟨a1, a2, a3, a4, a5, a6, a7, a8, a9, a10, a11, a12, a13, a14⟩ := p1.1
  rcases p3 with ⟨q1, q2⟩ | q
  · rw [q2] at a13
    have := a13.symm.trans (hS.1 124 _ rfl)
    have e : n = 0 := by
      have h1 := Sum.inr.inj this
      exact (Prod.mk.inj h1).2
    omega
  · exact hc p p0 q.1 cd n a12 a13
theorem IR.mr {M : mM} {K : Nat → Int32} (h : IR M 118 K) (hS : Sh M) (h8 : 248 ≤ gz M) : MR M K := by
  obtain ⟨hW, nx, p, cd, n, rd, l1, hn, h1, h2, h3, h4, h5⟩ := h
  exact ⟨hS, hW, h8, ⟨nx, h1⟩, p, cd, n, rd, l1, h2, h3, h4, h5⟩
