/-- the number of marks told, ahead of all else -/
theorem CS.p1 {p N v : Nat} {Z : (Nat → Nat) × Nat} {M0 M : mM} {R : RSt} (hp : 248 ≤ p) (h : CS p N Z M0 false 0 0 R M) (hv : v < 2 ^ 31) (k2 : kn R.2.2.2 2 = 0) (k3 : kn R.2.2.2 3 = 0) (k4 : kn R.2.2.2 4 ≤ 8) (k7 : kn R.2.2.2 7 = 0) : CS p N Z M0 false 0 0 (rst R 1 (nI v)) (sI M p 1 (nI v)) := by
  have mo : ∀ q k', q ≠ p ∨ k' ≠ 1 → gI (sI M p 1 (nI v)) q k' = gI M q k' := fun q k' a => by
    by_cases hq : q = p
    · subst hq; exact gI_sk _ _ (a.resolve_left (fun z => z rfl))
    · exact gI_sq _ _ hq
  have mq : ∀ q, q ≠ p → gI (sI M p 1 (nI v)) q = gI M q := fun q a => gI_sr _ _ a
  have eo : ∀ i, i ≠ 1 → uK R.2.2.2 1 (nI v) i = R.2.2.2 i := fun i hi => uK_n _ _ hi
  have e1 : kn (uK R.2.2.2 1 (nI v)) 1 = v := kn_uK hv
  have ko : ∀ i, i ≠ 1 → kn (uK R.2.2.2 1 (nI v)) i = kn R.2.2.2 i := fun i hi => kn_cg (eo i hi)
  refine CS.to hp h rfl rfl rfl (Sq.rf.st _ (Wcs_p _ ⟨by omega, by omega⟩)) (fun q hq => mq q (by omega)) rfl ?_ (by rw [mo p 4 (Or.inr (by decide))]; exact h.2.2.2.2.1) (fun _ g r => ⟨?_, ?_⟩)
  · show gI (sI M p 1 (nI v)) p 1 = nI (kn (uK R.2.2.2 1 (nI v)) 1)
    rw [gI_ss, e1]
  · show CG _ p (uK R.2.2.2 1 (nI v))
    generalize uK R.2.2.2 1 (nI v) = K' at eo e1 ko
    obtain ⟨⟨g0, g2, g3, g4, g5, g6, g7, g8⟩, gc, grow, gcost, gst, gcode, glamp⟩ := g
    unfold CG
    rw [ko 2 (by decide), ko 4 (by decide), ko 7 (by decide), eo 0 (by decide), eo 2 (by decide), eo 93 (by decide), eo 3 (by decide), eo 119 (by decide), eo 4 (by decide), eo 5 (by decide), eo 6 (by decide), eo 7 (by decide), mo p 0 (Or.inr (by decide)), mo p 2 (Or.inr (by decide)), mo p 3 (Or.inr (by decide)), mo p 4 (Or.inr (by decide)), mo p 5 (Or.inr (by decide)), mo p 6 (Or.inr (by decide)), mo p 7 (Or.inr (by decide)), mo p 8 (Or.inr (by decide)), mq 102 (by omega), mq (p + 2) (by omega), mq (p + 3) (by omega), mq (p + 6) (by omega), mq (p + 7) (by omega)]
    refine ⟨⟨g0, g2, g3, g4, g5, g6, g7, g8⟩, gc, fun c hc => by rw [k2] at hc; exact absurd hc (Nat.not_lt_zero _), fun w hw => ?_, fun w hw => ?_, fun k hk => by rw [k7] at hk; exact absurd hk (Nat.not_lt_zero _), fun m v' hm' hv' => ?_⟩
    · rw [eo (109 + w) (by omega)]; exact gcost w hw
    · rw [eo (144 + w) (by omega)]; exact gst w hw
    · rw [lby_K (K := R.2.2.2) (fun i a d => eo i (by omega)) _ _ _ _ (by omega), hsL_K (K := R.2.2.2) (fun i a d => eo i (by omega)) _ _ _ _ (by omega)]
      exact glamp m v' hm' hv'
  · show RB _ p false 0 0 (uK R.2.2.2 1 (nI v))
    have r1 := r.1
    unfold RB
    rw [k7, rdS] at r1
    rw [ko 3 (by decide), ko 7 (by decide), k7, k3, rdS, mo p 9 (Or.inr (by decide))]
    exact ⟨r1, fun w hw => absurd hw (Nat.not_lt_zero _), fun z => by cases z⟩
