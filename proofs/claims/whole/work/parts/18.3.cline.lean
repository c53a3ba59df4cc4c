/-! ===== the class's parser: words ===== -/
theorem CS.to {p N : Nat} {Z : (Nat → Nat) × Nat} {M0 M M' : mM} {b b' : Bool} {rb rl rb' rl' : Nat} {R R' : RSt} (hp : 248 ≤ p) (h : CS p N Z M0 b rb rl R M) (e1 : R'.1 = R.1) (e2 : R'.2.1 = R.2.1) (ei : R'.2.2.1 = R.2.2.1) (sq : Sq p M M') (o : ∀ q, q < p ∨ p + 7 < q → gI M' q = gI M q) (hR : gR M' = gR M) (k1 : gI M' p 1 = nI (kn R'.2.2.2 1)) (k4 : ∃ w, gI M' p 4 = nI w ∧ w ≤ 10 ∧ (b' = true → w < 10)) (hc : R.1 = 0 → CG M p R.2.2.2 → RB M p b rb rl R.2.2.2 → CG M' p R'.2.2.2 ∧ RB M' p b' rb' rl' R'.2.2.2) : CS p N Z M0 b' rb' rl' R' M' := by
  obtain ⟨h1, h2, h3, h4, h5, h6⟩ := h
  unfold CS
  rw [e1, e2, ei]
  refine ⟨h1.tr sq, by rw [o 102 (by omega)]; exact h2, by rw [o 102 (by omega)]; exact h3, k1, k4, fun z => ?_⟩
  obtain ⟨⟨⟨a1, a2, a3, a4, a5⟩, b1, b2, b3, b4, b5⟩, g, r⟩ := h6 z
  refine ⟨⟨⟨by rw [o 103 (by omega)]; exact a1, a2, a3, a4, fun j hj => by rw [o 105 (by omega), o 106 (by omega), hR]; exact a5 j hj⟩, by rw [o 103 (by omega)]; exact b1, b2, by rw [hR]; exact b3, by rw [o 103 (by omega)]; exact b4, by rw [o 103 (by omega)]; exact b5⟩, hc z g r⟩
/-- places of K that a plan's cells speak of -/
def cgI (K : Nat → Int32) (i : Nat) : Prop := i ≤ 8 ∨ (9 ≤ i ∧ i < 9 + 6 * kn K 2) ∨ i = 93 ∨ (109 ≤ i ∧ i < 155) ∨ (1155 ≤ i ∧ i < 1155 + kn K 7)
theorem CG.k {M : mM} {p : Nat} {K K' : Nat → Int32} (h : CG M p K) (h24 : kn K 2 ≤ 14 ∧ kn K 4 ≤ 8) (h6 : kn K 1 ≤ 6) (e : ∀ i, cgI K i → K' i = K i) : CG M p K' := by
  obtain ⟨⟨g0, g2, g3, g4, g5, g6, g7, g8⟩, gc, grow, gcost, gst, gcode, glamp⟩ := h
  have lo : ∀ i, i ≤ 8 → K' i = K i := fun i hi => e i (Or.inl hi)
  have mi : ∀ i, 109 ≤ i → i < 155 → K' i = K i := fun i a c => e i (Or.inr (Or.inr (Or.inr (Or.inl ⟨a, c⟩))))
  have n1 : kn K' 1 = kn K 1 := kn_cg (lo 1 (by decide))
  have n2 : kn K' 2 = kn K 2 := kn_cg (lo 2 (by decide))
  have n4 : kn K' 4 = kn K 4 := kn_cg (lo 4 (by decide))
  have n7 : kn K' 7 = kn K 7 := kn_cg (lo 7 (by decide))
  unfold CG
  rw [n1, n2, n4, n7, lo 0 (by decide), lo 2 (by decide), lo 3 (by decide), lo 4 (by decide), lo 5 (by decide), lo 6 (by decide), lo 7 (by decide), e 93 (Or.inr (Or.inr (Or.inl rfl))), mi 119 (by decide) (by decide)]
  refine ⟨⟨g0, g2, g3, g4, g5, g6, g7, g8⟩, gc, fun c hc => ?_, fun w hw => ?_, fun w hw => ?_, fun k hk => ?_, fun m v hm hv => ?_⟩
  · rw [grow c hc]
    exact congrArg nI (pkR_cg (b := cur K) (b' := cur K') (fun m hm => e (9 + (6 * c + m)) (Or.inr (Or.inl ⟨by omega, by omega⟩))) _ h6).symm
  · rw [mi (109 + w) (by omega) (by omega)]; exact gcost w hw
  · rw [mi (144 + w) (by omega) (by omega)]; exact gst w hw
  · rw [kn_cg (e (1155 + k) (Or.inr (Or.inr (Or.inr (Or.inr ⟨by omega, by omega⟩)))))]; exact gcode k hk
  · rw [lby_K (K := K) (fun i a d => mi i (by omega) (by omega)) _ _ _ _ (by omega), hsL_K (K := K) (fun i a d => mi i (by omega) (by omega)) _ _ _ _ (by omega)]; exact glamp m v hm hv
theorem RB.k {M : mM} {p rb rl : Nat} {b : Bool} {K K' : Nat → Int32} (h : RB M p b rb rl K) (hK : KI K) (e : ∀ i, (i ≤ 8 ∨ (144 ≤ i ∧ i < 155) ∨ (1155 ≤ i ∧ i < 1155 + kn K 7)) → K' i = K i) : RB M p b rb rl K' := by
  obtain ⟨q1, q2, q3⟩ := h
  have n : ∀ i, i ≤ 8 → kn K' i = kn K i := fun i hi => kn_cg (e i (Or.inl hi))
  have m : ∀ i, 144 ≤ i → i < 155 → kn K' i = kn K i := fun i a c => kn_cg (e i (Or.inr (Or.inl ⟨a, c⟩)))
  obtain ⟨⟨k2, k3, k4⟩, kw⟩ := hK
  unfold RB
  rw [n 1 (by decide), n 3 (by decide), n 7 (by decide), m (144 + kn K 3) (by omega) (by omega), rdS_cg (K := K) _ (fun j hj => e _ (Or.inr (Or.inr ⟨by omega, by omega⟩)))]
  have e1 := kw (kn K 3) (Nat.le_refl _)
  refine ⟨q1, fun w hw => ?_, fun hb => ?_⟩
  · have e1 := kw w (by omega)
    have e2 := kw (w + 1) (by omega)
    rw [show 144 + (w + 1) = 144 + w + 1 by omega] at e2
    rw [m (144 + w) (by omega) (by omega), m (144 + w + 1) (by omega) (by omega), lwS_cg (K := K) _ (fun j hj => e _ (Or.inr (Or.inr ⟨by omega, by omega⟩)))]
    exact q2 w hw
  · rw [lwS_cg (K := K) _ (fun j hj => e _ (Or.inr (Or.inr ⟨by omega, by omega⟩)))]
    exact q3 hb
section CL
variable (G : mG)
/-- a word's end: one more word, the next one's start -/
theorem c3_endWord (M : mM) {p N : Nat} {Z : (Nat → Nat) × Nat} {M0 : mM} {R : RSt} (hM : PM M0 p N) (h : CS p N Z M0 true 0 0 R M) (hI : IV Z R) (hK : KI R.2.2.2) : Ct G Y3_endWord 0 0 0 [.ref 102] M (Rs none (CS p N Z M0 false 0 0 (woE R))) NX := by
  have hPM := hM.sq h.1
  have hS' := hPM.1
  have hp := hM.2.2.1
  have hp2 := hPM.2.2.2.1
  obtain ⟨p0, p1, p2, p3, p4, p6, r10, r11, r12, r13, r15, r14, tc, hlt⟩ := hPM.2.1
  obtain ⟨w, w1, w2, w3⟩ := h.words
  obtain ⟨M2, hM2⟩ : ∃ M2, M2 = sI (sI M p 4 (nI (w + 1))) (p + 3) (w + 1) (gI M 102 1) := ⟨_, rfl⟩
  have o4 : ∀ q k, q ≠ p + 3 → (q ≠ p ∨ k ≠ 4) → gI M2 q k = gI M q k := fun q k a c => by
    rw [hM2, gI_sq _ _ a]
    by_cases hq : q = p
    · subst hq; exact gI_sk _ _ (c.resolve_left (fun z => z rfl))
    · exact gI_sq _ _ hq
  have oq : ∀ q, q ≠ p → q ≠ p + 3 → gI M2 q = gI M q := fun q a c => funext (fun k => o4 q k c (Or.inl a))
  have hsq : Sq p M M2 := by rw [hM2]; exact (Sq.rf.st _ (Wcs_p _ ⟨by omega, by omega⟩)).st _ (Wcs_p _ ⟨by omega, by omega⟩)
  have f4 : gI M2 p 4 = nI (w + 1) := by rw [hM2, gI_sq _ _ (by omega), gI_ss]
  have hm := hI.2.2.2.2.1
  have fin : CS p N Z M0 false 0 0 (woE R) M2 := by
    by_cases hb : R.1 = 0
    · have hw := w3 hb
      have e : woE R = rst (rst R 3 (R.2.2.2 3 + 1)) (144 + (kn R.2.2.2 3 + 1)) (R.2.2.2 7) := if_neg (Decidable.not_not.mpr hb)
      have g3 : R.2.2.2 3 = nI w := by rw [← (h.2.2.2.2.2 hb).2.1.1.2.2.2.1]; exact w1
      have e3 : R.2.2.2 3 + 1 = nI (w + 1) := by rw [g3, nI_1]
      have eK : (woE R).2.2.2 = uK (uK R.2.2.2 3 (nI (w + 1))) (144 + (w + 1)) (R.2.2.2 7) := by rw [e, e3, ← hw]; rfl
      have eo : ∀ i, i ≠ 3 → i ≠ 144 + (w + 1) → (woE R).2.2.2 i = R.2.2.2 i := fun i a c => by rw [eK, uK_n _ _ c, uK_n _ _ a]
      have ko : ∀ i, i ≠ 3 → i ≠ 144 + (w + 1) → kn (woE R).2.2.2 i = kn R.2.2.2 i := fun i a c => kn_cg (eo i a c)
      have es3 : (woE R).2.2.2 3 = nI (w + 1) := by rw [eK, uK_n _ _ (by omega), uK_s]
      have ks3 : kn (woE R).2.2.2 3 = w + 1 := by rw [kn, es3, nI_clamp (by omega)]
      have est : (woE R).2.2.2 (144 + (w + 1)) = R.2.2.2 7 := by rw [eK, uK_s]
      have kst : kn (woE R).2.2.2 (144 + (w + 1)) = kn R.2.2.2 7 := congrArg Int32.toNatClampNeg est
      obtain ⟨⟨k2, k3, k4⟩, kw⟩ := hK
      refine CS.to hp h (by rw [e]; rfl) (by rw [e]; rfl) (by rw [e]; rfl) hsq (fun q hq => oq q (by omega) (by omega)) (by rw [hM2]; rfl) ?_ ⟨w + 1, f4, by omega, fun z => by cases z⟩ (fun _ g r => ⟨?_, ?_⟩)
      · rw [o4 p 1 (by omega) (Or.inr (by decide)), ko 1 (by decide) (by omega)]; exact h.2.2.2.1
      · obtain ⟨⟨g0, g2, g3', g4, g5, g6, g7, g8⟩, gc, grow, gcost, gst, gcode, glamp⟩ := g
        have base : ∀ k, k ≠ 4 → gI M2 p k = gI M p k := fun k hk => o4 p k (by omega) (Or.inr hk)
        refine ⟨⟨?_, ?_, ?_, ?_, ?_, ?_, ?_, ?_⟩, ?_, fun c hc => ?_, fun d hd => ?_, fun d hd => ?_, fun k hk => ?_, fun m v hm' hv => ?_⟩
        · rw [base 0 (by decide), eo 0 (by decide) (by omega)]; exact g0
        · rw [base 2 (by decide), eo 2 (by decide) (by omega)]; exact g2
        · rw [base 3 (by decide), eo 93 (by decide) (by omega)]; exact g3'
        · rw [f4, es3]
        · rw [base 5 (by decide), eo 119 (by decide) (by omega)]; exact g5
        · rw [base 6 (by decide), eo 4 (by decide) (by omega)]; exact g6
        · rw [base 7 (by decide), eo 5 (by decide) (by omega)]; exact g7
        · rw [base 8 (by decide), eo 6 (by decide) (by omega)]; exact g8
        · rw [oq 102 (by omega) (by omega), eo 7 (by decide) (by omega)]; exact gc
        · rw [ko 2 (by decide) (by omega)] at hc
          rw [oq (p + 1) (by omega) (by omega), ko 1 (by decide) (by omega), grow c hc]
          exact congrArg nI (pkR_cg (b := cur R.2.2.2) (b' := cur (woE R).2.2.2) (fun m hm => eo (9 + (6 * c + m)) (by omega) (by omega)) _ hm.2.2).symm
        · rw [oq (p + 2) (by omega) (by omega), eo (109 + d) (by omega) (by omega)]; exact gcost d hd
        · by_cases hdw : d = w + 1
          · subst hdw; rw [hM2, gI_ss, est]; exact gc
          · rw [hM2, gI_sk _ _ hdw, gI_sq _ _ (by omega), eo (144 + d) (by omega) (by omega)]; exact gst d hd
        · rw [ko 7 (by decide) (by omega)] at hk
          rw [oq (p + 7) (by omega) (by omega), ko (1155 + k) (by omega) (by omega)]; exact gcode k hk
        · rw [ko 4 (by decide) (by omega), lby_K (K := R.2.2.2) (fun i a d => eo i (by omega) (by omega)) _ _ _ _ (by omega), hsL_K (K := R.2.2.2) (fun i a d => eo i (by omega) (by omega)) _ _ _ _ (by omega), oq (p + 6) (by omega) (by omega)]
          have hl := glamp m v hm' hv
          unfold ltB at hl ⊢
          rw [show gJ M2 p = gJ M p by rw [hM2]; rfl]
          exact hl
      · obtain ⟨q1, q2, q3⟩ := r
        have hcg : ∀ n, n ≤ kn R.2.2.2 7 → ∀ j, j < n → (woE R).2.2.2 (1155 + j) = R.2.2.2 (1155 + j) := fun n hn j hj => eo _ (by omega) (by omega)
        refine ⟨?_, fun d hd => ?_, fun z => by cases z⟩
        · rw [o4 p 9 (by omega) (Or.inr (by decide)), ko 1 (by decide) (by omega), ko 7 (by decide) (by omega), rdS_cg (K := R.2.2.2) _ (fun j hj => eo _ (by omega) (by omega))]; exact q1
        · rw [ks3] at hd
          rw [oq (p + 4) (by omega) (by omega), ko 1 (by decide) (by omega), ko (144 + d) (by omega) (by omega)]
          have e1 := kw d (by omega)
          by_cases hdw : d = w
          · have q3' := q3 rfl
            rw [← hw, Nat.max_zero] at q3'
            rw [hdw, show 144 + w + 1 = 144 + (w + 1) by omega, kst, lwS_cg (K := R.2.2.2) _ (fun j hj => eo _ (by omega) (by omega))]
            exact q3'
          · have e2 := kw (d + 1) (by omega)
            rw [show 144 + (d + 1) = 144 + d + 1 by omega] at e2
            rw [ko (144 + d + 1) (by omega) (by omega), lwS_cg (K := R.2.2.2) _ (fun j hj => eo _ (by omega) (by omega))]
            exact q2 d (by omega)
    · have e : woE R = R := if_pos hb
      rw [e]
      exact CS.to hp h rfl rfl rfl hsq (fun q hq => oq q (by omega) (by omega)) (by rw [hM2]; rfl) (by rw [o4 p 1 (by omega) (Or.inr (by decide))]; exact h.2.2.2.1) ⟨w + 1, f4, by omega, fun z => by cases z⟩ (fun z _ _ => absurd z hb)
  have g4 : gI (sI M p 4 (nI (w + 1))) p 4 = nI (w + 1) := gI_ss _ _ _ _
  have g1 : gI (sI M p 4 (nI (w + 1))) 102 1 = gI M 102 1 := gI_sq _ _ (by omega)
  refine Ct.of k3_endWord.1 (Nat.le_of_ble_eq_true rfl) ?_
  refine v_aload_n dX3_endWord_0 rfl ?_
  refine v_getR 3 2 _ dX3_endWord_1 f3_21 (by first | exact hS'.1 _ _ rfl | assumption) (by decide) hp2 ?_
  refine v_dup dX3_endWord_4 rfl ?_
  refine v_getI 4 4 dX3_endWord_5 f3_160 p0 (by decide) ?_
  rw [w1]
  refine v_iconst 1 dX3_endWord_8 (by decide) ?_
  refine v_iadd dX3_endWord_9 ?_
  rw [nI_1]
  refine v_putI 4 4 dX3_endWord_10 f3_160 p0 (by decide) ?_
  refine v_aload_n dX3_endWord_13 rfl ?_
  refine v_getR 3 2 _ dX3_endWord_14 f3_21 (by first | exact hS'.1 _ _ rfl | assumption) (by decide) hp2 ?_
  refine v_getI 4 4 dX3_endWord_17 f3_160 p0 (by decide) ?_
  refine v_aload_n dX3_endWord_20 rfl ?_
  refine v_getR 3 2 _ dX3_endWord_21 f3_21 (by first | exact hS'.1 _ _ rfl | assumption) (by decide) hp2 ?_
  refine v_getR 4 12 _ dX3_endWord_24 f3_181 p0 (by decide) r12 ?_
  refine v_alen dX3_endWord_27 p3 (by decide) ?_
  rw [g4]
  refine v_icmp_ge 50 dX3_endWord_28 (by decide) (fun h28 => absurd ((nI_leI (by omega) (by omega)).mp h28) (by omega)) (fun h28 => ?_)
  refine v_aload_n dX3_endWord_31 rfl ?_
  refine v_getR 3 2 _ dX3_endWord_32 f3_21 (by first | exact hS'.1 _ _ rfl | assumption) (by decide) hp2 ?_
  refine v_getR 4 12 _ dX3_endWord_35 f3_181 p0 (by decide) r12 ?_
  refine v_aload_n dX3_endWord_38 rfl ?_
  refine v_getR 3 2 _ dX3_endWord_39 f3_21 (by first | exact hS'.1 _ _ rfl | assumption) (by decide) hp2 ?_
  refine v_getI 4 4 dX3_endWord_42 f3_160 p0 (by decide) ?_
  rw [g4]
  refine v_aload_n dX3_endWord_45 rfl ?_
  refine v_getI 3 1 dX3_endWord_46 f3_32 (by first | exact hS'.1 _ _ rfl | assumption) (by decide) ?_
  rw [g1]
  refine v_iastN (w + 1) dX3_endWord_49 p3 (by simp only [n_lit, pk_mul, nI_add]) ⟨by omega, by omega⟩ ?_
  refine v_vret dX3_endWord_50 rfl ?_
  exact ⟨rfl, by rw [← hM2]; exact fin⟩
end CL
