/-! ===== the class's parser: readWord ===== -/
/-- one number of a plan -/
theorem CS.sc {p N k j : Nat} {Z : (Nat → Nat) × Nat} {M0 M : mM} {b : Bool} {rb rl : Nat} {R : RSt} {v : Int32} (hp : 248 ≤ p) (h : CS p N Z M0 b rb rl R M) (hI : IV Z R) (hK : KI R.2.2.2) (hkj : (k = 5 ∧ j = 119) ∨ (k = 7 ∧ j = 5) ∨ (k = 8 ∧ j = 6) ∨ (k = 3 ∧ j = 93)) : CS p N Z M0 b rb rl (rst R j v) (sI M p k v) := by
  have mo : ∀ q k', q ≠ p ∨ k' ≠ k → gI (sI M p k v) q k' = gI M q k' := fun q k' a => by
    by_cases hq : q = p
    · subst hq; exact gI_sk _ _ (a.resolve_left (fun z => z rfl))
    · exact gI_sq _ _ hq
  have mq : ∀ q, q ≠ p → gI (sI M p k v) q = gI M q := fun q a => gI_sr _ _ a
  have hm := hI.2.2.2.2.1
  have eo : ∀ i, i ≠ j → (rst R j v).2.2.2 i = R.2.2.2 i := fun i hi => uK_n _ _ hi
  have ej : (rst R j v).2.2.2 j = v := uK_s _ _ _
  have ko : ∀ i, i ≠ j → kn (rst R j v).2.2.2 i = kn R.2.2.2 i := fun i hi => kn_cg (eo i hi)
  generalize (rst R j v).2.2.2 = K' at eo ej ko
  refine CS.to hp h rfl rfl rfl (Sq.rf.st _ (Wcs_p _ ⟨by omega, by omega⟩)) (fun q hq => mq q (by omega)) rfl ?_ (by rw [mo p 4 (Or.inr (by omega))]; exact h.2.2.2.2.1) (fun _ g r => ⟨?_, ?_⟩)
  · rw [mo p 1 (Or.inr (by omega))]
    show _ = nI (kn (uK R.2.2.2 j v) 1)
    rw [kn_cg (uK_n R.2.2.2 v (show (1 : Nat) ≠ j by omega))]
    exact h.2.2.2.1
  · show CG _ p (uK R.2.2.2 j v)
    have eo' : ∀ i, i ≠ j → uK R.2.2.2 j v i = R.2.2.2 i := fun i hi => uK_n _ _ hi
    have ej' : uK R.2.2.2 j v j = v := uK_s _ _ _
    have ko' : ∀ i, i ≠ j → kn (uK R.2.2.2 j v) i = kn R.2.2.2 i := fun i hi => kn_cg (eo' i hi)
    generalize uK R.2.2.2 j v = K'' at eo' ej' ko'
    obtain ⟨⟨g0, g2, g3, g4, g5, g6, g7, g8⟩, gc, grow, gcost, gst, gcode, glamp⟩ := g
    have fld : ∀ k' j', gI M p k' = R.2.2.2 j' → ((k' = k ∧ j' = j) ∨ (k' ≠ k ∧ j' ≠ j)) → gI (sI M p k v) p k' = K'' j' := fun k' j' e a => by
      rcases a with ⟨a, c⟩ | ⟨a, c⟩
      · rw [a, c, gI_ss, ej']
      · rw [mo p k' (Or.inr a), eo' j' c]; exact e
    refine ⟨⟨fld 0 0 g0 (by omega), fld 2 2 g2 (by omega), fld 3 93 g3 (by omega), fld 4 3 g4 (by omega), fld 5 119 g5 (by omega), fld 6 4 g6 (by omega), fld 7 5 g7 (by omega), fld 8 6 g8 (by omega)⟩, ?_, fun c hc => ?_, fun d hd => ?_, fun d hd => ?_, fun k hk => ?_, fun m v' hm' hv => ?_⟩
    · rw [mq 102 (by omega), eo' 7 (by omega)]; exact gc
    · rw [ko' 2 (by omega)] at hc
      rw [mq (p + 1) (by omega), ko' 1 (by omega), grow c hc]
      exact congrArg nI (pkR_cg (b := cur R.2.2.2) (b' := cur K'') (fun m hm => eo' (9 + (6 * c + m)) (by have := hK.1.1; omega)) _ hm.2.2).symm
    · rw [mq (p + 2) (by omega), eo' (109 + d) (by omega)]; exact gcost d hd
    · rw [mq (p + 3) (by omega), eo' (144 + d) (by omega)]; exact gst d hd
    · rw [ko' 7 (by omega)] at hk
      rw [mq (p + 7) (by omega), ko' (1155 + k) (by omega)]; exact gcode k hk
    · rw [ko' 4 (by omega), lby_K (K := R.2.2.2) (fun i a d => eo' i (by omega)) _ _ _ _ (by have := hK.1.2.2; omega), hsL_K (K := R.2.2.2) (fun i a d => eo' i (by omega)) _ _ _ _ (by have := hK.1.2.2; omega), mq (p + 6) (by omega)]
      exact glamp m v' hm' hv
  · show RB _ p b rb rl (uK R.2.2.2 j v)
    have r2 : RB (sI M p k v) p b rb rl R.2.2.2 := by
      unfold RB at r ⊢
      rw [mo p 9 (Or.inr (by omega)), mq (p + 4) (by omega)]
      exact r
    have : ∀ i, (i ≤ 8 ∧ i ≠ 5 ∧ i ≠ 6) ∨ 144 ≤ i → uK R.2.2.2 j v i = R.2.2.2 i := fun i hi => uK_n _ _ (by omega)
    unfold RB at r2 ⊢
    have hkw := hK.2
    have h33 := hK.1.2.1
    rw [kn_cg (this 1 (by omega)), kn_cg (this 3 (by omega)), kn_cg (this 7 (by omega)), kn_cg (this (144 + kn R.2.2.2 3) (by omega)), rdS_cg (K := R.2.2.2) _ (fun j hj => this _ (by omega)), lwS_cg (K := R.2.2.2) _ (fun j hj => this _ (by omega))]
    refine ⟨r2.1, fun w hw => ?_, r2.2.2⟩
    rw [kn_cg (this (144 + w) (by omega)), kn_cg (this (144 + w + 1) (by omega)), lwS_cg (K := R.2.2.2) _ (fun j hj => this _ (by omega))]
    exact r2.2.1 w hw
/-- a word's cost -/
theorem CS.co {p N w : Nat} {Z : (Nat → Nat) × Nat} {M0 M : mM} {b : Bool} {rb rl : Nat} {R : RSt} {v : Int32} (hp : 248 ≤ p) (h : CS p N Z M0 b rb rl R M) (hI : IV Z R) (hK : KI R.2.2.2) (hw : w < 10) : CS p N Z M0 b rb rl (rst R (109 + w) v) (sI M (p + 2) w v) := by
  have mq : ∀ q, q ≠ p + 2 → gI (sI M (p + 2) w v) q = gI M q := fun q a => gI_sr _ _ a
  have hm := hI.2.2.2.2.1
  have eo' : ∀ i, i ≠ 109 + w → uK R.2.2.2 (109 + w) v i = R.2.2.2 i := fun i hi => uK_n _ _ hi
  have ej' : uK R.2.2.2 (109 + w) v (109 + w) = v := uK_s _ _ _
  have ko' : ∀ i, i ≠ 109 + w → kn (uK R.2.2.2 (109 + w) v) i = kn R.2.2.2 i := fun i hi => kn_cg (eo' i hi)
  refine CS.to hp h rfl rfl rfl (Sq.rf.st _ (Wcs_p _ ⟨by omega, by omega⟩)) (fun q hq => mq q (by omega)) rfl ?_ (by rw [mq p (by omega)]; exact h.2.2.2.2.1) (fun _ g r => ⟨?_, ?_⟩)
  · rw [mq p (by omega)]
    show _ = nI (kn (uK R.2.2.2 (109 + w) v) 1)
    rw [ko' 1 (by omega)]
    exact h.2.2.2.1
  · show CG _ p (uK R.2.2.2 (109 + w) v)
    generalize uK R.2.2.2 (109 + w) v = K'' at eo' ej' ko'
    obtain ⟨⟨g0, g2, g3, g4, g5, g6, g7, g8⟩, gc, grow, gcost, gst, gcode, glamp⟩ := g
    refine ⟨?_, ?_, fun c hc => ?_, fun d hd => ?_, fun d hd => ?_, fun k hk => ?_, fun m v' hm' hv => ?_⟩
    · rw [mq p (by omega), eo' 0 (by omega), eo' 2 (by omega), eo' 93 (by omega), eo' 3 (by omega), eo' 119 (by omega), eo' 4 (by omega), eo' 5 (by omega), eo' 6 (by omega)]
      exact ⟨g0, g2, g3, g4, g5, g6, g7, g8⟩
    · rw [mq 102 (by omega), eo' 7 (by omega)]; exact gc
    · rw [ko' 2 (by omega)] at hc
      rw [mq (p + 1) (by omega), ko' 1 (by omega), grow c hc]
      exact congrArg nI (pkR_cg (b := cur R.2.2.2) (b' := cur K'') (fun m hm => eo' (9 + (6 * c + m)) (by have := hK.1.1; omega)) _ hm.2.2).symm
    · by_cases hdw : d = w
      · subst hdw; rw [gI_ss, ej']
      · rw [gI_sk _ _ hdw, eo' (109 + d) (by omega)]; exact gcost d hd
    · rw [mq (p + 3) (by omega), eo' (144 + d) (by omega)]; exact gst d hd
    · rw [ko' 7 (by omega)] at hk
      rw [mq (p + 7) (by omega), ko' (1155 + k) (by omega)]; exact gcode k hk
    · rw [ko' 4 (by omega), lby_K (K := R.2.2.2) (fun i a d => eo' i (by omega)) _ _ _ _ (by have := hK.1.2.2; omega), hsL_K (K := R.2.2.2) (fun i a d => eo' i (by omega)) _ _ _ _ (by have := hK.1.2.2; omega), mq (p + 6) (by omega)]
      exact glamp m v' hm' hv
  · show RB _ p b rb rl (uK R.2.2.2 (109 + w) v)
    have r2 : RB (sI M (p + 2) w v) p b rb rl R.2.2.2 := by
      unfold RB at r ⊢
      rw [mq p (by omega), mq (p + 4) (by omega)]
      exact r
    exact r2.k hK (fun i hi => eo' i (by omega))
theorem KI.st {R : RSt} (h : KI R.2.2.2) {j : Nat} (v : Int32) (hj : (5 ≤ j ∧ j ≠ 7 ∧ j < 144) ∨ 1155 ≤ j) : KI (rst R j v).2.2.2 := by
  show KI (uK R.2.2.2 j v)
  have e : ∀ i, i ≠ j → kn (uK R.2.2.2 j v) i = kn R.2.2.2 i := fun i hi => kn_cg (uK_n _ _ hi)
  obtain ⟨h1, h2⟩ := h
  unfold KI
  rw [e 2 (by omega), e 3 (by omega), e 4 (by omega), e 7 (by omega)]
  exact ⟨h1, fun w hw => by rw [e (144 + w) (by omega)]; exact h2 w hw⟩
/-- a word's reading begins: it has read no mark yet -/
theorem CS.lr {p N w : Nat} {Z : (Nat → Nat) × Nat} {M0 M : mM} {R : RSt} (hp : 248 ≤ p) (h : CS p N Z M0 false 0 0 R M) (hw : w < 10) (hw4 : R.1 = 0 → w = kn R.2.2.2 3 ∧ kn R.2.2.2 (144 + w) = kn R.2.2.2 7) (b : Bool) (hb : b = true → R.1 = 0) (hk3 : R.1 = 0 → R.2.2.2 3 = nI (kn R.2.2.2 3)) : CS p N Z M0 b 0 0 R (sI M (p + 4) w (-1)) := by
  have mq : ∀ q, q ≠ p + 4 → gI (sI M (p + 4) w (-1)) q = gI M q := fun q a => gI_sr _ _ a
  refine CS.to hp h rfl rfl rfl (Sq.rf.st _ (Wcs_p _ ⟨by omega, by omega⟩)) (fun q hq => mq q (by omega)) rfl (by rw [mq p (by omega)]; exact h.2.2.2.1) ?_ (fun z g r => ⟨?_, ?_⟩)
  · rw [mq p (by omega)]
    obtain ⟨w', a1, a2, _⟩ := h.2.2.2.2.1
    refine ⟨w', a1, a2, fun z => ?_⟩
    have hz := hb z
    have := (h.2.2.2.2.2 hz).2.1.1.2.2.2.1
    rw [a1, hk3 hz] at this
    have := (nI_eq (by omega) (by have := (hw4 hz).1; omega)).mp this
    have := (hw4 hz).1
    omega
  · unfold CG ltB at g ⊢
    rw [mq p (by omega), mq 102 (by omega), mq (p + 1) (by omega), mq (p + 2) (by omega), mq (p + 3) (by omega), mq (p + 6) (by omega), mq (p + 7) (by omega)]
    exact g
  · obtain ⟨q1, q2, q3⟩ := r
    obtain ⟨e1, e2⟩ := hw4 z
    refine ⟨by rw [mq p (by omega)]; exact q1, fun d hd => by rw [gI_sk _ _ (by omega)]; exact q2 d hd, fun _ => ?_⟩
    rw [← e1, gI_ss, e2, Nat.sub_self]
    rfl
theorem rgo_K (R : RSt) : (rgo R).2.2.2 = R.2.2.2 := by unfold rgo; split <;> rfl
theorem rbl_K (Z : (Nat → Nat) × Nat) (k : Nat) (R : RSt) : (rbl Z k R).2.2.2 = R.2.2.2 := congrArg Prod.snd (rbl_i Z k R)
theorem rnu_K (Z : (Nat → Nat) × Nat) (lo hi : Nat) (R : RSt) : (rnu Z lo hi R).2.2.2 = R.2.2.2 := by
  unfold rnu
  rw [rgo_K]
  unfold rn1
  split
  · exact rbl_K _ _ _
  · split
    · rfl
    · exact rbl_K _ _ _
theorem rmu_K (Z : (Nat → Nat) × Nat) (k : Nat) (R : RSt) : (rmu Z k R).2.2.2 = R.2.2.2 := by
  unfold rmu
  rw [rgo_K]
  split
  · rfl
  · exact rbl_K _ _ _
section CW
variable (G : mG)
/-- where a word's line leads before its truth -/
def woX (Z : (Nat → Nat) × Nat) (R : RSt) : RSt := if kn R.2.2.2 3 = 10 then rbl Z 4 R else woH Z (rnx R)
theorem CS.r1 {p N : Nat} {Z : (Nat → Nat) × Nat} {M0 M : mM} {b : Bool} {rb rl : Nat} {R : RSt} (h : CS p N Z M0 b rb rl R M) : R.1 ≤ 4 := h.2.1.2
theorem c3_readWord (M : mM) {p N : Nat} {Z : (Nat → Nat) × Nat} {M0 : mM} {R : RSt} (hM : PM M0 p N) (h : CS p N Z M0 false 0 0 R M) (hL : LV Z R) (hK : KI R.2.2.2) (hk : rIs Z 3 R) (hs : kn R.2.2.2 (144 + kn R.2.2.2 3) = kn R.2.2.2 7) : Ct G Y3_readWord 2 0 0 [.ref 102] M (Rs (some (.int (bI ((woX Z R).1 = 0)))) (fun M' => CS p N Z M0 (decide ((woX Z R).1 = 0)) 0 0 (woX Z R) M')) NX := by
  have hPM := hM.sq h.1
  have hS' := hPM.1
  have hp := hM.2.2.1
  have hp2 := hPM.2.2.2.1
  have hp0 := hPM.2.1.1
  have h3 := hL.2.2.1
  have e4 : gI M p 4 = nI (kn R.2.2.2 3) := by rw [(h.2.2.2.2.2 hk.1).2.1.1.2.2.2.1]; exact h3.1
  unfold woX
  refine Ct.of k3_readWord.1 (Nat.le_of_ble_eq_true rfl) ?_
  by_cases h10 : kn R.2.2.2 3 = 10
  · rw [if_pos h10, bI_f (rbl_p (by omega) R), decide_eq_false (rbl_p (by omega) R)]
    refine v_aload_n dX3_readWord_0 rfl ?_
    refine v_getR 3 2 _ dX3_readWord_1 f3_21 (by first | exact hS'.1 _ _ rfl | assumption) (by decide) hp2 ?_
    refine v_getI 4 4 dX3_readWord_4 f3_160 hp0 (by decide) ?_
    rw [e4]
    refine v_istore_n dX3_readWord_7 rfl (by decide) ?_
    refine v_iload_n dX3_readWord_8 rfl ?_
    refine v_bipush 10 dX3_readWord_9 (by decide) ?_
    refine v_icmp_lt 21 dX3_readWord_11 (by decide) (fun h11 => absurd ((nI_ltI (b := 10) (by omega) (by omega)).mp h11) (by omega)) (fun h11 => ?_)
    refine v_aload_n dX3_readWord_14 rfl ?_
    refine v_iconst 4 dX3_readWord_15 (by decide) ?_
    refine v_scVv [_] (c3_fail G M (k := 4) hM h rfl (by omega) (by omega)) k3_fail dX3_readWord_16 l3_99 (by first | exact hS'.1 _ _ rfl | assumption) (by decide) rfl (Nat.le_of_ble_eq_true rfl) (Nat.le_of_ble_eq_true rfl) ?_
    intro M2 hM2
    refine v_iconst 0 dX3_readWord_19 (by decide) ?_
    refine v_zret dX3_readWord_20 rfl (by first | rfl | exact bI_nb _ | assumption) ?_
    exact ⟨rfl, hM2⟩
  · rw [if_neg h10]
    have hw10 : kn R.2.2.2 3 < 10 := by omega
    have g1 := gs.nx hL.1 (show kd Z R.2.2.1 ≠ 32 by have := hk.2; omega)
    have hL1 := (lr.gs hL g1).1
    have hK1 : KI (rnx R).2.2.2 := hK
    have hnx := c3_nx G M hM h hk.1 (by have := hk.2; omega)
    unfold woH
    show V _ _ _ _ _ (Rs (some (.int (bI ((rmu Z 18 (woC Z (kn R.2.2.2 3) (woS Z (kn R.2.2.2 3) (rnx R)))).1 = 0)))) (fun M' => CS p N Z M0 (decide ((rmu Z 18 (woC Z (kn R.2.2.2 3) (woS Z (kn R.2.2.2 3) (rnx R)))).1 = 0)) 0 0 (rmu Z 18 (woC Z (kn R.2.2.2 3) (woS Z (kn R.2.2.2 3) (rnx R)))) M')) _ _ _ _ _
    generalize hwd : kn R.2.2.2 3 = w at hw10 e4 hs ⊢
    have aS := woS_lr (w := w) hL1
    have aC := woC_lr (w := w) aS.1
    have gm := gs.mu (k := 18) aC.1.1 (by decide)
    -- K's other places
    have inv : ∀ S : RSt, (∃ S0 : RSt, LV Z S0 ∧ KI S0.2.2.2 ∧ S = S0) → True := fun _ _ => trivial
    have kS : KI (woS Z w (rnx R)).2.2.2 ∧ kn (woS Z w (rnx R)).2.2.2 3 = w ∧ kn (woS Z w (rnx R)).2.2.2 (144 + w) = kn (woS Z w (rnx R)).2.2.2 7 := by
      unfold woS
      by_cases hc : rIs Z 4 (rnx R)
      · rw [if_pos hc]
        have e : ∀ i, i ≠ 119 → kn (rst (rnx (rnx R)) 119 ((rnx R).2.2.2 119 ||| nI (2 ^ w))).2.2.2 i = kn R.2.2.2 i := fun i hi => kn_cg (uK_n (i := 119) R.2.2.2 _ hi)
        exact ⟨KI.st (R := rnx (rnx R)) hK1 _ (by omega), (e 3 (by decide)).trans hwd, (e (144 + w) (by omega)).trans (hs.trans (e 7 (by decide)).symm)⟩
      · rw [if_neg hc]
        exact ⟨hK1, hwd, hs⟩
    have kC : KI (woC Z w (woS Z w (rnx R))).2.2.2 ∧ kn (woC Z w (woS Z w (rnx R))).2.2.2 3 = w ∧ kn (woC Z w (woS Z w (rnx R))).2.2.2 (144 + w) = kn (woC Z w (woS Z w (rnx R))).2.2.2 7 := by
      generalize woS Z w (rnx R) = S at kS aS
      unfold woC
      by_cases hc : rIs Z 5 S
      · rw [if_pos hc]
        have q1 := gs.nx aS.1.1 (show kd Z S.2.2.1 ≠ 32 by have := hc.2; omega)
        have q2 := q1.tr (gs.nu (lo := 1) (hi := 9) q1.1).1 (Nat.le_refl _)
        have hk2 : ∀ i, i < 155 → kn (rnu Z 1 9 (rnx S)).2.2.2 i = kn S.2.2.2 i ∨ i = 7 := fun i hi => by
          by_cases h7 : i = 7
          · exact Or.inr h7
          · exact Or.inl (q2.k h7 (by omega))
        have k7 : kn (rnu Z 1 9 (rnx S)).2.2.2 7 = kn S.2.2.2 7 := by rw [rnu_K]; rfl
        have e : ∀ i, i ≠ 109 + w → kn (rst (rnu Z 1 9 (rnx S)) (109 + w) (nI (rnv Z 1 9 (rnx S)))).2.2.2 i = kn (rnu Z 1 9 (rnx S)).2.2.2 i := fun i hi => kn_cg (uK_n _ _ hi)
        refine ⟨KI.st (kS.1.gs q2) _ (by omega), ?_, ?_⟩
        · rw [e 3 (by omega), q2.k (by decide) (by decide)]; exact kS.2.1
        · rw [e (144 + w) (by omega), e 7 (by omega), q2.k (by omega) (by omega), k7]; exact kS.2.2
      · rw [if_neg hc]
        have e : ∀ i, i ≠ 109 + w → kn (rst S (109 + w) 1).2.2.2 i = kn S.2.2.2 i := fun i hi => kn_cg (uK_n _ _ hi)
        exact ⟨KI.st kS.1 _ (by omega), (e 3 (by omega)).trans kS.2.1, (e (144 + w) (by omega)).trans (kS.2.2.trans (e 7 (by omega)).symm)⟩
    have kM : kn (rmu Z 18 (woC Z w (woS Z w (rnx R)))).2.2.2 3 = w ∧ kn (rmu Z 18 (woC Z w (woS Z w (rnx R)))).2.2.2 (144 + w) = kn (rmu Z 18 (woC Z w (woS Z w (rnx R)))).2.2.2 7 := by
      have k7 : kn (rmu Z 18 (woC Z w (woS Z w (rnx R)))).2.2.2 7 = kn (woC Z w (woS Z w (rnx R))).2.2.2 7 := by rw [rmu_K]
      rw [gm.k (by decide) (by decide), gm.k (show 144 + w ≠ 7 by omega) (by omega), k7]
      exact kC.2
    have lM := (lr.gs aC.1 gm).1.2.2.1.1
    have colon : ∀ M2, CS p N Z M0 false 0 0 (woC Z w (woS Z w (rnx R))) M2 → V G Y3_readWord 2 0 0 (Rs (some (.int (bI ((rmu Z 18 (woC Z w (woS Z w (rnx R)))).1 = 0)))) (fun M' => CS p N Z M0 (decide ((rmu Z 18 (woC Z w (woS Z w (rnx R)))).1 = 0)) 0 0 (rmu Z 18 (woC Z w (woS Z w (rnx R)))) M')) NX 83 [some (.ref 102), some (.int (nI w))] [] M2 := by
      intro M2 h2
      have hS' := (hM.sq h2.1).1
      have ht := c3_take G M2 (k := 18) hM h2 (by decide)
      generalize rmu Z 18 (woC Z w (woS Z w (rnx R))) = T at ht kM lM ⊢
      by_cases hb : T.1 = 0
      · rw [bI_t hb, decide_eq_true hb]
        refine v_aload_n dX3_readWord_83 rfl ?_
        refine v_gets (v := .ref 18) dX3_readWord_84 g3_175 (kT_z G (i := 18) (by decide) rfl) ?_
        refine v_scVv [_] (ht) k3_take dX3_readWord_87 l3_52 (by first | exact hS'.1 _ _ rfl | assumption) (by decide) rfl (Nat.le_of_ble_eq_true rfl) (Nat.le_of_ble_eq_true rfl) ?_
        intro M3 hM3; have hPM3 := hM.sq hM3.1; have hS' := hPM3.1; have hq2 := hPM3.2.2.2.1; have hq0 := hPM3.2.1.1; have r13 := hPM3.2.1.2.2.2.2.2.2.2.2.2.1; have tl := hPM3.2.1.2.2.2.2.1; have fin := hM3.lr hp hw10 (fun _ => ⟨kM.1.symm, kM.2⟩) true (fun _ => hb) (fun _ => lM)
        refine v_aload_n dX3_readWord_90 rfl ?_
        refine v_getR 3 2 _ dX3_readWord_91 f3_21 (by first | exact hS'.1 _ _ rfl | assumption) (by decide) hq2 ?_
        refine v_getR 4 13 _ dX3_readWord_94 f3_178 hq0 (by decide) r13 ?_
        refine v_iload_n dX3_readWord_97 rfl ?_
        refine v_iconst (-1) dX3_readWord_98 (by decide) ?_
        refine v_iastN (w) dX3_readWord_99 tl (by simp only [n_lit, pk_mul, nI_add]) ⟨by omega, by omega⟩ ?_
        refine v_aload_n dX3_readWord_100 rfl ?_
        refine v_getI 3 3 dX3_readWord_101 f3_29 (by first | exact hS'.1 _ _ rfl | assumption) (by decide) ?_
        rw [fin.bad.1 hb]
        refine v_if_ne 111 dX3_readWord_104 (by decide) (fun h104 => absurd rfl h104) (fun h104 => ?_)
        refine v_iconst 1 dX3_readWord_107 (by decide) ?_
        refine v_goto 112 dX3_readWord_108 (by decide) ?_
        refine v_zret dX3_readWord_112 rfl (by first | rfl | exact bI_nb _ | assumption) ?_
        exact ⟨rfl, fin⟩
      · rw [bI_f hb, decide_eq_false hb]
        refine v_aload_n dX3_readWord_83 rfl ?_
        refine v_gets (v := .ref 18) dX3_readWord_84 g3_175 (kT_z G (i := 18) (by decide) rfl) ?_
        refine v_scVv [_] (ht) k3_take dX3_readWord_87 l3_52 (by first | exact hS'.1 _ _ rfl | assumption) (by decide) rfl (Nat.le_of_ble_eq_true rfl) (Nat.le_of_ble_eq_true rfl) ?_
        intro M3 hM3; have hPM3 := hM.sq hM3.1; have hS' := hPM3.1; have hq2 := hPM3.2.2.2.1; have hq0 := hPM3.2.1.1; have r13 := hPM3.2.1.2.2.2.2.2.2.2.2.2.1; have tl := hPM3.2.1.2.2.2.2.1; have fin := hM3.lr hp hw10 (fun _ => ⟨kM.1.symm, kM.2⟩) false (fun z => by cases z) (fun _ => lM)
        refine v_aload_n dX3_readWord_90 rfl ?_
        refine v_getR 3 2 _ dX3_readWord_91 f3_21 (by first | exact hS'.1 _ _ rfl | assumption) (by decide) hq2 ?_
        refine v_getR 4 13 _ dX3_readWord_94 f3_178 hq0 (by decide) r13 ?_
        refine v_iload_n dX3_readWord_97 rfl ?_
        refine v_iconst (-1) dX3_readWord_98 (by decide) ?_
        refine v_iastN (w) dX3_readWord_99 tl (by simp only [n_lit, pk_mul, nI_add]) ⟨by omega, by omega⟩ ?_
        refine v_aload_n dX3_readWord_100 rfl ?_
        refine v_getI 3 3 dX3_readWord_101 f3_29 (by first | exact hS'.1 _ _ rfl | assumption) (by decide) ?_
        refine v_if_ne 111 dX3_readWord_104 (by decide) (fun h104 => ?_) (fun h104 => absurd (fin.bad.2 hb) h104)
        refine v_iconst 0 dX3_readWord_111 (by decide) ?_
        refine v_zret dX3_readWord_112 rfl (by first | rfl | exact bI_nb _ | assumption) ?_
        exact ⟨rfl, fin⟩
    have cost : ∀ M2, CS p N Z M0 false 0 0 (woS Z w (rnx R)) M2 → V G Y3_readWord 2 0 0 (Rs (some (.int (bI ((rmu Z 18 (woC Z w (woS Z w (rnx R)))).1 = 0)))) (fun M' => CS p N Z M0 (decide ((rmu Z 18 (woC Z w (woS Z w (rnx R)))).1 = 0)) 0 0 (rmu Z 18 (woC Z w (woS Z w (rnx R)))) M')) NX 53 [some (.ref 102), some (.int (nI w))] [] M2 := by
      intro M2 h2
      have hPM2 := hM.sq h2.1
      have hS' := hPM2.1
      have hq2 := hPM2.2.2.2.1
      have hq0 := hPM2.2.1.1
      have r11 := hPM2.2.1.2.2.2.2.2.2.2.1
      have tc := hPM2.2.1.2.2.1
      generalize woS Z w (rnx R) = S at h2 colon aS kS
      unfold woC at colon ⊢
      by_cases hc : rIs Z 5 S
      · rw [if_pos hc] at colon ⊢
        have q1 := gs.nx aS.1.1 (show kd Z S.2.2.1 ≠ 32 by have := hc.2; omega)
        have q2 := (gs.nu (lo := 1) (hi := 9) q1.1).1
        refine v_aload_n dX3_readWord_53 rfl ?_
        refine v_getR 3 2 _ dX3_readWord_54 f3_21 (by first | exact hS'.1 _ _ rfl | assumption) (by decide) hq2 ?_
        refine v_getR 4 11 _ dX3_readWord_57 f3_169 hq0 (by decide) r11 ?_
        refine v_iload_n dX3_readWord_60 rfl ?_
        refine v_aload_n dX3_readWord_61 rfl ?_
        refine v_gets (v := .ref 5) dX3_readWord_62 g3_172 (kT_z G (i := 5) (by decide) rfl) ?_
        refine v_scV [_] (c3_tkT G M2 (k := 5) hM h2 (by decide) hc) k3_takeIf dX3_readWord_65 l3_132 (by first | exact hS'.1 _ _ rfl | assumption) (by decide) rfl (Nat.le_of_ble_eq_true rfl) (Nat.le_of_ble_eq_true rfl) ?_
        intro M3 hM3; have hS' := (hM.sq hM3.1).1
        refine v_if_eq 81 dX3_readWord_68 (by decide) (fun h68 => absurd h68 (by decide)) (fun h68 => ?_)
        refine v_aload_n dX3_readWord_71 rfl ?_
        refine v_iconst 1 dX3_readWord_72 (by decide) ?_
        refine v_bipush 9 dX3_readWord_73 (by decide) ?_
        refine v_scV [_, _] (c3_takeNumber G M3 (lo := 1) (hi := 9) hM hM3 (by decide) (by decide)) k3_takeNumber dX3_readWord_75 l3_56 (by first | exact hS'.1 _ _ rfl | assumption) (by decide) rfl (Nat.le_of_ble_eq_true rfl) (Nat.le_of_ble_eq_true rfl) ?_
        intro M4 hM4; have hPM4 := hM.sq hM4.1; have tc4 := hPM4.2.1.2.2.1; have fin := hM4.co (v := nI (rnv Z 1 9 (rnx S))) hp q2.1 ((kS.1.gs q1).gs q2) hw10
        refine v_goto 82 dX3_readWord_78 (by decide) ?_
        refine v_iastN (w) dX3_readWord_82 tc4 (by simp only [n_lit, pk_mul, nI_add]) ⟨by omega, by omega⟩ ?_
        exact colon _ fin
      · rw [if_neg hc] at colon ⊢
        have fin := h2.co (v := 1) hp aS.1.1 kS.1 hw10
        refine v_aload_n dX3_readWord_53 rfl ?_
        refine v_getR 3 2 _ dX3_readWord_54 f3_21 (by first | exact hS'.1 _ _ rfl | assumption) (by decide) hq2 ?_
        refine v_getR 4 11 _ dX3_readWord_57 f3_169 hq0 (by decide) r11 ?_
        refine v_iload_n dX3_readWord_60 rfl ?_
        refine v_aload_n dX3_readWord_61 rfl ?_
        refine v_gets (v := .ref 5) dX3_readWord_62 g3_172 (kT_z G (i := 5) (by decide) rfl) ?_
        refine v_cV [_] (c3_tkF G M2 (k := 5) hM h2 (by decide) hc) k3_takeIf dX3_readWord_65 l3_132 (by first | exact hS'.1 _ _ rfl | assumption) (by decide) rfl (Nat.le_of_ble_eq_true rfl) (Nat.le_of_ble_eq_true rfl) ?_
        refine v_if_eq 81 dX3_readWord_68 (by decide) (fun h68 => ?_) (fun h68 => absurd rfl h68)
        refine v_iconst 1 dX3_readWord_81 (by decide) ?_
        refine v_iastN (w) dX3_readWord_82 tc (by simp only [n_lit, pk_mul, nI_add]) ⟨by omega, by omega⟩ ?_
        exact colon _ fin
    by_cases hc : rIs Z 4 (rnx R)
    · have eW : woS Z w (rnx R) = rst (rnx (rnx R)) 119 ((rnx R).2.2.2 119 ||| nI (2 ^ w)) := if_pos hc
      refine v_aload_n dX3_readWord_0 rfl ?_
      refine v_getR 3 2 _ dX3_readWord_1 f3_21 (by first | exact hS'.1 _ _ rfl | assumption) (by decide) hp2 ?_
      refine v_getI 4 4 dX3_readWord_4 f3_160 hp0 (by decide) ?_
      rw [e4]
      refine v_istore_n dX3_readWord_7 rfl (by decide) ?_
      refine v_iload_n dX3_readWord_8 rfl ?_
      refine v_bipush 10 dX3_readWord_9 (by decide) ?_
      refine v_icmp_lt 21 dX3_readWord_11 (by decide) (fun h11 => ?_) (fun h11 => absurd ((nI_ltI (b := 10) (by omega) (by omega)).mpr hw10) h11)
      refine v_aload_n dX3_readWord_21 rfl ?_
      refine v_getR 3 0 _ dX3_readWord_22 f3_12 (by first | exact hS'.1 _ _ rfl | assumption) (by decide) (by first | exact hS'.2 _ _ _ rfl | assumption) ?_
      refine v_scVv [] (hnx) k9_next dX3_readWord_25 l3_96 (by first | exact hS'.1 _ _ rfl | assumption) (by decide) rfl (Nat.le_of_ble_eq_true rfl) (Nat.le_of_ble_eq_true rfl) ?_
      intro M2 hM2; have hS' := (hM.sq hM2.1).1
      refine v_aload_n dX3_readWord_28 rfl ?_
      refine v_gets (v := .ref 4) dX3_readWord_29 g3_163 (kT_z G (i := 4) (by decide) rfl) ?_
      refine v_scV [_] (c3_tkT G M2 (k := 4) hM hM2 (by decide) hc) k3_takeIf dX3_readWord_32 l3_132 (by first | exact hS'.1 _ _ rfl | assumption) (by decide) rfl (Nat.le_of_ble_eq_true rfl) (Nat.le_of_ble_eq_true rfl) ?_
      intro M3 hM3; have hPM3 := hM.sq hM3.1; have hS' := hPM3.1; have hq2 := hPM3.2.2.2.1; have hq0 := hPM3.2.1.1; have e5 := (hM3.2.2.2.2.2 hc.1).2.1.1.2.2.2.2.1; have fin := hM3.sc (k := 5) (j := 119) (v := (rnx R).2.2.2 119 ||| nI (2 ^ w)) hp (gs.nx hL1.1 (show kd Z (rnx R).2.2.1 ≠ 32 by have := hc.2; omega)).1 hK1 (Or.inl ⟨rfl, rfl⟩)
      refine v_if_eq 53 dX3_readWord_35 (by decide) (fun h35 => absurd h35 (by decide)) (fun h35 => ?_)
      refine v_aload_n dX3_readWord_38 rfl ?_
      refine v_getR 3 2 _ dX3_readWord_39 f3_21 (by first | exact hS'.1 _ _ rfl | assumption) (by decide) hq2 ?_
      refine v_dup dX3_readWord_42 rfl ?_
      refine v_getI 4 5 dX3_readWord_43 f3_166 hq0 (by decide) ?_
      rw [e5]
      refine v_iconst 1 dX3_readWord_46 (by decide) ?_
      refine v_iload_n dX3_readWord_47 rfl ?_
      refine v_ishl dX3_readWord_48 ?_
      rw [shl1 (by omega)]
      refine v_ior dX3_readWord_49 ?_
      refine v_putI 4 5 dX3_readWord_50 f3_166 hq0 (by decide) ?_
      exact cost _ (by rw [eW]; exact fin)
    · have eW : woS Z w (rnx R) = rnx R := if_neg hc
      refine v_aload_n dX3_readWord_0 rfl ?_
      refine v_getR 3 2 _ dX3_readWord_1 f3_21 (by first | exact hS'.1 _ _ rfl | assumption) (by decide) hp2 ?_
      refine v_getI 4 4 dX3_readWord_4 f3_160 hp0 (by decide) ?_
      rw [e4]
      refine v_istore_n dX3_readWord_7 rfl (by decide) ?_
      refine v_iload_n dX3_readWord_8 rfl ?_
      refine v_bipush 10 dX3_readWord_9 (by decide) ?_
      refine v_icmp_lt 21 dX3_readWord_11 (by decide) (fun h11 => ?_) (fun h11 => absurd ((nI_ltI (b := 10) (by omega) (by omega)).mpr hw10) h11)
      refine v_aload_n dX3_readWord_21 rfl ?_
      refine v_getR 3 0 _ dX3_readWord_22 f3_12 (by first | exact hS'.1 _ _ rfl | assumption) (by decide) (by first | exact hS'.2 _ _ _ rfl | assumption) ?_
      refine v_scVv [] (hnx) k9_next dX3_readWord_25 l3_96 (by first | exact hS'.1 _ _ rfl | assumption) (by decide) rfl (Nat.le_of_ble_eq_true rfl) (Nat.le_of_ble_eq_true rfl) ?_
      intro M2 hM2; have hS' := (hM.sq hM2.1).1
      refine v_aload_n dX3_readWord_28 rfl ?_
      refine v_gets (v := .ref 4) dX3_readWord_29 g3_163 (kT_z G (i := 4) (by decide) rfl) ?_
      refine v_cV [_] (c3_tkF G M2 (k := 4) hM hM2 (by decide) hc) k3_takeIf dX3_readWord_32 l3_132 (by first | exact hS'.1 _ _ rfl | assumption) (by decide) rfl (Nat.le_of_ble_eq_true rfl) (Nat.le_of_ble_eq_true rfl) ?_
      refine v_if_eq 53 dX3_readWord_35 (by decide) (fun h35 => ?_) (fun h35 => absurd rfl h35)
      exact cost _ (by rw [eW]; exact hM2)
end CW
