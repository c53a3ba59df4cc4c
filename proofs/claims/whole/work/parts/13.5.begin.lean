/-! ===== the class: State begins, Scene opens ===== -/
/-- a hall as it begins: what K says of its current block -/
def BgK (K : Nat → Int32) : Prop := (∀ i, i < 84 → cur K i = nI (nb (cur K) i) ∧ nb (cur K) i ≤ 9) ∧ (K 93 = nI (kn K 93) ∧ kn K 93 < 16384) ∧ K 94 = 0 ∧ K 95 = 0 ∧ K 96 = fsI (kn K 93) ∧ ∀ p, p < 6 → K (97 + p) = -1 ∧ K (103 + p) = 0
section B0
variable (G : mG) (M : mM)
theorem l7_begin {s r p cd n : Nat} {K : Nat → Int32} (hsh : StSh M s) (hk : RkSh M r) (hp : Plr M p cd n K) (hr : Apt p cd r (r + 2)) (hsp : Apt p cd s (s + 5)) (hsr : s + 5 < r ∨ r + 2 < s) (hP : WP K) (hB : BgK K) {Q : Option Value → mM → Prop}
    (kk : ∀ M', Sm (Wln s r) M M' → (∀ c, c < kn K 2 → gI M' (s + 1) c = nI (pkR (cur K) c (kn K 1)) ∧ gI M' (s + 2) c = nI (trN K false c) ∧ gI M' (s + 3) c = nI (trN K true c)) → V G Y7_begin 5 0 0 Q NX 38 [some (.ref s), some (.ref p), some (.ref r), some (.int (nI (kn K 2)))] [] M') :
    ∀ i c M', c + i = kn K 2 → Sm (Wln s r) M M' → (∀ d, d < kn K 2 → gI M' (s + 1) d = nI (pkR (cur K) d (kn K 1))) → (∀ d, d < c → gI M' (s + 2) d = nI (trN K false d) ∧ gI M' (s + 3) d = nI (trN K true d)) → V G Y7_begin 5 0 0 Q NX 17 [some (.ref s), some (.ref p), some (.ref r), some (.int (nI c))] [] M' := by
  have h14 := hP.2.1.2
  intro i
  induction i with
  | zero =>
    intro c M' hc hM hrow hv
    have hp' := hp.ln hr hsp hM
    obtain ⟨⟨p1, p2, p3, p4, p5, p6, p7, p8, p9, p10, p11, p12, p13, p14⟩, ⟨e1, e2, e3, e4, e5, e6, e7⟩, g2, g3, g4, g5, g6, g7⟩ := hp'
    obtain rfl : c = kn K 2 := by omega
    refine v_iload_n dX7_begin_17 rfl ?_
    refine v_aload_n dX7_begin_18 rfl ?_
    refine v_getI 4 2 dX7_begin_19 f7_56 (by assumption) (by decide) ?_
    rw [e3, hP.2.1.1]
    refine v_icmp_ge 38 dX7_begin_22 (by decide) (fun h22 => ?_) (fun h22 => absurd (nI_le (Nat.le_refl _) (by omega)) h22)
    exact kk M' hM (fun d hd => ⟨hrow d hd, hv d hd⟩)
  | succ i ih =>
    intro c M' hc hM hrow hv
    have hp' := hp.ln hr hsp hM
    have hp0 := hp'
    have hsh' := hsh.mv hM.2.1 hM.2.2.2.1
    have hk' := hk.mv hM.2.1 hM.2.2.2.1
    have t1 := hsh'.1
    obtain ⟨⟨p1, p2, p3, p4, p5, p6, p7, p8, p9, p10, p11, p12, p13, p14⟩, ⟨e1, e2, e3, e4, e5, e6, e7⟩, g2, g3, g4, g5, g6, g7⟩ := hp'
    refine v_iload_n dX7_begin_17 rfl ?_
    refine v_aload_n dX7_begin_18 rfl ?_
    refine v_getI 4 2 dX7_begin_19 f7_56 (by assumption) (by decide) ?_
    rw [e3, hP.2.1.1]
    refine v_icmp_ge 38 dX7_begin_22 (by decide) (fun h22 => absurd ((nI_leI (by omega) (by omega)).mp h22) (by omega)) (fun h22 => ?_)
    refine v_aload_n dX7_begin_25 rfl ?_
    refine v_aload_n dX7_begin_26 rfl ?_
    refine v_aload_n dX7_begin_27 rfl ?_
    refine v_iload_n dX7_begin_28 rfl ?_
    skip
    refine v_scVv [_, _, _] (c7_learn G M' hsh' hk' hp0 hr hsp hsr hP hB.1 (by omega) (hrow c (by omega))) k7_learn dX7_begin_29 l7_59 t1 (by decide) rfl (Nat.le_of_ble_eq_true rfl) (Nat.le_of_ble_eq_true rfl) (fun M2 hM2 => ?_)
    obtain ⟨m2, q0, q1, q2⟩ := hM2
    refine v_iinc 1 dX7_begin_32 rfl (by decide) rfl (by decide) ?_
    refine v_goto 17 dX7_begin_35 (by decide) ?_
    -- at 17: .iload_n 3
    rw [nI_1]
    refine ih (c + 1) M2 (by omega) (hM.tr m2) (fun d hd => by rw [q0 (s + 1) (Or.inr (Or.inl rfl))]; exact hrow d hd) (fun d hd => ?_)
    rw [q1, q2]
    by_cases e : d = c
    · subst e
      exact ⟨if_pos rfl, if_pos rfl⟩
    · exact ⟨(if_neg e).trans (hv d (by omega)).1, (if_neg e).trans (hv d (by omega)).2⟩
theorem c7_begin {s r p cd n : Nat} {K : Nat → Int32} (hsh : StSh M s) (hk : RkSh M r) (hp : Plr M p cd n K) (hr : Apt p cd r (r + 2)) (hsp : Apt p cd s (s + 5)) (hsr : s + 5 < r ∨ r + 2 < s) (hP : WP K) (hB : BgK K) (hrow : ∀ d, d < kn K 2 → gI M (p + 1) d = nI (pkR (cur K) d (kn K 1))) (hin : gI M p 3 = K 93) :
    Ct G Y7_begin 5 0 0 [.ref s, .ref p, .ref r] M (Rs none (fun M' => Sm (Wln s r) M M' ∧ Str M' s K)) NX := by
  have h14 := hP.2.1.2
  obtain ⟨s1, s2, s3, s4, s5, s6, s7, s8, s9, s10, s11⟩ := hsh
  have hp0 := hp
  obtain ⟨⟨p1, p2, p3, p4, p5, p6, p7, p8, p9, p10, p11, p12, p13, p14⟩, ⟨e1, e2, e3, e4, e5, e6, e7⟩, g2, g3, g4, g5, g6, g7⟩ := hp
  refine Ct.of k7_begin.1 (Nat.le_of_ble_eq_true rfl) ?_
  refine v_aload_n dX7_begin_0 rfl ?_
  refine v_getR 4 10 _ dX7_begin_1 f7_53 (by assumption) (by decide) (by assumption) ?_
  refine v_iconst 0 dX7_begin_4 (by decide) ?_
  refine v_aload_n dX7_begin_5 rfl ?_
  refine v_getR 7 0 _ dX7_begin_6 f7_9 (by assumption) (by decide) (by assumption) ?_
  refine v_iconst 0 dX7_begin_9 (by decide) ?_
  refine v_bipush 14 dX7_begin_10 (by decide) ?_
  refine v_copyI 14 dX7_begin_12 l7_37 (by assumption) (by assumption) rfl (by decide) (Nat.le_of_ble_eq_true rfl) (Nat.le_of_ble_eq_true rfl) ?_
  refine v_iconst 0 dX7_begin_15 (by decide) ?_
  refine v_istore_n dX7_begin_16 rfl (by decide) ?_
  skip
  have m1 : Sm (Wln s r) M (cpM M (s + 1) (p + 1) 14) := cpM_sm Sm.rf (fun k _ => Wln_w ⟨by omega, by omega⟩)
  refine l7_begin G M ⟨s1, s2, s3, s4, s5, s6, s7, s8, s9, s10, s11⟩ hk hp0 hr hsp hsr hP hB (fun M2 m2 hv => ?_) (kn K 2) 0 _ (by omega) m1 (fun d hd => by rw [cpM_in _ (by omega)]; exact hrow d hd) (fun d hd => absurd hd (by omega))
  have hp2 := hp0.ln hr hsp m2
  have hpi : gI M2 p 3 = K 93 := by
    rw [m2.2.2.2.2 p 3 (Wln_o (hsp p (Or.inl ⟨by omega, by omega⟩)) (hr p (Or.inl ⟨by omega, by omega⟩)) 3)]
    exact hin
  have hpt := hp2.1.1
  have hs2 : StSh M2 s := StSh.mv ⟨s1, s2, s3, s4, s5, s6, s7, s8, s9, s10, s11⟩ m2.2.1 m2.2.2.2.1
  obtain ⟨t1, t2, t3, t4, t5, t6, t7, t8, t9, t10, t11⟩ := hs2
  have hps : p ≠ s := by have := hsp p (Or.inl ⟨by omega, by omega⟩); omega
  refine v_aload_n dX7_begin_38 rfl ?_
  refine v_getR 7 4 _ dX7_begin_39 f7_24 (by assumption) (by decide) (by assumption) ?_
  refine v_iconst 0 dX7_begin_42 (by decide) ?_
  refine v_cSv [_, _] (cJ_fill G M2 0 t6 (by decide)) kJ_fill dX7_begin_43 l7_31 rfl (Nat.le_of_ble_eq_true rfl) (Nat.le_of_ble_eq_true rfl) ?_
  skip
  obtain ⟨M3, eM3⟩ : ∃ M3, M3 = flI M2 (s + 5) 6 0 := ⟨_, rfl⟩
  have m3 : Sm (Wln s r) M M3 := by rw [eM3]; exact flI_sm m2 0 (fun k _ => Wln_w ⟨by omega, by omega⟩)
  have w3 : ∀ q, q ≠ s + 5 → gI M3 q = gI M2 q := fun q hq => by funext k; rw [eM3]; exact flI_ob _ _ hq
  have i3 : gI M3 p 3 = K 93 := by rw [w3 p (by have := hsp p (Or.inl ⟨by omega, by omega⟩); omega)]; exact hpi
  have u5 : ∀ k, k < 6 → gI M3 (s + 5) k = 0 := fun k hk => by rw [eM3]; exact flI_in _ _ hk
  rw [← eM3]
  have hs3 : StSh M3 s := StSh.mv ⟨s1, s2, s3, s4, s5, s6, s7, s8, s9, s10, s11⟩ m3.2.1 m3.2.2.2.1
  have a1 := hs3.1
  have hp3 := (hp0.ln hr hsp m3).1.1
  refine v_aload_n dX7_begin_46 rfl ?_
  refine v_aload_n dX7_begin_47 rfl ?_
  refine v_getI 4 3 dX7_begin_48 f7_63 (by assumption) (by decide) ?_
  rw [i3]
  refine v_putI 7 5 dX7_begin_51 f7_43 (by assumption) (by decide) ?_
  refine v_aload_n dX7_begin_54 rfl ?_
  refine v_iconst 0 dX7_begin_55 (by decide) ?_
  refine v_putI 7 7 dX7_begin_56 f7_46 (by assumption) (by decide) ?_
  refine v_aload_n dX7_begin_59 rfl ?_
  refine v_iconst 0 dX7_begin_60 (by decide) ?_
  refine v_putZ 7 8 dX7_begin_61 f7_49 (by assumption) (by decide) (by first | assumption | decide) ?_
  skip
  obtain ⟨M4, eM4⟩ : ∃ M4, M4 = sI (sI (sI M3 s 5 (K 93)) s 7 0) s 8 0 := ⟨_, rfl⟩
  have m4 : Sm (Wln s r) M M4 := by rw [eM4]; exact ((m3.st _ (Wln_w ⟨by omega, by omega⟩)).st _ (Wln_w ⟨by omega, by omega⟩)).st _ (Wln_w ⟨by omega, by omega⟩)
  have w4 : ∀ q, q ≠ s → gI M4 q = gI M3 q := fun q hq => by rw [eM4, gI_sr _ _ hq, gI_sr _ _ hq, gI_sr _ _ hq]
  have v5 : gI M4 s 5 = K 93 := by rw [eM4, gI_sk _ _ (by decide), gI_sk _ _ (by decide)]; exact gI_ss _ _ _ _
  have v7 : gI M4 s 7 = 0 := by rw [eM4, gI_sk _ _ (by decide)]; exact gI_ss _ _ _ _
  have v8 : gI M4 s 8 = 0 := by rw [eM4]; exact gI_ss _ _ _ _
  rw [← eM4]
  have hs4 : StSh M4 s := StSh.mv ⟨s1, s2, s3, s4, s5, s6, s7, s8, s9, s10, s11⟩ m4.2.1 m4.2.2.2.1
  have b1 := hs4.1
  have hf := c7_firstInQ G M4 hs4 (v5.trans hB.2.1.1) hB.2.1.2
  have hset := c7_setStake G M4 hs4 (fsI (kn K 93))
  refine v_aload_n dX7_begin_64 rfl ?_
  refine v_aload_n dX7_begin_65 rfl ?_
  refine v_cV [] (hf) k7_firstIn dX7_begin_66 l7_64 (by assumption) (by decide) rfl (Nat.le_of_ble_eq_true rfl) (Nat.le_of_ble_eq_true rfl) ?_
  refine v_cVv [_] (hset) k7_setStake dX7_begin_69 l7_68 (by assumption) (by decide) rfl (Nat.le_of_ble_eq_true rfl) (Nat.le_of_ble_eq_true rfl) ?_
  skip
  obtain ⟨M5, eM5⟩ : ∃ M5, M5 = flI (sI M4 s 6 (fsI (kn K 93))) (s + 4) 6 (-1) := ⟨_, rfl⟩
  have m5 : Sm (Wln s r) M M5 := by rw [eM5]; exact flI_sm (m4.st _ (Wln_w ⟨by omega, by omega⟩)) _ (fun k _ => Wln_w ⟨by omega, by omega⟩)
  rw [← eM5]
  have w5 : ∀ q, q ≠ s → q ≠ s + 4 → gI M5 q = gI M4 q := fun q h1 h2 => by
    funext k
    rw [eM5, flI_ob _ _ h2, gI_sr _ _ h1]
  have z5 : ∀ k, k ≠ 6 → gI M5 s k = gI M4 s k := fun k hk => by rw [eM5, flI_ob _ _ (by omega), gI_sk _ _ hk]
  refine v_vret dX7_begin_72 rfl ?_
  skip
  refine ⟨rfl, m5, StSh.mv ⟨s1, s2, s3, s4, s5, s6, s7, s8, s9, s10, s11⟩ m5.2.1 m5.2.2.2.1, fun c hc => ?_, fun q hq => ⟨?_, ?_⟩, ?_, ?_, ?_, ?_⟩
  · rw [w5 _ (by omega) (by omega), w4 _ (by omega), w3 _ (by omega), w5 _ (by omega) (by omega), w4 _ (by omega), w3 _ (by omega), w5 _ (by omega) (by omega), w4 _ (by omega), w3 _ (by omega)]
    exact hv c hc
  · rw [(hB.2.2.2.2.2 q hq).1, eM5]
    exact flI_in _ _ hq
  · rw [(hB.2.2.2.2.2 q hq).2, w5 _ (by omega) (by omega), w4 _ (by omega)]
    exact u5 q hq
  · rw [z5 5 (by decide)]; exact v5
  · rw [hB.2.2.2.2.1, eM5, flI_ob _ _ (by omega)]; exact gI_ss _ _ _ _
  · rw [z5 7 (by decide), v7, hB.2.2.2.1]
  · rw [z5 8 (by decide), v8, hB.2.2.1]
end B0
def Wop (q r a k : Nat) : Bool := Wln (q + 8) r a k || (Nat.beq a q && (Nat.beq k 3 || Nat.beq k 4))
section B1
variable (G : mG) (M : mM)
theorem c6_open {q r p cd n : Nat} {K : Nat → Int32} (hs : ScSh M q) (hk : RkSh M r) (hp : Plr M p cd n K) (hr : Apt p cd r (r + 2)) (hsp : Apt p cd (q + 8) (q + 13)) (hpq : p ≠ q) (hsr : q + 74 < r ∨ r + 2 < q) (hP : WP K) (hB : BgK K) (h8 : K 8 = 0) (hrow : ∀ d, d < kn K 2 → gI M (p + 1) d = nI (pkR (cur K) d (kn K 1))) (hin : gI M p 3 = K 93) (hl : ∀ i, i < 10 → gI M (q + 15 + 6 * i) 8 = 0 ∨ gI M (q + 15 + 6 * i) 8 = 1) :
    Ct G Y6_open 6 0 0 [.ref q, .ref p, .ref r] M (Rs none (fun M' => Sm (Wop q r) (sR M q 0 (some p)) M' ∧ ScD M' q 0 K)) NX := by
  have hq0 := hs.1
  have hrq : r ≠ q := by omega
  refine Ct.of k6_open.1 (Nat.le_of_ble_eq_true rfl) ?_
  refine v_aload_n dX6_open_0 rfl ?_
  refine v_aload_n dX6_open_1 rfl ?_
  refine v_putR 6 0 dX6_open_2 f6_12 (by assumption) (by decide) (by decide) ?_
  skip
  obtain ⟨M1, eM1⟩ : ∃ M1, M1 = sR M q 0 (some p) := ⟨_, rfl⟩
  have hs1 : ScSh M1 q := by rw [eM1]; exact sR_sh hs hq0
  have hk1 : RkSh M1 r := by
    have e : ∀ k, gR M1 r k = gR M r k := fun k => by rw [eM1, gR_sR]; exact up2_q _ _ hrq
    have hT : gT M1 = gT M := by rw [eM1]; rfl
    unfold RkSh at hk ⊢
    rw [e, e, hT]
    exact hk
  have hp1 : Plr M1 p cd n K := by
    refine ⟨?_, by rw [eM1]; exact hp.2⟩
    have e : ∀ k, gR M1 p k = gR M p k := fun k => by rw [eM1, gR_sR]; exact up2_q _ _ hpq
    have hT : gT M1 = gT M := by rw [eM1]; rfl
    have h1 := hp.1
    unfold PlSh at h1 ⊢
    rw [e, e, e, e, e, e, hT]
    exact h1
  have hrow1 : ∀ d, d < kn K 2 → gI M1 (p + 1) d = nI (pkR (cur K) d (kn K 1)) := by rw [eM1]; exact hrow
  have hin1 : gI M1 p 3 = K 93 := by rw [eM1]; exact hin
  have hl1 : ∀ i, i < 10 → gI M1 (q + 15 + 6 * i) 8 = 0 ∨ gI M1 (q + 15 + 6 * i) 8 = 1 := by rw [eM1]; exact hl
  rw [← eM1]
  obtain ⟨q1, q2, q3, q4, q5, q6⟩ := hs1
  have hb := c7_begin G M1 q5 hk1 hp1 hr (by
    intro a ha
    have := hsp a ha
    omega) (by omega) hP hB hrow1 hin1
  have t5 := q5.1
  refine v_aload_n dX6_open_5 rfl ?_
  refine v_getR 6 1 _ dX6_open_6 f6_21 (by assumption) (by decide) (by assumption) ?_
  refine v_aload_n dX6_open_9 rfl ?_
  refine v_aload_n dX6_open_10 rfl ?_
  skip
  refine v_scVv [_, _] hb k7_begin dX6_open_11 l6_29 t5 (by decide) rfl (Nat.le_of_ble_eq_true rfl) (Nat.le_of_ble_eq_true rfl) (fun M2 hM2 => ?_)
  have t2 : gT M2 q = .inl 6 := by rw [hM2.1.2.1]; exact q1
  refine v_aload_n dX6_open_14 rfl ?_
  refine v_iconst 0 dX6_open_15 (by decide) ?_
  refine v_putI 6 3 dX6_open_16 f6_33 (by assumption) (by decide) ?_
  refine v_aload_n dX6_open_19 rfl ?_
  refine v_iconst 0 dX6_open_20 (by decide) ?_
  refine v_putI 6 4 dX6_open_21 f6_37 (by assumption) (by decide) ?_
  refine v_vret dX6_open_24 rfl ?_
  skip
  have w : ∀ a, a ≠ q → gI (sI (sI M2 q 3 0) q 4 0) a = gI M2 a := fun a ha => by rw [gI_sr _ _ ha, gI_sr _ _ ha]
  have ow : ∀ a k, Wop q r a k = false → Wln (q + 8) r a k = false := fun a k z => by unfold Wop at z; rw [Bool.or_eq_false_iff] at z; exact z.1
  have iw : ∀ k, k = 3 ∨ k = 4 → Wop q r q k = true := fun k h => by
    unfold Wop
    rw [Nat.beq_refl]
    rcases h with h | h <;> subst h <;> simp
  have m3 : Sm (Wop q r) M1 (sI (sI M2 q 3 0) q 4 0) := ((hM2.1.wk ow).st _ (iw 3 (Or.inl rfl))).st _ (iw 4 (Or.inr rfl))
  refine ⟨rfl, m3, ?_, ?_, ?_, by decide, fun i hi => ?_, fun j hj => ?_⟩
  · have := (hM2.2.mv (M' := sI (sI M2 q 3 0) q 4 0) rfl rfl (fun a h1 h2 => w a (by omega))).2
    exact this
  · rw [h8]; exact gI_ss _ _ _ _
  · rw [gI_sk _ _ (by decide)]; exact gI_ss _ _ _ _
  · rw [w _ (by omega), hM2.1.2.2.2.2 _ 8 (Wln_o (by omega) (by omega) 8)]
    exact hl1 i hi
  · have : kn K 8 = 0 := by unfold kn; rw [h8]; rfl
    omega
end B1
