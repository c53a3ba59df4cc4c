/-! ===== the class: Asker, the questions ===== -/
def Wbg (q k : Nat) : Bool := (Nat.beq q 205 && Nat.beq k 3) || Nat.beq q 207 || Nat.beq q 208
theorem Wbg_o {q : Nat} (h : q < 205 ∨ 208 < q) (k : Nat) : Wbg q k = false := by
  unfold Wbg
  rw [nbeq_f (show q ≠ 205 by omega), nbeq_f (show q ≠ 207 by omega), nbeq_f (show q ≠ 208 by omega)]
  rfl
theorem nib_0 (k : Nat) : nib 0 k = 0 := by
  apply Nat.eq_of_testBit_eq; intro i
  rw [nib, bset_bit, Nat.zero_testBit, show (0 : Int64).toBitVec = 0#64 from rfl, BitVec.getLsbD_zero, Bool.and_false]
theorem Plr.a3 {M M' : mM} {s p cd n : Nat} {K : Nat → Int32} (h : Plr M p cd n K) (ha : Ap3 s p cd) (e : Sj Wbg J206 M M') : Plr M' p cd n K := h.sj e (fun k => nbeq_f (by have := ha.2 p (Or.inl ⟨by omega, by omega⟩); omega)) (fun q k hq => Wbg_o (ha.2 q hq) k)
theorem Str.a3 {M M' : mM} {s p cd : Nat} {K : Nat → Int32} (h : Str M s K) (ha : Ap3 s p cd) (e : Sj Wbg J206 M M') : Str M' s K := h.sj e (fun q k h1 h2 => Wbg_o (by have := ha.1; omega) k)
section A4
variable (G : mG) (M : mM)
theorem l0_begin (hS : Sh M) {s p cd n : Nat} {K : Nat → Int32} (hs : Str M s K) (hp : Plr M p cd n K) (hW : WK K) (ha : Ap3 s p cd) : ∀ i w M', w + i = kn K 3 → Sj Wbg J206 M M' → gI M' 205 3 = nI (kn K 3) → KN M' K → (∀ v, v < w → gI M' 207 v = nI (bset (kn K 2) (inbP K v))) →
    V G Y0_begin 6 0 0 (Rs (some (.int (bI (prtA K (2 ^ kn K 3 - 1) = true)))) (fun M' => Sj Wbg J206 M M' ∧ HW M' K ∧ KN M' K)) NX 18 [some (.ref 205), some (.ref p), some (.ref s), some (.int (nI w))] [] M' := by
  have h10 := hW.p.2.2.1.2
  intro i
  induction i with
  | zero =>
    intro w M' hw hM h3 hN hv
    have hS' := hS.sj hM
    have hp' := hp.a3 ha hM
    have hs' := hs.a3 ha hM
    have hp1 := hp'.1.1
    have hs1 := hs'.1.1
    obtain rfl : w = kn K 3 := by omega
    refine v_iload_n dX0_begin_18 rfl ?_
    refine v_aload_n dX0_begin_19 rfl ?_
    refine v_getI 0 3 dX0_begin_20 f0_63 (by first | exact hs1 | exact t2 | exact hS3.1 _ _ rfl | exact hS2.1 _ _ rfl | exact hS'.1 _ _ rfl | exact hS.1 _ _ rfl | assumption) (by decide) ?_
    rw [h3]
    refine v_icmp_ge 43 dX0_begin_23 (by decide) (fun h23 => ?_) (fun h23 => absurd (nI_le (Nat.le_refl _) (by omega)) h23)
    refine v_aload_n dX0_begin_43 rfl ?_
    refine v_aload_n dX0_begin_44 rfl ?_
    refine v_cV [] (c4_allWords G M' hp' hW.p) k4_allWords dX0_begin_45 l0_26 (by first | exact hs1 | exact t2 | exact hS3.1 _ _ rfl | exact hS2.1 _ _ rfl | exact hS'.1 _ _ rfl | exact hS.1 _ _ rfl | assumption) (by decide) rfl (Nat.le_of_ble_eq_true rfl) (Nat.le_of_ble_eq_true rfl) ?_
    refine v_aload_n dX0_begin_48 rfl ?_
    refine v_aload_n dX0_begin_49 rfl ?_
    refine v_scV [_] (c0_learnPairs G M' hS' hs' hW ha.1) k0_learnPairs dX0_begin_50 l0_22 (by first | exact hs1 | exact t2 | exact hS3.1 _ _ rfl | exact hS2.1 _ _ rfl | exact hS'.1 _ _ rfl | exact hS.1 _ _ rfl | assumption) (by decide) rfl (Nat.le_of_ble_eq_true rfl) (Nat.le_of_ble_eq_true rfl) ?_
    intro M2 hM2; have hS2 := hS'.sm hM2.1
    refine v_cV [_, _] (c0_partsAll G M2 hS2 hW hM2.2 _) k0_partsAll dX0_begin_53 l0_38 (by first | exact hs1 | exact t2 | exact hS3.1 _ _ rfl | exact hS2.1 _ _ rfl | exact hS'.1 _ _ rfl | exact hS.1 _ _ rfl | assumption) (by decide) rfl (Nat.le_of_ble_eq_true rfl) (Nat.le_of_ble_eq_true rfl) ?_
    refine v_zret dX0_begin_56 rfl (by first | rfl | exact bI_nb _ | assumption) ?_
    exact ⟨rfl, hM.tr (hM2.1.j.wk (fun q k z => by simp only [Wbg, Wdf, Bool.or_eq_false_iff] at z ⊢; exact z.2) (fun q k z => z)), ⟨(hM2.1.2.2.2.2 205 3 rfl).trans h3, fun w hw => (hM2.1.2.2.2.2 207 w rfl).trans (hv w hw)⟩, fun T hT => by rw [hM2.1.2.2.1]; exact hN T hT⟩
  | succ i ih =>
    intro w M' hw hM h3 hN hv
    have hS' := hS.sj hM
    have hs' := hs.a3 ha hM
    have hs1 := hs'.1.1
    refine v_iload_n dX0_begin_18 rfl ?_
    refine v_aload_n dX0_begin_19 rfl ?_
    refine v_getI 0 3 dX0_begin_20 f0_63 (by first | exact hs1 | exact t2 | exact hS3.1 _ _ rfl | exact hS2.1 _ _ rfl | exact hS'.1 _ _ rfl | exact hS.1 _ _ rfl | assumption) (by decide) ?_
    rw [h3]
    refine v_icmp_ge 43 dX0_begin_23 (by decide) (fun h23 => absurd ((nI_leI (by omega) (by omega)).mp h23) (by omega)) (fun h23 => ?_)
    refine v_aload_n dX0_begin_26 rfl ?_
    refine v_getR 0 1 _ dX0_begin_27 f0_15 (by first | exact hs1 | exact t2 | exact hS3.1 _ _ rfl | exact hS2.1 _ _ rfl | exact hS'.1 _ _ rfl | exact hS.1 _ _ rfl | assumption) (by decide) (by first | exact hS3.2 _ _ _ rfl | exact hS2.2 _ _ _ rfl | exact hS'.2 _ _ _ rfl | exact hS.2 _ _ _ rfl | assumption) ?_
    refine v_iload_n dX0_begin_30 rfl ?_
    refine v_aload_n dX0_begin_31 rfl ?_
    refine v_iload_n dX0_begin_32 rfl ?_
    refine v_cV [_] (c7_holders G M' hs' hW (by omega)) k7_holders dX0_begin_33 l0_78 (by first | exact hs1 | exact t2 | exact hS3.1 _ _ rfl | exact hS2.1 _ _ rfl | exact hS'.1 _ _ rfl | exact hS.1 _ _ rfl | assumption) (by decide) rfl (Nat.le_of_ble_eq_true rfl) (Nat.le_of_ble_eq_true rfl) ?_
    skip
    refine v_iastN w dX0_begin_36 (hS'.1 207 _ rfl) rfl ⟨by omega, by decide⟩ ?_
    refine v_iinc 1 dX0_begin_37 rfl (by decide) rfl (by decide) ?_
    refine v_goto 18 dX0_begin_40 (by decide) ?_
    -- at 18: .iload_n 3
    rw [nI_1]
    refine ih (w + 1) _ (by omega) (hM.st _ rfl) (by rw [gI_sq _ _ (by decide)]; exact h3) hN (fun v hv2 => ?_)
    by_cases e : v = w
    · subst e; exact gI_ss _ _ _ _
    · rw [gI_sk _ _ e]; exact hv v (by omega)
theorem c0_begin (hS : Sh M) {s p cd n : Nat} {K : Nat → Int32} (hs : Str M s K) (hp : Plr M p cd n K) (hW : WK K) (ha : Ap3 s p cd) : Ct G Y0_begin 6 0 0 [.ref 205, .ref p, .ref s] M (Rs (some (.int (bI (prtA K (2 ^ kn K 3 - 1) = true)))) (fun M' => Sj Wbg J206 M M' ∧ HW M' K ∧ KN M' K)) NX := by
  have hp0 := hp
  obtain ⟨⟨p1, p2, p3, p4, p5, p6, p7, p8, p9, p10, p11, p12, p13, p14⟩, ⟨e1, e2, e3, e4, e5, e6, e7⟩, g2, g3, g4, g5, g6, g7⟩ := hp
  refine Ct.of k0_begin.1 (Nat.le_of_ble_eq_true rfl) ?_
  refine v_aload_n dX0_begin_0 rfl ?_
  refine v_aload_n dX0_begin_1 rfl ?_
  refine v_getI 4 4 dX0_begin_2 f0_71 (by first | exact hs1 | exact t2 | exact hS3.1 _ _ rfl | exact hS2.1 _ _ rfl | exact hS'.1 _ _ rfl | exact hS.1 _ _ rfl | assumption) (by decide) ?_
  rw [e4, hW.p.2.2.1.1]
  refine v_putI 0 3 dX0_begin_5 f0_63 (by first | exact hs1 | exact t2 | exact hS3.1 _ _ rfl | exact hS2.1 _ _ rfl | exact hS'.1 _ _ rfl | exact hS.1 _ _ rfl | assumption) (by decide) ?_
  refine v_aload_n dX0_begin_8 rfl ?_
  refine v_getR 0 0 _ dX0_begin_9 f0_11 (by first | exact hs1 | exact t2 | exact hS3.1 _ _ rfl | exact hS2.1 _ _ rfl | exact hS'.1 _ _ rfl | exact hS.1 _ _ rfl | assumption) (by decide) (by first | exact hS3.2 _ _ _ rfl | exact hS2.2 _ _ _ rfl | exact hS'.2 _ _ _ rfl | exact hS.2 _ _ _ rfl | assumption) ?_
  refine v_lconst 0 dX0_begin_12 (by decide) ?_
  refine v_cSv [_, _] (cJ_fillJ G (sI M 205 3 (nI (kn K 3))) 0 (hS.1 206 _ rfl) (by decide)) kJ_fillJ dX0_begin_13 l0_72 rfl (Nat.le_of_ble_eq_true rfl) (Nat.le_of_ble_eq_true rfl) ?_
  refine v_iconst 0 dX0_begin_16 (by decide) ?_
  refine v_istore_n dX0_begin_17 rfl (by decide) ?_
  skip
  refine l0_begin G M hS hs hp0 hW ha (kn K 3) 0 _ (by omega) ?_ ?_ ?_ (fun v hv => absurd hv (by omega))
  · refine ⟨rfl, rfl, rfl, fun q k z => ?_, fun q k z => ?_⟩
    · show gI (sI M 205 3 (nI (kn K 3))) q k = gI M q k
      exact (Sm.rf (W := Wbg)).st (q := 205) (k := 3) _ rfl |>.2.2.2.2 q k z
    · show (if q = 206 ∧ k < 1024 then (0 : Int64) else gJ M q k) = gJ M q k
      exact if_neg (fun y => by rw [y.1] at z; cases z)
  · show gI (sI M 205 3 (nI (kn K 3))) 205 3 = _
    exact gI_ss _ _ _ _
  · intro T hT
    left
    rw [show gJ (flJ (sI M 205 3 (nI (kn K 3))) 206 1024 0) 206 (T / 16) = 0 from if_pos ⟨rfl, by omega⟩]
    exact nib_0 _
theorem sep_lv {K : Nat → Int32} (hP : WP K) (S : Nat) : spl K S ≤ 10 := Nat.le_trans (cnt_le _ _) hP.2.2.1.2
theorem sj_a {M M' : mM} (h : Sj nW J206 M M') : Sj Wbg J206 M M' := h.wk (fun _ _ _ => rfl) (fun _ _ z => z)
theorem c0_questions (hS : Sh M) {s p cd n : Nat} {K : Nat → Int32} (hs : Str M s K) (hp : Plr M p cd n K) (hW : WK K) (ha : Ap3 s p cd) : Ct G Y0_questions 33 0 0 [.ref 205, .ref p, .ref s] M (Rs (some (.int (askV K 0))) (Sj Wbg J206 M)) NX := by
  have hcon := c0_begin G M hS hs hp hW ha
  refine Ct.of k0_questions.1 (Nat.le_of_ble_eq_true rfl) ?_
  unfold askV
  by_cases hq : prtA K (2 ^ kn K 3 - 1) = true
  · rw [bI_t hq] at hcon
    rw [if_pos hq, if_pos rfl]
    refine v_aload_n dX0_questions_0 rfl ?_
    refine v_aload_n dX0_questions_1 rfl ?_
    refine v_aload_n dX0_questions_2 rfl ?_
    -- at 3: .invokevirtual 51
    refine v_scV [_, _] hcon k0_begin dX0_questions_3 l0_51 (hS.1 205 _ rfl) (by decide) rfl (Nat.le_of_ble_eq_true rfl) (Nat.le_of_ble_eq_true rfl) (fun M2 hM2 => ?_)
    have hS2 := hS.sj hM2.1
    have hs2 := hs.a3 ha hM2.1
    have t2 := hs2.1.1
    have hn := c0_needed_all G K hW.p hW.i (sep_all hW hq) 14 (kn K 93) 0 (fun _ h => h) (pcn_le _) (by rw [Nat.zero_add]; exact sep_lv hW.p _) M2 hS2 hM2.2.1 hM2.2.2
    generalize hF : aq K (kn K 93) = F at *
    refine v_if_eq 21 dX0_questions_6 (by decide) (fun h6 => absurd h6 (by decide)) (fun h6 => ?_)
    refine v_aload_n dX0_questions_9 rfl ?_
    refine v_aload_n dX0_questions_10 rfl ?_
    refine v_getI 7 5 dX0_questions_11 f0_55 (by first | exact hs1 | exact t2 | exact hS3.1 _ _ rfl | exact hS2.1 _ _ rfl | exact hS'.1 _ _ rfl | exact hS.1 _ _ rfl | assumption) (by decide) ?_
    rw [hs2.2.2.2.1, hW.i.1]
    refine v_iconst 0 dX0_questions_14 (by decide) ?_
    refine v_scV [_, _] (hn) k0_needed dX0_questions_15 l0_59 (by first | exact hs1 | exact t2 | exact hS3.1 _ _ rfl | exact hS2.1 _ _ rfl | exact hS'.1 _ _ rfl | exact hS.1 _ _ rfl | assumption) (by decide) rfl (Nat.le_of_ble_eq_true rfl) (Nat.le_of_ble_eq_true rfl) ?_
    intro M3 hM3
    refine v_goto 22 dX0_questions_18 (by decide) ?_
    refine v_iret dX0_questions_22 rfl ?_
    exact ⟨rfl, hM2.1.tr (sj_a hM3.1)⟩
  · rw [bI_f hq] at hcon
    rw [if_neg hq]
    refine v_aload_n dX0_questions_0 rfl ?_
    refine v_aload_n dX0_questions_1 rfl ?_
    refine v_aload_n dX0_questions_2 rfl ?_
    -- at 3: .invokevirtual 51
    refine v_scV [_, _] hcon k0_begin dX0_questions_3 l0_51 (hS.1 205 _ rfl) (by decide) rfl (Nat.le_of_ble_eq_true rfl) (Nat.le_of_ble_eq_true rfl) (fun M2 hM2 => ?_)
    refine v_if_eq 21 dX0_questions_6 (by decide) (fun h6 => ?_) (fun h6 => absurd rfl h6)
    refine v_iconst (-1) dX0_questions_21 (by decide) ?_
    refine v_iret dX0_questions_22 rfl ?_
    exact ⟨rfl, hM2.1⟩
theorem l0_first (hS : Sh M) {s p cd : Nat} {K : Nat → Int32} (hs : Str M s K) (hW : WK K) (ha : Ap3 s p cd) (hH : HW M K) (hsep : SepS K (kn K 93)) : ∀ i w M' (o5 o6 : Option Value), w + i = kn K 3 → Sj nW J206 M M' → KN M' K →
    V G Y0_firstQuestion 33 0 0 (Rs (some (.int (if aq K (kn K 93) = 0 then -1 else fstF (askP K) i w))) (Sj nW J206 M)) NX 24 [some (.ref 205), some (.ref p), some (.ref s), some (.int (nI (aq K (kn K 93)))), some (.int (nI w)), o5, o6] [] M' := by
  have h14 := hW.p.2.1.2
  have h10 := hW.p.2.2.1.2
  have hpw : 2 ^ kn K 2 ≤ 2 ^ 14 := Nat.pow_le_pow_right (by omega) h14
  have hin := hW.i.2
  have hq := aq_spl h14 (pcn (kn K 93)) (kn K 93) (Nat.le_refl _) hin hsep
  have hsl := sep_lv hW.p (kn K 93)
  intro i
  induction i with
  | zero =>
    intro w M' o5 o6 hw hM hN
    have hS' := hS.sj hM
    have hH' := (hH.sj hM).1
    obtain rfl : w = kn K 3 := by omega
    rw [show (if aq K (kn K 93) = 0 then (-1 : Int32) else fstF (askP K) 0 (kn K 3)) = -1 from by split <;> rfl]
    generalize hF : aq K (kn K 93) = F at *
    refine v_iload dX0_firstQuestion_24 rfl ?_
    refine v_aload_n dX0_firstQuestion_26 rfl ?_
    refine v_getI 0 3 dX0_firstQuestion_27 f0_63 (by first | exact hs1 | exact t2 | exact hS3.1 _ _ rfl | exact hS2.1 _ _ rfl | exact hS'.1 _ _ rfl | exact hS.1 _ _ rfl | assumption) (by decide) ?_
    rw [hH']
    refine v_icmp_ge 105 dX0_firstQuestion_30 (by decide) (fun h30 => ?_) (fun h30 => absurd (nI_le (Nat.le_refl _) (by omega)) h30)
    refine v_iconst (-1) dX0_firstQuestion_105 (by decide) ?_
    refine v_iret dX0_firstQuestion_106 rfl ?_
    exact ⟨rfl, hM⟩
  | succ i ih =>
    intro w M' o5 o6 hw hM hN
    have hS' := hS.sj hM
    have hHm := hH.sj hM
    have hH' := hHm.1
    have hHh := hHm.2 w (by omega)
    have hs' := hs.sj hM (fun _ _ _ _ => rfl)
    have hs1 := hs'.1.1
    have e5 : gI M' s 5 = nI (kn K 93) := hs'.2.2.2.1.trans hW.i.1
    obtain ⟨hy1, hy2⟩ := hold_prt (K := K) (S := kn K 93) (w := w) (fun _ h => h) hW.i.2
    have hpt := prt_lt h14 (kn K 93) w
    have hdt := dif_lt (h := prt K (kn K 93) w) (S := kn K 93) (by omega)
    have hn := fun M' o5 o6 => ih (w + 1) M' o5 o6 (by omega)
    have hef : fstF (askP K) (i + 1) w = if askP K w = true then nI w else fstF (askP K) i (w + 1) := rfl
    rw [hef]
    by_cases hy : prt K (kn K 93) w = 0 ∨ prt K (kn K 93) w = kn K 93
    · have hap : ¬ askP K w = true := by
        unfold askP
        rw [show aqB (aq K) K (kn K 93) w = 536870912 from if_pos hy, decide_eq_true_eq]
        omega
      rw [if_neg hap]
      generalize hX : (if aq K (kn K 93) = 0 then (-1 : Int32) else fstF (askP K) i (w + 1)) = X at *
      have hn := hn M'
      generalize hF : aq K (kn K 93) = F at *
      by_cases hz : prt K (kn K 93) w = 0
      · generalize hD : dif (kn K 93) (prt K (kn K 93) w) = D at *
        generalize hE : prt K (kn K 93) w = E at *
        refine v_iload dX0_firstQuestion_24 rfl ?_
        refine v_aload_n dX0_firstQuestion_26 rfl ?_
        refine v_getI 0 3 dX0_firstQuestion_27 f0_63 (by first | exact hs1 | exact t2 | exact hS3.1 _ _ rfl | exact hS2.1 _ _ rfl | exact hS'.1 _ _ rfl | exact hS.1 _ _ rfl | assumption) (by decide) ?_
        rw [hH']
        refine v_icmp_ge 105 dX0_firstQuestion_30 (by decide) (fun h30 => absurd ((nI_leI (by omega) (by omega)).mp h30) (by omega)) (fun h30 => ?_)
        refine v_aload_n dX0_firstQuestion_33 rfl ?_
        refine v_getI 7 5 dX0_firstQuestion_34 f0_55 (by first | exact hs1 | exact t2 | exact hS3.1 _ _ rfl | exact hS2.1 _ _ rfl | exact hS'.1 _ _ rfl | exact hS.1 _ _ rfl | assumption) (by decide) ?_
        rw [e5]
        refine v_aload_n dX0_firstQuestion_37 rfl ?_
        refine v_getR 0 1 _ dX0_firstQuestion_38 f0_15 (by first | exact hs1 | exact t2 | exact hS3.1 _ _ rfl | exact hS2.1 _ _ rfl | exact hS'.1 _ _ rfl | exact hS.1 _ _ rfl | assumption) (by decide) (by first | exact hS3.2 _ _ _ rfl | exact hS2.2 _ _ _ rfl | exact hS'.2 _ _ _ rfl | exact hS.2 _ _ _ rfl | assumption) ?_
        refine v_iload dX0_firstQuestion_41 rfl ?_
        refine v_ialdN (w) dX0_firstQuestion_43 (by first | exact hs1 | exact t2 | exact hS3.1 _ _ rfl | exact hS2.1 _ _ rfl | exact hS'.1 _ _ rfl | exact hS.1 _ _ rfl | assumption) (by simp only [n_lit, pk_mul, nI_add]) ⟨by omega, by omega⟩ ?_
        rw [hHh]
        refine v_iand dX0_firstQuestion_44 ?_
        rw [nIand, hy1, hz]
        refine v_istore dX0_firstQuestion_45 rfl (by decide) ?_
        refine v_aload_n dX0_firstQuestion_47 rfl ?_
        refine v_getI 7 5 dX0_firstQuestion_48 f0_55 (by first | exact hs1 | exact t2 | exact hS3.1 _ _ rfl | exact hS2.1 _ _ rfl | exact hS'.1 _ _ rfl | exact hS.1 _ _ rfl | assumption) (by decide) ?_
        rw [e5]
        refine v_aload_n dX0_firstQuestion_51 rfl ?_
        refine v_getR 0 1 _ dX0_firstQuestion_52 f0_15 (by first | exact hs1 | exact t2 | exact hS3.1 _ _ rfl | exact hS2.1 _ _ rfl | exact hS'.1 _ _ rfl | exact hS.1 _ _ rfl | assumption) (by decide) (by first | exact hS3.2 _ _ _ rfl | exact hS2.2 _ _ _ rfl | exact hS'.2 _ _ _ rfl | exact hS.2 _ _ _ rfl | assumption) ?_
        refine v_iload dX0_firstQuestion_55 rfl ?_
        refine v_ialdN (w) dX0_firstQuestion_57 (by first | exact hs1 | exact t2 | exact hS3.1 _ _ rfl | exact hS2.1 _ _ rfl | exact hS'.1 _ _ rfl | exact hS.1 _ _ rfl | assumption) (by simp only [n_lit, pk_mul, nI_add]) ⟨by omega, by omega⟩ ?_
        rw [hHh]
        refine v_iconst (-1) dX0_firstQuestion_58 (by decide) ?_
        refine v_ixor dX0_firstQuestion_59 ?_
        refine v_iand dX0_firstQuestion_60 ?_
        rw [andnot, hy2]
        refine v_istore dX0_firstQuestion_61 rfl (by decide) ?_
        refine v_iload dX0_firstQuestion_63 rfl ?_
        refine v_if_eq 99 dX0_firstQuestion_65 (by decide) (fun h65 => ?_) (fun h65 => absurd rfl h65)
        refine v_iinc 1 dX0_firstQuestion_99 rfl (by decide) rfl (by decide) ?_
        refine v_goto 24 dX0_firstQuestion_102 (by decide) ?_
        (rw [nI_1]; exact hn _ _ hM hN)
      · have hd0 : dif (kn K 93) (prt K (kn K 93) w) = 0 := dif_prt0.mpr (hy.resolve_left hz)
        generalize hD : dif (kn K 93) (prt K (kn K 93) w) = D at *
        generalize hE : prt K (kn K 93) w = E at *
        refine v_iload dX0_firstQuestion_24 rfl ?_
        refine v_aload_n dX0_firstQuestion_26 rfl ?_
        refine v_getI 0 3 dX0_firstQuestion_27 f0_63 (by first | exact hs1 | exact t2 | exact hS3.1 _ _ rfl | exact hS2.1 _ _ rfl | exact hS'.1 _ _ rfl | exact hS.1 _ _ rfl | assumption) (by decide) ?_
        rw [hH']
        refine v_icmp_ge 105 dX0_firstQuestion_30 (by decide) (fun h30 => absurd ((nI_leI (by omega) (by omega)).mp h30) (by omega)) (fun h30 => ?_)
        refine v_aload_n dX0_firstQuestion_33 rfl ?_
        refine v_getI 7 5 dX0_firstQuestion_34 f0_55 (by first | exact hs1 | exact t2 | exact hS3.1 _ _ rfl | exact hS2.1 _ _ rfl | exact hS'.1 _ _ rfl | exact hS.1 _ _ rfl | assumption) (by decide) ?_
        rw [e5]
        refine v_aload_n dX0_firstQuestion_37 rfl ?_
        refine v_getR 0 1 _ dX0_firstQuestion_38 f0_15 (by first | exact hs1 | exact t2 | exact hS3.1 _ _ rfl | exact hS2.1 _ _ rfl | exact hS'.1 _ _ rfl | exact hS.1 _ _ rfl | assumption) (by decide) (by first | exact hS3.2 _ _ _ rfl | exact hS2.2 _ _ _ rfl | exact hS'.2 _ _ _ rfl | exact hS.2 _ _ _ rfl | assumption) ?_
        refine v_iload dX0_firstQuestion_41 rfl ?_
        refine v_ialdN (w) dX0_firstQuestion_43 (by first | exact hs1 | exact t2 | exact hS3.1 _ _ rfl | exact hS2.1 _ _ rfl | exact hS'.1 _ _ rfl | exact hS.1 _ _ rfl | assumption) (by simp only [n_lit, pk_mul, nI_add]) ⟨by omega, by omega⟩ ?_
        rw [hHh]
        refine v_iand dX0_firstQuestion_44 ?_
        rw [nIand, hy1]
        refine v_istore dX0_firstQuestion_45 rfl (by decide) ?_
        refine v_aload_n dX0_firstQuestion_47 rfl ?_
        refine v_getI 7 5 dX0_firstQuestion_48 f0_55 (by first | exact hs1 | exact t2 | exact hS3.1 _ _ rfl | exact hS2.1 _ _ rfl | exact hS'.1 _ _ rfl | exact hS.1 _ _ rfl | assumption) (by decide) ?_
        rw [e5]
        refine v_aload_n dX0_firstQuestion_51 rfl ?_
        refine v_getR 0 1 _ dX0_firstQuestion_52 f0_15 (by first | exact hs1 | exact t2 | exact hS3.1 _ _ rfl | exact hS2.1 _ _ rfl | exact hS'.1 _ _ rfl | exact hS.1 _ _ rfl | assumption) (by decide) (by first | exact hS3.2 _ _ _ rfl | exact hS2.2 _ _ _ rfl | exact hS'.2 _ _ _ rfl | exact hS.2 _ _ _ rfl | assumption) ?_
        refine v_iload dX0_firstQuestion_55 rfl ?_
        refine v_ialdN (w) dX0_firstQuestion_57 (by first | exact hs1 | exact t2 | exact hS3.1 _ _ rfl | exact hS2.1 _ _ rfl | exact hS'.1 _ _ rfl | exact hS.1 _ _ rfl | assumption) (by simp only [n_lit, pk_mul, nI_add]) ⟨by omega, by omega⟩ ?_
        rw [hHh]
        refine v_iconst (-1) dX0_firstQuestion_58 (by decide) ?_
        refine v_ixor dX0_firstQuestion_59 ?_
        refine v_iand dX0_firstQuestion_60 ?_
        rw [andnot, hy2, hd0]
        refine v_istore dX0_firstQuestion_61 rfl (by decide) ?_
        refine v_iload dX0_firstQuestion_63 rfl ?_
        refine v_if_eq 99 dX0_firstQuestion_65 (by decide) (fun h65 => absurd ((nI0 (by omega)).mp h65) hz) (fun h65 => ?_)
        refine v_iload dX0_firstQuestion_68 rfl ?_
        refine v_if_eq 99 dX0_firstQuestion_70 (by decide) (fun h70 => ?_) (fun h70 => absurd rfl h70)
        refine v_iinc 1 dX0_firstQuestion_99 rfl (by decide) rfl (by decide) ?_
        refine v_goto 24 dX0_firstQuestion_102 (by decide) ?_
        (rw [nI_1]; exact hn _ _ hM hN)
    · have hsp := splB_p.mpr hy
      have s1 := spl_yes hin (by omega) hsp
      have s2 := spl_no hin (by omega) hsp
      have c1 := c0_needed_all G K hW.p hW.i hsep 14 (prt K (kn K 93) w) 1 (Sub.prt hin) (pcn_le _) (by omega)
      have c2 := c0_needed_all G K hW.p hW.i hsep 14 (dif (kn K 93) (prt K (kn K 93) w)) 1 (Sub.dif _ _) (pcn_le _) (by omega)
      have q1 := aq_spl h14 (pcn (prt K (kn K 93) w)) _ (Nat.le_refl _) ((Sub.prt hin).lt hin) (fun x y hx hy => hsep x y (Sub.prt hin x hx) (Sub.prt hin y hy))
      have q2 := aq_spl h14 (pcn (dif (kn K 93) (prt K (kn K 93) w))) _ (Nat.le_refl _) ((Sub.dif (kn K 93) _).lt hin) (fun x y hx hy => hsep x y (Sub.dif (kn K 93) _ x hx) (Sub.dif (kn K 93) _ y hy))
      have hp0 : ¬ prt K (kn K 93) w = 0 := fun z => hy (Or.inl z)
      have hd0 : ¬ dif (kn K 93) (prt K (kn K 93) w) = 0 := fun z => hy (Or.inr (dif_prt0.mp z))
      have hap : askP K w = true ↔ max (aq K (prt K (kn K 93) w)) (aq K (dif (kn K 93) (prt K (kn K 93) w))) + 1 = aq K (kn K 93) := by
        unfold askP
        rw [show aqB (aq K) K (kn K 93) w = 1 + max (aq K (prt K (kn K 93) w)) (aq K (dif (kn K 93) (prt K (kn K 93) w))) from if_neg hy, decide_eq_true_eq, Nat.add_comm]
      generalize hX : fstF (askP K) i (w + 1) = X at *
      generalize hA : askP K w = A at *
      generalize hF : aq K (kn K 93) = F at *
      generalize hE1 : aq K (prt K (kn K 93) w) = E1 at *
      generalize hE2 : aq K (dif (kn K 93) (prt K (kn K 93) w)) = E2 at *
      generalize hD : dif (kn K 93) (prt K (kn K 93) w) = D at *
      generalize hE : prt K (kn K 93) w = E at *
      refine v_iload dX0_firstQuestion_24 rfl ?_
      refine v_aload_n dX0_firstQuestion_26 rfl ?_
      refine v_getI 0 3 dX0_firstQuestion_27 f0_63 (by first | exact hs1 | exact t2 | exact hS3.1 _ _ rfl | exact hS2.1 _ _ rfl | exact hS'.1 _ _ rfl | exact hS.1 _ _ rfl | assumption) (by decide) ?_
      rw [hH']
      refine v_icmp_ge 105 dX0_firstQuestion_30 (by decide) (fun h30 => absurd ((nI_leI (by omega) (by omega)).mp h30) (by omega)) (fun h30 => ?_)
      refine v_aload_n dX0_firstQuestion_33 rfl ?_
      refine v_getI 7 5 dX0_firstQuestion_34 f0_55 (by first | exact hs1 | exact t2 | exact hS3.1 _ _ rfl | exact hS2.1 _ _ rfl | exact hS'.1 _ _ rfl | exact hS.1 _ _ rfl | assumption) (by decide) ?_
      rw [e5]
      refine v_aload_n dX0_firstQuestion_37 rfl ?_
      refine v_getR 0 1 _ dX0_firstQuestion_38 f0_15 (by first | exact hs1 | exact t2 | exact hS3.1 _ _ rfl | exact hS2.1 _ _ rfl | exact hS'.1 _ _ rfl | exact hS.1 _ _ rfl | assumption) (by decide) (by first | exact hS3.2 _ _ _ rfl | exact hS2.2 _ _ _ rfl | exact hS'.2 _ _ _ rfl | exact hS.2 _ _ _ rfl | assumption) ?_
      refine v_iload dX0_firstQuestion_41 rfl ?_
      refine v_ialdN (w) dX0_firstQuestion_43 (by first | exact hs1 | exact t2 | exact hS3.1 _ _ rfl | exact hS2.1 _ _ rfl | exact hS'.1 _ _ rfl | exact hS.1 _ _ rfl | assumption) (by simp only [n_lit, pk_mul, nI_add]) ⟨by omega, by omega⟩ ?_
      rw [hHh]
      refine v_iand dX0_firstQuestion_44 ?_
      rw [nIand, hy1]
      refine v_istore dX0_firstQuestion_45 rfl (by decide) ?_
      refine v_aload_n dX0_firstQuestion_47 rfl ?_
      refine v_getI 7 5 dX0_firstQuestion_48 f0_55 (by first | exact hs1 | exact t2 | exact hS3.1 _ _ rfl | exact hS2.1 _ _ rfl | exact hS'.1 _ _ rfl | exact hS.1 _ _ rfl | assumption) (by decide) ?_
      rw [e5]
      refine v_aload_n dX0_firstQuestion_51 rfl ?_
      refine v_getR 0 1 _ dX0_firstQuestion_52 f0_15 (by first | exact hs1 | exact t2 | exact hS3.1 _ _ rfl | exact hS2.1 _ _ rfl | exact hS'.1 _ _ rfl | exact hS.1 _ _ rfl | assumption) (by decide) (by first | exact hS3.2 _ _ _ rfl | exact hS2.2 _ _ _ rfl | exact hS'.2 _ _ _ rfl | exact hS.2 _ _ _ rfl | assumption) ?_
      refine v_iload dX0_firstQuestion_55 rfl ?_
      refine v_ialdN (w) dX0_firstQuestion_57 (by first | exact hs1 | exact t2 | exact hS3.1 _ _ rfl | exact hS2.1 _ _ rfl | exact hS'.1 _ _ rfl | exact hS.1 _ _ rfl | assumption) (by simp only [n_lit, pk_mul, nI_add]) ⟨by omega, by omega⟩ ?_
      rw [hHh]
      refine v_iconst (-1) dX0_firstQuestion_58 (by decide) ?_
      refine v_ixor dX0_firstQuestion_59 ?_
      refine v_iand dX0_firstQuestion_60 ?_
      rw [andnot, hy2]
      refine v_istore dX0_firstQuestion_61 rfl (by decide) ?_
      refine v_iload dX0_firstQuestion_63 rfl ?_
      refine v_if_eq 99 dX0_firstQuestion_65 (by decide) (fun h65 => absurd ((nI0 (by omega)).mp h65) hp0) (fun h65 => ?_)
      refine v_iload dX0_firstQuestion_68 rfl ?_
      refine v_if_eq 99 dX0_firstQuestion_70 (by decide) (fun h70 => absurd ((nI0 (by omega)).mp h70) hd0) (fun h70 => ?_)
      refine v_aload_n dX0_firstQuestion_73 rfl ?_
      refine v_iload dX0_firstQuestion_74 rfl ?_
      refine v_iconst 1 dX0_firstQuestion_76 (by decide) ?_
      refine v_scV [_, _] (c1 M' hS' hHm hN) k0_needed dX0_firstQuestion_77 l0_59 (by first | exact hs1 | exact t2 | exact hS3.1 _ _ rfl | exact hS2.1 _ _ rfl | exact hS'.1 _ _ rfl | exact hS.1 _ _ rfl | assumption) (by decide) rfl (Nat.le_of_ble_eq_true rfl) (Nat.le_of_ble_eq_true rfl) ?_
      intro M2 hM2; have hS2 := hS'.sj hM2.1; have hH2 := hHm.sj hM2.1
      refine v_aload_n dX0_firstQuestion_80 rfl ?_
      refine v_iload dX0_firstQuestion_81 rfl ?_
      refine v_iconst 1 dX0_firstQuestion_83 (by decide) ?_
      refine v_scV [_, _] (c2 M2 hS2 hH2 hM2.2) k0_needed dX0_firstQuestion_84 l0_59 (by first | exact hs1 | exact t2 | exact hS3.1 _ _ rfl | exact hS2.1 _ _ rfl | exact hS'.1 _ _ rfl | exact hS.1 _ _ rfl | assumption) (by decide) rfl (Nat.le_of_ble_eq_true rfl) (Nat.le_of_ble_eq_true rfl) ?_
      intro M3 hM3; have hS3 := hS2.sj hM3.1
      refine v_cS [_, _] (cJ_max G M3 _ _) kJ_max dX0_firstQuestion_87 l0_66 rfl (Nat.le_of_ble_eq_true rfl) (Nat.le_of_ble_eq_true rfl) ?_
      rw [nI_max _ _ (by omega) (by omega)]
      refine v_iconst 1 dX0_firstQuestion_90 (by decide) ?_
      refine v_iadd dX0_firstQuestion_91 ?_
      refine v_iload_n dX0_firstQuestion_92 rfl ?_
      skip
      rw [nI_1]
      by_cases hm : max E1 E2 + 1 = F
      · rw [if_pos (hap.mpr hm), if_neg (show ¬ F = 0 by omega), hm]
        refine v_icmp_ne 99 dX0_firstQuestion_93 (by decide) (fun h93 => absurd rfl h93) (fun h93 => ?_)
        refine v_iload dX0_firstQuestion_96 rfl ?_
        refine v_iret dX0_firstQuestion_98 rfl ?_
        exact ⟨rfl, hM.tr (hM2.1.tr hM3.1)⟩
      · rw [if_neg (fun z => hm (hap.mp z))]
        refine v_icmp_ne 99 dX0_firstQuestion_93 (by decide) (fun h93 => ?_) (fun h93 => absurd ((nI_eq (by omega) (by omega)).mp (Decidable.not_not.mp h93)) hm)
        refine v_iinc 1 dX0_firstQuestion_99 rfl (by decide) rfl (by decide) ?_
        refine v_goto 24 dX0_firstQuestion_102 (by decide) ?_
        (rw [nI_1]; exact hn M3 _ _ (hM.tr (hM2.1.tr hM3.1)) hM3.2)
theorem c0_firstQuestion (hS : Sh M) {s p cd n : Nat} {K : Nat → Int32} (hs : Str M s K) (hp : Plr M p cd n K) (hW : WK K) (ha : Ap3 s p cd) : Ct G Y0_firstQuestion 33 0 0 [.ref 205, .ref p, .ref s] M (Rs (some (.int (askV K 1))) (Sj Wbg J206 M)) NX := by
  have hcon := c0_begin G M hS hs hp hW ha
  refine Ct.of k0_firstQuestion.1 (Nat.le_of_ble_eq_true rfl) ?_
  unfold askV
  by_cases hq : prtA K (2 ^ kn K 3 - 1) = true
  · rw [bI_t hq] at hcon
    rw [if_pos hq, if_neg (show ¬ (1 : Int32) = 0 by decide)]
    refine v_aload_n dX0_firstQuestion_0 rfl ?_
    refine v_aload_n dX0_firstQuestion_1 rfl ?_
    refine v_aload_n dX0_firstQuestion_2 rfl ?_
    -- at 3: .invokevirtual 51
    refine v_scV [_, _] hcon k0_begin dX0_firstQuestion_3 l0_51 (hS.1 205 _ rfl) (by decide) rfl (Nat.le_of_ble_eq_true rfl) (Nat.le_of_ble_eq_true rfl) (fun M2 hM2 => ?_)
    have hS2 := hS.sj hM2.1
    have hs2 := hs.a3 ha hM2.1
    have t2 := hs2.1.1
    have hn := c0_needed_all G K hW.p hW.i (sep_all hW hq) 14 (kn K 93) 0 (fun _ h => h) (pcn_le _) (by rw [Nat.zero_add]; exact sep_lv hW.p _) M2 hS2 hM2.2.1 hM2.2.2
    have hl := fun M3 h1 h2 => l0_first G M2 hS2 hs2 hW ha hM2.2.1 (sep_all hW hq) (kn K 3) 0 M3 none none (by omega) h1 h2
    generalize hX : (if aq K (kn K 93) = 0 then (-1 : Int32) else fstF (askP K) (kn K 3) 0) = X at *
    generalize hF : aq K (kn K 93) = F at *
    refine v_if_ne 11 dX0_firstQuestion_6 (by decide) (fun h6 => ?_) (fun h6 => absurd h6 (by decide))
    refine v_aload_n dX0_firstQuestion_11 rfl ?_
    refine v_aload_n dX0_firstQuestion_12 rfl ?_
    refine v_getI 7 5 dX0_firstQuestion_13 f0_55 (by first | exact hs1 | exact t2 | exact hS3.1 _ _ rfl | exact hS2.1 _ _ rfl | exact hS'.1 _ _ rfl | exact hS.1 _ _ rfl | assumption) (by decide) ?_
    rw [hs2.2.2.2.1, hW.i.1]
    refine v_iconst 0 dX0_firstQuestion_16 (by decide) ?_
    refine v_scV [_, _] (hn) k0_needed dX0_firstQuestion_17 l0_59 (by first | exact hs1 | exact t2 | exact hS3.1 _ _ rfl | exact hS2.1 _ _ rfl | exact hS'.1 _ _ rfl | exact hS.1 _ _ rfl | assumption) (by decide) rfl (Nat.le_of_ble_eq_true rfl) (Nat.le_of_ble_eq_true rfl) ?_
    intro M3 hM3
    refine v_istore_n dX0_firstQuestion_20 rfl (by decide) ?_
    refine v_iconst 0 dX0_firstQuestion_21 (by decide) ?_
    refine v_istore dX0_firstQuestion_22 rfl (by decide) ?_
    skip
    exact V.post (v_pad (v_pad (hl M3 hM3.1 hM3.2))) (fun v M4 h => ⟨h.1, hM2.1.tr (sj_a h.2)⟩) (fun _ _ h => h)
  · rw [bI_f hq] at hcon
    rw [if_neg hq]
    refine v_aload_n dX0_firstQuestion_0 rfl ?_
    refine v_aload_n dX0_firstQuestion_1 rfl ?_
    refine v_aload_n dX0_firstQuestion_2 rfl ?_
    -- at 3: .invokevirtual 51
    refine v_scV [_, _] hcon k0_begin dX0_firstQuestion_3 l0_51 (hS.1 205 _ rfl) (by decide) rfl (Nat.le_of_ble_eq_true rfl) (Nat.le_of_ble_eq_true rfl) (fun M2 hM2 => ?_)
    refine v_if_ne 11 dX0_firstQuestion_6 (by decide) (fun h6 => absurd rfl h6) (fun h6 => ?_)
    refine v_iconst (-1) dX0_firstQuestion_9 (by decide) ?_
    refine v_iret dX0_firstQuestion_10 rfl ?_
    exact ⟨rfl, hM2.1⟩
end A4
