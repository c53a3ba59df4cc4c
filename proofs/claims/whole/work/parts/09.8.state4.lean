/-! ===== the class: State, settling, learning, taking over ===== -/
theorem noCl_uK (K : Nat → Int32) (x : Int32) : uK (noCl K) 96 x = noCl (uK K 96 x) := by
  funext i
  by_cases e : i = 96
  · subst e; rw [uK_s, noCl_o (by omega), uK_s]
  · rw [uK_n _ _ e]
    by_cases h : 97 ≤ i ∧ i < 103
    · obtain ⟨p, hp, rfl⟩ : ∃ p, p < 6 ∧ i = 97 + p := ⟨i - 97, by omega, by omega⟩
      rw [noCl_in hp, noCl_in hp]
    · rw [noCl_o (by omega), noCl_o (by omega), uK_n _ _ e]
theorem or_mod10 {d : Nat} (h : d < 1048576) : (d ||| d / 1024) % 1024 = d % 1024 ||| d / 1024 := by
  rw [show (1024 : Nat) = 2 ^ 10 from rfl, Nat.or_mod_two_pow, Nat.mod_eq_of_lt (show d / 2 ^ 10 < 2 ^ 10 by omega)]
/-- the state s is what o was -/
def CpS (M M' : mM) (s o : Nat) : Prop := (∀ c, c < 14 → gI M' (s + 1) c = gI M (o + 1) c ∧ gI M' (s + 2) c = gI M (o + 2) c ∧ gI M' (s + 3) c = gI M (o + 3) c) ∧ (∀ q, q < 6 → gI M' (s + 4) q = gI M (o + 4) q ∧ gI M' (s + 5) q = gI M (o + 5) q) ∧ gI M' s 5 = gI M o 5 ∧ gI M' s 6 = gI M o 6 ∧ gI M' s 7 = gI M o 7 ∧ gI M' s 8 = gI M o 8
theorem CpS.std {M M' : mM} {s o : Nat} {K : Nat → Int32} (h : CpS M M' s o) (d : StD M o K) (h14 : kn K 2 ≤ 14) : StD M' s K := by
  obtain ⟨c1, c2, c3, c4, c5, c6⟩ := h
  obtain ⟨d1, d2, d3, d4, d5, d6⟩ := d
  refine ⟨fun c hc => ?_, fun q hq => ?_, c3.trans d3, c4.trans d4, c5.trans d5, c6.trans d6⟩
  · rw [(c1 c (by omega)).1, (c1 c (by omega)).2.1, (c1 c (by omega)).2.2]; exact d1 c hc
  · rw [(c2 q hq).1, (c2 q hq).2]; exact d2 q hq
section C7f
variable (G : mG) (M : mM)
theorem l7_settle {s p st I : Nat} {K K1 : Nat → Int32} (hs : Str M s K) (hW : WK K) (hst : K 96 = nI st) (hst2 : st < kn K 2) (M1 : mM) (hM : Sm (Wsd s) M M1) (h1 : ∀ q, s + 1 ≤ q → q ≤ s + 3 → gI M1 q = gI M q) (h5 : gI M1 s 5 = nI I) (e93 : kn K1 93 = I) (hI : I < 2 ^ kn K 2) (h6 : gI M1 s 6 = nI st)
    (hp : ∀ i, plI i → K1 i = K i) (hm : ∀ i, i < 84 → K1 (9 + i) = K (9 + i)) (hw : ∀ p, p < 6 → gI M1 (s + 5) p = K1 (103 + p)) (g5 : gI M1 s 5 = K1 93) (g7 : gI M1 s 7 = K1 95) (g8 : gI M1 s 8 = K1 94) (v : Int32) {K2 : Nat → Int32} (eK2 : K2 = uK (noCl K1) 96 (behI (noCl K1) st)) :
    V G Y7_settleClaims 5 0 0 (Rs (some (.int v)) (fun M' => Sm (Wsd s) M M' ∧ Str M' s K2)) NX 67 [some (.ref s), some (.ref p), some (.int v)] [] M1 := by
  have h14 := hW.p.2.1.2
  have hI2 : I < 16384 := Nat.lt_of_lt_of_le hI (show 2 ^ kn K 2 ≤ 2 ^ 14 from Nat.pow_le_pow_right (by omega) h14)
  have hsh : StSh M1 s := hs.1.mv hM.2.1 hM.2.2.2.1
  have hs1 := hsh.1
  have eb : behI (noCl K1) st = bhN I st := bh_eq (by rw [kn_cg (noCl_o (i := 2) (by omega)), kn_cg (hp 2 (Or.inl (by omega)))]; exact h14) (by rw [kn_cg (noCl_o (i := 93) (by omega))]; exact e93) (by rw [kn_cg (noCl_o (i := 2) (by omega)), kn_cg (hp 2 (Or.inl (by omega)))]; exact hI) (by rw [kn_cg (noCl_o (i := 2) (by omega)), kn_cg (hp 2 (Or.inl (by omega)))]; exact hst2)
  rw [eb, noCl_uK] at eK2
  rw [eK2]
  refine v_aload_n dX7_settleClaims_67 rfl ?_
  refine v_aload_n dX7_settleClaims_68 rfl ?_
  refine v_aload_n dX7_settleClaims_69 rfl ?_
  refine v_getI 7 6 dX7_settleClaims_70 f7_27 (by assumption) (by decide) ?_
  rw [h6]
  refine v_cV [_] (c7_nextInQ G M1 hsh h5 hI2 (c := st) (by omega)) k7_nextIn dX7_settleClaims_73 l7_129 (by assumption) (by decide) rfl (Nat.le_of_ble_eq_true rfl) (Nat.le_of_ble_eq_true rfl) ?_
  refine v_cVv [_] (c7_setStake G M1 hsh _) k7_setStake dX7_settleClaims_76 l7_68 (by assumption) (by decide) rfl (Nat.le_of_ble_eq_true rfl) (Nat.le_of_ble_eq_true rfl) ?_
  refine v_iload_n dX7_settleClaims_79 rfl ?_
  refine v_iret dX7_settleClaims_80 rfl ?_
  skip
  exact ⟨rfl, stk_sm hM _ Wsd_w, hsh, hs.2.stk hW.p h1 hp hm hw g5 g7 g8⟩
theorem c7_settleClaims {s p cd n : Nat} {K : Nat → Int32} (hs : Str M s K) (hp : Plr M p cd n K) (hW : WK K) (hk : K 96 ≠ -1) : Ct G Y7_settleClaims 5 0 0 [.ref s, .ref p] M (Rs (some (.int (encP (winO K)))) (fun M' => Sm (Wsd s) M M' ∧ Str M' s (setK K))) NX := by
  have hs0 := hs
  obtain ⟨hsh, hsd⟩ := hs
  obtain ⟨s1, s2, s3, s4, s5, s6, s7, s8, s9, s10, s11⟩ := hsh
  obtain ⟨d1, d2, d3, d4, d5, d6⟩ := hsd
  have h14 := hW.p.2.1.2
  have hin := in_lt hW.p hW.i
  obtain ⟨st, hst, hst2, hst3⟩ : ∃ st, K 96 = nI st ∧ st < kn K 2 ∧ (kn K 93).testBit st = true := by
    rcases hW.s with ⟨h, _⟩ | h
    · exact absurd h hk
    · exact h
  have ek : kn K 96 = st := kn_n hst (by omega)
  have hwn := c7_winning G M hs0 hp hW
  have hlt := winO_lt hW.p
  refine Ct.of k7_settleClaims.1 (Nat.le_of_ble_eq_true rfl) ?_
  cases ho : winO K with
  | none =>
    rw [ho] at hwn
    rw [show encP none = (-1 : Int32) from rfl] at hwn ⊢
    have es : set1 K = K := by unfold set1; rw [ho]
    refine v_aload_n dX7_settleClaims_0 rfl ?_
    refine v_aload_n dX7_settleClaims_1 rfl ?_
    refine v_cV [_] (hwn) k7_winning dX7_settleClaims_2 l7_126 (by assumption) (by decide) rfl (Nat.le_of_ble_eq_true rfl) (Nat.le_of_ble_eq_true rfl) ?_
    refine v_istore_n dX7_settleClaims_5 rfl (by decide) ?_
    refine v_iload_n dX7_settleClaims_6 rfl ?_
    refine v_iconst (-1) dX7_settleClaims_7 (by decide) ?_
    refine v_icmp_eq 67 dX7_settleClaims_8 (by decide) (fun h8 => ?_) (fun h8 => absurd rfl h8)
    skip
    exact l7_settle G M hs0 hW hst hst2 M Sm.rf (fun _ _ _ => rfl) (d3.trans hW.i.1) rfl hW.i.2 (d4.trans hst) (fun _ _ => rfl) (fun _ _ => rfl) (fun q hq => (d2 q hq).2) d3 d5 d6 (-1) (by rw [setK, es, ek])
  | some b =>
    rw [ho] at hwn
    obtain ⟨l1, l2, l3⟩ := hlt b ho
    obtain ⟨f1, f2, f3⟩ := hW.c.d (p := b) l1 l3
    have hu := us_lt hW.p hW.u
    rw [show encP (some b) = nI b from rfl] at hwn ⊢
    have es : set1 K = uK (uK (uK K (103 + b) (K (103 + b) + 1)) 93 (nI (dif (kn K 93) (2 ^ st)))) 95 (nI (kn K 95 ||| (kn K (97 + b) % 1024 ||| kn K (97 + b) / 1024))) := by
      unfold set1
      rw [ho, ek]
      simp only
      rw [or_mod10 f2]
    have hd : dif (kn K 93) (2 ^ st) < 2 ^ kn K 2 := dif_le _ _ hW.i.2
    have hd2 : dif (kn K 93) (2 ^ st) < 16384 := dif_lt hin
    have c1 : gI (sI M (s + 5) b (K (103 + b) + 1)) (s + 4) b = K (97 + b) := (gI_sq _ _ (by omega)).trans (d2 b l1).1
    have c2 : gI (sI M (s + 5) b (K (103 + b) + 1)) s 7 = K 95 := (gI_sq _ _ (by omega)).trans d5
    have c3 : ∀ x, gI (sI (sI M (s + 5) b (K (103 + b) + 1)) s 7 x) s 5 = K 93 := fun x => ((gI_sk _ _ (by decide)).trans (gI_sq _ _ (by omega))).trans d3
    have c4 : ∀ x, gI (sI (sI M (s + 5) b (K (103 + b) + 1)) s 7 x) s 6 = K 96 := fun x => ((gI_sk _ _ (by decide)).trans (gI_sq _ _ (by omega))).trans d4
    refine v_aload_n dX7_settleClaims_0 rfl ?_
    refine v_aload_n dX7_settleClaims_1 rfl ?_
    refine v_cV [_] (hwn) k7_winning dX7_settleClaims_2 l7_126 (by assumption) (by decide) rfl (Nat.le_of_ble_eq_true rfl) (Nat.le_of_ble_eq_true rfl) ?_
    refine v_istore_n dX7_settleClaims_5 rfl (by decide) ?_
    refine v_iload_n dX7_settleClaims_6 rfl ?_
    refine v_iconst (-1) dX7_settleClaims_7 (by decide) ?_
    refine v_icmp_eq 67 dX7_settleClaims_8 (by decide) (fun h8 => absurd h8 (nI_m1 (by omega))) (fun h8 => ?_)
    refine v_aload_n dX7_settleClaims_11 rfl ?_
    refine v_getR 7 4 _ dX7_settleClaims_12 f7_24 (by assumption) (by decide) (by assumption) ?_
    refine v_iload_n dX7_settleClaims_15 rfl ?_
    refine v_dup2 dX7_settleClaims_16 rfl rfl ?_
    refine v_ialdN (b) dX7_settleClaims_17 (by assumption) (by simp only [n_lit, pk_mul, nI_add]) ⟨by omega, by omega⟩ ?_
    rw [(d2 b l1).2]
    refine v_iconst 1 dX7_settleClaims_18 (by decide) ?_
    refine v_iadd dX7_settleClaims_19 ?_
    refine v_iastN (b) dX7_settleClaims_20 (by assumption) (by simp only [n_lit, pk_mul, nI_add]) ⟨by omega, by omega⟩ ?_
    refine v_aload_n dX7_settleClaims_21 rfl ?_
    refine v_dup dX7_settleClaims_22 rfl ?_
    refine v_getI 7 7 dX7_settleClaims_23 f7_46 (by assumption) (by decide) ?_
    rw [c2, hW.u.1]
    refine v_aload_n dX7_settleClaims_26 rfl ?_
    refine v_getR 7 3 _ dX7_settleClaims_27 f7_21 (by assumption) (by decide) (by assumption) ?_
    refine v_iload_n dX7_settleClaims_30 rfl ?_
    refine v_ialdN (b) dX7_settleClaims_31 (by assumption) (by simp only [n_lit, pk_mul, nI_add]) ⟨by omega, by omega⟩ ?_
    rw [c1, f1]
    refine v_sipush 1023 dX7_settleClaims_32 (by decide) ?_
    refine v_iand dX7_settleClaims_35 ?_
    rw [and1023 (by omega)]
    refine v_aload_n dX7_settleClaims_36 rfl ?_
    refine v_getR 7 3 _ dX7_settleClaims_37 f7_21 (by assumption) (by decide) (by assumption) ?_
    refine v_iload_n dX7_settleClaims_40 rfl ?_
    refine v_ialdN (b) dX7_settleClaims_41 (by assumption) (by simp only [n_lit, pk_mul, nI_add]) ⟨by omega, by omega⟩ ?_
    rw [c1, f1]
    refine v_bipush 10 dX7_settleClaims_42 (by decide) ?_
    refine v_iushr dX7_settleClaims_44 ?_
    rw [ush10 (by omega)]
    refine v_ior dX7_settleClaims_45 ?_
    rw [nIor]
    refine v_ior dX7_settleClaims_46 ?_
    rw [nIor]
    refine v_putI 7 7 dX7_settleClaims_47 f7_46 (by assumption) (by decide) ?_
    refine v_aload_n dX7_settleClaims_50 rfl ?_
    refine v_dup dX7_settleClaims_51 rfl ?_
    refine v_getI 7 5 dX7_settleClaims_52 f7_43 (by assumption) (by decide) ?_
    rw [c3, hW.i.1]
    refine v_iconst 1 dX7_settleClaims_55 (by decide) ?_
    refine v_aload_n dX7_settleClaims_56 rfl ?_
    refine v_getI 7 6 dX7_settleClaims_57 f7_27 (by assumption) (by decide) ?_
    rw [c4, hst]
    refine v_ishl dX7_settleClaims_60 ?_
    rw [shl1 (by omega)]
    refine v_iconst (-1) dX7_settleClaims_61 (by decide) ?_
    refine v_ixor dX7_settleClaims_62 ?_
    refine v_iand dX7_settleClaims_63 ?_
    rw [andnot]
    refine v_putI 7 5 dX7_settleClaims_64 f7_43 (by assumption) (by decide) ?_
    skip
    refine l7_settle G M hs0 hW hst hst2 _ (((Sm.rf.st _ (Wsd_w _ _ (by omega) (by omega))).st _ (Wsd_w _ _ (by omega) (by omega))).st _ (Wsd_w _ _ (by omega) (by omega))) (fun q h1 h2 => ?_) (gI_ss _ _ _ _) (K1 := set1 K) ?_ hd ?_ (fun i hi => ?_) (fun i hi => ?_) (fun q hq => ?_) ?_ ?_ ?_ (nI b) (by rw [setK, ek])
    · rw [gI_sr _ _ (by omega), gI_sr _ _ (by omega), gI_sr _ _ (by omega)]
    · rw [es, kn, uK_n _ _ (by omega), uK_s, nI_clamp (by omega)]
    · rw [gI_sk _ _ (by decide), c4, hst]
    · unfold plI at hi; rw [es, uK_n _ _ (by omega), uK_n _ _ (by omega), uK_n _ _ (by omega)]
    · rw [es, uK_n _ _ (by omega), uK_n _ _ (by omega), uK_n _ _ (by omega)]
    · rw [gI_sq _ _ (by omega), gI_sq _ _ (by omega), es, uK_n _ _ (by omega), uK_n _ _ (by omega)]
      by_cases e : q = b
      · subst e; rw [gI_ss, uK_s]
      · rw [gI_sk _ _ e, uK_n _ _ (by omega)]; exact (d2 q hq).2
    · rw [gI_ss, es, uK_n _ _ (by omega), uK_s]
    · rw [gI_sk _ _ (by decide), gI_ss, es, uK_s]
    · rw [gI_sk _ _ (by decide), gI_sk _ _ (by decide), gI_sq _ _ (by omega), es, uK_n _ _ (by omega), uK_n _ _ (by omega), uK_n _ _ (by omega)]; exact d6
theorem c7_takeFromC {s o : Nat} (hs : StSh M s) (ho : StSh M o) (hap : s + 5 < o ∨ o + 5 < s) (hl : gI M o 8 = 0 ∨ gI M o 8 = 1) : Ct G Y7_takeFrom 1 0 0 [.ref s, .ref o] M (Rs none (fun M' => Sm (Wsd s) M M' ∧ CpS M M' s o)) NX := by
  have hs0 := hs
  obtain ⟨s1, s2, s3, s4, s5, s6, s7, s8, s9, s10, s11⟩ := hs
  obtain ⟨o1, o2, o3, o4, o5, o6, o7, o8, o9, o10, o11⟩ := ho
  refine Ct.of k7_takeFrom.1 (Nat.le_of_ble_eq_true rfl) ?_
  obtain ⟨M1, e1⟩ : ∃ M1, M1 = cpM (cpM (cpM (cpM (cpM M (s + 1) (o + 1) 14) (s + 2) (o + 2) 14) (s + 3) (o + 3) 14) (s + 4) (o + 4) 6) (s + 5) (o + 5) 6 := ⟨_, rfl⟩
  have hM1 : Sm (Wsd s) M M1 := by
    rw [e1]
    exact cpM_sm (cpM_sm (cpM_sm (cpM_sm (cpM_sm Sm.rf (fun k _ => Wsd_w _ _ (by omega) (by omega))) (fun k _ => Wsd_w _ _ (by omega) (by omega))) (fun k _ => Wsd_w _ _ (by omega) (by omega))) (fun k _ => Wsd_w _ _ (by omega) (by omega))) (fun k _ => Wsd_w _ _ (by omega) (by omega))
  have r1 : ∀ c, c < 14 → gI M1 (s + 1) c = gI M (o + 1) c ∧ gI M1 (s + 2) c = gI M (o + 2) c ∧ gI M1 (s + 3) c = gI M (o + 3) c := by
    intro c hc
    rw [e1]
    refine ⟨?_, ?_, ?_⟩
    · rw [cpM_ob _ (by omega), cpM_ob _ (by omega), cpM_ob _ (by omega), cpM_ob _ (by omega), cpM_in _ hc]
    · rw [cpM_ob _ (by omega), cpM_ob _ (by omega), cpM_ob _ (by omega), cpM_in _ hc, cpM_ob _ (by omega)]
    · rw [cpM_ob _ (by omega), cpM_ob _ (by omega), cpM_in _ hc, cpM_ob _ (by omega), cpM_ob _ (by omega)]
  have r2 : ∀ q, q < 6 → gI M1 (s + 4) q = gI M (o + 4) q ∧ gI M1 (s + 5) q = gI M (o + 5) q := by
    intro q hq
    rw [e1]
    refine ⟨?_, ?_⟩
    · rw [cpM_ob _ (by omega), cpM_in _ hq, cpM_ob _ (by omega), cpM_ob _ (by omega), cpM_ob _ (by omega)]
    · rw [cpM_in _ hq, cpM_ob _ (by omega), cpM_ob _ (by omega), cpM_ob _ (by omega), cpM_ob _ (by omega)]
  have r3 : ∀ k, gI M1 o k = gI M o k := fun k => hM1.2.2.2.2 o k (Wsd_o (by omega) k)
  have t1 : gT M1 s = .inl 7 := by rw [hM1.2.1]; exact s1
  have t2 : gT M1 o = .inl 7 := by rw [hM1.2.1]; exact o1
  refine v_aload_n dX7_takeFrom_0 rfl ?_
  refine v_getR 7 0 _ dX7_takeFrom_1 f7_9 (by assumption) (by decide) (by assumption) ?_
  refine v_iconst 0 dX7_takeFrom_4 (by decide) ?_
  refine v_aload_n dX7_takeFrom_5 rfl ?_
  refine v_getR 7 0 _ dX7_takeFrom_6 f7_9 (by assumption) (by decide) (by assumption) ?_
  refine v_iconst 0 dX7_takeFrom_9 (by decide) ?_
  refine v_bipush 14 dX7_takeFrom_10 (by decide) ?_
  refine v_copyI 14 dX7_takeFrom_12 l7_37 (by assumption) (by assumption) rfl (by decide) (Nat.le_of_ble_eq_true rfl) (Nat.le_of_ble_eq_true rfl) ?_
  refine v_aload_n dX7_takeFrom_15 rfl ?_
  refine v_getR 7 1 _ dX7_takeFrom_16 f7_15 (by assumption) (by decide) (by assumption) ?_
  refine v_iconst 0 dX7_takeFrom_19 (by decide) ?_
  refine v_aload_n dX7_takeFrom_20 rfl ?_
  refine v_getR 7 1 _ dX7_takeFrom_21 f7_15 (by assumption) (by decide) (by assumption) ?_
  refine v_iconst 0 dX7_takeFrom_24 (by decide) ?_
  refine v_bipush 14 dX7_takeFrom_25 (by decide) ?_
  refine v_copyI 14 dX7_takeFrom_27 l7_37 (by assumption) (by assumption) rfl (by decide) (Nat.le_of_ble_eq_true rfl) (Nat.le_of_ble_eq_true rfl) ?_
  refine v_aload_n dX7_takeFrom_30 rfl ?_
  refine v_getR 7 2 _ dX7_takeFrom_31 f7_18 (by assumption) (by decide) (by assumption) ?_
  refine v_iconst 0 dX7_takeFrom_34 (by decide) ?_
  refine v_aload_n dX7_takeFrom_35 rfl ?_
  refine v_getR 7 2 _ dX7_takeFrom_36 f7_18 (by assumption) (by decide) (by assumption) ?_
  refine v_iconst 0 dX7_takeFrom_39 (by decide) ?_
  refine v_bipush 14 dX7_takeFrom_40 (by decide) ?_
  refine v_copyI 14 dX7_takeFrom_42 l7_37 (by assumption) (by assumption) rfl (by decide) (Nat.le_of_ble_eq_true rfl) (Nat.le_of_ble_eq_true rfl) ?_
  refine v_aload_n dX7_takeFrom_45 rfl ?_
  refine v_getR 7 3 _ dX7_takeFrom_46 f7_21 (by assumption) (by decide) (by assumption) ?_
  refine v_iconst 0 dX7_takeFrom_49 (by decide) ?_
  refine v_aload_n dX7_takeFrom_50 rfl ?_
  refine v_getR 7 3 _ dX7_takeFrom_51 f7_21 (by assumption) (by decide) (by assumption) ?_
  refine v_iconst 0 dX7_takeFrom_54 (by decide) ?_
  refine v_bipush 6 dX7_takeFrom_55 (by decide) ?_
  refine v_copyI 6 dX7_takeFrom_57 l7_37 (by assumption) (by assumption) rfl (by decide) (Nat.le_of_ble_eq_true rfl) (Nat.le_of_ble_eq_true rfl) ?_
  refine v_aload_n dX7_takeFrom_60 rfl ?_
  refine v_getR 7 4 _ dX7_takeFrom_61 f7_24 (by assumption) (by decide) (by assumption) ?_
  refine v_iconst 0 dX7_takeFrom_64 (by decide) ?_
  refine v_aload_n dX7_takeFrom_65 rfl ?_
  refine v_getR 7 4 _ dX7_takeFrom_66 f7_24 (by assumption) (by decide) (by assumption) ?_
  refine v_iconst 0 dX7_takeFrom_69 (by decide) ?_
  refine v_bipush 6 dX7_takeFrom_70 (by decide) ?_
  refine v_copyI 6 dX7_takeFrom_72 l7_37 (by assumption) (by assumption) rfl (by decide) (Nat.le_of_ble_eq_true rfl) (Nat.le_of_ble_eq_true rfl) ?_
  skip
  rw [← e1]
  have q1 : ∀ x, gI (sI M1 s 5 x) o 6 = gI M o 6 := fun x => by rw [gI_sq _ _ (by omega), r3]
  have q2 : ∀ x y, gI (sI (sI M1 s 5 x) s 6 y) o 7 = gI M o 7 := fun x y => by rw [gI_sq _ _ (by omega), gI_sq _ _ (by omega), r3]
  have q3 : ∀ x y w, gI (sI (sI (sI M1 s 5 x) s 6 y) s 7 w) o 8 = gI M o 8 := fun x y w => by rw [gI_sq _ _ (by omega), gI_sq _ _ (by omega), gI_sq _ _ (by omega), r3]
  refine v_aload_n dX7_takeFrom_75 rfl ?_
  refine v_aload_n dX7_takeFrom_76 rfl ?_
  refine v_getI 7 5 dX7_takeFrom_77 f7_43 (by assumption) (by decide) ?_
  rw [r3]
  refine v_putI 7 5 dX7_takeFrom_80 f7_43 (by assumption) (by decide) ?_
  refine v_aload_n dX7_takeFrom_83 rfl ?_
  refine v_aload_n dX7_takeFrom_84 rfl ?_
  refine v_getI 7 6 dX7_takeFrom_85 f7_27 (by assumption) (by decide) ?_
  rw [q1]
  refine v_putI 7 6 dX7_takeFrom_88 f7_27 (by assumption) (by decide) ?_
  refine v_aload_n dX7_takeFrom_91 rfl ?_
  refine v_aload_n dX7_takeFrom_92 rfl ?_
  refine v_getI 7 7 dX7_takeFrom_93 f7_46 (by assumption) (by decide) ?_
  rw [q2]
  refine v_putI 7 7 dX7_takeFrom_96 f7_46 (by assumption) (by decide) ?_
  refine v_aload_n dX7_takeFrom_99 rfl ?_
  refine v_aload_n dX7_takeFrom_100 rfl ?_
  refine v_getI 7 8 dX7_takeFrom_101 f7_49 (by assumption) (by decide) ?_
  rw [q3]
  refine v_putZ 7 8 dX7_takeFrom_104 f7_49 (by assumption) (by decide) hl ?_
  refine v_vret dX7_takeFrom_107 rfl ?_
  skip
  refine ⟨rfl, (((hM1.st _ (Wsd_w _ _ (by omega) (by omega))).st _ (Wsd_w _ _ (by omega) (by omega))).st _ (Wsd_w _ _ (by omega) (by omega))).st _ (Wsd_w _ _ (by omega) (by omega)), fun c hc => ?_, fun q hq => ?_, ?_, ?_, ?_, ?_⟩
  · obtain ⟨a1, a2, a3⟩ := r1 c (by omega)
    refine ⟨?_, ?_, ?_⟩
    · rw [gI_sq _ _ (by omega), gI_sq _ _ (by omega), gI_sq _ _ (by omega), gI_sq _ _ (by omega), a1]
    · rw [gI_sq _ _ (by omega), gI_sq _ _ (by omega), gI_sq _ _ (by omega), gI_sq _ _ (by omega), a2]
    · rw [gI_sq _ _ (by omega), gI_sq _ _ (by omega), gI_sq _ _ (by omega), gI_sq _ _ (by omega), a3]
  · obtain ⟨a1, a2⟩ := r2 q hq
    refine ⟨?_, ?_⟩
    · rw [gI_sq _ _ (by omega), gI_sq _ _ (by omega), gI_sq _ _ (by omega), gI_sq _ _ (by omega), a1]
    · rw [gI_sq _ _ (by omega), gI_sq _ _ (by omega), gI_sq _ _ (by omega), gI_sq _ _ (by omega), a2]
  · rw [gI_sk _ _ (by decide), gI_sk _ _ (by decide), gI_sk _ _ (by decide), gI_ss]
  · rw [gI_sk _ _ (by decide), gI_sk _ _ (by decide), gI_ss]
  · rw [gI_sk _ _ (by decide), gI_ss]
  · rw [gI_ss]
theorem c7_takeFrom {s o : Nat} {K : Nat → Int32} (hs : StSh M s) (ho : Str M o K) (hap : s + 5 < o ∨ o + 5 < s) (hl : K 94 = 0 ∨ K 94 = 1) (h14 : kn K 2 ≤ 14) : Ct G Y7_takeFrom 1 0 0 [.ref s, .ref o] M (Rs none (fun M' => Sm (Wsd s) M M' ∧ Str M' s K)) NX :=
  (c7_takeFromC G M hs ho.1 hap (by rw [ho.2.2.2.2.2.2]; exact hl)).post (fun v M' h => ⟨h.1, h.2.1, hs.mv h.2.1.2.1 h.2.1.2.2.2.1, h.2.2.std ho.2 h14⟩) (fun _ _ h => h)
end C7f
