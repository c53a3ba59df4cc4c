/-! ===== the class: State, costs, who wins ===== -/
def wcN (K : Nat → Int32) (w : Nat) (dn : Bool) : Nat := kn K (109 + w) + (if dn = true then 1 else 0) + (if (kn K 95).testBit w = true then kn K 5 else 0)
theorem wcN_le {K : Nat → Int32} (hP : WP K) {w : Nat} (hw : w < 10) (dn : Bool) : wcN K w dn ≤ 19 := by
  have h1 := (hP.2.2.2.2.2.2.2.2.1 w hw).2
  have h2 := hP.2.2.2.2.1.2
  unfold wcN
  split <;> split <;> omega
theorem costW_t {K : Nat → Int32} {d w : Nat} (h : d.testBit w = true) : costW K d w = wcN K w false := by
  unfold costW wcN
  rw [if_pos (Or.inl h), if_pos h]
  rfl
theorem costW_d {K : Nat → Int32} {d w : Nat} (h : ¬ d.testBit w = true) (h2 : d.testBit (w + 10) = true) : costW K d w = wcN K w true := by
  unfold costW wcN
  rw [if_pos (Or.inr h2), if_neg h]
  rfl
theorem costW_n {K : Nat → Int32} {d w : Nat} (h : ¬ d.testBit w = true) (h2 : ¬ d.testBit (w + 10) = true) : costW K d w = 0 := if_neg (fun z => z.elim h h2)
theorem isDN_dj {nw d : Nat} (h : isDN nw d = true) : d < 1048576 ∧ d % 1024 &&& d / 1024 = 0 := by
  simp only [isDN, decide_eq_true_eq] at h
  exact ⟨h.1, h.2.1⟩
/-- more persons than there are don't claim -/
theorem winF_more {K : Nat → Int32} {a : Nat} : ∀ j, (∀ p, a ≤ p → p < a + j → K (97 + p) = -1) → winF K (a + j) = winF K a := by
  intro j
  induction j with
  | zero => intro _; rfl
  | succ j ih =>
    intro h
    rw [← Nat.add_assoc, winF, if_neg (fun z => z.1 (h _ (by omega) (by omega)))]
    exact ih (fun p h1 h2 => h p h1 (by omega))
theorem winF_6 {K : Nat → Int32} (hW : WK K) : winF K 6 = winF K (kn K 6) := by
  have h6 := hW.p.2.2.2.2.2.1.2.2
  have := winF_more (K := K) (a := kn K 6) (6 - kn K 6) (fun p h1 h2 => by
    rcases hW.c p (by omega) with h | ⟨h, _⟩
    · exact h
    · omega)
  rw [show kn K 6 + (6 - kn K 6) = 6 by omega] at this
  exact this
theorem winF_n {K : Nat → Int32} {p : Nat} (h : ¬ (K (97 + p) ≠ -1 ∧ oneOf (fitN (kn K 2) (kn K 93) (trH K) (kn K (97 + p))) = K 96)) : winF K (p + 1) = winF K p := if_neg h
/-- the least cost so far -/
def wlI (K : Nat → Int32) (o : Option Nat) : Int32 := match o with
  | none => 2147483647
  | some b => nI (costN K (kn K (97 + b)))
theorem winF_t {K : Nat → Int32} {p : Nat} (hP : WP K) (h : K (97 + p) ≠ -1 ∧ oneOf (fitN (kn K 2) (kn K 93) (trH K) (kn K (97 + p))) = K 96) (h2 : nI (costN K (kn K (97 + p))) < wlI K (winF K p)) : winF K (p + 1) = some p := by
  rw [winF, if_pos h]
  cases hb : winF K p with
  | none => rfl
  | some b =>
    rw [hb] at h2
    have c1 := costN_le hP (kn K (97 + p))
    have c2 := costN_le hP (kn K (97 + b))
    exact if_pos ((nI_ltI (by omega) (by omega)).mp h2)
theorem winF_f {K : Nat → Int32} {p : Nat} (hP : WP K) (h : K (97 + p) ≠ -1 ∧ oneOf (fitN (kn K 2) (kn K 93) (trH K) (kn K (97 + p))) = K 96) (h2 : ¬ nI (costN K (kn K (97 + p))) < wlI K (winF K p)) : winF K (p + 1) = winF K p := by
  rw [winF, if_pos h]
  cases hb : winF K p with
  | none =>
    rw [hb] at h2
    have c1 := costN_le hP (kn K (97 + p))
    exact absurd (nI_lt (b := 2147483647) (by omega) (by decide)) h2
  | some b =>
    rw [hb] at h2
    have c1 := costN_le hP (kn K (97 + p))
    have c2 := costN_le hP (kn K (97 + b))
    exact if_neg (fun z => h2 (nI_lt z (by omega)))
section C7d
variable (G : mG) (M : mM)
theorem c7_wordCost {s p cd n : Nat} {K : Nat → Int32} (hs : Str M s K) (hp : Plr M p cd n K) (hW : WK K) {w : Nat} (hw : w < kn K 3) (dn : Bool) : Ct G Y7_wordCost 0 0 0 [.ref s, .ref p, .int (nI w), .int (bI (dn = true))] M (Rv (some (.int (nI (wcN K w dn)))) M) NX := by
  obtain ⟨⟨s1, s2, s3, s4, s5, s6, s7, s8, s9, s10, s11⟩, d1, d2, d3, d4, d5, d6⟩ := hs
  obtain ⟨⟨p1, p2, p3, p4, p5, p6, p7, p8, p9, p10, p11, p12, p13, p14⟩, ⟨e1, e2, e3, e4, e5, e6, e7⟩, g2, g3, g4, g5, g6, g7⟩ := hp
  have h10 := hW.p.2.2.1.2
  have hu := us_lt hW.p hW.u
  have hc := hW.p.2.2.2.2.2.2.2.2.1 w (by omega)
  have hh := hW.p.2.2.2.2.1
  have hb := hasN (s := kn K 95) (k := w) (by omega) (by omega)
  have go : ∀ b : Bool, b = dn → V G Y7_wordCost 0 0 0 (Rv (some (.int (nI (wcN K w dn)))) M) NX 15 [some (.ref s), some (.ref p), some (.int (nI w)), some (.int (bI (dn = true)))] [.int (bI (b = true)), .int (nI (kn K (109 + w)))] M := by
    intro b eb
    subst eb
    have e : bI (b = true) = nI (if b = true then 1 else 0) := by cases b <;> rfl
    rw [e]
    unfold wcN
    by_cases hbt : (kn K 95).testBit w = true
    · rw [if_pos hbt]
      refine v_iadd dX7_wordCost_15 ?_
      rw [nI_add]
      refine v_aload_n dX7_wordCost_16 rfl ?_
      refine v_getI 7 7 dX7_wordCost_17 f7_46 (by assumption) (by decide) ?_
      rw [d5, hW.u.1]
      refine v_iload_n dX7_wordCost_20 rfl ?_
      refine v_ishr dX7_wordCost_21 ?_
      refine v_iconst 1 dX7_wordCost_22 (by decide) ?_
      refine v_iand dX7_wordCost_23 ?_
      refine v_iconst 1 dX7_wordCost_24 (by decide) ?_
      refine v_icmp_ne 35 dX7_wordCost_25 (by decide) (fun h25 => absurd (hb.mpr hbt) h25) (fun h25 => ?_)
      refine v_aload_n dX7_wordCost_28 rfl ?_
      refine v_getI 4 7 dX7_wordCost_29 f7_115 (by assumption) (by decide) ?_
      rw [e6, hh.1]
      refine v_goto 36 dX7_wordCost_32 (by decide) ?_
      refine v_iadd dX7_wordCost_36 ?_
      rw [nI_add]
      refine v_iret dX7_wordCost_37 rfl ?_
      exact ⟨rfl, rfl⟩
    · rw [if_neg hbt, Nat.add_zero]
      refine v_iadd dX7_wordCost_15 ?_
      rw [nI_add]
      refine v_aload_n dX7_wordCost_16 rfl ?_
      refine v_getI 7 7 dX7_wordCost_17 f7_46 (by assumption) (by decide) ?_
      rw [d5, hW.u.1]
      refine v_iload_n dX7_wordCost_20 rfl ?_
      refine v_ishr dX7_wordCost_21 ?_
      refine v_iconst 1 dX7_wordCost_22 (by decide) ?_
      refine v_iand dX7_wordCost_23 ?_
      refine v_iconst 1 dX7_wordCost_24 (by decide) ?_
      refine v_icmp_ne 35 dX7_wordCost_25 (by decide) (fun h25 => ?_) (fun h25 => absurd (hb.mp (Decidable.not_not.mp h25)) hbt)
      refine v_iconst 0 dX7_wordCost_35 (by decide) ?_
      refine v_iadd dX7_wordCost_36 ?_
      rw [Int32.add_zero]
      refine v_iret dX7_wordCost_37 rfl ?_
      exact ⟨rfl, rfl⟩
  refine Ct.of k7_wordCost.1 (Nat.le_of_ble_eq_true rfl) ?_
  cases dn with
  | true =>
    rw [show bI (true = true) = 1 from rfl] at go ⊢
    refine v_aload_n dX7_wordCost_0 rfl ?_
    refine v_getR 4 11 _ dX7_wordCost_1 f7_112 (by assumption) (by decide) (by assumption) ?_
    refine v_iload_n dX7_wordCost_4 rfl ?_
    refine v_ialdN (w) dX7_wordCost_5 (by assumption) (by simp only [n_lit, pk_mul, nI_add]) ⟨by omega, by omega⟩ ?_
    rw [g2 w hw, hc.1]
    refine v_iload_n dX7_wordCost_6 rfl ?_
    refine v_if_eq 14 dX7_wordCost_7 (by decide) (fun h7 => absurd h7 (by decide)) (fun h7 => ?_)
    refine v_iconst 1 dX7_wordCost_10 (by decide) ?_
    refine v_goto 15 dX7_wordCost_11 (by decide) ?_
    exact go true rfl
  | false =>
    rw [show bI (false = true) = 0 from rfl] at go ⊢
    refine v_aload_n dX7_wordCost_0 rfl ?_
    refine v_getR 4 11 _ dX7_wordCost_1 f7_112 (by assumption) (by decide) (by assumption) ?_
    refine v_iload_n dX7_wordCost_4 rfl ?_
    refine v_ialdN (w) dX7_wordCost_5 (by assumption) (by simp only [n_lit, pk_mul, nI_add]) ⟨by omega, by omega⟩ ?_
    rw [g2 w hw, hc.1]
    refine v_iload_n dX7_wordCost_6 rfl ?_
    refine v_if_eq 14 dX7_wordCost_7 (by decide) (fun h7 => ?_) (fun h7 => absurd rfl h7)
    refine v_iconst 0 dX7_wordCost_14 (by decide) ?_
    exact go false rfl
theorem l7_costOf {s p cd n : Nat} {K : Nat → Int32} (hs : Str M s K) (hp : Plr M p cd n K) (hW : WK K) {d : Nat} (hd : d < 1048576) : ∀ i w, w + i = kn K 3 → V G Y7_costOf 1 0 0 (Rv (some (.int (nI (costN K d)))) M) NX 5 [some (.ref s), some (.ref p), some (.int (nI d)), some (.int (nI (costF K d w))), some (.int (nI w))] [] M := by
  have hs0 := hs
  have hp0 := hp
  obtain ⟨⟨s1, s2, s3, s4, s5, s6, s7, s8, s9, s10, s11⟩, d1, d2, d3, d4, d5, d6⟩ := hs
  obtain ⟨⟨p1, p2, p3, p4, p5, p6, p7, p8, p9, p10, p11, p12, p13, p14⟩, ⟨e1, e2, e3, e4, e5, e6, e7⟩, g2, g3, g4, g5, g6, g7⟩ := hp
  have h10 := hW.p.2.2.1.2
  intro i
  induction i with
  | zero =>
    intro w hw
    obtain rfl : w = kn K 3 := by omega
    refine v_iload dX7_costOf_5 rfl ?_
    refine v_aload_n dX7_costOf_7 rfl ?_
    refine v_getI 4 4 dX7_costOf_8 f7_105 (by assumption) (by decide) ?_
    rw [e4, hW.p.2.2.1.1]
    refine v_icmp_ge 68 dX7_costOf_11 (by decide) (fun h11 => ?_) (fun h11 => absurd (nI_le (Nat.le_refl _) (by omega)) h11)
    refine v_iload_n dX7_costOf_68 rfl ?_
    refine v_iret dX7_costOf_69 rfl ?_
    exact ⟨rfl, rfl⟩
  | succ i ih =>
    intro w hw
    have hn := ih (w + 1) (by omega)
    rw [costF_s] at hn
    have b1 := hasN (s := d) (k := w) (by omega) (by omega)
    have b2 := hasN (s := d) (k := w + 10) (by omega) (by omega)
    have e10 : nI w + 10 = nI (w + 10) := nI_add w 10
    by_cases h1 : d.testBit w = true
    · rw [costW_t h1, ← nI_add] at hn
      refine v_iload dX7_costOf_5 rfl ?_
      refine v_aload_n dX7_costOf_7 rfl ?_
      refine v_getI 4 4 dX7_costOf_8 f7_105 (by assumption) (by decide) ?_
      rw [e4, hW.p.2.2.1.1]
      refine v_icmp_ge 68 dX7_costOf_11 (by decide) (fun h11 => absurd ((nI_leI (by omega) (by omega)).mp h11) (by omega)) (fun h11 => ?_)
      refine v_iload_n dX7_costOf_14 rfl ?_
      refine v_iload dX7_costOf_15 rfl ?_
      refine v_ishr dX7_costOf_17 ?_
      refine v_iconst 1 dX7_costOf_18 (by decide) ?_
      refine v_iand dX7_costOf_19 ?_
      refine v_iconst 1 dX7_costOf_20 (by decide) ?_
      refine v_icmp_ne 38 dX7_costOf_21 (by decide) (fun h21 => absurd (b1.mpr h1) h21) (fun h21 => ?_)
      refine v_iload_n dX7_costOf_24 rfl ?_
      refine v_aload_n dX7_costOf_25 rfl ?_
      refine v_aload_n dX7_costOf_26 rfl ?_
      refine v_iload dX7_costOf_27 rfl ?_
      refine v_iconst 0 dX7_costOf_29 (by decide) ?_
      refine v_cV [_, _, _] (c7_wordCost G M hs0 hp0 hW (w := w) (by omega) false) k7_wordCost dX7_costOf_30 l7_108 (by assumption) (by decide) rfl (Nat.le_of_ble_eq_true rfl) (Nat.le_of_ble_eq_true rfl) ?_
      refine v_iadd dX7_costOf_33 ?_
      refine v_istore_n dX7_costOf_34 rfl (by decide) ?_
      refine v_goto 62 dX7_costOf_35 (by decide) ?_
      refine v_iinc 1 dX7_costOf_62 rfl (by decide) rfl (by decide) ?_
      refine v_goto 5 dX7_costOf_65 (by decide) ?_
      (rw [nI_1]; exact hn)
    · by_cases h2 : d.testBit (w + 10) = true
      · rw [costW_d h1 h2, ← nI_add] at hn
        refine v_iload dX7_costOf_5 rfl ?_
        refine v_aload_n dX7_costOf_7 rfl ?_
        refine v_getI 4 4 dX7_costOf_8 f7_105 (by assumption) (by decide) ?_
        rw [e4, hW.p.2.2.1.1]
        refine v_icmp_ge 68 dX7_costOf_11 (by decide) (fun h11 => absurd ((nI_leI (by omega) (by omega)).mp h11) (by omega)) (fun h11 => ?_)
        refine v_iload_n dX7_costOf_14 rfl ?_
        refine v_iload dX7_costOf_15 rfl ?_
        refine v_ishr dX7_costOf_17 ?_
        refine v_iconst 1 dX7_costOf_18 (by decide) ?_
        refine v_iand dX7_costOf_19 ?_
        refine v_iconst 1 dX7_costOf_20 (by decide) ?_
        refine v_icmp_ne 38 dX7_costOf_21 (by decide) (fun h21 => ?_) (fun h21 => absurd (b1.mp (Decidable.not_not.mp h21)) h1)
        refine v_iload_n dX7_costOf_38 rfl ?_
        refine v_iload dX7_costOf_39 rfl ?_
        refine v_bipush 10 dX7_costOf_41 (by decide) ?_
        refine v_iadd dX7_costOf_43 ?_
        rw [e10]
        refine v_ishr dX7_costOf_44 ?_
        refine v_iconst 1 dX7_costOf_45 (by decide) ?_
        refine v_iand dX7_costOf_46 ?_
        refine v_iconst 1 dX7_costOf_47 (by decide) ?_
        refine v_icmp_ne 62 dX7_costOf_48 (by decide) (fun h48 => absurd (b2.mpr h2) h48) (fun h48 => ?_)
        refine v_iload_n dX7_costOf_51 rfl ?_
        refine v_aload_n dX7_costOf_52 rfl ?_
        refine v_aload_n dX7_costOf_53 rfl ?_
        refine v_iload dX7_costOf_54 rfl ?_
        refine v_iconst 1 dX7_costOf_56 (by decide) ?_
        refine v_cV [_, _, _] (c7_wordCost G M hs0 hp0 hW (w := w) (by omega) true) k7_wordCost dX7_costOf_57 l7_108 (by assumption) (by decide) rfl (Nat.le_of_ble_eq_true rfl) (Nat.le_of_ble_eq_true rfl) ?_
        refine v_iadd dX7_costOf_60 ?_
        refine v_istore_n dX7_costOf_61 rfl (by decide) ?_
        refine v_iinc 1 dX7_costOf_62 rfl (by decide) rfl (by decide) ?_
        refine v_goto 5 dX7_costOf_65 (by decide) ?_
        (rw [nI_1]; exact hn)
      · rw [costW_n h1 h2, Nat.add_zero] at hn
        refine v_iload dX7_costOf_5 rfl ?_
        refine v_aload_n dX7_costOf_7 rfl ?_
        refine v_getI 4 4 dX7_costOf_8 f7_105 (by assumption) (by decide) ?_
        rw [e4, hW.p.2.2.1.1]
        refine v_icmp_ge 68 dX7_costOf_11 (by decide) (fun h11 => absurd ((nI_leI (by omega) (by omega)).mp h11) (by omega)) (fun h11 => ?_)
        refine v_iload_n dX7_costOf_14 rfl ?_
        refine v_iload dX7_costOf_15 rfl ?_
        refine v_ishr dX7_costOf_17 ?_
        refine v_iconst 1 dX7_costOf_18 (by decide) ?_
        refine v_iand dX7_costOf_19 ?_
        refine v_iconst 1 dX7_costOf_20 (by decide) ?_
        refine v_icmp_ne 38 dX7_costOf_21 (by decide) (fun h21 => ?_) (fun h21 => absurd (b1.mp (Decidable.not_not.mp h21)) h1)
        refine v_iload_n dX7_costOf_38 rfl ?_
        refine v_iload dX7_costOf_39 rfl ?_
        refine v_bipush 10 dX7_costOf_41 (by decide) ?_
        refine v_iadd dX7_costOf_43 ?_
        rw [e10]
        refine v_ishr dX7_costOf_44 ?_
        refine v_iconst 1 dX7_costOf_45 (by decide) ?_
        refine v_iand dX7_costOf_46 ?_
        refine v_iconst 1 dX7_costOf_47 (by decide) ?_
        refine v_icmp_ne 62 dX7_costOf_48 (by decide) (fun h48 => ?_) (fun h48 => absurd (b2.mp (Decidable.not_not.mp h48)) h2)
        refine v_iinc 1 dX7_costOf_62 rfl (by decide) rfl (by decide) ?_
        refine v_goto 5 dX7_costOf_65 (by decide) ?_
        (rw [nI_1]; exact hn)
theorem c7_costOf {s p cd n : Nat} {K : Nat → Int32} (hs : Str M s K) (hp : Plr M p cd n K) (hW : WK K) {d : Nat} (hd : d < 1048576) : Ct G Y7_costOf 1 0 0 [.ref s, .ref p, .int (nI d)] M (Rv (some (.int (nI (costN K d)))) M) NX := by
  refine Ct.of k7_costOf.1 (Nat.le_of_ble_eq_true rfl) ?_
  refine v_iconst 0 dX7_costOf_0 (by decide) ?_
  refine v_istore_n dX7_costOf_1 rfl (by decide) ?_
  refine v_iconst 0 dX7_costOf_2 (by decide) ?_
  refine v_istore dX7_costOf_3 rfl (by decide) ?_
  -- at 5: .iload 4
  exact l7_costOf G M hs hp hW hd (kn K 3) 0 (by omega)
theorem l7_wA {s p q : Nat} {K : Nat → Int32} (hs : Str M s K) (hq : q < 6) (hk : K 96 ≠ -1) (hc : K (97 + q) = -1) (b l : Int32) {Q : Option Value → mM → Prop} (kk : ∀ o, V G Y7_winning 4 0 0 Q NX 8 [some (.ref s), some (.ref p), some (.int b), some (.int l), some (.int (nI (q + 1))), o] [] M) (o : Option Value) : V G Y7_winning 4 0 0 Q NX 8 [some (.ref s), some (.ref p), some (.int b), some (.int l), some (.int (nI q)), o] [] M := by
  obtain ⟨⟨s1, s2, s3, s4, s5, s6, s7, s8, s9, s10, s11⟩, d1, d2, d3, d4, d5, d6⟩ := hs
  have dq := (d2 q (by omega)).1
  refine v_iload dX7_winning_8 rfl ?_
  refine v_bipush 6 dX7_winning_10 (by decide) ?_
  refine v_icmp_ge 84 dX7_winning_12 (by decide) (fun h12 => absurd ((nI_leI (a := 6) (by decide) (by omega)).mp h12) (by omega)) (fun h12 => ?_)
  refine v_aload_n dX7_winning_15 rfl ?_
  refine v_getI 7 6 dX7_winning_16 f7_27 (by assumption) (by decide) ?_
  rw [d4]
  refine v_iconst (-1) dX7_winning_19 (by decide) ?_
  refine v_icmp_eq 78 dX7_winning_20 (by decide) (fun h20 => absurd h20 hk) (fun h20 => ?_)
  refine v_aload_n dX7_winning_23 rfl ?_
  refine v_getR 7 3 _ dX7_winning_24 f7_21 (by assumption) (by decide) (by assumption) ?_
  refine v_iload dX7_winning_27 rfl ?_
  refine v_ialdN (q) dX7_winning_29 (by assumption) (by simp only [n_lit, pk_mul, nI_add]) ⟨by omega, by omega⟩ ?_
  rw [dq, hc]
  refine v_iconst (-1) dX7_winning_30 (by decide) ?_
  refine v_icmp_eq 78 dX7_winning_31 (by decide) (fun h31 => ?_) (fun h31 => absurd rfl h31)
  refine v_iinc 1 dX7_winning_78 rfl (by decide) rfl (by decide) ?_
  refine v_goto 8 dX7_winning_81 (by decide) ?_
  (rw [nI_1]; exact kk _)
theorem l7_wB {s p q d : Nat} {K : Nat → Int32} (hs : Str M s K) (hq : q < 6) (hk : K 96 ≠ -1) (hc : ¬ K (97 + q) = -1) (f1 : K (97 + q) = nI d) {t : Int32} (ht : Ct G Y7_toldBy 3 0 0 [.ref s, .int (nI d)] M (Rv (some (.int t)) M) NX) (he : ¬ t = K 96) (b l : Int32) {Q : Option Value → mM → Prop} (kk : ∀ o, V G Y7_winning 4 0 0 Q NX 8 [some (.ref s), some (.ref p), some (.int b), some (.int l), some (.int (nI (q + 1))), o] [] M) (o : Option Value) : V G Y7_winning 4 0 0 Q NX 8 [some (.ref s), some (.ref p), some (.int b), some (.int l), some (.int (nI q)), o] [] M := by
  obtain ⟨⟨s1, s2, s3, s4, s5, s6, s7, s8, s9, s10, s11⟩, d1, d2, d3, d4, d5, d6⟩ := hs
  have dq := (d2 q (by omega)).1
  refine v_iload dX7_winning_8 rfl ?_
  refine v_bipush 6 dX7_winning_10 (by decide) ?_
  refine v_icmp_ge 84 dX7_winning_12 (by decide) (fun h12 => absurd ((nI_leI (a := 6) (by decide) (by omega)).mp h12) (by omega)) (fun h12 => ?_)
  refine v_aload_n dX7_winning_15 rfl ?_
  refine v_getI 7 6 dX7_winning_16 f7_27 (by assumption) (by decide) ?_
  rw [d4]
  refine v_iconst (-1) dX7_winning_19 (by decide) ?_
  refine v_icmp_eq 78 dX7_winning_20 (by decide) (fun h20 => absurd h20 hk) (fun h20 => ?_)
  refine v_aload_n dX7_winning_23 rfl ?_
  refine v_getR 7 3 _ dX7_winning_24 f7_21 (by assumption) (by decide) (by assumption) ?_
  refine v_iload dX7_winning_27 rfl ?_
  refine v_ialdN (q) dX7_winning_29 (by assumption) (by simp only [n_lit, pk_mul, nI_add]) ⟨by omega, by omega⟩ ?_
  rw [dq]
  refine v_iconst (-1) dX7_winning_30 (by decide) ?_
  refine v_icmp_eq 78 dX7_winning_31 (by decide) (fun h31 => absurd h31 hc) (fun h31 => ?_)
  refine v_aload_n dX7_winning_34 rfl ?_
  refine v_aload_n dX7_winning_35 rfl ?_
  refine v_getR 7 3 _ dX7_winning_36 f7_21 (by assumption) (by decide) (by assumption) ?_
  refine v_iload dX7_winning_39 rfl ?_
  refine v_ialdN (q) dX7_winning_41 (by assumption) (by simp only [n_lit, pk_mul, nI_add]) ⟨by omega, by omega⟩ ?_
  rw [dq, f1]
  refine v_cV [_] (ht) k7_toldBy dX7_winning_42 l7_119 (by assumption) (by decide) rfl (Nat.le_of_ble_eq_true rfl) (Nat.le_of_ble_eq_true rfl) ?_
  refine v_aload_n dX7_winning_45 rfl ?_
  refine v_getI 7 6 dX7_winning_46 f7_27 (by assumption) (by decide) ?_
  rw [d4]
  refine v_icmp_ne 78 dX7_winning_49 (by decide) (fun h49 => ?_) (fun h49 => absurd (Decidable.not_not.mp h49) he)
  refine v_iinc 1 dX7_winning_78 rfl (by decide) rfl (by decide) ?_
  refine v_goto 8 dX7_winning_81 (by decide) ?_
  (rw [nI_1]; exact kk _)
theorem l7_wC {s p q d : Nat} {K : Nat → Int32} (hs : Str M s K) (hq : q < 6) (hk : K 96 ≠ -1) (hc : ¬ K (97 + q) = -1) (f1 : K (97 + q) = nI d) {t x : Int32} (ht : Ct G Y7_toldBy 3 0 0 [.ref s, .int (nI d)] M (Rv (some (.int t)) M) NX) (he : t = K 96) (hcc : Ct G Y7_costOf 1 0 0 [.ref s, .ref p, .int (nI d)] M (Rv (some (.int x)) M) NX) (b l : Int32) {Q : Option Value → mM → Prop} (kf : ¬ x < l → ∀ o, V G Y7_winning 4 0 0 Q NX 8 [some (.ref s), some (.ref p), some (.int b), some (.int l), some (.int (nI (q + 1))), o] [] M) (kt : x < l → ∀ o, V G Y7_winning 4 0 0 Q NX 8 [some (.ref s), some (.ref p), some (.int (nI q)), some (.int x), some (.int (nI (q + 1))), o] [] M) (o : Option Value) : V G Y7_winning 4 0 0 Q NX 8 [some (.ref s), some (.ref p), some (.int b), some (.int l), some (.int (nI q)), o] [] M := by
  obtain ⟨⟨s1, s2, s3, s4, s5, s6, s7, s8, s9, s10, s11⟩, d1, d2, d3, d4, d5, d6⟩ := hs
  have dq := (d2 q (by omega)).1
  refine v_iload dX7_winning_8 rfl ?_
  refine v_bipush 6 dX7_winning_10 (by decide) ?_
  refine v_icmp_ge 84 dX7_winning_12 (by decide) (fun h12 => absurd ((nI_leI (a := 6) (by decide) (by omega)).mp h12) (by omega)) (fun h12 => ?_)
  refine v_aload_n dX7_winning_15 rfl ?_
  refine v_getI 7 6 dX7_winning_16 f7_27 (by assumption) (by decide) ?_
  rw [d4]
  refine v_iconst (-1) dX7_winning_19 (by decide) ?_
  refine v_icmp_eq 78 dX7_winning_20 (by decide) (fun h20 => absurd h20 hk) (fun h20 => ?_)
  refine v_aload_n dX7_winning_23 rfl ?_
  refine v_getR 7 3 _ dX7_winning_24 f7_21 (by assumption) (by decide) (by assumption) ?_
  refine v_iload dX7_winning_27 rfl ?_
  refine v_ialdN (q) dX7_winning_29 (by assumption) (by simp only [n_lit, pk_mul, nI_add]) ⟨by omega, by omega⟩ ?_
  rw [dq]
  refine v_iconst (-1) dX7_winning_30 (by decide) ?_
  refine v_icmp_eq 78 dX7_winning_31 (by decide) (fun h31 => absurd h31 hc) (fun h31 => ?_)
  refine v_aload_n dX7_winning_34 rfl ?_
  refine v_aload_n dX7_winning_35 rfl ?_
  refine v_getR 7 3 _ dX7_winning_36 f7_21 (by assumption) (by decide) (by assumption) ?_
  refine v_iload dX7_winning_39 rfl ?_
  refine v_ialdN (q) dX7_winning_41 (by assumption) (by simp only [n_lit, pk_mul, nI_add]) ⟨by omega, by omega⟩ ?_
  rw [dq, f1]
  refine v_cV [_] (ht) k7_toldBy dX7_winning_42 l7_119 (by assumption) (by decide) rfl (Nat.le_of_ble_eq_true rfl) (Nat.le_of_ble_eq_true rfl) ?_
  refine v_aload_n dX7_winning_45 rfl ?_
  refine v_getI 7 6 dX7_winning_46 f7_27 (by assumption) (by decide) ?_
  rw [d4]
  refine v_icmp_ne 78 dX7_winning_49 (by decide) (fun h49 => absurd he h49) (fun h49 => ?_)
  refine v_aload_n dX7_winning_52 rfl ?_
  refine v_aload_n dX7_winning_53 rfl ?_
  refine v_aload_n dX7_winning_54 rfl ?_
  refine v_getR 7 3 _ dX7_winning_55 f7_21 (by assumption) (by decide) (by assumption) ?_
  refine v_iload dX7_winning_58 rfl ?_
  refine v_ialdN (q) dX7_winning_60 (by assumption) (by simp only [n_lit, pk_mul, nI_add]) ⟨by omega, by omega⟩ ?_
  rw [dq, f1]
  refine v_cV [_, _] (hcc) k7_costOf dX7_winning_61 l7_122 (by assumption) (by decide) rfl (Nat.le_of_ble_eq_true rfl) (Nat.le_of_ble_eq_true rfl) ?_
  refine v_istore dX7_winning_64 rfl (by decide) ?_
  refine v_iload dX7_winning_66 rfl ?_
  refine v_iload_n dX7_winning_68 rfl ?_
  skip
  refine v_icmp_ge 78 dX7_winning_69 (by decide) (fun h69 => ?_) (fun h69 => ?_)
  · refine v_iinc 1 dX7_winning_78 rfl (by decide) rfl (by decide) ?_
    refine v_goto 8 dX7_winning_81 (by decide) ?_
    (rw [nI_1]; exact kf (Int32.not_lt.mpr h69) _)
  · refine v_iload dX7_winning_72 rfl ?_
    refine v_istore_n dX7_winning_74 rfl (by decide) ?_
    refine v_iload dX7_winning_75 rfl ?_
    refine v_istore_n dX7_winning_77 rfl (by decide) ?_
    refine v_iinc 1 dX7_winning_78 rfl (by decide) rfl (by decide) ?_
    refine v_goto 8 dX7_winning_81 (by decide) ?_
    (rw [nI_1]; exact kt (Int32.not_le.mp h69) _)
theorem l7_winning {s p cd n : Nat} {K : Nat → Int32} (hs : Str M s K) (hp : Plr M p cd n K) (hW : WK K) (hk : K 96 ≠ -1) {r : Int32} (hr : r = encP (winF K 6)) : ∀ i q (o : Option Value), q + i = 6 → V G Y7_winning 4 0 0 (Rv (some (.int r)) M) NX 8 [some (.ref s), some (.ref p), some (.int (encP (winF K q))), some (.int (wlI K (winF K q))), some (.int (nI q)), o] [] M := by
  intro i
  induction i with
  | zero =>
    intro q o hq
    obtain rfl : q = 6 := by omega
    rw [← hr]
    refine v_iload dX7_winning_8 rfl ?_
    refine v_bipush 6 dX7_winning_10 (by decide) ?_
    refine v_icmp_ge 84 dX7_winning_12 (by decide) (fun h12 => ?_) (fun h12 => absurd (by decide) h12)
    refine v_iload_n dX7_winning_84 rfl ?_
    refine v_iret dX7_winning_85 rfl ?_
    exact ⟨rfl, rfl⟩
  | succ i ih =>
    intro q o hq
    have hn := fun o => ih (q + 1) o (by omega)
    by_cases hc : K (97 + q) = -1
    · rw [winF_n (p := q) (fun z => z.1 hc)] at hn
      exact l7_wA G M hs (by omega) hk hc _ _ hn o
    · obtain ⟨f1, f2, f3⟩ := hW.c.d (p := q) (by omega) hc
      obtain ⟨f4, f5⟩ := isDN_dj f3
      have ht := c7_toldBy G M hs hW f4 f5
      by_cases he : telK K (kn K (97 + q)) = K 96
      · refine l7_wC G M hs (by omega) hk hc f1 ht he (c7_costOf G M hs hp hW f4) _ _ (fun hl => ?_) (fun hl => ?_) o
        · rw [winF_f (p := q) hW.p ⟨hc, he⟩ hl] at hn
          exact hn
        · rw [winF_t (p := q) hW.p ⟨hc, he⟩ hl] at hn
          exact hn
      · rw [winF_n (p := q) (fun z => he z.2)] at hn
        exact l7_wB G M hs (by omega) hk hc f1 ht he _ _ hn o
theorem l7_winning0 {s p : Nat} {K : Nat → Int32} (hs : Str M s K) (hk : K 96 = -1) : ∀ i q (o : Option Value), q + i = 6 → V G Y7_winning 4 0 0 (Rv (some (.int (-1))) M) NX 8 [some (.ref s), some (.ref p), some (.int (-1)), some (.int 2147483647), some (.int (nI q)), o] [] M := by
  obtain ⟨⟨s1, s2, s3, s4, s5, s6, s7, s8, s9, s10, s11⟩, d1, d2, d3, d4, d5, d6⟩ := hs
  intro i
  induction i with
  | zero =>
    intro q o hq
    obtain rfl : q = 6 := by omega
    refine v_iload dX7_winning_8 rfl ?_
    refine v_bipush 6 dX7_winning_10 (by decide) ?_
    refine v_icmp_ge 84 dX7_winning_12 (by decide) (fun h12 => ?_) (fun h12 => absurd (by decide) h12)
    refine v_iload_n dX7_winning_84 rfl ?_
    refine v_iret dX7_winning_85 rfl ?_
    exact ⟨rfl, rfl⟩
  | succ i ih =>
    intro q o hq
    have hn := fun o => ih (q + 1) o (by omega)
    refine v_iload dX7_winning_8 rfl ?_
    refine v_bipush 6 dX7_winning_10 (by decide) ?_
    refine v_icmp_ge 84 dX7_winning_12 (by decide) (fun h12 => absurd ((nI_leI (a := 6) (by decide) (by omega)).mp h12) (by omega)) (fun h12 => ?_)
    refine v_aload_n dX7_winning_15 rfl ?_
    refine v_getI 7 6 dX7_winning_16 f7_27 (by assumption) (by decide) ?_
    rw [d4, hk]
    refine v_iconst (-1) dX7_winning_19 (by decide) ?_
    refine v_icmp_eq 78 dX7_winning_20 (by decide) (fun h20 => ?_) (fun h20 => absurd rfl h20)
    refine v_iinc 1 dX7_winning_78 rfl (by decide) rfl (by decide) ?_
    refine v_goto 8 dX7_winning_81 (by decide) ?_
    (rw [nI_1]; exact hn _)
theorem c7_winning {s p cd n : Nat} {K : Nat → Int32} (hs : Str M s K) (hp : Plr M p cd n K) (hW : WK K) : Ct G Y7_winning 4 0 0 [.ref s, .ref p] M (Rv (some (.int (encP (winO K)))) M) NX := by
  refine Ct.of k7_winning.1 (Nat.le_of_ble_eq_true rfl) ?_
  refine v_iconst (-1) dX7_winning_0 (by decide) ?_
  refine v_istore_n dX7_winning_1 rfl (by decide) ?_
  refine v_ldc 2147483647 dX7_winning_2 K7_118 ?_
  refine v_istore_n dX7_winning_4 rfl (by decide) ?_
  refine v_iconst 0 dX7_winning_5 (by decide) ?_
  refine v_istore dX7_winning_6 rfl (by decide) ?_
  -- at 8: .iload 4
  refine v_pad ?_
  by_cases hk : K 96 = -1
  · rw [winO, if_pos hk]
    exact l7_winning0 G M hs hk 6 0 none (by omega)
  · rw [winO, if_neg hk, ← winF_6 hW]
    exact l7_winning G M hs hp hW hk rfl 6 0 none (by omega)
theorem l7_claimants {s : Nat} {K : Nat → Int32} (hs : Str M s K) : ∀ i q, q + i = 6 → V G Y7_claimants 0 0 0 (Rv (some (.int (nI (cnt 6 (clP K))))) M) NX 4 [some (.ref s), some (.int (nI (cnt q (clP K)))), some (.int (nI q))] [] M := by
  obtain ⟨⟨s1, s2, s3, s4, s5, s6, s7, s8, s9, s10, s11⟩, d1, d2, d3, d4, d5, d6⟩ := hs
  intro i
  induction i with
  | zero =>
    intro q hq
    obtain rfl : q = 6 := by omega
    refine v_iload_n dX7_claimants_4 rfl ?_
    refine v_bipush 6 dX7_claimants_5 (by decide) ?_
    refine v_icmp_ge 29 dX7_claimants_7 (by decide) (fun h7 => ?_) (fun h7 => absurd (by decide) h7)
    refine v_iload_n dX7_claimants_29 rfl ?_
    refine v_iret dX7_claimants_30 rfl ?_
    exact ⟨rfl, rfl⟩
  | succ i ih =>
    intro q hq
    have hn := ih (q + 1) (by omega)
    rw [show cnt (q + 1) (clP K) = cnt q (clP K) + (if clP K q = true then 1 else 0) from rfl, ← nI_add] at hn
    have dq := (d2 q (by omega)).1
    by_cases hc : K (97 + q) = -1
    · rw [show clP K q = false from decide_eq_false (fun z => z hc)] at hn
      rw [if_neg (by decide), show nI 0 = 0 from rfl, Int32.add_zero] at hn
      refine v_iload_n dX7_claimants_4 rfl ?_
      refine v_bipush 6 dX7_claimants_5 (by decide) ?_
      refine v_icmp_ge 29 dX7_claimants_7 (by decide) (fun h7 => absurd ((nI_leI (a := 6) (by decide) (by omega)).mp h7) (by omega)) (fun h7 => ?_)
      refine v_aload_n dX7_claimants_10 rfl ?_
      refine v_getR 7 3 _ dX7_claimants_11 f7_21 (by assumption) (by decide) (by assumption) ?_
      refine v_iload_n dX7_claimants_14 rfl ?_
      refine v_ialdN (q) dX7_claimants_15 (by assumption) (by simp only [n_lit, pk_mul, nI_add]) ⟨by omega, by omega⟩ ?_
      rw [dq, hc]
      refine v_iconst (-1) dX7_claimants_16 (by decide) ?_
      refine v_icmp_eq 23 dX7_claimants_17 (by decide) (fun h17 => ?_) (fun h17 => absurd rfl h17)
      refine v_iinc 1 dX7_claimants_23 rfl (by decide) rfl (by decide) ?_
      refine v_goto 4 dX7_claimants_26 (by decide) ?_
      (rw [nI_1]; exact hn)
    · rw [show clP K q = true from decide_eq_true hc, if_pos rfl] at hn
      refine v_iload_n dX7_claimants_4 rfl ?_
      refine v_bipush 6 dX7_claimants_5 (by decide) ?_
      refine v_icmp_ge 29 dX7_claimants_7 (by decide) (fun h7 => absurd ((nI_leI (a := 6) (by decide) (by omega)).mp h7) (by omega)) (fun h7 => ?_)
      refine v_aload_n dX7_claimants_10 rfl ?_
      refine v_getR 7 3 _ dX7_claimants_11 f7_21 (by assumption) (by decide) (by assumption) ?_
      refine v_iload_n dX7_claimants_14 rfl ?_
      refine v_ialdN (q) dX7_claimants_15 (by assumption) (by simp only [n_lit, pk_mul, nI_add]) ⟨by omega, by omega⟩ ?_
      rw [dq]
      refine v_iconst (-1) dX7_claimants_16 (by decide) ?_
      refine v_icmp_eq 23 dX7_claimants_17 (by decide) (fun h17 => absurd h17 hc) (fun h17 => ?_)
      refine v_iinc 1 dX7_claimants_20 rfl (by decide) rfl (by decide) ?_
      refine v_iinc 1 dX7_claimants_23 rfl (by decide) rfl (by decide) ?_
      refine v_goto 4 dX7_claimants_26 (by decide) ?_
      (rw [nI_1 q]; exact hn)
theorem c7_claimants {s : Nat} {K : Nat → Int32} (hs : Str M s K) (hW : WK K) : Ct G Y7_claimants 0 0 0 [.ref s] M (Rv (some (.int (nI (cnt (kn K 6) (clP K))))) M) NX := by
  have h6 := hW.p.2.2.2.2.2.1.2.2
  have := cnt_cut (p := clP K) (a := kn K 6) (6 - kn K 6)
  have e : cnt 6 (clP K) = cnt (kn K 6) (clP K) := by
    have h2 : ∀ j, kn K 6 + j ≤ 6 → cnt (kn K 6 + j) (clP K) = cnt (kn K 6) (clP K) := by
      intro j
      induction j with
      | zero => intro _; rfl
      | succ j ih =>
        intro hj
        have : clP K (kn K 6 + j) = false := decide_eq_false (fun z => z (by
          rcases hW.c (kn K 6 + j) (by omega) with h | ⟨h, _⟩
          · exact h
          · omega))
        rw [← Nat.add_assoc, cnt, this, if_neg (by decide)]
        exact ih (by omega)
    have := h2 (6 - kn K 6) (by omega)
    rw [show kn K 6 + (6 - kn K 6) = 6 by omega] at this
    exact this
  rw [← e]
  refine Ct.of k7_claimants.1 (Nat.le_of_ble_eq_true rfl) ?_
  refine v_iconst 0 dX7_claimants_0 (by decide) ?_
  refine v_istore_n dX7_claimants_1 rfl (by decide) ?_
  refine v_iconst 0 dX7_claimants_2 (by decide) ?_
  refine v_istore_n dX7_claimants_3 rfl (by decide) ?_
  -- at 4: .iload_n 2
  exact l7_claimants G M hs 6 0 (by omega)
end C7d
